theorem qd_U_init_0 : decode qb_U_init 0 = .ok (.aload_n 0, 1) := by decide +kernel
theorem qd_U_init_1 : decode qb_U_init 1 = .ok (.invokespecial 3, 3) := by decide +kernel
theorem qd_U_init_4 : decode qb_U_init 4 = .ok (.aload_n 0, 1) := by decide +kernel
theorem qd_U_init_5 : decode qb_U_init 5 = .ok (.aload_n 1, 1) := by decide +kernel
theorem qd_U_init_6 : decode qb_U_init 6 = .ok (.putfield 9, 3) := by decide +kernel
theorem qd_U_init_9 : decode qb_U_init 9 = .ok (.aload_n 0, 1) := by decide +kernel
theorem qd_U_init_10 : decode qb_U_init 10 = .ok (.aload_n 2, 1) := by decide +kernel
theorem qd_U_init_11 : decode qb_U_init 11 = .ok (.putfield 15, 3) := by decide +kernel
theorem qd_U_init_14 : decode qb_U_init 14 = .ok (.aload_n 0, 1) := by decide +kernel
theorem qd_U_init_15 : decode qb_U_init 15 = .ok (.aload_n 3, 1) := by decide +kernel
theorem qd_U_init_16 : decode qb_U_init 16 = .ok (.putfield 19, 3) := by decide +kernel
theorem qd_U_init_19 : decode qb_U_init 19 = .ok (.aload_n 0, 1) := by decide +kernel
theorem qd_U_init_20 : decode qb_U_init 20 = .ok (.aload 4, 2) := by decide +kernel
theorem qd_U_init_22 : decode qb_U_init 22 = .ok (.putfield 23, 3) := by decide +kernel
theorem qd_U_init_25 : decode qb_U_init 25 = .ok (.return_, 1) := by decide +kernel
theorem qd_U_mayTurn_0 : decode qb_U_mayTurn 0 = .ok (.iload_n 3, 1) := by decide +kernel
theorem qd_U_mayTurn_1 : decode qb_U_mayTurn 1 = .ok (.ifCond .gt 5, 3) := by decide +kernel
theorem qd_U_mayTurn_4 : decode qb_U_mayTurn 4 = .ok (.iconst 0, 1) := by decide +kernel
theorem qd_U_mayTurn_5 : decode qb_U_mayTurn 5 = .ok (.ireturn, 1) := by decide +kernel
theorem qd_U_mayTurn_6 : decode qb_U_mayTurn 6 = .ok (.aload_n 0, 1) := by decide +kernel
theorem qd_U_mayTurn_7 : decode qb_U_mayTurn 7 = .ok (.getfield 23, 3) := by decide +kernel
theorem qd_U_mayTurn_10 : decode qb_U_mayTurn 10 = .ok (.iload_n 1, 1) := by decide +kernel
theorem qd_U_mayTurn_11 : decode qb_U_mayTurn 11 = .ok (.iload_n 2, 1) := by decide +kernel
theorem qd_U_mayTurn_12 : decode qb_U_mayTurn 12 = .ok (.iload_n 3, 1) := by decide +kernel
theorem qd_U_mayTurn_13 : decode qb_U_mayTurn 13 = .ok (.iconst 1, 1) := by decide +kernel
theorem qd_U_mayTurn_14 : decode qb_U_mayTurn 14 = .ok (.isub, 1) := by decide +kernel
theorem qd_U_mayTurn_15 : decode qb_U_mayTurn 15 = .ok (.invokevirtual 27, 3) := by decide +kernel
theorem qd_U_mayTurn_18 : decode qb_U_mayTurn 18 = .ok (.ifCond .ne 18, 3) := by decide +kernel
theorem qd_U_mayTurn_21 : decode qb_U_mayTurn 21 = .ok (.aload_n 0, 1) := by decide +kernel
theorem qd_U_mayTurn_22 : decode qb_U_mayTurn 22 = .ok (.getfield 23, 3) := by decide +kernel
theorem qd_U_mayTurn_25 : decode qb_U_mayTurn 25 = .ok (.iload_n 2, 1) := by decide +kernel
theorem qd_U_mayTurn_26 : decode qb_U_mayTurn 26 = .ok (.iload_n 1, 1) := by decide +kernel
theorem qd_U_mayTurn_27 : decode qb_U_mayTurn 27 = .ok (.iload_n 3, 1) := by decide +kernel
theorem qd_U_mayTurn_28 : decode qb_U_mayTurn 28 = .ok (.iconst 1, 1) := by decide +kernel
theorem qd_U_mayTurn_29 : decode qb_U_mayTurn 29 = .ok (.isub, 1) := by decide +kernel
theorem qd_U_mayTurn_30 : decode qb_U_mayTurn 30 = .ok (.invokevirtual 27, 3) := by decide +kernel
theorem qd_U_mayTurn_33 : decode qb_U_mayTurn 33 = .ok (.ifCond .eq 5, 3) := by decide +kernel
theorem qd_U_mayTurn_36 : decode qb_U_mayTurn 36 = .ok (.iconst 1, 1) := by decide +kernel
theorem qd_U_mayTurn_37 : decode qb_U_mayTurn 37 = .ok (.ireturn, 1) := by decide +kernel
theorem qd_U_mayTurn_38 : decode qb_U_mayTurn 38 = .ok (.iload_n 1, 1) := by decide +kernel
theorem qd_U_mayTurn_39 : decode qb_U_mayTurn 39 = .ok (.iconst 1, 1) := by decide +kernel
theorem qd_U_mayTurn_40 : decode qb_U_mayTurn 40 = .ok (.if_icmp .eq 8, 3) := by decide +kernel
theorem qd_U_mayTurn_43 : decode qb_U_mayTurn 43 = .ok (.iload_n 2, 1) := by decide +kernel
theorem qd_U_mayTurn_44 : decode qb_U_mayTurn 44 = .ok (.iconst 1, 1) := by decide +kernel
theorem qd_U_mayTurn_45 : decode qb_U_mayTurn 45 = .ok (.if_icmp .ne 5, 3) := by decide +kernel
theorem qd_U_mayTurn_48 : decode qb_U_mayTurn 48 = .ok (.iconst 0, 1) := by decide +kernel
theorem qd_U_mayTurn_49 : decode qb_U_mayTurn 49 = .ok (.ireturn, 1) := by decide +kernel
theorem qd_U_mayTurn_50 : decode qb_U_mayTurn 50 = .ok (.aload_n 0, 1) := by decide +kernel
theorem qd_U_mayTurn_51 : decode qb_U_mayTurn 51 = .ok (.getfield 15, 3) := by decide +kernel
theorem qd_U_mayTurn_54 : decode qb_U_mayTurn 54 = .ok (.iload_n 1, 1) := by decide +kernel
theorem qd_U_mayTurn_55 : decode qb_U_mayTurn 55 = .ok (.invokevirtual 33, 3) := by decide +kernel
theorem qd_U_mayTurn_58 : decode qb_U_mayTurn 58 = .ok (.ifCond .eq 13, 3) := by decide +kernel
theorem qd_U_mayTurn_61 : decode qb_U_mayTurn 61 = .ok (.aload_n 0, 1) := by decide +kernel
theorem qd_U_mayTurn_62 : decode qb_U_mayTurn 62 = .ok (.iload_n 1, 1) := by decide +kernel
theorem qd_U_mayTurn_63 : decode qb_U_mayTurn 63 = .ok (.iload_n 2, 1) := by decide +kernel
theorem qd_U_mayTurn_64 : decode qb_U_mayTurn 64 = .ok (.iload_n 3, 1) := by decide +kernel
theorem qd_U_mayTurn_65 : decode qb_U_mayTurn 65 = .ok (.iconst 1, 1) := by decide +kernel
theorem qd_U_mayTurn_66 : decode qb_U_mayTurn 66 = .ok (.isub, 1) := by decide +kernel
theorem qd_U_mayTurn_67 : decode qb_U_mayTurn 67 = .ok (.invokevirtual 39, 3) := by decide +kernel
theorem qd_U_mayTurn_70 : decode qb_U_mayTurn 70 = .ok (.ireturn, 1) := by decide +kernel
theorem qd_U_mayTurn_71 : decode qb_U_mayTurn 71 = .ok (.aload_n 0, 1) := by decide +kernel
theorem qd_U_mayTurn_72 : decode qb_U_mayTurn 72 = .ok (.getfield 15, 3) := by decide +kernel
theorem qd_U_mayTurn_75 : decode qb_U_mayTurn 75 = .ok (.iload_n 2, 1) := by decide +kernel
theorem qd_U_mayTurn_76 : decode qb_U_mayTurn 76 = .ok (.invokevirtual 33, 3) := by decide +kernel
theorem qd_U_mayTurn_79 : decode qb_U_mayTurn 79 = .ok (.ifCond .eq 13, 3) := by decide +kernel
theorem qd_U_mayTurn_82 : decode qb_U_mayTurn 82 = .ok (.aload_n 0, 1) := by decide +kernel
theorem qd_U_mayTurn_83 : decode qb_U_mayTurn 83 = .ok (.iload_n 1, 1) := by decide +kernel
theorem qd_U_mayTurn_84 : decode qb_U_mayTurn 84 = .ok (.iload_n 2, 1) := by decide +kernel
theorem qd_U_mayTurn_85 : decode qb_U_mayTurn 85 = .ok (.iload_n 3, 1) := by decide +kernel
theorem qd_U_mayTurn_86 : decode qb_U_mayTurn 86 = .ok (.iconst 1, 1) := by decide +kernel
theorem qd_U_mayTurn_87 : decode qb_U_mayTurn 87 = .ok (.isub, 1) := by decide +kernel
theorem qd_U_mayTurn_88 : decode qb_U_mayTurn 88 = .ok (.invokevirtual 42, 3) := by decide +kernel
theorem qd_U_mayTurn_91 : decode qb_U_mayTurn 91 = .ok (.ireturn, 1) := by decide +kernel
theorem qd_U_mayTurn_92 : decode qb_U_mayTurn 92 = .ok (.aload_n 0, 1) := by decide +kernel
theorem qd_U_mayTurn_93 : decode qb_U_mayTurn 93 = .ok (.getfield 15, 3) := by decide +kernel
theorem qd_U_mayTurn_96 : decode qb_U_mayTurn 96 = .ok (.iload_n 1, 1) := by decide +kernel
theorem qd_U_mayTurn_97 : decode qb_U_mayTurn 97 = .ok (.invokevirtual 45, 3) := by decide +kernel
theorem qd_U_mayTurn_100 : decode qb_U_mayTurn 100 = .ok (.iconst 4, 1) := by decide +kernel
theorem qd_U_mayTurn_101 : decode qb_U_mayTurn 101 = .ok (.if_icmp .ne 39, 3) := by decide +kernel
theorem qd_U_mayTurn_104 : decode qb_U_mayTurn 104 = .ok (.aload_n 0, 1) := by decide +kernel
theorem qd_U_mayTurn_105 : decode qb_U_mayTurn 105 = .ok (.getfield 15, 3) := by decide +kernel
theorem qd_U_mayTurn_108 : decode qb_U_mayTurn 108 = .ok (.iload_n 2, 1) := by decide +kernel
theorem qd_U_mayTurn_109 : decode qb_U_mayTurn 109 = .ok (.invokevirtual 45, 3) := by decide +kernel
theorem qd_U_mayTurn_112 : decode qb_U_mayTurn 112 = .ok (.iconst 4, 1) := by decide +kernel
theorem qd_U_mayTurn_113 : decode qb_U_mayTurn 113 = .ok (.if_icmp .ne 27, 3) := by decide +kernel
theorem qd_U_mayTurn_116 : decode qb_U_mayTurn 116 = .ok (.aload_n 0, 1) := by decide +kernel
theorem qd_U_mayTurn_117 : decode qb_U_mayTurn 117 = .ok (.aload_n 0, 1) := by decide +kernel
theorem qd_U_mayTurn_118 : decode qb_U_mayTurn 118 = .ok (.getfield 15, 3) := by decide +kernel
theorem qd_U_mayTurn_121 : decode qb_U_mayTurn 121 = .ok (.iload_n 1, 1) := by decide +kernel
theorem qd_U_mayTurn_122 : decode qb_U_mayTurn 122 = .ok (.invokevirtual 49, 3) := by decide +kernel
theorem qd_U_mayTurn_125 : decode qb_U_mayTurn 125 = .ok (.aload_n 0, 1) := by decide +kernel
theorem qd_U_mayTurn_126 : decode qb_U_mayTurn 126 = .ok (.getfield 15, 3) := by decide +kernel
theorem qd_U_mayTurn_129 : decode qb_U_mayTurn 129 = .ok (.iload_n 2, 1) := by decide +kernel
theorem qd_U_mayTurn_130 : decode qb_U_mayTurn 130 = .ok (.invokevirtual 49, 3) := by decide +kernel
theorem qd_U_mayTurn_133 : decode qb_U_mayTurn 133 = .ok (.iload_n 3, 1) := by decide +kernel
theorem qd_U_mayTurn_134 : decode qb_U_mayTurn 134 = .ok (.iconst 1, 1) := by decide +kernel
theorem qd_U_mayTurn_135 : decode qb_U_mayTurn 135 = .ok (.isub, 1) := by decide +kernel
theorem qd_U_mayTurn_136 : decode qb_U_mayTurn 136 = .ok (.invokevirtual 52, 3) := by decide +kernel
theorem qd_U_mayTurn_139 : decode qb_U_mayTurn 139 = .ok (.ireturn, 1) := by decide +kernel
theorem qd_U_mayTurn_140 : decode qb_U_mayTurn 140 = .ok (.aload_n 0, 1) := by decide +kernel
theorem qd_U_mayTurn_141 : decode qb_U_mayTurn 141 = .ok (.getfield 15, 3) := by decide +kernel
theorem qd_U_mayTurn_144 : decode qb_U_mayTurn 144 = .ok (.iload_n 1, 1) := by decide +kernel
theorem qd_U_mayTurn_145 : decode qb_U_mayTurn 145 = .ok (.invokevirtual 55, 3) := by decide +kernel
theorem qd_U_mayTurn_148 : decode qb_U_mayTurn 148 = .ok (.ifCond .eq 27, 3) := by decide +kernel
theorem qd_U_mayTurn_151 : decode qb_U_mayTurn 151 = .ok (.aload_n 0, 1) := by decide +kernel
theorem qd_U_mayTurn_152 : decode qb_U_mayTurn 152 = .ok (.getfield 15, 3) := by decide +kernel
theorem qd_U_mayTurn_155 : decode qb_U_mayTurn 155 = .ok (.iload_n 2, 1) := by decide +kernel
theorem qd_U_mayTurn_156 : decode qb_U_mayTurn 156 = .ok (.invokevirtual 55, 3) := by decide +kernel
theorem qd_U_mayTurn_159 : decode qb_U_mayTurn 159 = .ok (.ifCond .eq 16, 3) := by decide +kernel
theorem qd_U_mayTurn_162 : decode qb_U_mayTurn 162 = .ok (.aload_n 0, 1) := by decide +kernel
theorem qd_U_mayTurn_163 : decode qb_U_mayTurn 163 = .ok (.iload_n 1, 1) := by decide +kernel
theorem qd_U_mayTurn_164 : decode qb_U_mayTurn 164 = .ok (.iload_n 2, 1) := by decide +kernel
theorem qd_U_mayTurn_165 : decode qb_U_mayTurn 165 = .ok (.invokevirtual 58, 3) := by decide +kernel
theorem qd_U_mayTurn_168 : decode qb_U_mayTurn 168 = .ok (.ifCond .eq 7, 3) := by decide +kernel
theorem qd_U_mayTurn_171 : decode qb_U_mayTurn 171 = .ok (.iconst 1, 1) := by decide +kernel
theorem qd_U_mayTurn_172 : decode qb_U_mayTurn 172 = .ok (.goto 4, 3) := by decide +kernel
theorem qd_U_mayTurn_175 : decode qb_U_mayTurn 175 = .ok (.iconst 0, 1) := by decide +kernel
theorem qd_U_mayTurn_176 : decode qb_U_mayTurn 176 = .ok (.ireturn, 1) := by decide +kernel
theorem qd_U_mayFromBounds_0 : decode qb_U_mayFromBounds 0 = .ok (.aload_n 0, 1) := by decide +kernel
theorem qd_U_mayFromBounds_1 : decode qb_U_mayFromBounds 1 = .ok (.getfield 19, 3) := by decide +kernel
theorem qd_U_mayFromBounds_4 : decode qb_U_mayFromBounds 4 = .ok (.iload_n 1, 1) := by decide +kernel
theorem qd_U_mayFromBounds_5 : decode qb_U_mayFromBounds 5 = .ok (.invokevirtual 62, 3) := by decide +kernel
theorem qd_U_mayFromBounds_8 : decode qb_U_mayFromBounds 8 = .ok (.istore 4, 2) := by decide +kernel
theorem qd_U_mayFromBounds_10 : decode qb_U_mayFromBounds 10 = .ok (.iconst 0, 1) := by decide +kernel
theorem qd_U_mayFromBounds_11 : decode qb_U_mayFromBounds 11 = .ok (.istore 5, 2) := by decide +kernel
theorem qd_U_mayFromBounds_13 : decode qb_U_mayFromBounds 13 = .ok (.iload 5, 2) := by decide +kernel
theorem qd_U_mayFromBounds_15 : decode qb_U_mayFromBounds 15 = .ok (.iload 4, 2) := by decide +kernel
theorem qd_U_mayFromBounds_17 : decode qb_U_mayFromBounds 17 = .ok (.if_icmp .ge 30, 3) := by decide +kernel
theorem qd_U_mayFromBounds_20 : decode qb_U_mayFromBounds 20 = .ok (.aload_n 0, 1) := by decide +kernel
theorem qd_U_mayFromBounds_21 : decode qb_U_mayFromBounds 21 = .ok (.aload_n 0, 1) := by decide +kernel
theorem qd_U_mayFromBounds_22 : decode qb_U_mayFromBounds 22 = .ok (.getfield 19, 3) := by decide +kernel
theorem qd_U_mayFromBounds_25 : decode qb_U_mayFromBounds 25 = .ok (.iload_n 1, 1) := by decide +kernel
theorem qd_U_mayFromBounds_26 : decode qb_U_mayFromBounds 26 = .ok (.iload 5, 2) := by decide +kernel
theorem qd_U_mayFromBounds_28 : decode qb_U_mayFromBounds 28 = .ok (.invokevirtual 67, 3) := by decide +kernel
theorem qd_U_mayFromBounds_31 : decode qb_U_mayFromBounds 31 = .ok (.iload_n 2, 1) := by decide +kernel
theorem qd_U_mayFromBounds_32 : decode qb_U_mayFromBounds 32 = .ok (.iload_n 3, 1) := by decide +kernel
theorem qd_U_mayFromBounds_33 : decode qb_U_mayFromBounds 33 = .ok (.invokevirtual 52, 3) := by decide +kernel
theorem qd_U_mayFromBounds_36 : decode qb_U_mayFromBounds 36 = .ok (.ifCond .ne 5, 3) := by decide +kernel
theorem qd_U_mayFromBounds_39 : decode qb_U_mayFromBounds 39 = .ok (.iconst 0, 1) := by decide +kernel
theorem qd_U_mayFromBounds_40 : decode qb_U_mayFromBounds 40 = .ok (.ireturn, 1) := by decide +kernel
theorem qd_U_mayFromBounds_41 : decode qb_U_mayFromBounds 41 = .ok (.iinc 5 1, 3) := by decide +kernel
theorem qd_U_mayFromBounds_44 : decode qb_U_mayFromBounds 44 = .ok (.goto (-31), 3) := by decide +kernel
theorem qd_U_mayFromBounds_47 : decode qb_U_mayFromBounds 47 = .ok (.iconst 1, 1) := by decide +kernel
theorem qd_U_mayFromBounds_48 : decode qb_U_mayFromBounds 48 = .ok (.ireturn, 1) := by decide +kernel
theorem qd_U_mayIntoBounds_0 : decode qb_U_mayIntoBounds 0 = .ok (.aload_n 0, 1) := by decide +kernel
theorem qd_U_mayIntoBounds_1 : decode qb_U_mayIntoBounds 1 = .ok (.getfield 19, 3) := by decide +kernel
theorem qd_U_mayIntoBounds_4 : decode qb_U_mayIntoBounds 4 = .ok (.iload_n 2, 1) := by decide +kernel
theorem qd_U_mayIntoBounds_5 : decode qb_U_mayIntoBounds 5 = .ok (.invokevirtual 62, 3) := by decide +kernel
theorem qd_U_mayIntoBounds_8 : decode qb_U_mayIntoBounds 8 = .ok (.istore 4, 2) := by decide +kernel
theorem qd_U_mayIntoBounds_10 : decode qb_U_mayIntoBounds 10 = .ok (.iconst 0, 1) := by decide +kernel
theorem qd_U_mayIntoBounds_11 : decode qb_U_mayIntoBounds 11 = .ok (.istore 5, 2) := by decide +kernel
theorem qd_U_mayIntoBounds_13 : decode qb_U_mayIntoBounds 13 = .ok (.iload 5, 2) := by decide +kernel
theorem qd_U_mayIntoBounds_15 : decode qb_U_mayIntoBounds 15 = .ok (.iload 4, 2) := by decide +kernel
theorem qd_U_mayIntoBounds_17 : decode qb_U_mayIntoBounds 17 = .ok (.if_icmp .ge 30, 3) := by decide +kernel
theorem qd_U_mayIntoBounds_20 : decode qb_U_mayIntoBounds 20 = .ok (.aload_n 0, 1) := by decide +kernel
theorem qd_U_mayIntoBounds_21 : decode qb_U_mayIntoBounds 21 = .ok (.iload_n 1, 1) := by decide +kernel
theorem qd_U_mayIntoBounds_22 : decode qb_U_mayIntoBounds 22 = .ok (.aload_n 0, 1) := by decide +kernel
theorem qd_U_mayIntoBounds_23 : decode qb_U_mayIntoBounds 23 = .ok (.getfield 19, 3) := by decide +kernel
theorem qd_U_mayIntoBounds_26 : decode qb_U_mayIntoBounds 26 = .ok (.iload_n 2, 1) := by decide +kernel
theorem qd_U_mayIntoBounds_27 : decode qb_U_mayIntoBounds 27 = .ok (.iload 5, 2) := by decide +kernel
theorem qd_U_mayIntoBounds_29 : decode qb_U_mayIntoBounds 29 = .ok (.invokevirtual 67, 3) := by decide +kernel
theorem qd_U_mayIntoBounds_32 : decode qb_U_mayIntoBounds 32 = .ok (.iload_n 3, 1) := by decide +kernel
theorem qd_U_mayIntoBounds_33 : decode qb_U_mayIntoBounds 33 = .ok (.invokevirtual 52, 3) := by decide +kernel
theorem qd_U_mayIntoBounds_36 : decode qb_U_mayIntoBounds 36 = .ok (.ifCond .ne 5, 3) := by decide +kernel
theorem qd_U_mayIntoBounds_39 : decode qb_U_mayIntoBounds 39 = .ok (.iconst 0, 1) := by decide +kernel
theorem qd_U_mayIntoBounds_40 : decode qb_U_mayIntoBounds 40 = .ok (.ireturn, 1) := by decide +kernel
theorem qd_U_mayIntoBounds_41 : decode qb_U_mayIntoBounds 41 = .ok (.iinc 5 1, 3) := by decide +kernel
theorem qd_U_mayIntoBounds_44 : decode qb_U_mayIntoBounds 44 = .ok (.goto (-31), 3) := by decide +kernel
theorem qd_U_mayIntoBounds_47 : decode qb_U_mayIntoBounds 47 = .ok (.iconst 1, 1) := by decide +kernel
theorem qd_U_mayIntoBounds_48 : decode qb_U_mayIntoBounds 48 = .ok (.ireturn, 1) := by decide +kernel
theorem qd_U_mayByClass_0 : decode qb_U_mayByClass 0 = .ok (.aload_n 0, 1) := by decide +kernel
theorem qd_U_mayByClass_1 : decode qb_U_mayByClass 1 = .ok (.getfield 15, 3) := by decide +kernel
theorem qd_U_mayByClass_4 : decode qb_U_mayByClass 4 = .ok (.iload_n 1, 1) := by decide +kernel
theorem qd_U_mayByClass_5 : decode qb_U_mayByClass 5 = .ok (.invokevirtual 71, 3) := by decide +kernel
theorem qd_U_mayByClass_8 : decode qb_U_mayByClass 8 = .ok (.istore_n 3, 1) := by decide +kernel
theorem qd_U_mayByClass_9 : decode qb_U_mayByClass 9 = .ok (.aload_n 0, 1) := by decide +kernel
theorem qd_U_mayByClass_10 : decode qb_U_mayByClass 10 = .ok (.getfield 15, 3) := by decide +kernel
theorem qd_U_mayByClass_13 : decode qb_U_mayByClass 13 = .ok (.iload_n 2, 1) := by decide +kernel
theorem qd_U_mayByClass_14 : decode qb_U_mayByClass 14 = .ok (.invokevirtual 71, 3) := by decide +kernel
theorem qd_U_mayByClass_17 : decode qb_U_mayByClass 17 = .ok (.istore 4, 2) := by decide +kernel
theorem qd_U_mayByClass_19 : decode qb_U_mayByClass 19 = .ok (.aload_n 0, 1) := by decide +kernel
theorem qd_U_mayByClass_20 : decode qb_U_mayByClass 20 = .ok (.getfield 9, 3) := by decide +kernel
theorem qd_U_mayByClass_23 : decode qb_U_mayByClass 23 = .ok (.iload_n 3, 1) := by decide +kernel
theorem qd_U_mayByClass_24 : decode qb_U_mayByClass 24 = .ok (.iload 4, 2) := by decide +kernel
theorem qd_U_mayByClass_26 : decode qb_U_mayByClass 26 = .ok (.invokevirtual 74, 3) := by decide +kernel
theorem qd_U_mayByClass_29 : decode qb_U_mayByClass 29 = .ok (.ifCond .eq 5, 3) := by decide +kernel
theorem qd_U_mayByClass_32 : decode qb_U_mayByClass 32 = .ok (.iconst 0, 1) := by decide +kernel
theorem qd_U_mayByClass_33 : decode qb_U_mayByClass 33 = .ok (.ireturn, 1) := by decide +kernel
theorem qd_U_mayByClass_34 : decode qb_U_mayByClass 34 = .ok (.aload_n 0, 1) := by decide +kernel
theorem qd_U_mayByClass_35 : decode qb_U_mayByClass 35 = .ok (.getfield 15, 3) := by decide +kernel
theorem qd_U_mayByClass_38 : decode qb_U_mayByClass 38 = .ok (.invokevirtual 79, 3) := by decide +kernel
theorem qd_U_mayByClass_41 : decode qb_U_mayByClass 41 = .ok (.istore 5, 2) := by decide +kernel
theorem qd_U_mayByClass_43 : decode qb_U_mayByClass 43 = .ok (.aload_n 0, 1) := by decide +kernel
theorem qd_U_mayByClass_44 : decode qb_U_mayByClass 44 = .ok (.getfield 19, 3) := by decide +kernel
theorem qd_U_mayByClass_47 : decode qb_U_mayByClass 47 = .ok (.iload_n 1, 1) := by decide +kernel
theorem qd_U_mayByClass_48 : decode qb_U_mayByClass 48 = .ok (.invokevirtual 83, 3) := by decide +kernel
theorem qd_U_mayByClass_51 : decode qb_U_mayByClass 51 = .ok (.istore 6, 2) := by decide +kernel
theorem qd_U_mayByClass_53 : decode qb_U_mayByClass 53 = .ok (.aload_n 0, 1) := by decide +kernel
theorem qd_U_mayByClass_54 : decode qb_U_mayByClass 54 = .ok (.getfield 19, 3) := by decide +kernel
theorem qd_U_mayByClass_57 : decode qb_U_mayByClass 57 = .ok (.iload_n 2, 1) := by decide +kernel
theorem qd_U_mayByClass_58 : decode qb_U_mayByClass 58 = .ok (.invokevirtual 83, 3) := by decide +kernel
theorem qd_U_mayByClass_61 : decode qb_U_mayByClass 61 = .ok (.istore 7, 2) := by decide +kernel
theorem qd_U_mayByClass_63 : decode qb_U_mayByClass 63 = .ok (.iconst 1, 1) := by decide +kernel
theorem qd_U_mayByClass_64 : decode qb_U_mayByClass 64 = .ok (.istore 8, 2) := by decide +kernel
theorem qd_U_mayByClass_66 : decode qb_U_mayByClass 66 = .ok (.iconst 1, 1) := by decide +kernel
theorem qd_U_mayByClass_67 : decode qb_U_mayByClass 67 = .ok (.istore 9, 2) := by decide +kernel
theorem qd_U_mayByClass_69 : decode qb_U_mayByClass 69 = .ok (.iload 9, 2) := by decide +kernel
theorem qd_U_mayByClass_71 : decode qb_U_mayByClass 71 = .ok (.aload_n 0, 1) := by decide +kernel
theorem qd_U_mayByClass_72 : decode qb_U_mayByClass 72 = .ok (.getfield 9, 3) := by decide +kernel
theorem qd_U_mayByClass_75 : decode qb_U_mayByClass 75 = .ok (.getfield 86, 3) := by decide +kernel
theorem qd_U_mayByClass_78 : decode qb_U_mayByClass 78 = .ok (.if_icmp .ge 98, 3) := by decide +kernel
theorem qd_U_mayByClass_81 : decode qb_U_mayByClass 81 = .ok (.iload 8, 2) := by decide +kernel
theorem qd_U_mayByClass_83 : decode qb_U_mayByClass 83 = .ok (.ifCond .eq 93, 3) := by decide +kernel
theorem qd_U_mayByClass_86 : decode qb_U_mayByClass 86 = .ok (.aload_n 0, 1) := by decide +kernel
theorem qd_U_mayByClass_87 : decode qb_U_mayByClass 87 = .ok (.getfield 9, 3) := by decide +kernel
theorem qd_U_mayByClass_90 : decode qb_U_mayByClass 90 = .ok (.iload_n 3, 1) := by decide +kernel
theorem qd_U_mayByClass_91 : decode qb_U_mayByClass 91 = .ok (.iload 9, 2) := by decide +kernel
theorem qd_U_mayByClass_93 : decode qb_U_mayByClass 93 = .ok (.invokevirtual 90, 3) := by decide +kernel
theorem qd_U_mayByClass_96 : decode qb_U_mayByClass 96 = .ok (.ifCond .eq 74, 3) := by decide +kernel
theorem qd_U_mayByClass_99 : decode qb_U_mayByClass 99 = .ok (.aload_n 0, 1) := by decide +kernel
theorem qd_U_mayByClass_100 : decode qb_U_mayByClass 100 = .ok (.getfield 9, 3) := by decide +kernel
theorem qd_U_mayByClass_103 : decode qb_U_mayByClass 103 = .ok (.iload 4, 2) := by decide +kernel
theorem qd_U_mayByClass_105 : decode qb_U_mayByClass 105 = .ok (.iload 9, 2) := by decide +kernel
theorem qd_U_mayByClass_107 : decode qb_U_mayByClass 107 = .ok (.invokevirtual 90, 3) := by decide +kernel
theorem qd_U_mayByClass_110 : decode qb_U_mayByClass 110 = .ok (.ifCond .eq 60, 3) := by decide +kernel
theorem qd_U_mayByClass_113 : decode qb_U_mayByClass 113 = .ok (.aload_n 0, 1) := by decide +kernel
theorem qd_U_mayByClass_114 : decode qb_U_mayByClass 114 = .ok (.getfield 19, 3) := by decide +kernel
theorem qd_U_mayByClass_117 : decode qb_U_mayByClass 117 = .ok (.iload 6, 2) := by decide +kernel
theorem qd_U_mayByClass_119 : decode qb_U_mayByClass 119 = .ok (.iload 9, 2) := by decide +kernel
theorem qd_U_mayByClass_121 : decode qb_U_mayByClass 121 = .ok (.invokevirtual 93, 3) := by decide +kernel
theorem qd_U_mayByClass_124 : decode qb_U_mayByClass 124 = .ok (.istore 10, 2) := by decide +kernel
theorem qd_U_mayByClass_126 : decode qb_U_mayByClass 126 = .ok (.aload_n 0, 1) := by decide +kernel
theorem qd_U_mayByClass_127 : decode qb_U_mayByClass 127 = .ok (.getfield 19, 3) := by decide +kernel
theorem qd_U_mayByClass_130 : decode qb_U_mayByClass 130 = .ok (.iload 7, 2) := by decide +kernel
theorem qd_U_mayByClass_132 : decode qb_U_mayByClass 132 = .ok (.iload 9, 2) := by decide +kernel
theorem qd_U_mayByClass_134 : decode qb_U_mayByClass 134 = .ok (.invokevirtual 93, 3) := by decide +kernel
theorem qd_U_mayByClass_137 : decode qb_U_mayByClass 137 = .ok (.istore 11, 2) := by decide +kernel
theorem qd_U_mayByClass_139 : decode qb_U_mayByClass 139 = .ok (.aload_n 0, 1) := by decide +kernel
theorem qd_U_mayByClass_140 : decode qb_U_mayByClass 140 = .ok (.iload 10, 2) := by decide +kernel
theorem qd_U_mayByClass_142 : decode qb_U_mayByClass 142 = .ok (.iload 11, 2) := by decide +kernel
theorem qd_U_mayByClass_144 : decode qb_U_mayByClass 144 = .ok (.iconst 0, 1) := by decide +kernel
theorem qd_U_mayByClass_145 : decode qb_U_mayByClass 145 = .ok (.invokevirtual 96, 3) := by decide +kernel
theorem qd_U_mayByClass_148 : decode qb_U_mayByClass 148 = .ok (.ifCond .ne 19, 3) := by decide +kernel
theorem qd_U_mayByClass_151 : decode qb_U_mayByClass 151 = .ok (.aload_n 0, 1) := by decide +kernel
theorem qd_U_mayByClass_152 : decode qb_U_mayByClass 152 = .ok (.iload 10, 2) := by decide +kernel
theorem qd_U_mayByClass_154 : decode qb_U_mayByClass 154 = .ok (.iload 11, 2) := by decide +kernel
theorem qd_U_mayByClass_156 : decode qb_U_mayByClass 156 = .ok (.iconst 1, 1) := by decide +kernel
theorem qd_U_mayByClass_157 : decode qb_U_mayByClass 157 = .ok (.invokevirtual 96, 3) := by decide +kernel
theorem qd_U_mayByClass_160 : decode qb_U_mayByClass 160 = .ok (.ifCond .ne 7, 3) := by decide +kernel
theorem qd_U_mayByClass_163 : decode qb_U_mayByClass 163 = .ok (.iconst 1, 1) := by decide +kernel
theorem qd_U_mayByClass_164 : decode qb_U_mayByClass 164 = .ok (.goto 4, 3) := by decide +kernel
theorem qd_U_mayByClass_167 : decode qb_U_mayByClass 167 = .ok (.iconst 0, 1) := by decide +kernel
theorem qd_U_mayByClass_168 : decode qb_U_mayByClass 168 = .ok (.istore 8, 2) := by decide +kernel
theorem qd_U_mayByClass_170 : decode qb_U_mayByClass 170 = .ok (.iinc 9 1, 3) := by decide +kernel
theorem qd_U_mayByClass_173 : decode qb_U_mayByClass 173 = .ok (.goto (-104), 3) := by decide +kernel
theorem qd_U_mayByClass_176 : decode qb_U_mayByClass 176 = .ok (.aload_n 0, 1) := by decide +kernel
theorem qd_U_mayByClass_177 : decode qb_U_mayByClass 177 = .ok (.getfield 15, 3) := by decide +kernel
theorem qd_U_mayByClass_180 : decode qb_U_mayByClass 180 = .ok (.iload 5, 2) := by decide +kernel
theorem qd_U_mayByClass_182 : decode qb_U_mayByClass 182 = .ok (.invokevirtual 99, 3) := by decide +kernel
theorem qd_U_mayByClass_185 : decode qb_U_mayByClass 185 = .ok (.iload 8, 2) := by decide +kernel
theorem qd_U_mayByClass_187 : decode qb_U_mayByClass 187 = .ok (.ireturn, 1) := by decide +kernel
theorem qd_U_differ_0 : decode qb_U_differ 0 = .ok (.aload_n 0, 1) := by decide +kernel
theorem qd_U_differ_1 : decode qb_U_differ 1 = .ok (.getfield 15, 3) := by decide +kernel
theorem qd_U_differ_4 : decode qb_U_differ 4 = .ok (.iload_n 1, 1) := by decide +kernel
theorem qd_U_differ_5 : decode qb_U_differ 5 = .ok (.invokevirtual 45, 3) := by decide +kernel
theorem qd_U_differ_8 : decode qb_U_differ 8 = .ok (.iconst 2, 1) := by decide +kernel
theorem qd_U_differ_9 : decode qb_U_differ 9 = .ok (.if_icmp .ne 15, 3) := by decide +kernel
theorem qd_U_differ_12 : decode qb_U_differ 12 = .ok (.aload_n 0, 1) := by decide +kernel
theorem qd_U_differ_13 : decode qb_U_differ 13 = .ok (.getfield 15, 3) := by decide +kernel
theorem qd_U_differ_16 : decode qb_U_differ 16 = .ok (.iload_n 2, 1) := by decide +kernel
theorem qd_U_differ_17 : decode qb_U_differ 17 = .ok (.invokevirtual 45, 3) := by decide +kernel
theorem qd_U_differ_20 : decode qb_U_differ 20 = .ok (.iconst 2, 1) := by decide +kernel
theorem qd_U_differ_21 : decode qb_U_differ 21 = .ok (.if_icmp .eq 5, 3) := by decide +kernel
theorem qd_U_differ_24 : decode qb_U_differ 24 = .ok (.iconst 0, 1) := by decide +kernel
theorem qd_U_differ_25 : decode qb_U_differ 25 = .ok (.ireturn, 1) := by decide +kernel
theorem qd_U_differ_26 : decode qb_U_differ 26 = .ok (.aload_n 0, 1) := by decide +kernel
theorem qd_U_differ_27 : decode qb_U_differ 27 = .ok (.getfield 15, 3) := by decide +kernel
theorem qd_U_differ_30 : decode qb_U_differ 30 = .ok (.iload_n 1, 1) := by decide +kernel
theorem qd_U_differ_31 : decode qb_U_differ 31 = .ok (.iload_n 3, 1) := by decide +kernel
theorem qd_U_differ_32 : decode qb_U_differ 32 = .ok (.invokevirtual 103, 3) := by decide +kernel
theorem qd_U_differ_35 : decode qb_U_differ 35 = .ok (.istore 4, 2) := by decide +kernel
theorem qd_U_differ_37 : decode qb_U_differ 37 = .ok (.aload_n 0, 1) := by decide +kernel
theorem qd_U_differ_38 : decode qb_U_differ 38 = .ok (.getfield 15, 3) := by decide +kernel
theorem qd_U_differ_41 : decode qb_U_differ 41 = .ok (.iload_n 2, 1) := by decide +kernel
theorem qd_U_differ_42 : decode qb_U_differ 42 = .ok (.iload_n 3, 1) := by decide +kernel
theorem qd_U_differ_43 : decode qb_U_differ 43 = .ok (.invokevirtual 103, 3) := by decide +kernel
theorem qd_U_differ_46 : decode qb_U_differ 46 = .ok (.istore 5, 2) := by decide +kernel
theorem qd_U_differ_48 : decode qb_U_differ 48 = .ok (.iload 4, 2) := by decide +kernel
theorem qd_U_differ_50 : decode qb_U_differ 50 = .ok (.iload 5, 2) := by decide +kernel
theorem qd_U_differ_52 : decode qb_U_differ 52 = .ok (.if_icmp .ne 5, 3) := by decide +kernel
theorem qd_U_differ_55 : decode qb_U_differ 55 = .ok (.iconst 0, 1) := by decide +kernel
theorem qd_U_differ_56 : decode qb_U_differ 56 = .ok (.ireturn, 1) := by decide +kernel
theorem qd_U_differ_57 : decode qb_U_differ 57 = .ok (.aload_n 0, 1) := by decide +kernel
theorem qd_U_differ_58 : decode qb_U_differ 58 = .ok (.getfield 15, 3) := by decide +kernel
theorem qd_U_differ_61 : decode qb_U_differ 61 = .ok (.iload 4, 2) := by decide +kernel
theorem qd_U_differ_63 : decode qb_U_differ 63 = .ok (.invokevirtual 33, 3) := by decide +kernel
theorem qd_U_differ_66 : decode qb_U_differ 66 = .ok (.ifCond .ne 17, 3) := by decide +kernel
theorem qd_U_differ_69 : decode qb_U_differ 69 = .ok (.aload_n 0, 1) := by decide +kernel
theorem qd_U_differ_70 : decode qb_U_differ 70 = .ok (.getfield 15, 3) := by decide +kernel
theorem qd_U_differ_73 : decode qb_U_differ 73 = .ok (.iload 5, 2) := by decide +kernel
theorem qd_U_differ_75 : decode qb_U_differ 75 = .ok (.invokevirtual 33, 3) := by decide +kernel
theorem qd_U_differ_78 : decode qb_U_differ 78 = .ok (.ifCond .ne 5, 3) := by decide +kernel
theorem qd_U_differ_81 : decode qb_U_differ 81 = .ok (.iconst 1, 1) := by decide +kernel
theorem qd_U_differ_82 : decode qb_U_differ 82 = .ok (.ireturn, 1) := by decide +kernel
theorem qd_U_differ_83 : decode qb_U_differ 83 = .ok (.iconst 0, 1) := by decide +kernel
theorem qd_U_differ_84 : decode qb_U_differ 84 = .ok (.istore 6, 2) := by decide +kernel
theorem qd_U_differ_86 : decode qb_U_differ 86 = .ok (.iload 6, 2) := by decide +kernel
theorem qd_U_differ_88 : decode qb_U_differ 88 = .ok (.aload_n 0, 1) := by decide +kernel
theorem qd_U_differ_89 : decode qb_U_differ 89 = .ok (.iload 4, 2) := by decide +kernel
theorem qd_U_differ_91 : decode qb_U_differ 91 = .ok (.invokevirtual 106, 3) := by decide +kernel
theorem qd_U_differ_94 : decode qb_U_differ 94 = .ok (.if_icmp .ge 54, 3) := by decide +kernel
theorem qd_U_differ_97 : decode qb_U_differ 97 = .ok (.iconst 0, 1) := by decide +kernel
theorem qd_U_differ_98 : decode qb_U_differ 98 = .ok (.istore 7, 2) := by decide +kernel
theorem qd_U_differ_100 : decode qb_U_differ 100 = .ok (.iload 7, 2) := by decide +kernel
theorem qd_U_differ_102 : decode qb_U_differ 102 = .ok (.aload_n 0, 1) := by decide +kernel
theorem qd_U_differ_103 : decode qb_U_differ 103 = .ok (.iload 5, 2) := by decide +kernel
theorem qd_U_differ_105 : decode qb_U_differ 105 = .ok (.invokevirtual 106, 3) := by decide +kernel
theorem qd_U_differ_108 : decode qb_U_differ 108 = .ok (.if_icmp .ge 34, 3) := by decide +kernel
theorem qd_U_differ_111 : decode qb_U_differ 111 = .ok (.aload_n 0, 1) := by decide +kernel
theorem qd_U_differ_112 : decode qb_U_differ 112 = .ok (.aload_n 0, 1) := by decide +kernel
theorem qd_U_differ_113 : decode qb_U_differ 113 = .ok (.iload 4, 2) := by decide +kernel
theorem qd_U_differ_115 : decode qb_U_differ 115 = .ok (.iload 6, 2) := by decide +kernel
theorem qd_U_differ_117 : decode qb_U_differ 117 = .ok (.invokevirtual 109, 3) := by decide +kernel
theorem qd_U_differ_120 : decode qb_U_differ 120 = .ok (.aload_n 0, 1) := by decide +kernel
theorem qd_U_differ_121 : decode qb_U_differ 121 = .ok (.iload 5, 2) := by decide +kernel
theorem qd_U_differ_123 : decode qb_U_differ 123 = .ok (.iload 7, 2) := by decide +kernel
theorem qd_U_differ_125 : decode qb_U_differ 125 = .ok (.invokevirtual 109, 3) := by decide +kernel
theorem qd_U_differ_128 : decode qb_U_differ 128 = .ok (.invokevirtual 112, 3) := by decide +kernel
theorem qd_U_differ_131 : decode qb_U_differ 131 = .ok (.ifCond .eq 5, 3) := by decide +kernel
theorem qd_U_differ_134 : decode qb_U_differ 134 = .ok (.iconst 1, 1) := by decide +kernel
theorem qd_U_differ_135 : decode qb_U_differ 135 = .ok (.ireturn, 1) := by decide +kernel
theorem qd_U_differ_136 : decode qb_U_differ 136 = .ok (.iinc 7 1, 3) := by decide +kernel
theorem qd_U_differ_139 : decode qb_U_differ 139 = .ok (.goto (-39), 3) := by decide +kernel
theorem qd_U_differ_142 : decode qb_U_differ 142 = .ok (.iinc 6 1, 3) := by decide +kernel
theorem qd_U_differ_145 : decode qb_U_differ 145 = .ok (.goto (-59), 3) := by decide +kernel
theorem qd_U_differ_148 : decode qb_U_differ 148 = .ok (.iconst 0, 1) := by decide +kernel
theorem qd_U_differ_149 : decode qb_U_differ 149 = .ok (.ireturn, 1) := by decide +kernel
theorem qd_U_facetCount_0 : decode qb_U_facetCount 0 = .ok (.aload_n 0, 1) := by decide +kernel
theorem qd_U_facetCount_1 : decode qb_U_facetCount 1 = .ok (.getfield 15, 3) := by decide +kernel
theorem qd_U_facetCount_4 : decode qb_U_facetCount 4 = .ok (.iload_n 1, 1) := by decide +kernel
theorem qd_U_facetCount_5 : decode qb_U_facetCount 5 = .ok (.invokevirtual 33, 3) := by decide +kernel
theorem qd_U_facetCount_8 : decode qb_U_facetCount 8 = .ok (.ifCond .eq 14, 3) := by decide +kernel
theorem qd_U_facetCount_11 : decode qb_U_facetCount 11 = .ok (.aload_n 0, 1) := by decide +kernel
theorem qd_U_facetCount_12 : decode qb_U_facetCount 12 = .ok (.getfield 19, 3) := by decide +kernel
theorem qd_U_facetCount_15 : decode qb_U_facetCount 15 = .ok (.iload_n 1, 1) := by decide +kernel
theorem qd_U_facetCount_16 : decode qb_U_facetCount 16 = .ok (.invokevirtual 62, 3) := by decide +kernel
theorem qd_U_facetCount_19 : decode qb_U_facetCount 19 = .ok (.goto 4, 3) := by decide +kernel
theorem qd_U_facetCount_22 : decode qb_U_facetCount 22 = .ok (.iconst 1, 1) := by decide +kernel
theorem qd_U_facetCount_23 : decode qb_U_facetCount 23 = .ok (.ireturn, 1) := by decide +kernel
theorem qd_U_facet_0 : decode qb_U_facet 0 = .ok (.aload_n 0, 1) := by decide +kernel
theorem qd_U_facet_1 : decode qb_U_facet 1 = .ok (.getfield 15, 3) := by decide +kernel
theorem qd_U_facet_4 : decode qb_U_facet 4 = .ok (.iload_n 1, 1) := by decide +kernel
theorem qd_U_facet_5 : decode qb_U_facet 5 = .ok (.invokevirtual 33, 3) := by decide +kernel
theorem qd_U_facet_8 : decode qb_U_facet 8 = .ok (.ifCond .eq 15, 3) := by decide +kernel
theorem qd_U_facet_11 : decode qb_U_facet 11 = .ok (.aload_n 0, 1) := by decide +kernel
theorem qd_U_facet_12 : decode qb_U_facet 12 = .ok (.getfield 19, 3) := by decide +kernel
theorem qd_U_facet_15 : decode qb_U_facet 15 = .ok (.iload_n 1, 1) := by decide +kernel
theorem qd_U_facet_16 : decode qb_U_facet 16 = .ok (.iload_n 2, 1) := by decide +kernel
theorem qd_U_facet_17 : decode qb_U_facet 17 = .ok (.invokevirtual 67, 3) := by decide +kernel
theorem qd_U_facet_20 : decode qb_U_facet 20 = .ok (.goto 4, 3) := by decide +kernel
theorem qd_U_facet_23 : decode qb_U_facet 23 = .ok (.iload_n 1, 1) := by decide +kernel
theorem qd_U_facet_24 : decode qb_U_facet 24 = .ok (.ireturn, 1) := by decide +kernel
theorem qd_U_areStrangers_0 : decode qb_U_areStrangers 0 = .ok (.aload_n 0, 1) := by decide +kernel
theorem qd_U_areStrangers_1 : decode qb_U_areStrangers 1 = .ok (.getfield 15, 3) := by decide +kernel
theorem qd_U_areStrangers_4 : decode qb_U_areStrangers 4 = .ok (.invokevirtual 79, 3) := by decide +kernel
theorem qd_U_areStrangers_7 : decode qb_U_areStrangers 7 = .ok (.istore_n 3, 1) := by decide +kernel
theorem qd_U_areStrangers_8 : decode qb_U_areStrangers 8 = .ok (.aload_n 0, 1) := by decide +kernel
theorem qd_U_areStrangers_9 : decode qb_U_areStrangers 9 = .ok (.getfield 19, 3) := by decide +kernel
theorem qd_U_areStrangers_12 : decode qb_U_areStrangers 12 = .ok (.iload_n 1, 1) := by decide +kernel
theorem qd_U_areStrangers_13 : decode qb_U_areStrangers 13 = .ok (.invokevirtual 115, 3) := by decide +kernel
theorem qd_U_areStrangers_16 : decode qb_U_areStrangers 16 = .ok (.istore 4, 2) := by decide +kernel
theorem qd_U_areStrangers_18 : decode qb_U_areStrangers 18 = .ok (.aload_n 0, 1) := by decide +kernel
theorem qd_U_areStrangers_19 : decode qb_U_areStrangers 19 = .ok (.getfield 19, 3) := by decide +kernel
theorem qd_U_areStrangers_22 : decode qb_U_areStrangers 22 = .ok (.iload_n 2, 1) := by decide +kernel
theorem qd_U_areStrangers_23 : decode qb_U_areStrangers 23 = .ok (.invokevirtual 115, 3) := by decide +kernel
theorem qd_U_areStrangers_26 : decode qb_U_areStrangers 26 = .ok (.istore 5, 2) := by decide +kernel
theorem qd_U_areStrangers_28 : decode qb_U_areStrangers 28 = .ok (.aload_n 0, 1) := by decide +kernel
theorem qd_U_areStrangers_29 : decode qb_U_areStrangers 29 = .ok (.getfield 23, 3) := by decide +kernel
theorem qd_U_areStrangers_32 : decode qb_U_areStrangers 32 = .ok (.iload 4, 2) := by decide +kernel
theorem qd_U_areStrangers_34 : decode qb_U_areStrangers 34 = .ok (.iload 5, 2) := by decide +kernel
theorem qd_U_areStrangers_36 : decode qb_U_areStrangers 36 = .ok (.bipush 40, 2) := by decide +kernel
theorem qd_U_areStrangers_38 : decode qb_U_areStrangers 38 = .ok (.invokevirtual 27, 3) := by decide +kernel
theorem qd_U_areStrangers_41 : decode qb_U_areStrangers 41 = .ok (.ifCond .ne 23, 3) := by decide +kernel
theorem qd_U_areStrangers_44 : decode qb_U_areStrangers 44 = .ok (.aload_n 0, 1) := by decide +kernel
theorem qd_U_areStrangers_45 : decode qb_U_areStrangers 45 = .ok (.getfield 23, 3) := by decide +kernel
theorem qd_U_areStrangers_48 : decode qb_U_areStrangers 48 = .ok (.iload 5, 2) := by decide +kernel
theorem qd_U_areStrangers_50 : decode qb_U_areStrangers 50 = .ok (.iload 4, 2) := by decide +kernel
theorem qd_U_areStrangers_52 : decode qb_U_areStrangers 52 = .ok (.bipush 40, 2) := by decide +kernel
theorem qd_U_areStrangers_54 : decode qb_U_areStrangers 54 = .ok (.invokevirtual 27, 3) := by decide +kernel
theorem qd_U_areStrangers_57 : decode qb_U_areStrangers 57 = .ok (.ifCond .ne 7, 3) := by decide +kernel
theorem qd_U_areStrangers_60 : decode qb_U_areStrangers 60 = .ok (.iconst 1, 1) := by decide +kernel
theorem qd_U_areStrangers_61 : decode qb_U_areStrangers 61 = .ok (.goto 4, 3) := by decide +kernel
theorem qd_U_areStrangers_64 : decode qb_U_areStrangers 64 = .ok (.iconst 0, 1) := by decide +kernel
theorem qd_U_areStrangers_65 : decode qb_U_areStrangers 65 = .ok (.istore 6, 2) := by decide +kernel
theorem qd_U_areStrangers_67 : decode qb_U_areStrangers 67 = .ok (.aload_n 0, 1) := by decide +kernel
theorem qd_U_areStrangers_68 : decode qb_U_areStrangers 68 = .ok (.getfield 15, 3) := by decide +kernel
theorem qd_U_areStrangers_71 : decode qb_U_areStrangers 71 = .ok (.iload_n 3, 1) := by decide +kernel
theorem qd_U_areStrangers_72 : decode qb_U_areStrangers 72 = .ok (.invokevirtual 99, 3) := by decide +kernel
theorem qd_U_areStrangers_75 : decode qb_U_areStrangers 75 = .ok (.iload 6, 2) := by decide +kernel
theorem qd_U_areStrangers_77 : decode qb_U_areStrangers 77 = .ok (.ireturn, 1) := by decide +kernel
