theorem qd_K_init_0 : decode qb_K_init 0 = .ok (.aload_n 0, 1) := by decide +kernel
theorem qd_K_init_1 : decode qb_K_init 1 = .ok (.invokespecial 3, 3) := by decide +kernel
theorem qd_K_init_4 : decode qb_K_init 4 = .ok (.aload_n 0, 1) := by decide +kernel
theorem qd_K_init_5 : decode qb_K_init 5 = .ok (.bipush 12, 2) := by decide +kernel
theorem qd_K_init_7 : decode qb_K_init 7 = .ok (.newarray .int, 2) := by decide +kernel
theorem qd_K_init_9 : decode qb_K_init 9 = .ok (.putfield 11, 3) := by decide +kernel
theorem qd_K_init_12 : decode qb_K_init 12 = .ok (.aload_n 0, 1) := by decide +kernel
theorem qd_K_init_13 : decode qb_K_init 13 = .ok (.bipush 12, 2) := by decide +kernel
theorem qd_K_init_15 : decode qb_K_init 15 = .ok (.newarray .int, 2) := by decide +kernel
theorem qd_K_init_17 : decode qb_K_init 17 = .ok (.putfield 15, 3) := by decide +kernel
theorem qd_K_init_20 : decode qb_K_init 20 = .ok (.aload_n 0, 1) := by decide +kernel
theorem qd_K_init_21 : decode qb_K_init 21 = .ok (.bipush 36, 2) := by decide +kernel
theorem qd_K_init_23 : decode qb_K_init 23 = .ok (.newarray .int, 2) := by decide +kernel
theorem qd_K_init_25 : decode qb_K_init 25 = .ok (.putfield 18, 3) := by decide +kernel
theorem qd_K_init_28 : decode qb_K_init 28 = .ok (.aload_n 0, 1) := by decide +kernel
theorem qd_K_init_29 : decode qb_K_init 29 = .ok (.bipush 36, 2) := by decide +kernel
theorem qd_K_init_31 : decode qb_K_init 31 = .ok (.newarray .int, 2) := by decide +kernel
theorem qd_K_init_33 : decode qb_K_init 33 = .ok (.putfield 21, 3) := by decide +kernel
theorem qd_K_init_36 : decode qb_K_init 36 = .ok (.aload_n 0, 1) := by decide +kernel
theorem qd_K_init_37 : decode qb_K_init 37 = .ok (.bipush 48, 2) := by decide +kernel
theorem qd_K_init_39 : decode qb_K_init 39 = .ok (.newarray .int, 2) := by decide +kernel
theorem qd_K_init_41 : decode qb_K_init 41 = .ok (.putfield 24, 3) := by decide +kernel
theorem qd_K_init_44 : decode qb_K_init 44 = .ok (.aload_n 0, 1) := by decide +kernel
theorem qd_K_init_45 : decode qb_K_init 45 = .ok (.bipush 24, 2) := by decide +kernel
theorem qd_K_init_47 : decode qb_K_init 47 = .ok (.newarray .int, 2) := by decide +kernel
theorem qd_K_init_49 : decode qb_K_init 49 = .ok (.putfield 27, 3) := by decide +kernel
theorem qd_K_init_52 : decode qb_K_init 52 = .ok (.aload_n 0, 1) := by decide +kernel
theorem qd_K_init_53 : decode qb_K_init 53 = .ok (.bipush 12, 2) := by decide +kernel
theorem qd_K_init_55 : decode qb_K_init 55 = .ok (.newarray .int, 2) := by decide +kernel
theorem qd_K_init_57 : decode qb_K_init 57 = .ok (.putfield 30, 3) := by decide +kernel
theorem qd_K_init_60 : decode qb_K_init 60 = .ok (.aload_n 0, 1) := by decide +kernel
theorem qd_K_init_61 : decode qb_K_init 61 = .ok (.bipush 12, 2) := by decide +kernel
theorem qd_K_init_63 : decode qb_K_init 63 = .ok (.newarray .int, 2) := by decide +kernel
theorem qd_K_init_65 : decode qb_K_init 65 = .ok (.putfield 33, 3) := by decide +kernel
theorem qd_K_init_68 : decode qb_K_init 68 = .ok (.aload_n 0, 1) := by decide +kernel
theorem qd_K_init_69 : decode qb_K_init 69 = .ok (.bipush 12, 2) := by decide +kernel
theorem qd_K_init_71 : decode qb_K_init 71 = .ok (.newarray .int, 2) := by decide +kernel
theorem qd_K_init_73 : decode qb_K_init 73 = .ok (.putfield 36, 3) := by decide +kernel
theorem qd_K_init_76 : decode qb_K_init 76 = .ok (.aload_n 0, 1) := by decide +kernel
theorem qd_K_init_77 : decode qb_K_init 77 = .ok (.invokevirtual 39, 3) := by decide +kernel
theorem qd_K_init_80 : decode qb_K_init 80 = .ok (.return_, 1) := by decide +kernel
theorem qd_K_empty_0 : decode qb_K_empty 0 = .ok (.aload_n 0, 1) := by decide +kernel
theorem qd_K_empty_1 : decode qb_K_empty 1 = .ok (.iconst 0, 1) := by decide +kernel
theorem qd_K_empty_2 : decode qb_K_empty 2 = .ok (.putfield 42, 3) := by decide +kernel
theorem qd_K_empty_5 : decode qb_K_empty 5 = .ok (.aload_n 0, 1) := by decide +kernel
theorem qd_K_empty_6 : decode qb_K_empty 6 = .ok (.iconst 0, 1) := by decide +kernel
theorem qd_K_empty_7 : decode qb_K_empty 7 = .ok (.iconst 0, 1) := by decide +kernel
theorem qd_K_empty_8 : decode qb_K_empty 8 = .ok (.iconst (-1), 1) := by decide +kernel
theorem qd_K_empty_9 : decode qb_K_empty 9 = .ok (.invokevirtual 46, 3) := by decide +kernel
theorem qd_K_empty_12 : decode qb_K_empty 12 = .ok (.aload_n 0, 1) := by decide +kernel
theorem qd_K_empty_13 : decode qb_K_empty 13 = .ok (.getfield 33, 3) := by decide +kernel
theorem qd_K_empty_16 : decode qb_K_empty 16 = .ok (.iconst 0, 1) := by decide +kernel
theorem qd_K_empty_17 : decode qb_K_empty 17 = .ok (.iconst 1, 1) := by decide +kernel
theorem qd_K_empty_18 : decode qb_K_empty 18 = .ok (.iastore, 1) := by decide +kernel
theorem qd_K_empty_19 : decode qb_K_empty 19 = .ok (.return_, 1) := by decide +kernel
theorem qd_K_write_0 : decode qb_K_write 0 = .ok (.aload_n 0, 1) := by decide +kernel
theorem qd_K_write_1 : decode qb_K_write 1 = .ok (.getfield 42, 3) := by decide +kernel
theorem qd_K_write_4 : decode qb_K_write 4 = .ok (.istore 4, 2) := by decide +kernel
theorem qd_K_write_6 : decode qb_K_write 6 = .ok (.iload 4, 2) := by decide +kernel
theorem qd_K_write_8 : decode qb_K_write 8 = .ok (.ifCond .lt 10, 3) := by decide +kernel
theorem qd_K_write_11 : decode qb_K_write 11 = .ok (.iload 4, 2) := by decide +kernel
theorem qd_K_write_13 : decode qb_K_write 13 = .ok (.bipush 12, 2) := by decide +kernel
theorem qd_K_write_15 : decode qb_K_write 15 = .ok (.if_icmp .lt 4, 3) := by decide +kernel
theorem qd_K_write_18 : decode qb_K_write 18 = .ok (.return_, 1) := by decide +kernel
theorem qd_K_write_19 : decode qb_K_write 19 = .ok (.aload_n 0, 1) := by decide +kernel
theorem qd_K_write_20 : decode qb_K_write 20 = .ok (.iload 4, 2) := by decide +kernel
theorem qd_K_write_22 : decode qb_K_write 22 = .ok (.iconst 1, 1) := by decide +kernel
theorem qd_K_write_23 : decode qb_K_write 23 = .ok (.iadd, 1) := by decide +kernel
theorem qd_K_write_24 : decode qb_K_write 24 = .ok (.putfield 42, 3) := by decide +kernel
theorem qd_K_write_27 : decode qb_K_write 27 = .ok (.aload_n 0, 1) := by decide +kernel
theorem qd_K_write_28 : decode qb_K_write 28 = .ok (.getfield 11, 3) := by decide +kernel
theorem qd_K_write_31 : decode qb_K_write 31 = .ok (.iload 4, 2) := by decide +kernel
theorem qd_K_write_33 : decode qb_K_write 33 = .ok (.iload_n 1, 1) := by decide +kernel
theorem qd_K_write_34 : decode qb_K_write 34 = .ok (.iastore, 1) := by decide +kernel
theorem qd_K_write_35 : decode qb_K_write 35 = .ok (.aload_n 0, 1) := by decide +kernel
theorem qd_K_write_36 : decode qb_K_write 36 = .ok (.getfield 15, 3) := by decide +kernel
theorem qd_K_write_39 : decode qb_K_write 39 = .ok (.iload 4, 2) := by decide +kernel
theorem qd_K_write_41 : decode qb_K_write 41 = .ok (.iload_n 2, 1) := by decide +kernel
theorem qd_K_write_42 : decode qb_K_write 42 = .ok (.iastore, 1) := by decide +kernel
theorem qd_K_write_43 : decode qb_K_write 43 = .ok (.aload_n 0, 1) := by decide +kernel
theorem qd_K_write_44 : decode qb_K_write 44 = .ok (.getfield 30, 3) := by decide +kernel
theorem qd_K_write_47 : decode qb_K_write 47 = .ok (.iload 4, 2) := by decide +kernel
theorem qd_K_write_49 : decode qb_K_write 49 = .ok (.iconst 0, 1) := by decide +kernel
theorem qd_K_write_50 : decode qb_K_write 50 = .ok (.iastore, 1) := by decide +kernel
theorem qd_K_write_51 : decode qb_K_write 51 = .ok (.aload_n 0, 1) := by decide +kernel
theorem qd_K_write_52 : decode qb_K_write 52 = .ok (.getfield 33, 3) := by decide +kernel
theorem qd_K_write_55 : decode qb_K_write 55 = .ok (.iload 4, 2) := by decide +kernel
theorem qd_K_write_57 : decode qb_K_write 57 = .ok (.iconst 0, 1) := by decide +kernel
theorem qd_K_write_58 : decode qb_K_write 58 = .ok (.iastore, 1) := by decide +kernel
theorem qd_K_write_59 : decode qb_K_write 59 = .ok (.aload_n 0, 1) := by decide +kernel
theorem qd_K_write_60 : decode qb_K_write 60 = .ok (.getfield 36, 3) := by decide +kernel
theorem qd_K_write_63 : decode qb_K_write 63 = .ok (.iload 4, 2) := by decide +kernel
theorem qd_K_write_65 : decode qb_K_write 65 = .ok (.iconst 0, 1) := by decide +kernel
theorem qd_K_write_66 : decode qb_K_write 66 = .ok (.iastore, 1) := by decide +kernel
theorem qd_K_write_67 : decode qb_K_write 67 = .ok (.iconst 0, 1) := by decide +kernel
theorem qd_K_write_68 : decode qb_K_write 68 = .ok (.istore 5, 2) := by decide +kernel
theorem qd_K_write_70 : decode qb_K_write 70 = .ok (.iload 5, 2) := by decide +kernel
theorem qd_K_write_72 : decode qb_K_write 72 = .ok (.iconst 3, 1) := by decide +kernel
theorem qd_K_write_73 : decode qb_K_write 73 = .ok (.if_icmp .ge 53, 3) := by decide +kernel
theorem qd_K_write_76 : decode qb_K_write 76 = .ok (.aload_n 0, 1) := by decide +kernel
theorem qd_K_write_77 : decode qb_K_write 77 = .ok (.getfield 18, 3) := by decide +kernel
theorem qd_K_write_80 : decode qb_K_write 80 = .ok (.iload 4, 2) := by decide +kernel
theorem qd_K_write_82 : decode qb_K_write 82 = .ok (.iconst 3, 1) := by decide +kernel
theorem qd_K_write_83 : decode qb_K_write 83 = .ok (.imul, 1) := by decide +kernel
theorem qd_K_write_84 : decode qb_K_write 84 = .ok (.iload 5, 2) := by decide +kernel
theorem qd_K_write_86 : decode qb_K_write 86 = .ok (.iadd, 1) := by decide +kernel
theorem qd_K_write_87 : decode qb_K_write 87 = .ok (.iload 5, 2) := by decide +kernel
theorem qd_K_write_89 : decode qb_K_write 89 = .ok (.ifCond .ne 7, 3) := by decide +kernel
theorem qd_K_write_92 : decode qb_K_write 92 = .ok (.iload_n 3, 1) := by decide +kernel
theorem qd_K_write_93 : decode qb_K_write 93 = .ok (.goto 4, 3) := by decide +kernel
theorem qd_K_write_96 : decode qb_K_write 96 = .ok (.iconst (-1), 1) := by decide +kernel
theorem qd_K_write_97 : decode qb_K_write 97 = .ok (.iastore, 1) := by decide +kernel
theorem qd_K_write_98 : decode qb_K_write 98 = .ok (.aload_n 0, 1) := by decide +kernel
theorem qd_K_write_99 : decode qb_K_write 99 = .ok (.getfield 21, 3) := by decide +kernel
theorem qd_K_write_102 : decode qb_K_write 102 = .ok (.iload 4, 2) := by decide +kernel
theorem qd_K_write_104 : decode qb_K_write 104 = .ok (.iconst 3, 1) := by decide +kernel
theorem qd_K_write_105 : decode qb_K_write 105 = .ok (.imul, 1) := by decide +kernel
theorem qd_K_write_106 : decode qb_K_write 106 = .ok (.iload 5, 2) := by decide +kernel
theorem qd_K_write_108 : decode qb_K_write 108 = .ok (.iadd, 1) := by decide +kernel
theorem qd_K_write_109 : decode qb_K_write 109 = .ok (.iload 5, 2) := by decide +kernel
theorem qd_K_write_111 : decode qb_K_write 111 = .ok (.ifCond .ne 7, 3) := by decide +kernel
theorem qd_K_write_114 : decode qb_K_write 114 = .ok (.iload_n 3, 1) := by decide +kernel
theorem qd_K_write_115 : decode qb_K_write 115 = .ok (.goto 4, 3) := by decide +kernel
theorem qd_K_write_118 : decode qb_K_write 118 = .ok (.iconst (-1), 1) := by decide +kernel
theorem qd_K_write_119 : decode qb_K_write 119 = .ok (.iastore, 1) := by decide +kernel
theorem qd_K_write_120 : decode qb_K_write 120 = .ok (.iinc 5 1, 3) := by decide +kernel
theorem qd_K_write_123 : decode qb_K_write 123 = .ok (.goto (-53), 3) := by decide +kernel
theorem qd_K_write_126 : decode qb_K_write 126 = .ok (.iconst 0, 1) := by decide +kernel
theorem qd_K_write_127 : decode qb_K_write 127 = .ok (.istore 5, 2) := by decide +kernel
theorem qd_K_write_129 : decode qb_K_write 129 = .ok (.iload 5, 2) := by decide +kernel
theorem qd_K_write_131 : decode qb_K_write 131 = .ok (.iconst 2, 1) := by decide +kernel
theorem qd_K_write_132 : decode qb_K_write 132 = .ok (.if_icmp .ge 22, 3) := by decide +kernel
theorem qd_K_write_135 : decode qb_K_write 135 = .ok (.aload_n 0, 1) := by decide +kernel
theorem qd_K_write_136 : decode qb_K_write 136 = .ok (.getfield 27, 3) := by decide +kernel
theorem qd_K_write_139 : decode qb_K_write 139 = .ok (.iload 4, 2) := by decide +kernel
theorem qd_K_write_141 : decode qb_K_write 141 = .ok (.iconst 2, 1) := by decide +kernel
theorem qd_K_write_142 : decode qb_K_write 142 = .ok (.imul, 1) := by decide +kernel
theorem qd_K_write_143 : decode qb_K_write 143 = .ok (.iload 5, 2) := by decide +kernel
theorem qd_K_write_145 : decode qb_K_write 145 = .ok (.iadd, 1) := by decide +kernel
theorem qd_K_write_146 : decode qb_K_write 146 = .ok (.iconst 0, 1) := by decide +kernel
theorem qd_K_write_147 : decode qb_K_write 147 = .ok (.iastore, 1) := by decide +kernel
theorem qd_K_write_148 : decode qb_K_write 148 = .ok (.iinc 5 1, 3) := by decide +kernel
theorem qd_K_write_151 : decode qb_K_write 151 = .ok (.goto (-22), 3) := by decide +kernel
theorem qd_K_write_154 : decode qb_K_write 154 = .ok (.return_, 1) := by decide +kernel
theorem qd_K_add_0 : decode qb_K_add 0 = .ok (.aload_n 0, 1) := by decide +kernel
theorem qd_K_add_1 : decode qb_K_add 1 = .ok (.getfield 42, 3) := by decide +kernel
theorem qd_K_add_4 : decode qb_K_add 4 = .ok (.bipush 12, 2) := by decide +kernel
theorem qd_K_add_6 : decode qb_K_add 6 = .ok (.if_icmp .lt 6, 3) := by decide +kernel
theorem qd_K_add_9 : decode qb_K_add 9 = .ok (.bipush (-3), 2) := by decide +kernel
theorem qd_K_add_11 : decode qb_K_add 11 = .ok (.ireturn, 1) := by decide +kernel
theorem qd_K_add_12 : decode qb_K_add 12 = .ok (.aload_n 0, 1) := by decide +kernel
theorem qd_K_add_13 : decode qb_K_add 13 = .ok (.iload_n 1, 1) := by decide +kernel
theorem qd_K_add_14 : decode qb_K_add 14 = .ok (.iload_n 2, 1) := by decide +kernel
theorem qd_K_add_15 : decode qb_K_add 15 = .ok (.iload_n 1, 1) := by decide +kernel
theorem qd_K_add_16 : decode qb_K_add 16 = .ok (.iconst 3, 1) := by decide +kernel
theorem qd_K_add_17 : decode qb_K_add 17 = .ok (.if_icmp .ge 7, 3) := by decide +kernel
theorem qd_K_add_20 : decode qb_K_add 20 = .ok (.iconst 0, 1) := by decide +kernel
theorem qd_K_add_21 : decode qb_K_add 21 = .ok (.goto 4, 3) := by decide +kernel
theorem qd_K_add_24 : decode qb_K_add 24 = .ok (.iconst (-1), 1) := by decide +kernel
theorem qd_K_add_25 : decode qb_K_add 25 = .ok (.invokevirtual 46, 3) := by decide +kernel
theorem qd_K_add_28 : decode qb_K_add 28 = .ok (.aload_n 0, 1) := by decide +kernel
theorem qd_K_add_29 : decode qb_K_add 29 = .ok (.invokevirtual 50, 3) := by decide +kernel
theorem qd_K_add_32 : decode qb_K_add 32 = .ok (.aload_n 0, 1) := by decide +kernel
theorem qd_K_add_33 : decode qb_K_add 33 = .ok (.getfield 42, 3) := by decide +kernel
theorem qd_K_add_36 : decode qb_K_add 36 = .ok (.iconst 1, 1) := by decide +kernel
theorem qd_K_add_37 : decode qb_K_add 37 = .ok (.isub, 1) := by decide +kernel
theorem qd_K_add_38 : decode qb_K_add 38 = .ok (.ireturn, 1) := by decide +kernel
theorem qd_K_reckon_0 : decode qb_K_reckon 0 = .ok (.aload_n 0, 1) := by decide +kernel
theorem qd_K_reckon_1 : decode qb_K_reckon 1 = .ok (.invokevirtual 77, 3) := by decide +kernel
theorem qd_K_reckon_4 : decode qb_K_reckon 4 = .ok (.aload_n 0, 1) := by decide +kernel
theorem qd_K_reckon_5 : decode qb_K_reckon 5 = .ok (.invokevirtual 80, 3) := by decide +kernel
theorem qd_K_reckon_8 : decode qb_K_reckon 8 = .ok (.return_, 1) := by decide +kernel
theorem qd_K_reckonAbove_0 : decode qb_K_reckonAbove 0 = .ok (.iconst 0, 1) := by decide +kernel
theorem qd_K_reckonAbove_1 : decode qb_K_reckonAbove 1 = .ok (.istore_n 1, 1) := by decide +kernel
theorem qd_K_reckonAbove_2 : decode qb_K_reckonAbove 2 = .ok (.iload_n 1, 1) := by decide +kernel
theorem qd_K_reckonAbove_3 : decode qb_K_reckonAbove 3 = .ok (.aload_n 0, 1) := by decide +kernel
theorem qd_K_reckonAbove_4 : decode qb_K_reckonAbove 4 = .ok (.getfield 42, 3) := by decide +kernel
theorem qd_K_reckonAbove_7 : decode qb_K_reckonAbove 7 = .ok (.if_icmp .ge 83, 3) := by decide +kernel
theorem qd_K_reckonAbove_10 : decode qb_K_reckonAbove 10 = .ok (.aload_n 0, 1) := by decide +kernel
theorem qd_K_reckonAbove_11 : decode qb_K_reckonAbove 11 = .ok (.getfield 30, 3) := by decide +kernel
theorem qd_K_reckonAbove_14 : decode qb_K_reckonAbove 14 = .ok (.iload_n 1, 1) := by decide +kernel
theorem qd_K_reckonAbove_15 : decode qb_K_reckonAbove 15 = .ok (.iconst 0, 1) := by decide +kernel
theorem qd_K_reckonAbove_16 : decode qb_K_reckonAbove 16 = .ok (.iastore, 1) := by decide +kernel
theorem qd_K_reckonAbove_17 : decode qb_K_reckonAbove 17 = .ok (.aload_n 0, 1) := by decide +kernel
theorem qd_K_reckonAbove_18 : decode qb_K_reckonAbove 18 = .ok (.getfield 33, 3) := by decide +kernel
theorem qd_K_reckonAbove_21 : decode qb_K_reckonAbove 21 = .ok (.iload_n 1, 1) := by decide +kernel
theorem qd_K_reckonAbove_22 : decode qb_K_reckonAbove 22 = .ok (.iconst 1, 1) := by decide +kernel
theorem qd_K_reckonAbove_23 : decode qb_K_reckonAbove 23 = .ok (.iconst 1, 1) := by decide +kernel
theorem qd_K_reckonAbove_24 : decode qb_K_reckonAbove 24 = .ok (.iload_n 1, 1) := by decide +kernel
theorem qd_K_reckonAbove_25 : decode qb_K_reckonAbove 25 = .ok (.ishl, 1) := by decide +kernel
theorem qd_K_reckonAbove_26 : decode qb_K_reckonAbove 26 = .ok (.ior, 1) := by decide +kernel
theorem qd_K_reckonAbove_27 : decode qb_K_reckonAbove 27 = .ok (.iastore, 1) := by decide +kernel
theorem qd_K_reckonAbove_28 : decode qb_K_reckonAbove 28 = .ok (.iconst 0, 1) := by decide +kernel
theorem qd_K_reckonAbove_29 : decode qb_K_reckonAbove 29 = .ok (.istore_n 2, 1) := by decide +kernel
theorem qd_K_reckonAbove_30 : decode qb_K_reckonAbove 30 = .ok (.iload_n 2, 1) := by decide +kernel
theorem qd_K_reckonAbove_31 : decode qb_K_reckonAbove 31 = .ok (.iconst 3, 1) := by decide +kernel
theorem qd_K_reckonAbove_32 : decode qb_K_reckonAbove 32 = .ok (.if_icmp .ge 52, 3) := by decide +kernel
theorem qd_K_reckonAbove_35 : decode qb_K_reckonAbove 35 = .ok (.aload_n 0, 1) := by decide +kernel
theorem qd_K_reckonAbove_36 : decode qb_K_reckonAbove 36 = .ok (.iload_n 1, 1) := by decide +kernel
theorem qd_K_reckonAbove_37 : decode qb_K_reckonAbove 37 = .ok (.iload_n 2, 1) := by decide +kernel
theorem qd_K_reckonAbove_38 : decode qb_K_reckonAbove 38 = .ok (.invokevirtual 61, 3) := by decide +kernel
theorem qd_K_reckonAbove_41 : decode qb_K_reckonAbove 41 = .ok (.istore_n 3, 1) := by decide +kernel
theorem qd_K_reckonAbove_42 : decode qb_K_reckonAbove 42 = .ok (.iload_n 3, 1) := by decide +kernel
theorem qd_K_reckonAbove_43 : decode qb_K_reckonAbove 43 = .ok (.ifCond .lt 35, 3) := by decide +kernel
theorem qd_K_reckonAbove_46 : decode qb_K_reckonAbove 46 = .ok (.iload_n 3, 1) := by decide +kernel
theorem qd_K_reckonAbove_47 : decode qb_K_reckonAbove 47 = .ok (.iload_n 1, 1) := by decide +kernel
theorem qd_K_reckonAbove_48 : decode qb_K_reckonAbove 48 = .ok (.if_icmp .ge 30, 3) := by decide +kernel
theorem qd_K_reckonAbove_51 : decode qb_K_reckonAbove 51 = .ok (.aload_n 0, 1) := by decide +kernel
theorem qd_K_reckonAbove_52 : decode qb_K_reckonAbove 52 = .ok (.getfield 30, 3) := by decide +kernel
theorem qd_K_reckonAbove_55 : decode qb_K_reckonAbove 55 = .ok (.iload_n 1, 1) := by decide +kernel
theorem qd_K_reckonAbove_56 : decode qb_K_reckonAbove 56 = .ok (.dup2, 1) := by decide +kernel
theorem qd_K_reckonAbove_57 : decode qb_K_reckonAbove 57 = .ok (.iaload, 1) := by decide +kernel
theorem qd_K_reckonAbove_58 : decode qb_K_reckonAbove 58 = .ok (.iconst 1, 1) := by decide +kernel
theorem qd_K_reckonAbove_59 : decode qb_K_reckonAbove 59 = .ok (.iload_n 3, 1) := by decide +kernel
theorem qd_K_reckonAbove_60 : decode qb_K_reckonAbove 60 = .ok (.ishl, 1) := by decide +kernel
theorem qd_K_reckonAbove_61 : decode qb_K_reckonAbove 61 = .ok (.ior, 1) := by decide +kernel
theorem qd_K_reckonAbove_62 : decode qb_K_reckonAbove 62 = .ok (.iastore, 1) := by decide +kernel
theorem qd_K_reckonAbove_63 : decode qb_K_reckonAbove 63 = .ok (.aload_n 0, 1) := by decide +kernel
theorem qd_K_reckonAbove_64 : decode qb_K_reckonAbove 64 = .ok (.getfield 33, 3) := by decide +kernel
theorem qd_K_reckonAbove_67 : decode qb_K_reckonAbove 67 = .ok (.iload_n 1, 1) := by decide +kernel
theorem qd_K_reckonAbove_68 : decode qb_K_reckonAbove 68 = .ok (.dup2, 1) := by decide +kernel
theorem qd_K_reckonAbove_69 : decode qb_K_reckonAbove 69 = .ok (.iaload, 1) := by decide +kernel
theorem qd_K_reckonAbove_70 : decode qb_K_reckonAbove 70 = .ok (.aload_n 0, 1) := by decide +kernel
theorem qd_K_reckonAbove_71 : decode qb_K_reckonAbove 71 = .ok (.getfield 33, 3) := by decide +kernel
theorem qd_K_reckonAbove_74 : decode qb_K_reckonAbove 74 = .ok (.iload_n 3, 1) := by decide +kernel
theorem qd_K_reckonAbove_75 : decode qb_K_reckonAbove 75 = .ok (.iaload, 1) := by decide +kernel
theorem qd_K_reckonAbove_76 : decode qb_K_reckonAbove 76 = .ok (.ior, 1) := by decide +kernel
theorem qd_K_reckonAbove_77 : decode qb_K_reckonAbove 77 = .ok (.iastore, 1) := by decide +kernel
theorem qd_K_reckonAbove_78 : decode qb_K_reckonAbove 78 = .ok (.iinc 2 1, 3) := by decide +kernel
theorem qd_K_reckonAbove_81 : decode qb_K_reckonAbove 81 = .ok (.goto (-51), 3) := by decide +kernel
theorem qd_K_reckonAbove_84 : decode qb_K_reckonAbove 84 = .ok (.iinc 1 1, 3) := by decide +kernel
theorem qd_K_reckonAbove_87 : decode qb_K_reckonAbove 87 = .ok (.goto (-85), 3) := by decide +kernel
theorem qd_K_reckonAbove_90 : decode qb_K_reckonAbove 90 = .ok (.return_, 1) := by decide +kernel
theorem qd_K_superClass_0 : decode qb_K_superClass 0 = .ok (.iload_n 1, 1) := by decide +kernel
theorem qd_K_superClass_1 : decode qb_K_superClass 1 = .ok (.ifCond .lt 24, 3) := by decide +kernel
theorem qd_K_superClass_4 : decode qb_K_superClass 4 = .ok (.iload_n 1, 1) := by decide +kernel
theorem qd_K_superClass_5 : decode qb_K_superClass 5 = .ok (.aload_n 0, 1) := by decide +kernel
theorem qd_K_superClass_6 : decode qb_K_superClass 6 = .ok (.getfield 42, 3) := by decide +kernel
theorem qd_K_superClass_9 : decode qb_K_superClass 9 = .ok (.if_icmp .ge 16, 3) := by decide +kernel
theorem qd_K_superClass_12 : decode qb_K_superClass 12 = .ok (.iload_n 2, 1) := by decide +kernel
theorem qd_K_superClass_13 : decode qb_K_superClass 13 = .ok (.ifCond .lt 12, 3) := by decide +kernel
theorem qd_K_superClass_16 : decode qb_K_superClass 16 = .ok (.iload_n 2, 1) := by decide +kernel
theorem qd_K_superClass_17 : decode qb_K_superClass 17 = .ok (.iconst 3, 1) := by decide +kernel
theorem qd_K_superClass_18 : decode qb_K_superClass 18 = .ok (.if_icmp .ge 7, 3) := by decide +kernel
theorem qd_K_superClass_21 : decode qb_K_superClass 21 = .ok (.iconst 1, 1) := by decide +kernel
theorem qd_K_superClass_22 : decode qb_K_superClass 22 = .ok (.goto 4, 3) := by decide +kernel
theorem qd_K_superClass_25 : decode qb_K_superClass 25 = .ok (.iconst 0, 1) := by decide +kernel
theorem qd_K_superClass_26 : decode qb_K_superClass 26 = .ok (.istore_n 3, 1) := by decide +kernel
theorem qd_K_superClass_27 : decode qb_K_superClass 27 = .ok (.iload_n 3, 1) := by decide +kernel
theorem qd_K_superClass_28 : decode qb_K_superClass 28 = .ok (.ifCond .eq 16, 3) := by decide +kernel
theorem qd_K_superClass_31 : decode qb_K_superClass 31 = .ok (.aload_n 0, 1) := by decide +kernel
theorem qd_K_superClass_32 : decode qb_K_superClass 32 = .ok (.getfield 21, 3) := by decide +kernel
theorem qd_K_superClass_35 : decode qb_K_superClass 35 = .ok (.iload_n 1, 1) := by decide +kernel
theorem qd_K_superClass_36 : decode qb_K_superClass 36 = .ok (.iconst 3, 1) := by decide +kernel
theorem qd_K_superClass_37 : decode qb_K_superClass 37 = .ok (.imul, 1) := by decide +kernel
theorem qd_K_superClass_38 : decode qb_K_superClass 38 = .ok (.iload_n 2, 1) := by decide +kernel
theorem qd_K_superClass_39 : decode qb_K_superClass 39 = .ok (.iadd, 1) := by decide +kernel
theorem qd_K_superClass_40 : decode qb_K_superClass 40 = .ok (.iaload, 1) := by decide +kernel
theorem qd_K_superClass_41 : decode qb_K_superClass 41 = .ok (.goto 4, 3) := by decide +kernel
theorem qd_K_superClass_44 : decode qb_K_superClass 44 = .ok (.iconst (-1), 1) := by decide +kernel
theorem qd_K_superClass_45 : decode qb_K_superClass 45 = .ok (.ireturn, 1) := by decide +kernel
theorem qd_K_reckonApart_0 : decode qb_K_reckonApart 0 = .ok (.aload_n 0, 1) := by decide +kernel
theorem qd_K_reckonApart_1 : decode qb_K_reckonApart 1 = .ok (.getfield 42, 3) := by decide +kernel
theorem qd_K_reckonApart_4 : decode qb_K_reckonApart 4 = .ok (.iconst 1, 1) := by decide +kernel
theorem qd_K_reckonApart_5 : decode qb_K_reckonApart 5 = .ok (.isub, 1) := by decide +kernel
theorem qd_K_reckonApart_6 : decode qb_K_reckonApart 6 = .ok (.istore_n 1, 1) := by decide +kernel
theorem qd_K_reckonApart_7 : decode qb_K_reckonApart 7 = .ok (.iload_n 1, 1) := by decide +kernel
theorem qd_K_reckonApart_8 : decode qb_K_reckonApart 8 = .ok (.ifCond .lt 54, 3) := by decide +kernel
theorem qd_K_reckonApart_11 : decode qb_K_reckonApart 11 = .ok (.aload_n 0, 1) := by decide +kernel
theorem qd_K_reckonApart_12 : decode qb_K_reckonApart 12 = .ok (.getfield 36, 3) := by decide +kernel
theorem qd_K_reckonApart_15 : decode qb_K_reckonApart 15 = .ok (.iload_n 1, 1) := by decide +kernel
theorem qd_K_reckonApart_16 : decode qb_K_reckonApart 16 = .ok (.iconst 0, 1) := by decide +kernel
theorem qd_K_reckonApart_17 : decode qb_K_reckonApart 17 = .ok (.iastore, 1) := by decide +kernel
theorem qd_K_reckonApart_18 : decode qb_K_reckonApart 18 = .ok (.aload_n 0, 1) := by decide +kernel
theorem qd_K_reckonApart_19 : decode qb_K_reckonApart 19 = .ok (.getfield 42, 3) := by decide +kernel
theorem qd_K_reckonApart_22 : decode qb_K_reckonApart 22 = .ok (.iconst 1, 1) := by decide +kernel
theorem qd_K_reckonApart_23 : decode qb_K_reckonApart 23 = .ok (.isub, 1) := by decide +kernel
theorem qd_K_reckonApart_24 : decode qb_K_reckonApart 24 = .ok (.istore_n 2, 1) := by decide +kernel
theorem qd_K_reckonApart_25 : decode qb_K_reckonApart 25 = .ok (.iload_n 2, 1) := by decide +kernel
theorem qd_K_reckonApart_26 : decode qb_K_reckonApart 26 = .ok (.ifCond .lt 30, 3) := by decide +kernel
theorem qd_K_reckonApart_29 : decode qb_K_reckonApart 29 = .ok (.aload_n 0, 1) := by decide +kernel
theorem qd_K_reckonApart_30 : decode qb_K_reckonApart 30 = .ok (.iload_n 1, 1) := by decide +kernel
theorem qd_K_reckonApart_31 : decode qb_K_reckonApart 31 = .ok (.iload_n 2, 1) := by decide +kernel
theorem qd_K_reckonApart_32 : decode qb_K_reckonApart 32 = .ok (.invokevirtual 83, 3) := by decide +kernel
theorem qd_K_reckonApart_35 : decode qb_K_reckonApart 35 = .ok (.ifCond .eq 15, 3) := by decide +kernel
theorem qd_K_reckonApart_38 : decode qb_K_reckonApart 38 = .ok (.aload_n 0, 1) := by decide +kernel
theorem qd_K_reckonApart_39 : decode qb_K_reckonApart 39 = .ok (.getfield 36, 3) := by decide +kernel
theorem qd_K_reckonApart_42 : decode qb_K_reckonApart 42 = .ok (.iload_n 1, 1) := by decide +kernel
theorem qd_K_reckonApart_43 : decode qb_K_reckonApart 43 = .ok (.dup2, 1) := by decide +kernel
theorem qd_K_reckonApart_44 : decode qb_K_reckonApart 44 = .ok (.iaload, 1) := by decide +kernel
theorem qd_K_reckonApart_45 : decode qb_K_reckonApart 45 = .ok (.iconst 1, 1) := by decide +kernel
theorem qd_K_reckonApart_46 : decode qb_K_reckonApart 46 = .ok (.iload_n 2, 1) := by decide +kernel
theorem qd_K_reckonApart_47 : decode qb_K_reckonApart 47 = .ok (.ishl, 1) := by decide +kernel
theorem qd_K_reckonApart_48 : decode qb_K_reckonApart 48 = .ok (.ior, 1) := by decide +kernel
theorem qd_K_reckonApart_49 : decode qb_K_reckonApart 49 = .ok (.iastore, 1) := by decide +kernel
theorem qd_K_reckonApart_50 : decode qb_K_reckonApart 50 = .ok (.iinc 2 (-1), 3) := by decide +kernel
theorem qd_K_reckonApart_53 : decode qb_K_reckonApart 53 = .ok (.goto (-28), 3) := by decide +kernel
theorem qd_K_reckonApart_56 : decode qb_K_reckonApart 56 = .ok (.iinc 1 (-1), 3) := by decide +kernel
theorem qd_K_reckonApart_59 : decode qb_K_reckonApart 59 = .ok (.goto (-52), 3) := by decide +kernel
theorem qd_K_reckonApart_62 : decode qb_K_reckonApart 62 = .ok (.return_, 1) := by decide +kernel
theorem qd_K_mustBeApart_0 : decode qb_K_mustBeApart 0 = .ok (.aload_n 0, 1) := by decide +kernel
theorem qd_K_mustBeApart_1 : decode qb_K_mustBeApart 1 = .ok (.iload_n 1, 1) := by decide +kernel
theorem qd_K_mustBeApart_2 : decode qb_K_mustBeApart 2 = .ok (.iload_n 2, 1) := by decide +kernel
theorem qd_K_mustBeApart_3 : decode qb_K_mustBeApart 3 = .ok (.invokevirtual 64, 3) := by decide +kernel
theorem qd_K_mustBeApart_6 : decode qb_K_mustBeApart 6 = .ok (.ifCond .ne 12, 3) := by decide +kernel
theorem qd_K_mustBeApart_9 : decode qb_K_mustBeApart 9 = .ok (.aload_n 0, 1) := by decide +kernel
theorem qd_K_mustBeApart_10 : decode qb_K_mustBeApart 10 = .ok (.iload_n 2, 1) := by decide +kernel
theorem qd_K_mustBeApart_11 : decode qb_K_mustBeApart 11 = .ok (.iload_n 1, 1) := by decide +kernel
theorem qd_K_mustBeApart_12 : decode qb_K_mustBeApart 12 = .ok (.invokevirtual 64, 3) := by decide +kernel
theorem qd_K_mustBeApart_15 : decode qb_K_mustBeApart 15 = .ok (.ifCond .eq 5, 3) := by decide +kernel
theorem qd_K_mustBeApart_18 : decode qb_K_mustBeApart 18 = .ok (.iconst 0, 1) := by decide +kernel
theorem qd_K_mustBeApart_19 : decode qb_K_mustBeApart 19 = .ok (.ireturn, 1) := by decide +kernel
theorem qd_K_mustBeApart_20 : decode qb_K_mustBeApart 20 = .ok (.aload_n 0, 1) := by decide +kernel
theorem qd_K_mustBeApart_21 : decode qb_K_mustBeApart 21 = .ok (.iload_n 1, 1) := by decide +kernel
theorem qd_K_mustBeApart_22 : decode qb_K_mustBeApart 22 = .ok (.invokevirtual 53, 3) := by decide +kernel
theorem qd_K_mustBeApart_25 : decode qb_K_mustBeApart 25 = .ok (.ifCond .ne 11, 3) := by decide +kernel
theorem qd_K_mustBeApart_28 : decode qb_K_mustBeApart 28 = .ok (.aload_n 0, 1) := by decide +kernel
theorem qd_K_mustBeApart_29 : decode qb_K_mustBeApart 29 = .ok (.iload_n 2, 1) := by decide +kernel
theorem qd_K_mustBeApart_30 : decode qb_K_mustBeApart 30 = .ok (.invokevirtual 53, 3) := by decide +kernel
theorem qd_K_mustBeApart_33 : decode qb_K_mustBeApart 33 = .ok (.ifCond .eq 21, 3) := by decide +kernel
theorem qd_K_mustBeApart_36 : decode qb_K_mustBeApart 36 = .ok (.aload_n 0, 1) := by decide +kernel
theorem qd_K_mustBeApart_37 : decode qb_K_mustBeApart 37 = .ok (.iload_n 1, 1) := by decide +kernel
theorem qd_K_mustBeApart_38 : decode qb_K_mustBeApart 38 = .ok (.invokevirtual 86, 3) := by decide +kernel
theorem qd_K_mustBeApart_41 : decode qb_K_mustBeApart 41 = .ok (.iconst 1, 1) := by decide +kernel
theorem qd_K_mustBeApart_42 : decode qb_K_mustBeApart 42 = .ok (.if_icmp .eq 12, 3) := by decide +kernel
theorem qd_K_mustBeApart_45 : decode qb_K_mustBeApart 45 = .ok (.aload_n 0, 1) := by decide +kernel
theorem qd_K_mustBeApart_46 : decode qb_K_mustBeApart 46 = .ok (.iload_n 2, 1) := by decide +kernel
theorem qd_K_mustBeApart_47 : decode qb_K_mustBeApart 47 = .ok (.invokevirtual 86, 3) := by decide +kernel
theorem qd_K_mustBeApart_50 : decode qb_K_mustBeApart 50 = .ok (.iconst 1, 1) := by decide +kernel
theorem qd_K_mustBeApart_51 : decode qb_K_mustBeApart 51 = .ok (.if_icmp .ne 5, 3) := by decide +kernel
theorem qd_K_mustBeApart_54 : decode qb_K_mustBeApart 54 = .ok (.iconst 1, 1) := by decide +kernel
theorem qd_K_mustBeApart_55 : decode qb_K_mustBeApart 55 = .ok (.ireturn, 1) := by decide +kernel
theorem qd_K_mustBeApart_56 : decode qb_K_mustBeApart 56 = .ok (.aload_n 0, 1) := by decide +kernel
theorem qd_K_mustBeApart_57 : decode qb_K_mustBeApart 57 = .ok (.iload_n 1, 1) := by decide +kernel
theorem qd_K_mustBeApart_58 : decode qb_K_mustBeApart 58 = .ok (.invokevirtual 90, 3) := by decide +kernel
theorem qd_K_mustBeApart_61 : decode qb_K_mustBeApart 61 = .ok (.ifCond .eq 12, 3) := by decide +kernel
theorem qd_K_mustBeApart_64 : decode qb_K_mustBeApart 64 = .ok (.aload_n 0, 1) := by decide +kernel
theorem qd_K_mustBeApart_65 : decode qb_K_mustBeApart 65 = .ok (.iload_n 1, 1) := by decide +kernel
theorem qd_K_mustBeApart_66 : decode qb_K_mustBeApart 66 = .ok (.iload_n 2, 1) := by decide +kernel
theorem qd_K_mustBeApart_67 : decode qb_K_mustBeApart 67 = .ok (.invokevirtual 93, 3) := by decide +kernel
theorem qd_K_mustBeApart_70 : decode qb_K_mustBeApart 70 = .ok (.ifCond .ne 20, 3) := by decide +kernel
theorem qd_K_mustBeApart_73 : decode qb_K_mustBeApart 73 = .ok (.aload_n 0, 1) := by decide +kernel
theorem qd_K_mustBeApart_74 : decode qb_K_mustBeApart 74 = .ok (.iload_n 2, 1) := by decide +kernel
theorem qd_K_mustBeApart_75 : decode qb_K_mustBeApart 75 = .ok (.invokevirtual 90, 3) := by decide +kernel
theorem qd_K_mustBeApart_78 : decode qb_K_mustBeApart 78 = .ok (.ifCond .eq 16, 3) := by decide +kernel
theorem qd_K_mustBeApart_81 : decode qb_K_mustBeApart 81 = .ok (.aload_n 0, 1) := by decide +kernel
theorem qd_K_mustBeApart_82 : decode qb_K_mustBeApart 82 = .ok (.iload_n 1, 1) := by decide +kernel
theorem qd_K_mustBeApart_83 : decode qb_K_mustBeApart 83 = .ok (.iload_n 2, 1) := by decide +kernel
theorem qd_K_mustBeApart_84 : decode qb_K_mustBeApart 84 = .ok (.invokevirtual 96, 3) := by decide +kernel
theorem qd_K_mustBeApart_87 : decode qb_K_mustBeApart 87 = .ok (.ifCond .eq 7, 3) := by decide +kernel
theorem qd_K_mustBeApart_90 : decode qb_K_mustBeApart 90 = .ok (.iconst 1, 1) := by decide +kernel
theorem qd_K_mustBeApart_91 : decode qb_K_mustBeApart 91 = .ok (.goto 4, 3) := by decide +kernel
theorem qd_K_mustBeApart_94 : decode qb_K_mustBeApart 94 = .ok (.iconst 0, 1) := by decide +kernel
theorem qd_K_mustBeApart_95 : decode qb_K_mustBeApart 95 = .ok (.ireturn, 1) := by decide +kernel
theorem qd_K_isUnder_0 : decode qb_K_isUnder 0 = .ok (.iload_n 1, 1) := by decide +kernel
theorem qd_K_isUnder_1 : decode qb_K_isUnder 1 = .ok (.ifCond .lt 41, 3) := by decide +kernel
theorem qd_K_isUnder_4 : decode qb_K_isUnder 4 = .ok (.iload_n 1, 1) := by decide +kernel
theorem qd_K_isUnder_5 : decode qb_K_isUnder 5 = .ok (.aload_n 0, 1) := by decide +kernel
theorem qd_K_isUnder_6 : decode qb_K_isUnder 6 = .ok (.getfield 42, 3) := by decide +kernel
theorem qd_K_isUnder_9 : decode qb_K_isUnder 9 = .ok (.if_icmp .ge 33, 3) := by decide +kernel
theorem qd_K_isUnder_12 : decode qb_K_isUnder 12 = .ok (.iload_n 2, 1) := by decide +kernel
theorem qd_K_isUnder_13 : decode qb_K_isUnder 13 = .ok (.ifCond .lt 29, 3) := by decide +kernel
theorem qd_K_isUnder_16 : decode qb_K_isUnder 16 = .ok (.iload_n 2, 1) := by decide +kernel
theorem qd_K_isUnder_17 : decode qb_K_isUnder 17 = .ok (.aload_n 0, 1) := by decide +kernel
theorem qd_K_isUnder_18 : decode qb_K_isUnder 18 = .ok (.getfield 42, 3) := by decide +kernel
theorem qd_K_isUnder_21 : decode qb_K_isUnder 21 = .ok (.if_icmp .ge 21, 3) := by decide +kernel
theorem qd_K_isUnder_24 : decode qb_K_isUnder 24 = .ok (.aload_n 0, 1) := by decide +kernel
theorem qd_K_isUnder_25 : decode qb_K_isUnder 25 = .ok (.getfield 33, 3) := by decide +kernel
theorem qd_K_isUnder_28 : decode qb_K_isUnder 28 = .ok (.iload_n 1, 1) := by decide +kernel
theorem qd_K_isUnder_29 : decode qb_K_isUnder 29 = .ok (.iaload, 1) := by decide +kernel
theorem qd_K_isUnder_30 : decode qb_K_isUnder 30 = .ok (.iload_n 2, 1) := by decide +kernel
theorem qd_K_isUnder_31 : decode qb_K_isUnder 31 = .ok (.ishr, 1) := by decide +kernel
theorem qd_K_isUnder_32 : decode qb_K_isUnder 32 = .ok (.iconst 1, 1) := by decide +kernel
theorem qd_K_isUnder_33 : decode qb_K_isUnder 33 = .ok (.iand, 1) := by decide +kernel
theorem qd_K_isUnder_34 : decode qb_K_isUnder 34 = .ok (.iconst 1, 1) := by decide +kernel
theorem qd_K_isUnder_35 : decode qb_K_isUnder 35 = .ok (.if_icmp .ne 7, 3) := by decide +kernel
theorem qd_K_isUnder_38 : decode qb_K_isUnder 38 = .ok (.iconst 1, 1) := by decide +kernel
theorem qd_K_isUnder_39 : decode qb_K_isUnder 39 = .ok (.goto 4, 3) := by decide +kernel
theorem qd_K_isUnder_42 : decode qb_K_isUnder 42 = .ok (.iconst 0, 1) := by decide +kernel
theorem qd_K_isUnder_43 : decode qb_K_isUnder 43 = .ok (.ireturn, 1) := by decide +kernel
theorem qd_K_isFace_0 : decode qb_K_isFace 0 = .ok (.iload_n 1, 1) := by decide +kernel
theorem qd_K_isFace_1 : decode qb_K_isFace 1 = .ok (.ifCond .lt 25, 3) := by decide +kernel
theorem qd_K_isFace_4 : decode qb_K_isFace 4 = .ok (.iload_n 1, 1) := by decide +kernel
theorem qd_K_isFace_5 : decode qb_K_isFace 5 = .ok (.aload_n 0, 1) := by decide +kernel
theorem qd_K_isFace_6 : decode qb_K_isFace 6 = .ok (.getfield 42, 3) := by decide +kernel
theorem qd_K_isFace_9 : decode qb_K_isFace 9 = .ok (.if_icmp .ge 17, 3) := by decide +kernel
theorem qd_K_isFace_12 : decode qb_K_isFace 12 = .ok (.aload_n 0, 1) := by decide +kernel
theorem qd_K_isFace_13 : decode qb_K_isFace 13 = .ok (.getfield 11, 3) := by decide +kernel
theorem qd_K_isFace_16 : decode qb_K_isFace 16 = .ok (.iload_n 1, 1) := by decide +kernel
theorem qd_K_isFace_17 : decode qb_K_isFace 17 = .ok (.iaload, 1) := by decide +kernel
theorem qd_K_isFace_18 : decode qb_K_isFace 18 = .ok (.iconst 3, 1) := by decide +kernel
theorem qd_K_isFace_19 : decode qb_K_isFace 19 = .ok (.if_icmp .lt 7, 3) := by decide +kernel
theorem qd_K_isFace_22 : decode qb_K_isFace 22 = .ok (.iconst 1, 1) := by decide +kernel
theorem qd_K_isFace_23 : decode qb_K_isFace 23 = .ok (.goto 4, 3) := by decide +kernel
theorem qd_K_isFace_26 : decode qb_K_isFace 26 = .ok (.iconst 0, 1) := by decide +kernel
theorem qd_K_isFace_27 : decode qb_K_isFace 27 = .ok (.ireturn, 1) := by decide +kernel
theorem qd_K_kindOf_0 : decode qb_K_kindOf 0 = .ok (.iload_n 1, 1) := by decide +kernel
theorem qd_K_kindOf_1 : decode qb_K_kindOf 1 = .ok (.ifCond .lt 20, 3) := by decide +kernel
theorem qd_K_kindOf_4 : decode qb_K_kindOf 4 = .ok (.iload_n 1, 1) := by decide +kernel
theorem qd_K_kindOf_5 : decode qb_K_kindOf 5 = .ok (.aload_n 0, 1) := by decide +kernel
theorem qd_K_kindOf_6 : decode qb_K_kindOf 6 = .ok (.getfield 42, 3) := by decide +kernel
theorem qd_K_kindOf_9 : decode qb_K_kindOf 9 = .ok (.if_icmp .ge 12, 3) := by decide +kernel
theorem qd_K_kindOf_12 : decode qb_K_kindOf 12 = .ok (.aload_n 0, 1) := by decide +kernel
theorem qd_K_kindOf_13 : decode qb_K_kindOf 13 = .ok (.getfield 11, 3) := by decide +kernel
theorem qd_K_kindOf_16 : decode qb_K_kindOf 16 = .ok (.iload_n 1, 1) := by decide +kernel
theorem qd_K_kindOf_17 : decode qb_K_kindOf 17 = .ok (.iaload, 1) := by decide +kernel
theorem qd_K_kindOf_18 : decode qb_K_kindOf 18 = .ok (.goto 4, 3) := by decide +kernel
theorem qd_K_kindOf_21 : decode qb_K_kindOf 21 = .ok (.iconst (-1), 1) := by decide +kernel
theorem qd_K_kindOf_22 : decode qb_K_kindOf 22 = .ok (.ireturn, 1) := by decide +kernel
theorem qd_K_isSealed_0 : decode qb_K_isSealed 0 = .ok (.aload_n 0, 1) := by decide +kernel
theorem qd_K_isSealed_1 : decode qb_K_isSealed 1 = .ok (.iload_n 1, 1) := by decide +kernel
theorem qd_K_isSealed_2 : decode qb_K_isSealed 2 = .ok (.invokevirtual 86, 3) := by decide +kernel
theorem qd_K_isSealed_5 : decode qb_K_isSealed 5 = .ok (.istore_n 2, 1) := by decide +kernel
theorem qd_K_isSealed_6 : decode qb_K_isSealed 6 = .ok (.iload_n 2, 1) := by decide +kernel
theorem qd_K_isSealed_7 : decode qb_K_isSealed 7 = .ok (.iconst 2, 1) := by decide +kernel
theorem qd_K_isSealed_8 : decode qb_K_isSealed 8 = .ok (.if_icmp .eq 8, 3) := by decide +kernel
theorem qd_K_isSealed_11 : decode qb_K_isSealed 11 = .ok (.iload_n 2, 1) := by decide +kernel
theorem qd_K_isSealed_12 : decode qb_K_isSealed 12 = .ok (.iconst 4, 1) := by decide +kernel
theorem qd_K_isSealed_13 : decode qb_K_isSealed 13 = .ok (.if_icmp .ne 7, 3) := by decide +kernel
theorem qd_K_isSealed_16 : decode qb_K_isSealed 16 = .ok (.iconst 1, 1) := by decide +kernel
theorem qd_K_isSealed_17 : decode qb_K_isSealed 17 = .ok (.goto 4, 3) := by decide +kernel
theorem qd_K_isSealed_20 : decode qb_K_isSealed 20 = .ok (.iconst 0, 1) := by decide +kernel
theorem qd_K_isSealed_21 : decode qb_K_isSealed 21 = .ok (.ireturn, 1) := by decide +kernel
theorem qd_K_heirsApartFrom_0 : decode qb_K_heirsApartFrom 0 = .ok (.iconst 0, 1) := by decide +kernel
theorem qd_K_heirsApartFrom_1 : decode qb_K_heirsApartFrom 1 = .ok (.istore_n 3, 1) := by decide +kernel
theorem qd_K_heirsApartFrom_2 : decode qb_K_heirsApartFrom 2 = .ok (.iload_n 3, 1) := by decide +kernel
theorem qd_K_heirsApartFrom_3 : decode qb_K_heirsApartFrom 3 = .ok (.aload_n 0, 1) := by decide +kernel
theorem qd_K_heirsApartFrom_4 : decode qb_K_heirsApartFrom 4 = .ok (.getfield 42, 3) := by decide +kernel
theorem qd_K_heirsApartFrom_7 : decode qb_K_heirsApartFrom 7 = .ok (.if_icmp .ge 29, 3) := by decide +kernel
theorem qd_K_heirsApartFrom_10 : decode qb_K_heirsApartFrom 10 = .ok (.aload_n 0, 1) := by decide +kernel
theorem qd_K_heirsApartFrom_11 : decode qb_K_heirsApartFrom 11 = .ok (.iload_n 3, 1) := by decide +kernel
theorem qd_K_heirsApartFrom_12 : decode qb_K_heirsApartFrom 12 = .ok (.iload_n 1, 1) := by decide +kernel
theorem qd_K_heirsApartFrom_13 : decode qb_K_heirsApartFrom 13 = .ok (.invokevirtual 68, 3) := by decide +kernel
theorem qd_K_heirsApartFrom_16 : decode qb_K_heirsApartFrom 16 = .ok (.ifCond .eq 14, 3) := by decide +kernel
theorem qd_K_heirsApartFrom_19 : decode qb_K_heirsApartFrom 19 = .ok (.aload_n 0, 1) := by decide +kernel
theorem qd_K_heirsApartFrom_20 : decode qb_K_heirsApartFrom 20 = .ok (.iload_n 3, 1) := by decide +kernel
theorem qd_K_heirsApartFrom_21 : decode qb_K_heirsApartFrom 21 = .ok (.iload_n 2, 1) := by decide +kernel
theorem qd_K_heirsApartFrom_22 : decode qb_K_heirsApartFrom 22 = .ok (.invokevirtual 99, 3) := by decide +kernel
theorem qd_K_heirsApartFrom_25 : decode qb_K_heirsApartFrom 25 = .ok (.ifCond .ne 5, 3) := by decide +kernel
theorem qd_K_heirsApartFrom_28 : decode qb_K_heirsApartFrom 28 = .ok (.iconst 0, 1) := by decide +kernel
theorem qd_K_heirsApartFrom_29 : decode qb_K_heirsApartFrom 29 = .ok (.ireturn, 1) := by decide +kernel
theorem qd_K_heirsApartFrom_30 : decode qb_K_heirsApartFrom 30 = .ok (.iinc 3 1, 3) := by decide +kernel
theorem qd_K_heirsApartFrom_33 : decode qb_K_heirsApartFrom 33 = .ok (.goto (-31), 3) := by decide +kernel
theorem qd_K_heirsApartFrom_36 : decode qb_K_heirsApartFrom 36 = .ok (.iconst 1, 1) := by decide +kernel
theorem qd_K_heirsApartFrom_37 : decode qb_K_heirsApartFrom 37 = .ok (.ireturn, 1) := by decide +kernel
theorem qd_K_isHeir_0 : decode qb_K_isHeir 0 = .ok (.iload_n 1, 1) := by decide +kernel
theorem qd_K_isHeir_1 : decode qb_K_isHeir 1 = .ok (.ifCond .lt 41, 3) := by decide +kernel
theorem qd_K_isHeir_4 : decode qb_K_isHeir 4 = .ok (.iload_n 1, 1) := by decide +kernel
theorem qd_K_isHeir_5 : decode qb_K_isHeir 5 = .ok (.aload_n 0, 1) := by decide +kernel
theorem qd_K_isHeir_6 : decode qb_K_isHeir 6 = .ok (.getfield 42, 3) := by decide +kernel
theorem qd_K_isHeir_9 : decode qb_K_isHeir 9 = .ok (.if_icmp .ge 33, 3) := by decide +kernel
theorem qd_K_isHeir_12 : decode qb_K_isHeir 12 = .ok (.iload_n 2, 1) := by decide +kernel
theorem qd_K_isHeir_13 : decode qb_K_isHeir 13 = .ok (.ifCond .lt 29, 3) := by decide +kernel
theorem qd_K_isHeir_16 : decode qb_K_isHeir 16 = .ok (.iload_n 2, 1) := by decide +kernel
theorem qd_K_isHeir_17 : decode qb_K_isHeir 17 = .ok (.aload_n 0, 1) := by decide +kernel
theorem qd_K_isHeir_18 : decode qb_K_isHeir 18 = .ok (.getfield 42, 3) := by decide +kernel
theorem qd_K_isHeir_21 : decode qb_K_isHeir 21 = .ok (.if_icmp .ge 21, 3) := by decide +kernel
theorem qd_K_isHeir_24 : decode qb_K_isHeir 24 = .ok (.aload_n 0, 1) := by decide +kernel
theorem qd_K_isHeir_25 : decode qb_K_isHeir 25 = .ok (.getfield 30, 3) := by decide +kernel
theorem qd_K_isHeir_28 : decode qb_K_isHeir 28 = .ok (.iload_n 1, 1) := by decide +kernel
theorem qd_K_isHeir_29 : decode qb_K_isHeir 29 = .ok (.iaload, 1) := by decide +kernel
theorem qd_K_isHeir_30 : decode qb_K_isHeir 30 = .ok (.iload_n 2, 1) := by decide +kernel
theorem qd_K_isHeir_31 : decode qb_K_isHeir 31 = .ok (.ishr, 1) := by decide +kernel
theorem qd_K_isHeir_32 : decode qb_K_isHeir 32 = .ok (.iconst 1, 1) := by decide +kernel
theorem qd_K_isHeir_33 : decode qb_K_isHeir 33 = .ok (.iand, 1) := by decide +kernel
theorem qd_K_isHeir_34 : decode qb_K_isHeir 34 = .ok (.iconst 1, 1) := by decide +kernel
theorem qd_K_isHeir_35 : decode qb_K_isHeir 35 = .ok (.if_icmp .ne 7, 3) := by decide +kernel
theorem qd_K_isHeir_38 : decode qb_K_isHeir 38 = .ok (.iconst 1, 1) := by decide +kernel
theorem qd_K_isHeir_39 : decode qb_K_isHeir 39 = .ok (.goto 4, 3) := by decide +kernel
theorem qd_K_isHeir_42 : decode qb_K_isHeir 42 = .ok (.iconst 0, 1) := by decide +kernel
theorem qd_K_isHeir_43 : decode qb_K_isHeir 43 = .ok (.ireturn, 1) := by decide +kernel
theorem qd_K_areApart_0 : decode qb_K_areApart 0 = .ok (.iload_n 1, 1) := by decide +kernel
theorem qd_K_areApart_1 : decode qb_K_areApart 1 = .ok (.ifCond .lt 41, 3) := by decide +kernel
theorem qd_K_areApart_4 : decode qb_K_areApart 4 = .ok (.iload_n 1, 1) := by decide +kernel
theorem qd_K_areApart_5 : decode qb_K_areApart 5 = .ok (.aload_n 0, 1) := by decide +kernel
theorem qd_K_areApart_6 : decode qb_K_areApart 6 = .ok (.getfield 42, 3) := by decide +kernel
theorem qd_K_areApart_9 : decode qb_K_areApart 9 = .ok (.if_icmp .ge 33, 3) := by decide +kernel
theorem qd_K_areApart_12 : decode qb_K_areApart 12 = .ok (.iload_n 2, 1) := by decide +kernel
theorem qd_K_areApart_13 : decode qb_K_areApart 13 = .ok (.ifCond .lt 29, 3) := by decide +kernel
theorem qd_K_areApart_16 : decode qb_K_areApart 16 = .ok (.iload_n 2, 1) := by decide +kernel
theorem qd_K_areApart_17 : decode qb_K_areApart 17 = .ok (.aload_n 0, 1) := by decide +kernel
theorem qd_K_areApart_18 : decode qb_K_areApart 18 = .ok (.getfield 42, 3) := by decide +kernel
theorem qd_K_areApart_21 : decode qb_K_areApart 21 = .ok (.if_icmp .ge 21, 3) := by decide +kernel
theorem qd_K_areApart_24 : decode qb_K_areApart 24 = .ok (.aload_n 0, 1) := by decide +kernel
theorem qd_K_areApart_25 : decode qb_K_areApart 25 = .ok (.getfield 36, 3) := by decide +kernel
theorem qd_K_areApart_28 : decode qb_K_areApart 28 = .ok (.iload_n 1, 1) := by decide +kernel
theorem qd_K_areApart_29 : decode qb_K_areApart 29 = .ok (.iaload, 1) := by decide +kernel
theorem qd_K_areApart_30 : decode qb_K_areApart 30 = .ok (.iload_n 2, 1) := by decide +kernel
theorem qd_K_areApart_31 : decode qb_K_areApart 31 = .ok (.ishr, 1) := by decide +kernel
theorem qd_K_areApart_32 : decode qb_K_areApart 32 = .ok (.iconst 1, 1) := by decide +kernel
theorem qd_K_areApart_33 : decode qb_K_areApart 33 = .ok (.iand, 1) := by decide +kernel
theorem qd_K_areApart_34 : decode qb_K_areApart 34 = .ok (.iconst 1, 1) := by decide +kernel
theorem qd_K_areApart_35 : decode qb_K_areApart 35 = .ok (.if_icmp .ne 7, 3) := by decide +kernel
theorem qd_K_areApart_38 : decode qb_K_areApart 38 = .ok (.iconst 1, 1) := by decide +kernel
theorem qd_K_areApart_39 : decode qb_K_areApart 39 = .ok (.goto 4, 3) := by decide +kernel
theorem qd_K_areApart_42 : decode qb_K_areApart 42 = .ok (.iconst 0, 1) := by decide +kernel
theorem qd_K_areApart_43 : decode qb_K_areApart 43 = .ok (.ireturn, 1) := by decide +kernel
theorem qd_K_apartFromHeirs_0 : decode qb_K_apartFromHeirs 0 = .ok (.iconst 0, 1) := by decide +kernel
theorem qd_K_apartFromHeirs_1 : decode qb_K_apartFromHeirs 1 = .ok (.istore_n 3, 1) := by decide +kernel
theorem qd_K_apartFromHeirs_2 : decode qb_K_apartFromHeirs 2 = .ok (.iload_n 3, 1) := by decide +kernel
theorem qd_K_apartFromHeirs_3 : decode qb_K_apartFromHeirs 3 = .ok (.aload_n 0, 1) := by decide +kernel
theorem qd_K_apartFromHeirs_4 : decode qb_K_apartFromHeirs 4 = .ok (.getfield 42, 3) := by decide +kernel
theorem qd_K_apartFromHeirs_7 : decode qb_K_apartFromHeirs 7 = .ok (.if_icmp .ge 29, 3) := by decide +kernel
theorem qd_K_apartFromHeirs_10 : decode qb_K_apartFromHeirs 10 = .ok (.aload_n 0, 1) := by decide +kernel
theorem qd_K_apartFromHeirs_11 : decode qb_K_apartFromHeirs 11 = .ok (.iload_n 3, 1) := by decide +kernel
theorem qd_K_apartFromHeirs_12 : decode qb_K_apartFromHeirs 12 = .ok (.iload_n 2, 1) := by decide +kernel
theorem qd_K_apartFromHeirs_13 : decode qb_K_apartFromHeirs 13 = .ok (.invokevirtual 68, 3) := by decide +kernel
theorem qd_K_apartFromHeirs_16 : decode qb_K_apartFromHeirs 16 = .ok (.ifCond .eq 14, 3) := by decide +kernel
theorem qd_K_apartFromHeirs_19 : decode qb_K_apartFromHeirs 19 = .ok (.aload_n 0, 1) := by decide +kernel
theorem qd_K_apartFromHeirs_20 : decode qb_K_apartFromHeirs 20 = .ok (.iload_n 1, 1) := by decide +kernel
theorem qd_K_apartFromHeirs_21 : decode qb_K_apartFromHeirs 21 = .ok (.iload_n 3, 1) := by decide +kernel
theorem qd_K_apartFromHeirs_22 : decode qb_K_apartFromHeirs 22 = .ok (.invokevirtual 99, 3) := by decide +kernel
theorem qd_K_apartFromHeirs_25 : decode qb_K_apartFromHeirs 25 = .ok (.ifCond .ne 5, 3) := by decide +kernel
theorem qd_K_apartFromHeirs_28 : decode qb_K_apartFromHeirs 28 = .ok (.iconst 0, 1) := by decide +kernel
theorem qd_K_apartFromHeirs_29 : decode qb_K_apartFromHeirs 29 = .ok (.ireturn, 1) := by decide +kernel
theorem qd_K_apartFromHeirs_30 : decode qb_K_apartFromHeirs 30 = .ok (.iinc 3 1, 3) := by decide +kernel
theorem qd_K_apartFromHeirs_33 : decode qb_K_apartFromHeirs 33 = .ok (.goto (-31), 3) := by decide +kernel
theorem qd_K_apartFromHeirs_36 : decode qb_K_apartFromHeirs 36 = .ok (.iconst 1, 1) := by decide +kernel
theorem qd_K_apartFromHeirs_37 : decode qb_K_apartFromHeirs 37 = .ok (.ireturn, 1) := by decide +kernel
theorem qd_K_has_0 : decode qb_K_has 0 = .ok (.iload_n 1, 1) := by decide +kernel
theorem qd_K_has_1 : decode qb_K_has 1 = .ok (.ifCond .lt 15, 3) := by decide +kernel
theorem qd_K_has_4 : decode qb_K_has 4 = .ok (.iload_n 1, 1) := by decide +kernel
theorem qd_K_has_5 : decode qb_K_has 5 = .ok (.aload_n 0, 1) := by decide +kernel
theorem qd_K_has_6 : decode qb_K_has 6 = .ok (.getfield 42, 3) := by decide +kernel
theorem qd_K_has_9 : decode qb_K_has 9 = .ok (.if_icmp .ge 7, 3) := by decide +kernel
theorem qd_K_has_12 : decode qb_K_has 12 = .ok (.iconst 1, 1) := by decide +kernel
theorem qd_K_has_13 : decode qb_K_has 13 = .ok (.goto 4, 3) := by decide +kernel
theorem qd_K_has_16 : decode qb_K_has 16 = .ok (.iconst 0, 1) := by decide +kernel
theorem qd_K_has_17 : decode qb_K_has 17 = .ok (.ireturn, 1) := by decide +kernel
theorem qd_K_freeSlot_0 : decode qb_K_freeSlot 0 = .ok (.aload_n 0, 1) := by decide +kernel
theorem qd_K_freeSlot_1 : decode qb_K_freeSlot 1 = .ok (.iload_n 2, 1) := by decide +kernel
theorem qd_K_freeSlot_2 : decode qb_K_freeSlot 2 = .ok (.invokevirtual 53, 3) := by decide +kernel
theorem qd_K_freeSlot_5 : decode qb_K_freeSlot 5 = .ok (.ifCond .ne 18, 3) := by decide +kernel
theorem qd_K_freeSlot_8 : decode qb_K_freeSlot 8 = .ok (.aload_n 0, 1) := by decide +kernel
theorem qd_K_freeSlot_9 : decode qb_K_freeSlot 9 = .ok (.iload_n 1, 1) := by decide +kernel
theorem qd_K_freeSlot_10 : decode qb_K_freeSlot 10 = .ok (.iconst 0, 1) := by decide +kernel
theorem qd_K_freeSlot_11 : decode qb_K_freeSlot 11 = .ok (.invokevirtual 57, 3) := by decide +kernel
theorem qd_K_freeSlot_14 : decode qb_K_freeSlot 14 = .ok (.ifCond .ne 7, 3) := by decide +kernel
theorem qd_K_freeSlot_17 : decode qb_K_freeSlot 17 = .ok (.iconst 0, 1) := by decide +kernel
theorem qd_K_freeSlot_18 : decode qb_K_freeSlot 18 = .ok (.goto 4, 3) := by decide +kernel
theorem qd_K_freeSlot_21 : decode qb_K_freeSlot 21 = .ok (.iconst (-1), 1) := by decide +kernel
theorem qd_K_freeSlot_22 : decode qb_K_freeSlot 22 = .ok (.ireturn, 1) := by decide +kernel
theorem qd_K_freeSlot_23 : decode qb_K_freeSlot 23 = .ok (.iconst 1, 1) := by decide +kernel
theorem qd_K_freeSlot_24 : decode qb_K_freeSlot 24 = .ok (.istore_n 3, 1) := by decide +kernel
theorem qd_K_freeSlot_25 : decode qb_K_freeSlot 25 = .ok (.iload_n 3, 1) := by decide +kernel
theorem qd_K_freeSlot_26 : decode qb_K_freeSlot 26 = .ok (.iconst 3, 1) := by decide +kernel
theorem qd_K_freeSlot_27 : decode qb_K_freeSlot 27 = .ok (.if_icmp .ge 21, 3) := by decide +kernel
theorem qd_K_freeSlot_30 : decode qb_K_freeSlot 30 = .ok (.aload_n 0, 1) := by decide +kernel
theorem qd_K_freeSlot_31 : decode qb_K_freeSlot 31 = .ok (.iload_n 1, 1) := by decide +kernel
theorem qd_K_freeSlot_32 : decode qb_K_freeSlot 32 = .ok (.iload_n 3, 1) := by decide +kernel
theorem qd_K_freeSlot_33 : decode qb_K_freeSlot 33 = .ok (.invokevirtual 57, 3) := by decide +kernel
theorem qd_K_freeSlot_36 : decode qb_K_freeSlot 36 = .ok (.iconst (-1), 1) := by decide +kernel
theorem qd_K_freeSlot_37 : decode qb_K_freeSlot 37 = .ok (.if_icmp .ne 5, 3) := by decide +kernel
theorem qd_K_freeSlot_40 : decode qb_K_freeSlot 40 = .ok (.iload_n 3, 1) := by decide +kernel
theorem qd_K_freeSlot_41 : decode qb_K_freeSlot 41 = .ok (.ireturn, 1) := by decide +kernel
theorem qd_K_freeSlot_42 : decode qb_K_freeSlot 42 = .ok (.iinc 3 1, 3) := by decide +kernel
theorem qd_K_freeSlot_45 : decode qb_K_freeSlot 45 = .ok (.goto (-20), 3) := by decide +kernel
theorem qd_K_freeSlot_48 : decode qb_K_freeSlot 48 = .ok (.iconst (-1), 1) := by decide +kernel
theorem qd_K_freeSlot_49 : decode qb_K_freeSlot 49 = .ok (.ireturn, 1) := by decide +kernel
theorem qd_K_superType_0 : decode qb_K_superType 0 = .ok (.iload_n 1, 1) := by decide +kernel
theorem qd_K_superType_1 : decode qb_K_superType 1 = .ok (.ifCond .lt 24, 3) := by decide +kernel
theorem qd_K_superType_4 : decode qb_K_superType 4 = .ok (.iload_n 1, 1) := by decide +kernel
theorem qd_K_superType_5 : decode qb_K_superType 5 = .ok (.aload_n 0, 1) := by decide +kernel
theorem qd_K_superType_6 : decode qb_K_superType 6 = .ok (.getfield 42, 3) := by decide +kernel
theorem qd_K_superType_9 : decode qb_K_superType 9 = .ok (.if_icmp .ge 16, 3) := by decide +kernel
theorem qd_K_superType_12 : decode qb_K_superType 12 = .ok (.iload_n 2, 1) := by decide +kernel
theorem qd_K_superType_13 : decode qb_K_superType 13 = .ok (.ifCond .lt 12, 3) := by decide +kernel
theorem qd_K_superType_16 : decode qb_K_superType 16 = .ok (.iload_n 2, 1) := by decide +kernel
theorem qd_K_superType_17 : decode qb_K_superType 17 = .ok (.iconst 3, 1) := by decide +kernel
theorem qd_K_superType_18 : decode qb_K_superType 18 = .ok (.if_icmp .ge 7, 3) := by decide +kernel
theorem qd_K_superType_21 : decode qb_K_superType 21 = .ok (.iconst 1, 1) := by decide +kernel
theorem qd_K_superType_22 : decode qb_K_superType 22 = .ok (.goto 4, 3) := by decide +kernel
theorem qd_K_superType_25 : decode qb_K_superType 25 = .ok (.iconst 0, 1) := by decide +kernel
theorem qd_K_superType_26 : decode qb_K_superType 26 = .ok (.istore_n 3, 1) := by decide +kernel
theorem qd_K_superType_27 : decode qb_K_superType 27 = .ok (.iload_n 3, 1) := by decide +kernel
theorem qd_K_superType_28 : decode qb_K_superType 28 = .ok (.ifCond .eq 16, 3) := by decide +kernel
theorem qd_K_superType_31 : decode qb_K_superType 31 = .ok (.aload_n 0, 1) := by decide +kernel
theorem qd_K_superType_32 : decode qb_K_superType 32 = .ok (.getfield 18, 3) := by decide +kernel
theorem qd_K_superType_35 : decode qb_K_superType 35 = .ok (.iload_n 1, 1) := by decide +kernel
theorem qd_K_superType_36 : decode qb_K_superType 36 = .ok (.iconst 3, 1) := by decide +kernel
theorem qd_K_superType_37 : decode qb_K_superType 37 = .ok (.imul, 1) := by decide +kernel
theorem qd_K_superType_38 : decode qb_K_superType 38 = .ok (.iload_n 2, 1) := by decide +kernel
theorem qd_K_superType_39 : decode qb_K_superType 39 = .ok (.iadd, 1) := by decide +kernel
theorem qd_K_superType_40 : decode qb_K_superType 40 = .ok (.iaload, 1) := by decide +kernel
theorem qd_K_superType_41 : decode qb_K_superType 41 = .ok (.goto 4, 3) := by decide +kernel
theorem qd_K_superType_44 : decode qb_K_superType 44 = .ok (.iconst (-1), 1) := by decide +kernel
theorem qd_K_superType_45 : decode qb_K_superType 45 = .ok (.ireturn, 1) := by decide +kernel
theorem qd_K_setSuper_0 : decode qb_K_setSuper 0 = .ok (.iload_n 1, 1) := by decide +kernel
theorem qd_K_setSuper_1 : decode qb_K_setSuper 1 = .ok (.ifCond .lt 47, 3) := by decide +kernel
theorem qd_K_setSuper_4 : decode qb_K_setSuper 4 = .ok (.iload_n 1, 1) := by decide +kernel
theorem qd_K_setSuper_5 : decode qb_K_setSuper 5 = .ok (.aload_n 0, 1) := by decide +kernel
theorem qd_K_setSuper_6 : decode qb_K_setSuper 6 = .ok (.getfield 42, 3) := by decide +kernel
theorem qd_K_setSuper_9 : decode qb_K_setSuper 9 = .ok (.if_icmp .ge 39, 3) := by decide +kernel
theorem qd_K_setSuper_12 : decode qb_K_setSuper 12 = .ok (.iload_n 2, 1) := by decide +kernel
theorem qd_K_setSuper_13 : decode qb_K_setSuper 13 = .ok (.ifCond .lt 35, 3) := by decide +kernel
theorem qd_K_setSuper_16 : decode qb_K_setSuper 16 = .ok (.iload_n 2, 1) := by decide +kernel
theorem qd_K_setSuper_17 : decode qb_K_setSuper 17 = .ok (.iconst 3, 1) := by decide +kernel
theorem qd_K_setSuper_18 : decode qb_K_setSuper 18 = .ok (.if_icmp .ge 30, 3) := by decide +kernel
theorem qd_K_setSuper_21 : decode qb_K_setSuper 21 = .ok (.aload_n 0, 1) := by decide +kernel
theorem qd_K_setSuper_22 : decode qb_K_setSuper 22 = .ok (.getfield 18, 3) := by decide +kernel
theorem qd_K_setSuper_25 : decode qb_K_setSuper 25 = .ok (.iload_n 1, 1) := by decide +kernel
theorem qd_K_setSuper_26 : decode qb_K_setSuper 26 = .ok (.iconst 3, 1) := by decide +kernel
theorem qd_K_setSuper_27 : decode qb_K_setSuper 27 = .ok (.imul, 1) := by decide +kernel
theorem qd_K_setSuper_28 : decode qb_K_setSuper 28 = .ok (.iload_n 2, 1) := by decide +kernel
theorem qd_K_setSuper_29 : decode qb_K_setSuper 29 = .ok (.iadd, 1) := by decide +kernel
theorem qd_K_setSuper_30 : decode qb_K_setSuper 30 = .ok (.iload_n 3, 1) := by decide +kernel
theorem qd_K_setSuper_31 : decode qb_K_setSuper 31 = .ok (.iastore, 1) := by decide +kernel
theorem qd_K_setSuper_32 : decode qb_K_setSuper 32 = .ok (.aload_n 0, 1) := by decide +kernel
theorem qd_K_setSuper_33 : decode qb_K_setSuper 33 = .ok (.getfield 21, 3) := by decide +kernel
theorem qd_K_setSuper_36 : decode qb_K_setSuper 36 = .ok (.iload_n 1, 1) := by decide +kernel
theorem qd_K_setSuper_37 : decode qb_K_setSuper 37 = .ok (.iconst 3, 1) := by decide +kernel
theorem qd_K_setSuper_38 : decode qb_K_setSuper 38 = .ok (.imul, 1) := by decide +kernel
theorem qd_K_setSuper_39 : decode qb_K_setSuper 39 = .ok (.iload_n 2, 1) := by decide +kernel
theorem qd_K_setSuper_40 : decode qb_K_setSuper 40 = .ok (.iadd, 1) := by decide +kernel
theorem qd_K_setSuper_41 : decode qb_K_setSuper 41 = .ok (.iload 4, 2) := by decide +kernel
theorem qd_K_setSuper_43 : decode qb_K_setSuper 43 = .ok (.iastore, 1) := by decide +kernel
theorem qd_K_setSuper_44 : decode qb_K_setSuper 44 = .ok (.aload_n 0, 1) := by decide +kernel
theorem qd_K_setSuper_45 : decode qb_K_setSuper 45 = .ok (.invokevirtual 50, 3) := by decide +kernel
theorem qd_K_setSuper_48 : decode qb_K_setSuper 48 = .ok (.return_, 1) := by decide +kernel
theorem qd_K_slotTowards_0 : decode qb_K_slotTowards 0 = .ok (.iconst 0, 1) := by decide +kernel
theorem qd_K_slotTowards_1 : decode qb_K_slotTowards 1 = .ok (.istore_n 3, 1) := by decide +kernel
theorem qd_K_slotTowards_2 : decode qb_K_slotTowards 2 = .ok (.iload_n 3, 1) := by decide +kernel
theorem qd_K_slotTowards_3 : decode qb_K_slotTowards 3 = .ok (.iconst 3, 1) := by decide +kernel
theorem qd_K_slotTowards_4 : decode qb_K_slotTowards 4 = .ok (.if_icmp .ge 25, 3) := by decide +kernel
theorem qd_K_slotTowards_7 : decode qb_K_slotTowards 7 = .ok (.aload_n 0, 1) := by decide +kernel
theorem qd_K_slotTowards_8 : decode qb_K_slotTowards 8 = .ok (.aload_n 0, 1) := by decide +kernel
theorem qd_K_slotTowards_9 : decode qb_K_slotTowards 9 = .ok (.iload_n 1, 1) := by decide +kernel
theorem qd_K_slotTowards_10 : decode qb_K_slotTowards 10 = .ok (.iload_n 3, 1) := by decide +kernel
theorem qd_K_slotTowards_11 : decode qb_K_slotTowards 11 = .ok (.invokevirtual 61, 3) := by decide +kernel
theorem qd_K_slotTowards_14 : decode qb_K_slotTowards 14 = .ok (.iload_n 2, 1) := by decide +kernel
theorem qd_K_slotTowards_15 : decode qb_K_slotTowards 15 = .ok (.invokevirtual 64, 3) := by decide +kernel
theorem qd_K_slotTowards_18 : decode qb_K_slotTowards 18 = .ok (.ifCond .eq 5, 3) := by decide +kernel
theorem qd_K_slotTowards_21 : decode qb_K_slotTowards 21 = .ok (.iload_n 3, 1) := by decide +kernel
theorem qd_K_slotTowards_22 : decode qb_K_slotTowards 22 = .ok (.ireturn, 1) := by decide +kernel
theorem qd_K_slotTowards_23 : decode qb_K_slotTowards 23 = .ok (.iinc 3 1, 3) := by decide +kernel
theorem qd_K_slotTowards_26 : decode qb_K_slotTowards 26 = .ok (.goto (-24), 3) := by decide +kernel
theorem qd_K_slotTowards_29 : decode qb_K_slotTowards 29 = .ok (.iconst (-1), 1) := by decide +kernel
theorem qd_K_slotTowards_30 : decode qb_K_slotTowards 30 = .ok (.ireturn, 1) := by decide +kernel
theorem qd_K_nameSort_0 : decode qb_K_nameSort 0 = .ok (.iload_n 1, 1) := by decide +kernel
theorem qd_K_nameSort_1 : decode qb_K_nameSort 1 = .ok (.ifCond .lt 24, 3) := by decide +kernel
theorem qd_K_nameSort_4 : decode qb_K_nameSort 4 = .ok (.iload_n 1, 1) := by decide +kernel
theorem qd_K_nameSort_5 : decode qb_K_nameSort 5 = .ok (.aload_n 0, 1) := by decide +kernel
theorem qd_K_nameSort_6 : decode qb_K_nameSort 6 = .ok (.getfield 42, 3) := by decide +kernel
theorem qd_K_nameSort_9 : decode qb_K_nameSort 9 = .ok (.if_icmp .ge 16, 3) := by decide +kernel
theorem qd_K_nameSort_12 : decode qb_K_nameSort 12 = .ok (.aload_n 0, 1) := by decide +kernel
theorem qd_K_nameSort_13 : decode qb_K_nameSort 13 = .ok (.getfield 15, 3) := by decide +kernel
theorem qd_K_nameSort_16 : decode qb_K_nameSort 16 = .ok (.iload_n 1, 1) := by decide +kernel
theorem qd_K_nameSort_17 : decode qb_K_nameSort 17 = .ok (.iaload, 1) := by decide +kernel
theorem qd_K_nameSort_18 : decode qb_K_nameSort 18 = .ok (.ifCond .le 7, 3) := by decide +kernel
theorem qd_K_nameSort_21 : decode qb_K_nameSort 21 = .ok (.iconst 1, 1) := by decide +kernel
theorem qd_K_nameSort_22 : decode qb_K_nameSort 22 = .ok (.goto 4, 3) := by decide +kernel
theorem qd_K_nameSort_25 : decode qb_K_nameSort 25 = .ok (.iconst 0, 1) := by decide +kernel
theorem qd_K_nameSort_26 : decode qb_K_nameSort 26 = .ok (.ireturn, 1) := by decide +kernel
theorem qd_K_putInCount_0 : decode qb_K_putInCount 0 = .ok (.iconst 0, 1) := by decide +kernel
theorem qd_K_putInCount_1 : decode qb_K_putInCount 1 = .ok (.istore_n 2, 1) := by decide +kernel
theorem qd_K_putInCount_2 : decode qb_K_putInCount 2 = .ok (.iconst 0, 1) := by decide +kernel
theorem qd_K_putInCount_3 : decode qb_K_putInCount 3 = .ok (.istore_n 3, 1) := by decide +kernel
theorem qd_K_putInCount_4 : decode qb_K_putInCount 4 = .ok (.iload_n 3, 1) := by decide +kernel
theorem qd_K_putInCount_5 : decode qb_K_putInCount 5 = .ok (.iconst 3, 1) := by decide +kernel
theorem qd_K_putInCount_6 : decode qb_K_putInCount 6 = .ok (.if_icmp .ge 21, 3) := by decide +kernel
theorem qd_K_putInCount_9 : decode qb_K_putInCount 9 = .ok (.aload_n 0, 1) := by decide +kernel
theorem qd_K_putInCount_10 : decode qb_K_putInCount 10 = .ok (.iload_n 1, 1) := by decide +kernel
theorem qd_K_putInCount_11 : decode qb_K_putInCount 11 = .ok (.iload_n 3, 1) := by decide +kernel
theorem qd_K_putInCount_12 : decode qb_K_putInCount 12 = .ok (.invokevirtual 57, 3) := by decide +kernel
theorem qd_K_putInCount_15 : decode qb_K_putInCount 15 = .ok (.ifCond .le 6, 3) := by decide +kernel
theorem qd_K_putInCount_18 : decode qb_K_putInCount 18 = .ok (.iinc 2 1, 3) := by decide +kernel
theorem qd_K_putInCount_21 : decode qb_K_putInCount 21 = .ok (.iinc 3 1, 3) := by decide +kernel
theorem qd_K_putInCount_24 : decode qb_K_putInCount 24 = .ok (.goto (-20), 3) := by decide +kernel
theorem qd_K_putInCount_27 : decode qb_K_putInCount 27 = .ok (.iload_n 2, 1) := by decide +kernel
theorem qd_K_putInCount_28 : decode qb_K_putInCount 28 = .ok (.ireturn, 1) := by decide +kernel
theorem qd_K_hasParameter_0 : decode qb_K_hasParameter 0 = .ok (.iload_n 1, 1) := by decide +kernel
theorem qd_K_hasParameter_1 : decode qb_K_hasParameter 1 = .ok (.ifCond .lt 29, 3) := by decide +kernel
theorem qd_K_hasParameter_4 : decode qb_K_hasParameter 4 = .ok (.iload_n 1, 1) := by decide +kernel
theorem qd_K_hasParameter_5 : decode qb_K_hasParameter 5 = .ok (.aload_n 0, 1) := by decide +kernel
theorem qd_K_hasParameter_6 : decode qb_K_hasParameter 6 = .ok (.getfield 42, 3) := by decide +kernel
theorem qd_K_hasParameter_9 : decode qb_K_hasParameter 9 = .ok (.if_icmp .ge 21, 3) := by decide +kernel
theorem qd_K_hasParameter_12 : decode qb_K_hasParameter 12 = .ok (.iload_n 2, 1) := by decide +kernel
theorem qd_K_hasParameter_13 : decode qb_K_hasParameter 13 = .ok (.ifCond .lt 17, 3) := by decide +kernel
theorem qd_K_hasParameter_16 : decode qb_K_hasParameter 16 = .ok (.iload_n 2, 1) := by decide +kernel
theorem qd_K_hasParameter_17 : decode qb_K_hasParameter 17 = .ok (.aload_n 0, 1) := by decide +kernel
theorem qd_K_hasParameter_18 : decode qb_K_hasParameter 18 = .ok (.getfield 15, 3) := by decide +kernel
theorem qd_K_hasParameter_21 : decode qb_K_hasParameter 21 = .ok (.iload_n 1, 1) := by decide +kernel
theorem qd_K_hasParameter_22 : decode qb_K_hasParameter 22 = .ok (.iaload, 1) := by decide +kernel
theorem qd_K_hasParameter_23 : decode qb_K_hasParameter 23 = .ok (.if_icmp .ge 7, 3) := by decide +kernel
theorem qd_K_hasParameter_26 : decode qb_K_hasParameter 26 = .ok (.iconst 1, 1) := by decide +kernel
theorem qd_K_hasParameter_27 : decode qb_K_hasParameter 27 = .ok (.goto 4, 3) := by decide +kernel
theorem qd_K_hasParameter_30 : decode qb_K_hasParameter 30 = .ok (.iconst 0, 1) := by decide +kernel
theorem qd_K_hasParameter_31 : decode qb_K_hasParameter 31 = .ok (.ireturn, 1) := by decide +kernel
theorem qd_K_boundCount_0 : decode qb_K_boundCount 0 = .ok (.iload_n 1, 1) := by decide +kernel
theorem qd_K_boundCount_1 : decode qb_K_boundCount 1 = .ok (.ifCond .lt 29, 3) := by decide +kernel
theorem qd_K_boundCount_4 : decode qb_K_boundCount 4 = .ok (.iload_n 1, 1) := by decide +kernel
theorem qd_K_boundCount_5 : decode qb_K_boundCount 5 = .ok (.aload_n 0, 1) := by decide +kernel
theorem qd_K_boundCount_6 : decode qb_K_boundCount 6 = .ok (.getfield 42, 3) := by decide +kernel
theorem qd_K_boundCount_9 : decode qb_K_boundCount 9 = .ok (.if_icmp .ge 21, 3) := by decide +kernel
theorem qd_K_boundCount_12 : decode qb_K_boundCount 12 = .ok (.iload_n 2, 1) := by decide +kernel
theorem qd_K_boundCount_13 : decode qb_K_boundCount 13 = .ok (.ifCond .lt 17, 3) := by decide +kernel
theorem qd_K_boundCount_16 : decode qb_K_boundCount 16 = .ok (.iload_n 2, 1) := by decide +kernel
theorem qd_K_boundCount_17 : decode qb_K_boundCount 17 = .ok (.aload_n 0, 1) := by decide +kernel
theorem qd_K_boundCount_18 : decode qb_K_boundCount 18 = .ok (.getfield 15, 3) := by decide +kernel
theorem qd_K_boundCount_21 : decode qb_K_boundCount 21 = .ok (.iload_n 1, 1) := by decide +kernel
theorem qd_K_boundCount_22 : decode qb_K_boundCount 22 = .ok (.iaload, 1) := by decide +kernel
theorem qd_K_boundCount_23 : decode qb_K_boundCount 23 = .ok (.if_icmp .ge 7, 3) := by decide +kernel
theorem qd_K_boundCount_26 : decode qb_K_boundCount 26 = .ok (.iconst 1, 1) := by decide +kernel
theorem qd_K_boundCount_27 : decode qb_K_boundCount 27 = .ok (.goto 4, 3) := by decide +kernel
theorem qd_K_boundCount_30 : decode qb_K_boundCount 30 = .ok (.iconst 0, 1) := by decide +kernel
theorem qd_K_boundCount_31 : decode qb_K_boundCount 31 = .ok (.istore_n 3, 1) := by decide +kernel
theorem qd_K_boundCount_32 : decode qb_K_boundCount 32 = .ok (.iload_n 3, 1) := by decide +kernel
theorem qd_K_boundCount_33 : decode qb_K_boundCount 33 = .ok (.ifCond .eq 16, 3) := by decide +kernel
theorem qd_K_boundCount_36 : decode qb_K_boundCount 36 = .ok (.aload_n 0, 1) := by decide +kernel
theorem qd_K_boundCount_37 : decode qb_K_boundCount 37 = .ok (.getfield 27, 3) := by decide +kernel
theorem qd_K_boundCount_40 : decode qb_K_boundCount 40 = .ok (.iload_n 1, 1) := by decide +kernel
theorem qd_K_boundCount_41 : decode qb_K_boundCount 41 = .ok (.iconst 2, 1) := by decide +kernel
theorem qd_K_boundCount_42 : decode qb_K_boundCount 42 = .ok (.imul, 1) := by decide +kernel
theorem qd_K_boundCount_43 : decode qb_K_boundCount 43 = .ok (.iload_n 2, 1) := by decide +kernel
theorem qd_K_boundCount_44 : decode qb_K_boundCount 44 = .ok (.iadd, 1) := by decide +kernel
theorem qd_K_boundCount_45 : decode qb_K_boundCount 45 = .ok (.iaload, 1) := by decide +kernel
theorem qd_K_boundCount_46 : decode qb_K_boundCount 46 = .ok (.goto 4, 3) := by decide +kernel
theorem qd_K_boundCount_49 : decode qb_K_boundCount 49 = .ok (.iconst 0, 1) := by decide +kernel
theorem qd_K_boundCount_50 : decode qb_K_boundCount 50 = .ok (.ireturn, 1) := by decide +kernel
theorem qd_K_addBound_0 : decode qb_K_addBound 0 = .ok (.aload_n 0, 1) := by decide +kernel
theorem qd_K_addBound_1 : decode qb_K_addBound 1 = .ok (.iload_n 1, 1) := by decide +kernel
theorem qd_K_addBound_2 : decode qb_K_addBound 2 = .ok (.iload_n 2, 1) := by decide +kernel
theorem qd_K_addBound_3 : decode qb_K_addBound 3 = .ok (.invokevirtual 71, 3) := by decide +kernel
theorem qd_K_addBound_6 : decode qb_K_addBound 6 = .ok (.istore 4, 2) := by decide +kernel
theorem qd_K_addBound_8 : decode qb_K_addBound 8 = .ok (.aload_n 0, 1) := by decide +kernel
theorem qd_K_addBound_9 : decode qb_K_addBound 9 = .ok (.iload_n 1, 1) := by decide +kernel
theorem qd_K_addBound_10 : decode qb_K_addBound 10 = .ok (.iload_n 2, 1) := by decide +kernel
theorem qd_K_addBound_11 : decode qb_K_addBound 11 = .ok (.invokevirtual 74, 3) := by decide +kernel
theorem qd_K_addBound_14 : decode qb_K_addBound 14 = .ok (.ifCond .eq 9, 3) := by decide +kernel
theorem qd_K_addBound_17 : decode qb_K_addBound 17 = .ok (.iload 4, 2) := by decide +kernel
theorem qd_K_addBound_19 : decode qb_K_addBound 19 = .ok (.iconst 2, 1) := by decide +kernel
theorem qd_K_addBound_20 : decode qb_K_addBound 20 = .ok (.if_icmp .lt 6, 3) := by decide +kernel
theorem qd_K_addBound_23 : decode qb_K_addBound 23 = .ok (.bipush (-3), 2) := by decide +kernel
theorem qd_K_addBound_25 : decode qb_K_addBound 25 = .ok (.ireturn, 1) := by decide +kernel
theorem qd_K_addBound_26 : decode qb_K_addBound 26 = .ok (.aload_n 0, 1) := by decide +kernel
theorem qd_K_addBound_27 : decode qb_K_addBound 27 = .ok (.getfield 24, 3) := by decide +kernel
theorem qd_K_addBound_30 : decode qb_K_addBound 30 = .ok (.iload_n 1, 1) := by decide +kernel
theorem qd_K_addBound_31 : decode qb_K_addBound 31 = .ok (.iconst 2, 1) := by decide +kernel
theorem qd_K_addBound_32 : decode qb_K_addBound 32 = .ok (.imul, 1) := by decide +kernel
theorem qd_K_addBound_33 : decode qb_K_addBound 33 = .ok (.iload_n 2, 1) := by decide +kernel
theorem qd_K_addBound_34 : decode qb_K_addBound 34 = .ok (.iadd, 1) := by decide +kernel
theorem qd_K_addBound_35 : decode qb_K_addBound 35 = .ok (.iconst 2, 1) := by decide +kernel
theorem qd_K_addBound_36 : decode qb_K_addBound 36 = .ok (.imul, 1) := by decide +kernel
theorem qd_K_addBound_37 : decode qb_K_addBound 37 = .ok (.iload 4, 2) := by decide +kernel
theorem qd_K_addBound_39 : decode qb_K_addBound 39 = .ok (.iadd, 1) := by decide +kernel
theorem qd_K_addBound_40 : decode qb_K_addBound 40 = .ok (.iload_n 3, 1) := by decide +kernel
theorem qd_K_addBound_41 : decode qb_K_addBound 41 = .ok (.iastore, 1) := by decide +kernel
theorem qd_K_addBound_42 : decode qb_K_addBound 42 = .ok (.aload_n 0, 1) := by decide +kernel
theorem qd_K_addBound_43 : decode qb_K_addBound 43 = .ok (.getfield 27, 3) := by decide +kernel
theorem qd_K_addBound_46 : decode qb_K_addBound 46 = .ok (.iload_n 1, 1) := by decide +kernel
theorem qd_K_addBound_47 : decode qb_K_addBound 47 = .ok (.iconst 2, 1) := by decide +kernel
theorem qd_K_addBound_48 : decode qb_K_addBound 48 = .ok (.imul, 1) := by decide +kernel
theorem qd_K_addBound_49 : decode qb_K_addBound 49 = .ok (.iload_n 2, 1) := by decide +kernel
theorem qd_K_addBound_50 : decode qb_K_addBound 50 = .ok (.iadd, 1) := by decide +kernel
theorem qd_K_addBound_51 : decode qb_K_addBound 51 = .ok (.iload 4, 2) := by decide +kernel
theorem qd_K_addBound_53 : decode qb_K_addBound 53 = .ok (.iconst 1, 1) := by decide +kernel
theorem qd_K_addBound_54 : decode qb_K_addBound 54 = .ok (.iadd, 1) := by decide +kernel
theorem qd_K_addBound_55 : decode qb_K_addBound 55 = .ok (.iastore, 1) := by decide +kernel
theorem qd_K_addBound_56 : decode qb_K_addBound 56 = .ok (.iload 4, 2) := by decide +kernel
theorem qd_K_addBound_58 : decode qb_K_addBound 58 = .ok (.iconst 1, 1) := by decide +kernel
theorem qd_K_addBound_59 : decode qb_K_addBound 59 = .ok (.iadd, 1) := by decide +kernel
theorem qd_K_addBound_60 : decode qb_K_addBound 60 = .ok (.ireturn, 1) := by decide +kernel
theorem qd_K_parametersOf_0 : decode qb_K_parametersOf 0 = .ok (.iload_n 1, 1) := by decide +kernel
theorem qd_K_parametersOf_1 : decode qb_K_parametersOf 1 = .ok (.ifCond .lt 20, 3) := by decide +kernel
theorem qd_K_parametersOf_4 : decode qb_K_parametersOf 4 = .ok (.iload_n 1, 1) := by decide +kernel
theorem qd_K_parametersOf_5 : decode qb_K_parametersOf 5 = .ok (.aload_n 0, 1) := by decide +kernel
theorem qd_K_parametersOf_6 : decode qb_K_parametersOf 6 = .ok (.getfield 42, 3) := by decide +kernel
theorem qd_K_parametersOf_9 : decode qb_K_parametersOf 9 = .ok (.if_icmp .ge 12, 3) := by decide +kernel
theorem qd_K_parametersOf_12 : decode qb_K_parametersOf 12 = .ok (.aload_n 0, 1) := by decide +kernel
theorem qd_K_parametersOf_13 : decode qb_K_parametersOf 13 = .ok (.getfield 15, 3) := by decide +kernel
theorem qd_K_parametersOf_16 : decode qb_K_parametersOf 16 = .ok (.iload_n 1, 1) := by decide +kernel
theorem qd_K_parametersOf_17 : decode qb_K_parametersOf 17 = .ok (.iaload, 1) := by decide +kernel
theorem qd_K_parametersOf_18 : decode qb_K_parametersOf 18 = .ok (.goto 4, 3) := by decide +kernel
theorem qd_K_parametersOf_21 : decode qb_K_parametersOf 21 = .ok (.iconst 0, 1) := by decide +kernel
theorem qd_K_parametersOf_22 : decode qb_K_parametersOf 22 = .ok (.ireturn, 1) := by decide +kernel
theorem qd_K_heirCount_0 : decode qb_K_heirCount 0 = .ok (.iconst 0, 1) := by decide +kernel
theorem qd_K_heirCount_1 : decode qb_K_heirCount 1 = .ok (.istore_n 2, 1) := by decide +kernel
theorem qd_K_heirCount_2 : decode qb_K_heirCount 2 = .ok (.iconst 0, 1) := by decide +kernel
theorem qd_K_heirCount_3 : decode qb_K_heirCount 3 = .ok (.istore_n 3, 1) := by decide +kernel
theorem qd_K_heirCount_4 : decode qb_K_heirCount 4 = .ok (.iload_n 3, 1) := by decide +kernel
theorem qd_K_heirCount_5 : decode qb_K_heirCount 5 = .ok (.aload_n 0, 1) := by decide +kernel
theorem qd_K_heirCount_6 : decode qb_K_heirCount 6 = .ok (.getfield 42, 3) := by decide +kernel
theorem qd_K_heirCount_9 : decode qb_K_heirCount 9 = .ok (.if_icmp .ge 21, 3) := by decide +kernel
theorem qd_K_heirCount_12 : decode qb_K_heirCount 12 = .ok (.aload_n 0, 1) := by decide +kernel
theorem qd_K_heirCount_13 : decode qb_K_heirCount 13 = .ok (.iload_n 3, 1) := by decide +kernel
theorem qd_K_heirCount_14 : decode qb_K_heirCount 14 = .ok (.iload_n 1, 1) := by decide +kernel
theorem qd_K_heirCount_15 : decode qb_K_heirCount 15 = .ok (.invokevirtual 68, 3) := by decide +kernel
theorem qd_K_heirCount_18 : decode qb_K_heirCount 18 = .ok (.ifCond .eq 6, 3) := by decide +kernel
theorem qd_K_heirCount_21 : decode qb_K_heirCount 21 = .ok (.iinc 2 1, 3) := by decide +kernel
theorem qd_K_heirCount_24 : decode qb_K_heirCount 24 = .ok (.iinc 3 1, 3) := by decide +kernel
theorem qd_K_heirCount_27 : decode qb_K_heirCount 27 = .ok (.goto (-23), 3) := by decide +kernel
theorem qd_K_heirCount_30 : decode qb_K_heirCount 30 = .ok (.iload_n 2, 1) := by decide +kernel
theorem qd_K_heirCount_31 : decode qb_K_heirCount 31 = .ok (.ireturn, 1) := by decide +kernel
theorem qd_K_underCount_0 : decode qb_K_underCount 0 = .ok (.iconst 0, 1) := by decide +kernel
theorem qd_K_underCount_1 : decode qb_K_underCount 1 = .ok (.istore_n 2, 1) := by decide +kernel
theorem qd_K_underCount_2 : decode qb_K_underCount 2 = .ok (.iconst 0, 1) := by decide +kernel
theorem qd_K_underCount_3 : decode qb_K_underCount 3 = .ok (.istore_n 3, 1) := by decide +kernel
theorem qd_K_underCount_4 : decode qb_K_underCount 4 = .ok (.iload_n 3, 1) := by decide +kernel
theorem qd_K_underCount_5 : decode qb_K_underCount 5 = .ok (.aload_n 0, 1) := by decide +kernel
theorem qd_K_underCount_6 : decode qb_K_underCount 6 = .ok (.getfield 42, 3) := by decide +kernel
theorem qd_K_underCount_9 : decode qb_K_underCount 9 = .ok (.if_icmp .ge 21, 3) := by decide +kernel
theorem qd_K_underCount_12 : decode qb_K_underCount 12 = .ok (.aload_n 0, 1) := by decide +kernel
theorem qd_K_underCount_13 : decode qb_K_underCount 13 = .ok (.iload_n 3, 1) := by decide +kernel
theorem qd_K_underCount_14 : decode qb_K_underCount 14 = .ok (.iload_n 1, 1) := by decide +kernel
theorem qd_K_underCount_15 : decode qb_K_underCount 15 = .ok (.invokevirtual 64, 3) := by decide +kernel
theorem qd_K_underCount_18 : decode qb_K_underCount 18 = .ok (.ifCond .eq 6, 3) := by decide +kernel
theorem qd_K_underCount_21 : decode qb_K_underCount 21 = .ok (.iinc 2 1, 3) := by decide +kernel
theorem qd_K_underCount_24 : decode qb_K_underCount 24 = .ok (.iinc 3 1, 3) := by decide +kernel
theorem qd_K_underCount_27 : decode qb_K_underCount 27 = .ok (.goto (-23), 3) := by decide +kernel
theorem qd_K_underCount_30 : decode qb_K_underCount 30 = .ok (.iload_n 2, 1) := by decide +kernel
theorem qd_K_underCount_31 : decode qb_K_underCount 31 = .ok (.ireturn, 1) := by decide +kernel
theorem qd_K_boundAt_0 : decode qb_K_boundAt 0 = .ok (.iload_n 3, 1) := by decide +kernel
theorem qd_K_boundAt_1 : decode qb_K_boundAt 1 = .ok (.ifCond .lt 13, 3) := by decide +kernel
theorem qd_K_boundAt_4 : decode qb_K_boundAt 4 = .ok (.iload_n 3, 1) := by decide +kernel
theorem qd_K_boundAt_5 : decode qb_K_boundAt 5 = .ok (.aload_n 0, 1) := by decide +kernel
theorem qd_K_boundAt_6 : decode qb_K_boundAt 6 = .ok (.iload_n 1, 1) := by decide +kernel
theorem qd_K_boundAt_7 : decode qb_K_boundAt 7 = .ok (.iload_n 2, 1) := by decide +kernel
theorem qd_K_boundAt_8 : decode qb_K_boundAt 8 = .ok (.invokevirtual 71, 3) := by decide +kernel
theorem qd_K_boundAt_11 : decode qb_K_boundAt 11 = .ok (.if_icmp .lt 5, 3) := by decide +kernel
theorem qd_K_boundAt_14 : decode qb_K_boundAt 14 = .ok (.iconst 0, 1) := by decide +kernel
theorem qd_K_boundAt_15 : decode qb_K_boundAt 15 = .ok (.ireturn, 1) := by decide +kernel
theorem qd_K_boundAt_16 : decode qb_K_boundAt 16 = .ok (.aload_n 0, 1) := by decide +kernel
theorem qd_K_boundAt_17 : decode qb_K_boundAt 17 = .ok (.getfield 24, 3) := by decide +kernel
theorem qd_K_boundAt_20 : decode qb_K_boundAt 20 = .ok (.iload_n 1, 1) := by decide +kernel
theorem qd_K_boundAt_21 : decode qb_K_boundAt 21 = .ok (.iconst 2, 1) := by decide +kernel
theorem qd_K_boundAt_22 : decode qb_K_boundAt 22 = .ok (.imul, 1) := by decide +kernel
theorem qd_K_boundAt_23 : decode qb_K_boundAt 23 = .ok (.iload_n 2, 1) := by decide +kernel
theorem qd_K_boundAt_24 : decode qb_K_boundAt 24 = .ok (.iadd, 1) := by decide +kernel
theorem qd_K_boundAt_25 : decode qb_K_boundAt 25 = .ok (.iconst 2, 1) := by decide +kernel
theorem qd_K_boundAt_26 : decode qb_K_boundAt 26 = .ok (.imul, 1) := by decide +kernel
theorem qd_K_boundAt_27 : decode qb_K_boundAt 27 = .ok (.iload_n 3, 1) := by decide +kernel
theorem qd_K_boundAt_28 : decode qb_K_boundAt 28 = .ok (.iadd, 1) := by decide +kernel
theorem qd_K_boundAt_29 : decode qb_K_boundAt 29 = .ok (.iaload, 1) := by decide +kernel
theorem qd_K_boundAt_30 : decode qb_K_boundAt 30 = .ok (.ireturn, 1) := by decide +kernel
