theorem qd_O_init_0 : decode qb_O_init 0 = .ok (.aload_n 0, 1) := by decide +kernel
theorem qd_O_init_1 : decode qb_O_init 1 = .ok (.invokespecial 3, 3) := by decide +kernel
theorem qd_O_init_4 : decode qb_O_init 4 = .ok (.aload_n 0, 1) := by decide +kernel
theorem qd_O_init_5 : decode qb_O_init 5 = .ok (.aload_n 1, 1) := by decide +kernel
theorem qd_O_init_6 : decode qb_O_init 6 = .ok (.putfield 9, 3) := by decide +kernel
theorem qd_O_init_9 : decode qb_O_init 9 = .ok (.aload_n 0, 1) := by decide +kernel
theorem qd_O_init_10 : decode qb_O_init 10 = .ok (.aload_n 2, 1) := by decide +kernel
theorem qd_O_init_11 : decode qb_O_init 11 = .ok (.putfield 15, 3) := by decide +kernel
theorem qd_O_init_14 : decode qb_O_init 14 = .ok (.aload_n 0, 1) := by decide +kernel
theorem qd_O_init_15 : decode qb_O_init 15 = .ok (.aload_n 3, 1) := by decide +kernel
theorem qd_O_init_16 : decode qb_O_init 16 = .ok (.putfield 19, 3) := by decide +kernel
theorem qd_O_init_19 : decode qb_O_init 19 = .ok (.return_, 1) := by decide +kernel
theorem qd_O_isOne_0 : decode qb_O_isOne 0 = .ok (.iload_n 3, 1) := by decide +kernel
theorem qd_O_isOne_1 : decode qb_O_isOne 1 = .ok (.ifCond .le 11, 3) := by decide +kernel
theorem qd_O_isOne_4 : decode qb_O_isOne 4 = .ok (.iload_n 1, 1) := by decide +kernel
theorem qd_O_isOne_5 : decode qb_O_isOne 5 = .ok (.ifCond .lt 7, 3) := by decide +kernel
theorem qd_O_isOne_8 : decode qb_O_isOne 8 = .ok (.iload_n 2, 1) := by decide +kernel
theorem qd_O_isOne_9 : decode qb_O_isOne 9 = .ok (.ifCond .ge 5, 3) := by decide +kernel
theorem qd_O_isOne_12 : decode qb_O_isOne 12 = .ok (.iconst 0, 1) := by decide +kernel
theorem qd_O_isOne_13 : decode qb_O_isOne 13 = .ok (.ireturn, 1) := by decide +kernel
theorem qd_O_isOne_14 : decode qb_O_isOne 14 = .ok (.iload_n 1, 1) := by decide +kernel
theorem qd_O_isOne_15 : decode qb_O_isOne 15 = .ok (.iload_n 2, 1) := by decide +kernel
theorem qd_O_isOne_16 : decode qb_O_isOne 16 = .ok (.if_icmp .ne 5, 3) := by decide +kernel
theorem qd_O_isOne_19 : decode qb_O_isOne 19 = .ok (.iconst 1, 1) := by decide +kernel
theorem qd_O_isOne_20 : decode qb_O_isOne 20 = .ok (.ireturn, 1) := by decide +kernel
theorem qd_O_isOne_21 : decode qb_O_isOne 21 = .ok (.iload_n 1, 1) := by decide +kernel
theorem qd_O_isOne_22 : decode qb_O_isOne 22 = .ok (.iconst 1, 1) := by decide +kernel
theorem qd_O_isOne_23 : decode qb_O_isOne 23 = .ok (.if_icmp .eq 8, 3) := by decide +kernel
theorem qd_O_isOne_26 : decode qb_O_isOne 26 = .ok (.iload_n 2, 1) := by decide +kernel
theorem qd_O_isOne_27 : decode qb_O_isOne 27 = .ok (.iconst 1, 1) := by decide +kernel
theorem qd_O_isOne_28 : decode qb_O_isOne 28 = .ok (.if_icmp .ne 5, 3) := by decide +kernel
theorem qd_O_isOne_31 : decode qb_O_isOne 31 = .ok (.iconst 0, 1) := by decide +kernel
theorem qd_O_isOne_32 : decode qb_O_isOne 32 = .ok (.ireturn, 1) := by decide +kernel
theorem qd_O_isOne_33 : decode qb_O_isOne 33 = .ok (.iload_n 1, 1) := by decide +kernel
theorem qd_O_isOne_34 : decode qb_O_isOne 34 = .ok (.iconst 2, 1) := by decide +kernel
theorem qd_O_isOne_35 : decode qb_O_isOne 35 = .ok (.if_icmp .eq 7, 3) := by decide +kernel
theorem qd_O_isOne_38 : decode qb_O_isOne 38 = .ok (.iload_n 2, 1) := by decide +kernel
theorem qd_O_isOne_39 : decode qb_O_isOne 39 = .ok (.ifCond .ne 5, 3) := by decide +kernel
theorem qd_O_isOne_42 : decode qb_O_isOne 42 = .ok (.iconst 1, 1) := by decide +kernel
theorem qd_O_isOne_43 : decode qb_O_isOne 43 = .ok (.ireturn, 1) := by decide +kernel
theorem qd_O_isOne_44 : decode qb_O_isOne 44 = .ok (.aload_n 0, 1) := by decide +kernel
theorem qd_O_isOne_45 : decode qb_O_isOne 45 = .ok (.getfield 15, 3) := by decide +kernel
theorem qd_O_isOne_48 : decode qb_O_isOne 48 = .ok (.invokevirtual 23, 3) := by decide +kernel
theorem qd_O_isOne_51 : decode qb_O_isOne 51 = .ok (.istore 4, 2) := by decide +kernel
theorem qd_O_isOne_53 : decode qb_O_isOne 53 = .ok (.aload_n 0, 1) := by decide +kernel
theorem qd_O_isOne_54 : decode qb_O_isOne 54 = .ok (.iload_n 1, 1) := by decide +kernel
theorem qd_O_isOne_55 : decode qb_O_isOne 55 = .ok (.iload_n 2, 1) := by decide +kernel
theorem qd_O_isOne_56 : decode qb_O_isOne 56 = .ok (.iload_n 3, 1) := by decide +kernel
theorem qd_O_isOne_57 : decode qb_O_isOne 57 = .ok (.iconst 1, 1) := by decide +kernel
theorem qd_O_isOne_58 : decode qb_O_isOne 58 = .ok (.isub, 1) := by decide +kernel
theorem qd_O_isOne_59 : decode qb_O_isOne 59 = .ok (.invokevirtual 29, 3) := by decide +kernel
theorem qd_O_isOne_62 : decode qb_O_isOne 62 = .ok (.istore 5, 2) := by decide +kernel
theorem qd_O_isOne_64 : decode qb_O_isOne 64 = .ok (.aload_n 0, 1) := by decide +kernel
theorem qd_O_isOne_65 : decode qb_O_isOne 65 = .ok (.getfield 15, 3) := by decide +kernel
theorem qd_O_isOne_68 : decode qb_O_isOne 68 = .ok (.iload 4, 2) := by decide +kernel
theorem qd_O_isOne_70 : decode qb_O_isOne 70 = .ok (.invokevirtual 33, 3) := by decide +kernel
theorem qd_O_isOne_73 : decode qb_O_isOne 73 = .ok (.iload 5, 2) := by decide +kernel
theorem qd_O_isOne_75 : decode qb_O_isOne 75 = .ok (.ireturn, 1) := by decide +kernel
theorem qd_O_isByParts_0 : decode qb_O_isByParts 0 = .ok (.aload_n 0, 1) := by decide +kernel
theorem qd_O_isByParts_1 : decode qb_O_isByParts 1 = .ok (.getfield 15, 3) := by decide +kernel
theorem qd_O_isByParts_4 : decode qb_O_isByParts 4 = .ok (.iload_n 1, 1) := by decide +kernel
theorem qd_O_isByParts_5 : decode qb_O_isByParts 5 = .ok (.invokevirtual 37, 3) := by decide +kernel
theorem qd_O_isByParts_8 : decode qb_O_isByParts 8 = .ok (.ifCond .eq 15, 3) := by decide +kernel
theorem qd_O_isByParts_11 : decode qb_O_isByParts 11 = .ok (.aload_n 0, 1) := by decide +kernel
theorem qd_O_isByParts_12 : decode qb_O_isByParts 12 = .ok (.iload_n 1, 1) := by decide +kernel
theorem qd_O_isByParts_13 : decode qb_O_isByParts 13 = .ok (.iload_n 2, 1) := by decide +kernel
theorem qd_O_isByParts_14 : decode qb_O_isByParts 14 = .ok (.iload_n 3, 1) := by decide +kernel
theorem qd_O_isByParts_15 : decode qb_O_isByParts 15 = .ok (.invokevirtual 41, 3) := by decide +kernel
theorem qd_O_isByParts_18 : decode qb_O_isByParts 18 = .ok (.ifCond .eq 5, 3) := by decide +kernel
theorem qd_O_isByParts_21 : decode qb_O_isByParts 21 = .ok (.iconst 1, 1) := by decide +kernel
theorem qd_O_isByParts_22 : decode qb_O_isByParts 22 = .ok (.ireturn, 1) := by decide +kernel
theorem qd_O_isByParts_23 : decode qb_O_isByParts 23 = .ok (.aload_n 0, 1) := by decide +kernel
theorem qd_O_isByParts_24 : decode qb_O_isByParts 24 = .ok (.getfield 15, 3) := by decide +kernel
theorem qd_O_isByParts_27 : decode qb_O_isByParts 27 = .ok (.iload_n 2, 1) := by decide +kernel
theorem qd_O_isByParts_28 : decode qb_O_isByParts 28 = .ok (.invokevirtual 44, 3) := by decide +kernel
theorem qd_O_isByParts_31 : decode qb_O_isByParts 31 = .ok (.iconst (-1), 1) := by decide +kernel
theorem qd_O_isByParts_32 : decode qb_O_isByParts 32 = .ok (.if_icmp .eq 22, 3) := by decide +kernel
theorem qd_O_isByParts_35 : decode qb_O_isByParts 35 = .ok (.aload_n 0, 1) := by decide +kernel
theorem qd_O_isByParts_36 : decode qb_O_isByParts 36 = .ok (.iload_n 1, 1) := by decide +kernel
theorem qd_O_isByParts_37 : decode qb_O_isByParts 37 = .ok (.aload_n 0, 1) := by decide +kernel
theorem qd_O_isByParts_38 : decode qb_O_isByParts 38 = .ok (.getfield 15, 3) := by decide +kernel
theorem qd_O_isByParts_41 : decode qb_O_isByParts 41 = .ok (.iload_n 2, 1) := by decide +kernel
theorem qd_O_isByParts_42 : decode qb_O_isByParts 42 = .ok (.invokevirtual 44, 3) := by decide +kernel
theorem qd_O_isByParts_45 : decode qb_O_isByParts 45 = .ok (.iload_n 3, 1) := by decide +kernel
theorem qd_O_isByParts_46 : decode qb_O_isByParts 46 = .ok (.invokevirtual 48, 3) := by decide +kernel
theorem qd_O_isByParts_49 : decode qb_O_isByParts 49 = .ok (.ifCond .eq 5, 3) := by decide +kernel
theorem qd_O_isByParts_52 : decode qb_O_isByParts 52 = .ok (.iconst 1, 1) := by decide +kernel
theorem qd_O_isByParts_53 : decode qb_O_isByParts 53 = .ok (.ireturn, 1) := by decide +kernel
theorem qd_O_isByParts_54 : decode qb_O_isByParts 54 = .ok (.aload_n 0, 1) := by decide +kernel
theorem qd_O_isByParts_55 : decode qb_O_isByParts 55 = .ok (.getfield 15, 3) := by decide +kernel
theorem qd_O_isByParts_58 : decode qb_O_isByParts 58 = .ok (.iload_n 1, 1) := by decide +kernel
theorem qd_O_isByParts_59 : decode qb_O_isByParts 59 = .ok (.invokevirtual 51, 3) := by decide +kernel
theorem qd_O_isByParts_62 : decode qb_O_isByParts 62 = .ok (.iconst 4, 1) := by decide +kernel
theorem qd_O_isByParts_63 : decode qb_O_isByParts 63 = .ok (.if_icmp .ne 37, 3) := by decide +kernel
theorem qd_O_isByParts_66 : decode qb_O_isByParts 66 = .ok (.aload_n 0, 1) := by decide +kernel
theorem qd_O_isByParts_67 : decode qb_O_isByParts 67 = .ok (.getfield 15, 3) := by decide +kernel
theorem qd_O_isByParts_70 : decode qb_O_isByParts 70 = .ok (.iload_n 2, 1) := by decide +kernel
theorem qd_O_isByParts_71 : decode qb_O_isByParts 71 = .ok (.invokevirtual 51, 3) := by decide +kernel
theorem qd_O_isByParts_74 : decode qb_O_isByParts 74 = .ok (.iconst 4, 1) := by decide +kernel
theorem qd_O_isByParts_75 : decode qb_O_isByParts 75 = .ok (.if_icmp .ne 25, 3) := by decide +kernel
theorem qd_O_isByParts_78 : decode qb_O_isByParts 78 = .ok (.aload_n 0, 1) := by decide +kernel
theorem qd_O_isByParts_79 : decode qb_O_isByParts 79 = .ok (.aload_n 0, 1) := by decide +kernel
theorem qd_O_isByParts_80 : decode qb_O_isByParts 80 = .ok (.getfield 15, 3) := by decide +kernel
theorem qd_O_isByParts_83 : decode qb_O_isByParts 83 = .ok (.iload_n 1, 1) := by decide +kernel
theorem qd_O_isByParts_84 : decode qb_O_isByParts 84 = .ok (.invokevirtual 54, 3) := by decide +kernel
theorem qd_O_isByParts_87 : decode qb_O_isByParts 87 = .ok (.aload_n 0, 1) := by decide +kernel
theorem qd_O_isByParts_88 : decode qb_O_isByParts 88 = .ok (.getfield 15, 3) := by decide +kernel
theorem qd_O_isByParts_91 : decode qb_O_isByParts 91 = .ok (.iload_n 2, 1) := by decide +kernel
theorem qd_O_isByParts_92 : decode qb_O_isByParts 92 = .ok (.invokevirtual 54, 3) := by decide +kernel
theorem qd_O_isByParts_95 : decode qb_O_isByParts 95 = .ok (.iload_n 3, 1) := by decide +kernel
theorem qd_O_isByParts_96 : decode qb_O_isByParts 96 = .ok (.invokevirtual 48, 3) := by decide +kernel
theorem qd_O_isByParts_99 : decode qb_O_isByParts 99 = .ok (.ireturn, 1) := by decide +kernel
theorem qd_O_isByParts_100 : decode qb_O_isByParts 100 = .ok (.aload_n 0, 1) := by decide +kernel
theorem qd_O_isByParts_101 : decode qb_O_isByParts 101 = .ok (.getfield 15, 3) := by decide +kernel
theorem qd_O_isByParts_104 : decode qb_O_isByParts 104 = .ok (.iload_n 1, 1) := by decide +kernel
theorem qd_O_isByParts_105 : decode qb_O_isByParts 105 = .ok (.invokevirtual 57, 3) := by decide +kernel
theorem qd_O_isByParts_108 : decode qb_O_isByParts 108 = .ok (.ifCond .eq 28, 3) := by decide +kernel
theorem qd_O_isByParts_111 : decode qb_O_isByParts 111 = .ok (.aload_n 0, 1) := by decide +kernel
theorem qd_O_isByParts_112 : decode qb_O_isByParts 112 = .ok (.getfield 15, 3) := by decide +kernel
theorem qd_O_isByParts_115 : decode qb_O_isByParts 115 = .ok (.iload_n 2, 1) := by decide +kernel
theorem qd_O_isByParts_116 : decode qb_O_isByParts 116 = .ok (.invokevirtual 57, 3) := by decide +kernel
theorem qd_O_isByParts_119 : decode qb_O_isByParts 119 = .ok (.ifCond .eq 17, 3) := by decide +kernel
theorem qd_O_isByParts_122 : decode qb_O_isByParts 122 = .ok (.aload_n 0, 1) := by decide +kernel
theorem qd_O_isByParts_123 : decode qb_O_isByParts 123 = .ok (.iload_n 1, 1) := by decide +kernel
theorem qd_O_isByParts_124 : decode qb_O_isByParts 124 = .ok (.iload_n 2, 1) := by decide +kernel
theorem qd_O_isByParts_125 : decode qb_O_isByParts 125 = .ok (.iload_n 3, 1) := by decide +kernel
theorem qd_O_isByParts_126 : decode qb_O_isByParts 126 = .ok (.invokevirtual 60, 3) := by decide +kernel
theorem qd_O_isByParts_129 : decode qb_O_isByParts 129 = .ok (.ifCond .eq 7, 3) := by decide +kernel
theorem qd_O_isByParts_132 : decode qb_O_isByParts 132 = .ok (.iconst 1, 1) := by decide +kernel
theorem qd_O_isByParts_133 : decode qb_O_isByParts 133 = .ok (.goto 4, 3) := by decide +kernel
theorem qd_O_isByParts_136 : decode qb_O_isByParts 136 = .ok (.iconst 0, 1) := by decide +kernel
theorem qd_O_isByParts_137 : decode qb_O_isByParts 137 = .ok (.ireturn, 1) := by decide +kernel
theorem qd_O_someBoundIs_0 : decode qb_O_someBoundIs 0 = .ok (.aload_n 0, 1) := by decide +kernel
theorem qd_O_someBoundIs_1 : decode qb_O_someBoundIs 1 = .ok (.getfield 19, 3) := by decide +kernel
theorem qd_O_someBoundIs_4 : decode qb_O_someBoundIs 4 = .ok (.iload_n 1, 1) := by decide +kernel
theorem qd_O_someBoundIs_5 : decode qb_O_someBoundIs 5 = .ok (.invokevirtual 63, 3) := by decide +kernel
theorem qd_O_someBoundIs_8 : decode qb_O_someBoundIs 8 = .ok (.istore 4, 2) := by decide +kernel
theorem qd_O_someBoundIs_10 : decode qb_O_someBoundIs 10 = .ok (.iconst 0, 1) := by decide +kernel
theorem qd_O_someBoundIs_11 : decode qb_O_someBoundIs 11 = .ok (.istore 5, 2) := by decide +kernel
theorem qd_O_someBoundIs_13 : decode qb_O_someBoundIs 13 = .ok (.iload 5, 2) := by decide +kernel
theorem qd_O_someBoundIs_15 : decode qb_O_someBoundIs 15 = .ok (.iload 4, 2) := by decide +kernel
theorem qd_O_someBoundIs_17 : decode qb_O_someBoundIs 17 = .ok (.if_icmp .ge 30, 3) := by decide +kernel
theorem qd_O_someBoundIs_20 : decode qb_O_someBoundIs 20 = .ok (.aload_n 0, 1) := by decide +kernel
theorem qd_O_someBoundIs_21 : decode qb_O_someBoundIs 21 = .ok (.aload_n 0, 1) := by decide +kernel
theorem qd_O_someBoundIs_22 : decode qb_O_someBoundIs 22 = .ok (.getfield 19, 3) := by decide +kernel
theorem qd_O_someBoundIs_25 : decode qb_O_someBoundIs 25 = .ok (.iload_n 1, 1) := by decide +kernel
theorem qd_O_someBoundIs_26 : decode qb_O_someBoundIs 26 = .ok (.iload 5, 2) := by decide +kernel
theorem qd_O_someBoundIs_28 : decode qb_O_someBoundIs 28 = .ok (.invokevirtual 68, 3) := by decide +kernel
theorem qd_O_someBoundIs_31 : decode qb_O_someBoundIs 31 = .ok (.iload_n 2, 1) := by decide +kernel
theorem qd_O_someBoundIs_32 : decode qb_O_someBoundIs 32 = .ok (.iload_n 3, 1) := by decide +kernel
theorem qd_O_someBoundIs_33 : decode qb_O_someBoundIs 33 = .ok (.invokevirtual 48, 3) := by decide +kernel
theorem qd_O_someBoundIs_36 : decode qb_O_someBoundIs 36 = .ok (.ifCond .eq 5, 3) := by decide +kernel
theorem qd_O_someBoundIs_39 : decode qb_O_someBoundIs 39 = .ok (.iconst 1, 1) := by decide +kernel
theorem qd_O_someBoundIs_40 : decode qb_O_someBoundIs 40 = .ok (.ireturn, 1) := by decide +kernel
theorem qd_O_someBoundIs_41 : decode qb_O_someBoundIs 41 = .ok (.iinc 5 1, 3) := by decide +kernel
theorem qd_O_someBoundIs_44 : decode qb_O_someBoundIs 44 = .ok (.goto (-31), 3) := by decide +kernel
theorem qd_O_someBoundIs_47 : decode qb_O_someBoundIs 47 = .ok (.iconst 0, 1) := by decide +kernel
theorem qd_O_someBoundIs_48 : decode qb_O_someBoundIs 48 = .ok (.ireturn, 1) := by decide +kernel
theorem qd_O_isByClass_0 : decode qb_O_isByClass 0 = .ok (.aload_n 0, 1) := by decide +kernel
theorem qd_O_isByClass_1 : decode qb_O_isByClass 1 = .ok (.getfield 15, 3) := by decide +kernel
theorem qd_O_isByClass_4 : decode qb_O_isByClass 4 = .ok (.iload_n 2, 1) := by decide +kernel
theorem qd_O_isByClass_5 : decode qb_O_isByClass 5 = .ok (.invokevirtual 72, 3) := by decide +kernel
theorem qd_O_isByClass_8 : decode qb_O_isByClass 8 = .ok (.istore 4, 2) := by decide +kernel
theorem qd_O_isByClass_10 : decode qb_O_isByClass 10 = .ok (.aload_n 0, 1) := by decide +kernel
theorem qd_O_isByClass_11 : decode qb_O_isByClass 11 = .ok (.getfield 9, 3) := by decide +kernel
theorem qd_O_isByClass_14 : decode qb_O_isByClass 14 = .ok (.aload_n 0, 1) := by decide +kernel
theorem qd_O_isByClass_15 : decode qb_O_isByClass 15 = .ok (.getfield 15, 3) := by decide +kernel
theorem qd_O_isByClass_18 : decode qb_O_isByClass 18 = .ok (.iload_n 1, 1) := by decide +kernel
theorem qd_O_isByClass_19 : decode qb_O_isByClass 19 = .ok (.invokevirtual 72, 3) := by decide +kernel
theorem qd_O_isByClass_22 : decode qb_O_isByClass 22 = .ok (.iload 4, 2) := by decide +kernel
theorem qd_O_isByClass_24 : decode qb_O_isByClass 24 = .ok (.invokevirtual 75, 3) := by decide +kernel
theorem qd_O_isByClass_27 : decode qb_O_isByClass 27 = .ok (.ifCond .ne 5, 3) := by decide +kernel
theorem qd_O_isByClass_30 : decode qb_O_isByClass 30 = .ok (.iconst 0, 1) := by decide +kernel
theorem qd_O_isByClass_31 : decode qb_O_isByClass 31 = .ok (.ireturn, 1) := by decide +kernel
theorem qd_O_isByClass_32 : decode qb_O_isByClass 32 = .ok (.aload_n 0, 1) := by decide +kernel
theorem qd_O_isByClass_33 : decode qb_O_isByClass 33 = .ok (.getfield 15, 3) := by decide +kernel
theorem qd_O_isByClass_36 : decode qb_O_isByClass 36 = .ok (.iload_n 2, 1) := by decide +kernel
theorem qd_O_isByClass_37 : decode qb_O_isByClass 37 = .ok (.invokevirtual 51, 3) := by decide +kernel
theorem qd_O_isByClass_40 : decode qb_O_isByClass 40 = .ok (.iconst 2, 1) := by decide +kernel
theorem qd_O_isByClass_41 : decode qb_O_isByClass 41 = .ok (.if_icmp .eq 5, 3) := by decide +kernel
theorem qd_O_isByClass_44 : decode qb_O_isByClass 44 = .ok (.iconst 1, 1) := by decide +kernel
theorem qd_O_isByClass_45 : decode qb_O_isByClass 45 = .ok (.ireturn, 1) := by decide +kernel
theorem qd_O_isByClass_46 : decode qb_O_isByClass 46 = .ok (.aload_n 0, 1) := by decide +kernel
theorem qd_O_isByClass_47 : decode qb_O_isByClass 47 = .ok (.getfield 19, 3) := by decide +kernel
theorem qd_O_isByClass_50 : decode qb_O_isByClass 50 = .ok (.aload_n 0, 1) := by decide +kernel
theorem qd_O_isByClass_51 : decode qb_O_isByClass 51 = .ok (.getfield 19, 3) := by decide +kernel
theorem qd_O_isByClass_54 : decode qb_O_isByClass 54 = .ok (.iload_n 1, 1) := by decide +kernel
theorem qd_O_isByClass_55 : decode qb_O_isByClass 55 = .ok (.invokevirtual 81, 3) := by decide +kernel
theorem qd_O_isByClass_58 : decode qb_O_isByClass 58 = .ok (.iload 4, 2) := by decide +kernel
theorem qd_O_isByClass_60 : decode qb_O_isByClass 60 = .ok (.invokevirtual 84, 3) := by decide +kernel
theorem qd_O_isByClass_63 : decode qb_O_isByClass 63 = .ok (.istore 5, 2) := by decide +kernel
theorem qd_O_isByClass_65 : decode qb_O_isByClass 65 = .ok (.aload_n 0, 1) := by decide +kernel
theorem qd_O_isByClass_66 : decode qb_O_isByClass 66 = .ok (.getfield 15, 3) := by decide +kernel
theorem qd_O_isByClass_69 : decode qb_O_isByClass 69 = .ok (.iload 5, 2) := by decide +kernel
theorem qd_O_isByClass_71 : decode qb_O_isByClass 71 = .ok (.invokevirtual 51, 3) := by decide +kernel
theorem qd_O_isByClass_74 : decode qb_O_isByClass 74 = .ok (.iconst 2, 1) := by decide +kernel
theorem qd_O_isByClass_75 : decode qb_O_isByClass 75 = .ok (.if_icmp .eq 5, 3) := by decide +kernel
theorem qd_O_isByClass_78 : decode qb_O_isByClass 78 = .ok (.iconst 0, 1) := by decide +kernel
theorem qd_O_isByClass_79 : decode qb_O_isByClass 79 = .ok (.ireturn, 1) := by decide +kernel
theorem qd_O_isByClass_80 : decode qb_O_isByClass 80 = .ok (.aload_n 0, 1) := by decide +kernel
theorem qd_O_isByClass_81 : decode qb_O_isByClass 81 = .ok (.aload_n 0, 1) := by decide +kernel
theorem qd_O_isByClass_82 : decode qb_O_isByClass 82 = .ok (.getfield 15, 3) := by decide +kernel
theorem qd_O_isByClass_85 : decode qb_O_isByClass 85 = .ok (.iload 5, 2) := by decide +kernel
theorem qd_O_isByClass_87 : decode qb_O_isByClass 87 = .ok (.invokevirtual 54, 3) := by decide +kernel
theorem qd_O_isByClass_90 : decode qb_O_isByClass 90 = .ok (.aload_n 0, 1) := by decide +kernel
theorem qd_O_isByClass_91 : decode qb_O_isByClass 91 = .ok (.getfield 15, 3) := by decide +kernel
theorem qd_O_isByClass_94 : decode qb_O_isByClass 94 = .ok (.iload_n 2, 1) := by decide +kernel
theorem qd_O_isByClass_95 : decode qb_O_isByClass 95 = .ok (.invokevirtual 54, 3) := by decide +kernel
theorem qd_O_isByClass_98 : decode qb_O_isByClass 98 = .ok (.iload_n 3, 1) := by decide +kernel
theorem qd_O_isByClass_99 : decode qb_O_isByClass 99 = .ok (.invokevirtual 87, 3) := by decide +kernel
theorem qd_O_isByClass_102 : decode qb_O_isByClass 102 = .ok (.ifCond .eq 32, 3) := by decide +kernel
theorem qd_O_isByClass_105 : decode qb_O_isByClass 105 = .ok (.aload_n 0, 1) := by decide +kernel
theorem qd_O_isByClass_106 : decode qb_O_isByClass 106 = .ok (.aload_n 0, 1) := by decide +kernel
theorem qd_O_isByClass_107 : decode qb_O_isByClass 107 = .ok (.getfield 15, 3) := by decide +kernel
theorem qd_O_isByClass_110 : decode qb_O_isByClass 110 = .ok (.iload 5, 2) := by decide +kernel
theorem qd_O_isByClass_112 : decode qb_O_isByClass 112 = .ok (.invokevirtual 90, 3) := by decide +kernel
theorem qd_O_isByClass_115 : decode qb_O_isByClass 115 = .ok (.aload_n 0, 1) := by decide +kernel
theorem qd_O_isByClass_116 : decode qb_O_isByClass 116 = .ok (.getfield 15, 3) := by decide +kernel
theorem qd_O_isByClass_119 : decode qb_O_isByClass 119 = .ok (.iload_n 2, 1) := by decide +kernel
theorem qd_O_isByClass_120 : decode qb_O_isByClass 120 = .ok (.invokevirtual 90, 3) := by decide +kernel
theorem qd_O_isByClass_123 : decode qb_O_isByClass 123 = .ok (.iload_n 3, 1) := by decide +kernel
theorem qd_O_isByClass_124 : decode qb_O_isByClass 124 = .ok (.invokevirtual 87, 3) := by decide +kernel
theorem qd_O_isByClass_127 : decode qb_O_isByClass 127 = .ok (.ifCond .eq 7, 3) := by decide +kernel
theorem qd_O_isByClass_130 : decode qb_O_isByClass 130 = .ok (.iconst 1, 1) := by decide +kernel
theorem qd_O_isByClass_131 : decode qb_O_isByClass 131 = .ok (.goto 4, 3) := by decide +kernel
theorem qd_O_isByClass_134 : decode qb_O_isByClass 134 = .ok (.iconst 0, 1) := by decide +kernel
theorem qd_O_isByClass_135 : decode qb_O_isByClass 135 = .ok (.ireturn, 1) := by decide +kernel
theorem qd_O_isIn_0 : decode qb_O_isIn 0 = .ok (.iload_n 1, 1) := by decide +kernel
theorem qd_O_isIn_1 : decode qb_O_isIn 1 = .ok (.iload_n 2, 1) := by decide +kernel
theorem qd_O_isIn_2 : decode qb_O_isIn 2 = .ok (.if_icmp .ne 5, 3) := by decide +kernel
theorem qd_O_isIn_5 : decode qb_O_isIn 5 = .ok (.iconst 1, 1) := by decide +kernel
theorem qd_O_isIn_6 : decode qb_O_isIn 6 = .ok (.ireturn, 1) := by decide +kernel
theorem qd_O_isIn_7 : decode qb_O_isIn 7 = .ok (.aload_n 0, 1) := by decide +kernel
theorem qd_O_isIn_8 : decode qb_O_isIn 8 = .ok (.getfield 15, 3) := by decide +kernel
theorem qd_O_isIn_11 : decode qb_O_isIn 11 = .ok (.iload_n 2, 1) := by decide +kernel
theorem qd_O_isIn_12 : decode qb_O_isIn 12 = .ok (.invokevirtual 51, 3) := by decide +kernel
theorem qd_O_isIn_15 : decode qb_O_isIn 15 = .ok (.iconst 5, 1) := by decide +kernel
theorem qd_O_isIn_16 : decode qb_O_isIn 16 = .ok (.if_icmp .eq 5, 3) := by decide +kernel
theorem qd_O_isIn_19 : decode qb_O_isIn 19 = .ok (.iconst 0, 1) := by decide +kernel
theorem qd_O_isIn_20 : decode qb_O_isIn 20 = .ok (.ireturn, 1) := by decide +kernel
theorem qd_O_isIn_21 : decode qb_O_isIn 21 = .ok (.aload_n 0, 1) := by decide +kernel
theorem qd_O_isIn_22 : decode qb_O_isIn 22 = .ok (.getfield 15, 3) := by decide +kernel
theorem qd_O_isIn_25 : decode qb_O_isIn 25 = .ok (.iload_n 2, 1) := by decide +kernel
theorem qd_O_isIn_26 : decode qb_O_isIn 26 = .ok (.invokevirtual 72, 3) := by decide +kernel
theorem qd_O_isIn_29 : decode qb_O_isIn 29 = .ok (.lookupswitch 57 #[(1, 27), (2, 42)], 27) := by decide +kernel
theorem qd_O_isIn_56 : decode qb_O_isIn 56 = .ok (.aload_n 0, 1) := by decide +kernel
theorem qd_O_isIn_57 : decode qb_O_isIn 57 = .ok (.iload_n 1, 1) := by decide +kernel
theorem qd_O_isIn_58 : decode qb_O_isIn 58 = .ok (.aload_n 0, 1) := by decide +kernel
theorem qd_O_isIn_59 : decode qb_O_isIn 59 = .ok (.getfield 15, 3) := by decide +kernel
theorem qd_O_isIn_62 : decode qb_O_isIn 62 = .ok (.iload_n 2, 1) := by decide +kernel
theorem qd_O_isIn_63 : decode qb_O_isIn 63 = .ok (.invokevirtual 54, 3) := by decide +kernel
theorem qd_O_isIn_66 : decode qb_O_isIn 66 = .ok (.iload_n 3, 1) := by decide +kernel
theorem qd_O_isIn_67 : decode qb_O_isIn 67 = .ok (.invokevirtual 48, 3) := by decide +kernel
theorem qd_O_isIn_70 : decode qb_O_isIn 70 = .ok (.ireturn, 1) := by decide +kernel
theorem qd_O_isIn_71 : decode qb_O_isIn 71 = .ok (.aload_n 0, 1) := by decide +kernel
theorem qd_O_isIn_72 : decode qb_O_isIn 72 = .ok (.aload_n 0, 1) := by decide +kernel
theorem qd_O_isIn_73 : decode qb_O_isIn 73 = .ok (.getfield 15, 3) := by decide +kernel
theorem qd_O_isIn_76 : decode qb_O_isIn 76 = .ok (.iload_n 2, 1) := by decide +kernel
theorem qd_O_isIn_77 : decode qb_O_isIn 77 = .ok (.invokevirtual 54, 3) := by decide +kernel
theorem qd_O_isIn_80 : decode qb_O_isIn 80 = .ok (.iload_n 1, 1) := by decide +kernel
theorem qd_O_isIn_81 : decode qb_O_isIn 81 = .ok (.iload_n 3, 1) := by decide +kernel
theorem qd_O_isIn_82 : decode qb_O_isIn 82 = .ok (.invokevirtual 48, 3) := by decide +kernel
theorem qd_O_isIn_85 : decode qb_O_isIn 85 = .ok (.ireturn, 1) := by decide +kernel
theorem qd_O_isIn_86 : decode qb_O_isIn 86 = .ok (.iconst 1, 1) := by decide +kernel
theorem qd_O_isIn_87 : decode qb_O_isIn 87 = .ok (.ireturn, 1) := by decide +kernel
theorem qd_O_isUnchecked_0 : decode qb_O_isUnchecked 0 = .ok (.iload_n 3, 1) := by decide +kernel
theorem qd_O_isUnchecked_1 : decode qb_O_isUnchecked 1 = .ok (.ifCond .le 15, 3) := by decide +kernel
theorem qd_O_isUnchecked_4 : decode qb_O_isUnchecked 4 = .ok (.aload_n 0, 1) := by decide +kernel
theorem qd_O_isUnchecked_5 : decode qb_O_isUnchecked 5 = .ok (.getfield 15, 3) := by decide +kernel
theorem qd_O_isUnchecked_8 : decode qb_O_isUnchecked 8 = .ok (.iload_n 2, 1) := by decide +kernel
theorem qd_O_isUnchecked_9 : decode qb_O_isUnchecked 9 = .ok (.invokevirtual 51, 3) := by decide +kernel
theorem qd_O_isUnchecked_12 : decode qb_O_isUnchecked 12 = .ok (.iconst 2, 1) := by decide +kernel
theorem qd_O_isUnchecked_13 : decode qb_O_isUnchecked 13 = .ok (.if_icmp .eq 5, 3) := by decide +kernel
theorem qd_O_isUnchecked_16 : decode qb_O_isUnchecked 16 = .ok (.iconst 0, 1) := by decide +kernel
theorem qd_O_isUnchecked_17 : decode qb_O_isUnchecked 17 = .ok (.ireturn, 1) := by decide +kernel
theorem qd_O_isUnchecked_18 : decode qb_O_isUnchecked 18 = .ok (.aload_n 0, 1) := by decide +kernel
theorem qd_O_isUnchecked_19 : decode qb_O_isUnchecked 19 = .ok (.getfield 15, 3) := by decide +kernel
theorem qd_O_isUnchecked_22 : decode qb_O_isUnchecked 22 = .ok (.iload_n 1, 1) := by decide +kernel
theorem qd_O_isUnchecked_23 : decode qb_O_isUnchecked 23 = .ok (.invokevirtual 37, 3) := by decide +kernel
theorem qd_O_isUnchecked_26 : decode qb_O_isUnchecked 26 = .ok (.ifCond .eq 13, 3) := by decide +kernel
theorem qd_O_isUnchecked_29 : decode qb_O_isUnchecked 29 = .ok (.aload_n 0, 1) := by decide +kernel
theorem qd_O_isUnchecked_30 : decode qb_O_isUnchecked 30 = .ok (.iload_n 1, 1) := by decide +kernel
theorem qd_O_isUnchecked_31 : decode qb_O_isUnchecked 31 = .ok (.iload_n 2, 1) := by decide +kernel
theorem qd_O_isUnchecked_32 : decode qb_O_isUnchecked 32 = .ok (.iload_n 3, 1) := by decide +kernel
theorem qd_O_isUnchecked_33 : decode qb_O_isUnchecked 33 = .ok (.iconst 1, 1) := by decide +kernel
theorem qd_O_isUnchecked_34 : decode qb_O_isUnchecked 34 = .ok (.isub, 1) := by decide +kernel
theorem qd_O_isUnchecked_35 : decode qb_O_isUnchecked 35 = .ok (.invokevirtual 93, 3) := by decide +kernel
theorem qd_O_isUnchecked_38 : decode qb_O_isUnchecked 38 = .ok (.ireturn, 1) := by decide +kernel
theorem qd_O_isUnchecked_39 : decode qb_O_isUnchecked 39 = .ok (.aload_n 0, 1) := by decide +kernel
theorem qd_O_isUnchecked_40 : decode qb_O_isUnchecked 40 = .ok (.getfield 15, 3) := by decide +kernel
theorem qd_O_isUnchecked_43 : decode qb_O_isUnchecked 43 = .ok (.iload_n 2, 1) := by decide +kernel
theorem qd_O_isUnchecked_44 : decode qb_O_isUnchecked 44 = .ok (.invokevirtual 72, 3) := by decide +kernel
theorem qd_O_isUnchecked_47 : decode qb_O_isUnchecked 47 = .ok (.istore 4, 2) := by decide +kernel
theorem qd_O_isUnchecked_49 : decode qb_O_isUnchecked 49 = .ok (.aload_n 0, 1) := by decide +kernel
theorem qd_O_isUnchecked_50 : decode qb_O_isUnchecked 50 = .ok (.getfield 15, 3) := by decide +kernel
theorem qd_O_isUnchecked_53 : decode qb_O_isUnchecked 53 = .ok (.iload_n 1, 1) := by decide +kernel
theorem qd_O_isUnchecked_54 : decode qb_O_isUnchecked 54 = .ok (.invokevirtual 57, 3) := by decide +kernel
theorem qd_O_isUnchecked_57 : decode qb_O_isUnchecked 57 = .ok (.ifCond .eq 55, 3) := by decide +kernel
theorem qd_O_isUnchecked_60 : decode qb_O_isUnchecked 60 = .ok (.aload_n 0, 1) := by decide +kernel
theorem qd_O_isUnchecked_61 : decode qb_O_isUnchecked 61 = .ok (.getfield 9, 3) := by decide +kernel
theorem qd_O_isUnchecked_64 : decode qb_O_isUnchecked 64 = .ok (.aload_n 0, 1) := by decide +kernel
theorem qd_O_isUnchecked_65 : decode qb_O_isUnchecked 65 = .ok (.getfield 15, 3) := by decide +kernel
theorem qd_O_isUnchecked_68 : decode qb_O_isUnchecked 68 = .ok (.iload_n 1, 1) := by decide +kernel
theorem qd_O_isUnchecked_69 : decode qb_O_isUnchecked 69 = .ok (.invokevirtual 72, 3) := by decide +kernel
theorem qd_O_isUnchecked_72 : decode qb_O_isUnchecked 72 = .ok (.iload 4, 2) := by decide +kernel
theorem qd_O_isUnchecked_74 : decode qb_O_isUnchecked 74 = .ok (.invokevirtual 75, 3) := by decide +kernel
theorem qd_O_isUnchecked_77 : decode qb_O_isUnchecked 77 = .ok (.ifCond .eq 35, 3) := by decide +kernel
theorem qd_O_isUnchecked_80 : decode qb_O_isUnchecked 80 = .ok (.aload_n 0, 1) := by decide +kernel
theorem qd_O_isUnchecked_81 : decode qb_O_isUnchecked 81 = .ok (.getfield 15, 3) := by decide +kernel
theorem qd_O_isUnchecked_84 : decode qb_O_isUnchecked 84 = .ok (.aload_n 0, 1) := by decide +kernel
theorem qd_O_isUnchecked_85 : decode qb_O_isUnchecked 85 = .ok (.getfield 19, 3) := by decide +kernel
theorem qd_O_isUnchecked_88 : decode qb_O_isUnchecked 88 = .ok (.aload_n 0, 1) := by decide +kernel
theorem qd_O_isUnchecked_89 : decode qb_O_isUnchecked 89 = .ok (.getfield 19, 3) := by decide +kernel
theorem qd_O_isUnchecked_92 : decode qb_O_isUnchecked 92 = .ok (.iload_n 1, 1) := by decide +kernel
theorem qd_O_isUnchecked_93 : decode qb_O_isUnchecked 93 = .ok (.invokevirtual 81, 3) := by decide +kernel
theorem qd_O_isUnchecked_96 : decode qb_O_isUnchecked 96 = .ok (.iload 4, 2) := by decide +kernel
theorem qd_O_isUnchecked_98 : decode qb_O_isUnchecked 98 = .ok (.invokevirtual 84, 3) := by decide +kernel
theorem qd_O_isUnchecked_101 : decode qb_O_isUnchecked 101 = .ok (.invokevirtual 51, 3) := by decide +kernel
theorem qd_O_isUnchecked_104 : decode qb_O_isUnchecked 104 = .ok (.iconst 1, 1) := by decide +kernel
theorem qd_O_isUnchecked_105 : decode qb_O_isUnchecked 105 = .ok (.if_icmp .ne 7, 3) := by decide +kernel
theorem qd_O_isUnchecked_108 : decode qb_O_isUnchecked 108 = .ok (.iconst 1, 1) := by decide +kernel
theorem qd_O_isUnchecked_109 : decode qb_O_isUnchecked 109 = .ok (.goto 4, 3) := by decide +kernel
theorem qd_O_isUnchecked_112 : decode qb_O_isUnchecked 112 = .ok (.iconst 0, 1) := by decide +kernel
theorem qd_O_isUnchecked_113 : decode qb_O_isUnchecked 113 = .ok (.ireturn, 1) := by decide +kernel
theorem qd_O_someBoundIsUnchecked_0 : decode qb_O_someBoundIsUnchecked 0 = .ok (.aload_n 0, 1) := by decide +kernel
theorem qd_O_someBoundIsUnchecked_1 : decode qb_O_someBoundIsUnchecked 1 = .ok (.getfield 19, 3) := by decide +kernel
theorem qd_O_someBoundIsUnchecked_4 : decode qb_O_someBoundIsUnchecked 4 = .ok (.iload_n 1, 1) := by decide +kernel
theorem qd_O_someBoundIsUnchecked_5 : decode qb_O_someBoundIsUnchecked 5 = .ok (.invokevirtual 63, 3) := by decide +kernel
theorem qd_O_someBoundIsUnchecked_8 : decode qb_O_someBoundIsUnchecked 8 = .ok (.istore 4, 2) := by decide +kernel
theorem qd_O_someBoundIsUnchecked_10 : decode qb_O_someBoundIsUnchecked 10 = .ok (.iconst 0, 1) := by decide +kernel
theorem qd_O_someBoundIsUnchecked_11 : decode qb_O_someBoundIsUnchecked 11 = .ok (.istore 5, 2) := by decide +kernel
theorem qd_O_someBoundIsUnchecked_13 : decode qb_O_someBoundIsUnchecked 13 = .ok (.iload 5, 2) := by decide +kernel
theorem qd_O_someBoundIsUnchecked_15 : decode qb_O_someBoundIsUnchecked 15 = .ok (.iload 4, 2) := by decide +kernel
theorem qd_O_someBoundIsUnchecked_17 : decode qb_O_someBoundIsUnchecked 17 = .ok (.if_icmp .ge 30, 3) := by decide +kernel
theorem qd_O_someBoundIsUnchecked_20 : decode qb_O_someBoundIsUnchecked 20 = .ok (.aload_n 0, 1) := by decide +kernel
theorem qd_O_someBoundIsUnchecked_21 : decode qb_O_someBoundIsUnchecked 21 = .ok (.aload_n 0, 1) := by decide +kernel
theorem qd_O_someBoundIsUnchecked_22 : decode qb_O_someBoundIsUnchecked 22 = .ok (.getfield 19, 3) := by decide +kernel
theorem qd_O_someBoundIsUnchecked_25 : decode qb_O_someBoundIsUnchecked 25 = .ok (.iload_n 1, 1) := by decide +kernel
theorem qd_O_someBoundIsUnchecked_26 : decode qb_O_someBoundIsUnchecked 26 = .ok (.iload 5, 2) := by decide +kernel
theorem qd_O_someBoundIsUnchecked_28 : decode qb_O_someBoundIsUnchecked 28 = .ok (.invokevirtual 68, 3) := by decide +kernel
theorem qd_O_someBoundIsUnchecked_31 : decode qb_O_someBoundIsUnchecked 31 = .ok (.iload_n 2, 1) := by decide +kernel
theorem qd_O_someBoundIsUnchecked_32 : decode qb_O_someBoundIsUnchecked 32 = .ok (.iload_n 3, 1) := by decide +kernel
theorem qd_O_someBoundIsUnchecked_33 : decode qb_O_someBoundIsUnchecked 33 = .ok (.invokevirtual 96, 3) := by decide +kernel
theorem qd_O_someBoundIsUnchecked_36 : decode qb_O_someBoundIsUnchecked 36 = .ok (.ifCond .eq 5, 3) := by decide +kernel
theorem qd_O_someBoundIsUnchecked_39 : decode qb_O_someBoundIsUnchecked 39 = .ok (.iconst 1, 1) := by decide +kernel
theorem qd_O_someBoundIsUnchecked_40 : decode qb_O_someBoundIsUnchecked 40 = .ok (.ireturn, 1) := by decide +kernel
theorem qd_O_someBoundIsUnchecked_41 : decode qb_O_someBoundIsUnchecked 41 = .ok (.iinc 5 1, 3) := by decide +kernel
theorem qd_O_someBoundIsUnchecked_44 : decode qb_O_someBoundIsUnchecked 44 = .ok (.goto (-31), 3) := by decide +kernel
theorem qd_O_someBoundIsUnchecked_47 : decode qb_O_someBoundIsUnchecked 47 = .ok (.iconst 0, 1) := by decide +kernel
theorem qd_O_someBoundIsUnchecked_48 : decode qb_O_someBoundIsUnchecked 48 = .ok (.ireturn, 1) := by decide +kernel
theorem qd_O_keepsBounds_0 : decode qb_O_keepsBounds 0 = .ok (.aload_n 0, 1) := by decide +kernel
theorem qd_O_keepsBounds_1 : decode qb_O_keepsBounds 1 = .ok (.getfield 15, 3) := by decide +kernel
theorem qd_O_keepsBounds_4 : decode qb_O_keepsBounds 4 = .ok (.iload_n 1, 1) := by decide +kernel
theorem qd_O_keepsBounds_5 : decode qb_O_keepsBounds 5 = .ok (.invokevirtual 72, 3) := by decide +kernel
theorem qd_O_keepsBounds_8 : decode qb_O_keepsBounds 8 = .ok (.istore_n 2, 1) := by decide +kernel
theorem qd_O_keepsBounds_9 : decode qb_O_keepsBounds 9 = .ok (.aload_n 0, 1) := by decide +kernel
theorem qd_O_keepsBounds_10 : decode qb_O_keepsBounds 10 = .ok (.getfield 19, 3) := by decide +kernel
theorem qd_O_keepsBounds_13 : decode qb_O_keepsBounds 13 = .ok (.iload_n 1, 1) := by decide +kernel
theorem qd_O_keepsBounds_14 : decode qb_O_keepsBounds 14 = .ok (.invokevirtual 81, 3) := by decide +kernel
theorem qd_O_keepsBounds_17 : decode qb_O_keepsBounds 17 = .ok (.istore_n 3, 1) := by decide +kernel
theorem qd_O_keepsBounds_18 : decode qb_O_keepsBounds 18 = .ok (.iconst 0, 1) := by decide +kernel
theorem qd_O_keepsBounds_19 : decode qb_O_keepsBounds 19 = .ok (.istore 4, 2) := by decide +kernel
theorem qd_O_keepsBounds_21 : decode qb_O_keepsBounds 21 = .ok (.iload 4, 2) := by decide +kernel
theorem qd_O_keepsBounds_23 : decode qb_O_keepsBounds 23 = .ok (.aload_n 0, 1) := by decide +kernel
theorem qd_O_keepsBounds_24 : decode qb_O_keepsBounds 24 = .ok (.getfield 9, 3) := by decide +kernel
theorem qd_O_keepsBounds_27 : decode qb_O_keepsBounds 27 = .ok (.iload_n 2, 1) := by decide +kernel
theorem qd_O_keepsBounds_28 : decode qb_O_keepsBounds 28 = .ok (.invokevirtual 99, 3) := by decide +kernel
theorem qd_O_keepsBounds_31 : decode qb_O_keepsBounds 31 = .ok (.if_icmp .ge 54, 3) := by decide +kernel
theorem qd_O_keepsBounds_34 : decode qb_O_keepsBounds 34 = .ok (.aload_n 0, 1) := by decide +kernel
theorem qd_O_keepsBounds_35 : decode qb_O_keepsBounds 35 = .ok (.getfield 15, 3) := by decide +kernel
theorem qd_O_keepsBounds_38 : decode qb_O_keepsBounds 38 = .ok (.aload_n 0, 1) := by decide +kernel
theorem qd_O_keepsBounds_39 : decode qb_O_keepsBounds 39 = .ok (.getfield 15, 3) := by decide +kernel
theorem qd_O_keepsBounds_42 : decode qb_O_keepsBounds 42 = .ok (.iload_n 1, 1) := by decide +kernel
theorem qd_O_keepsBounds_43 : decode qb_O_keepsBounds 43 = .ok (.iload 4, 2) := by decide +kernel
theorem qd_O_keepsBounds_45 : decode qb_O_keepsBounds 45 = .ok (.invokevirtual 102, 3) := by decide +kernel
theorem qd_O_keepsBounds_48 : decode qb_O_keepsBounds 48 = .ok (.invokevirtual 51, 3) := by decide +kernel
theorem qd_O_keepsBounds_51 : decode qb_O_keepsBounds 51 = .ok (.iconst 5, 1) := by decide +kernel
theorem qd_O_keepsBounds_52 : decode qb_O_keepsBounds 52 = .ok (.if_icmp .ne 7, 3) := by decide +kernel
theorem qd_O_keepsBounds_55 : decode qb_O_keepsBounds 55 = .ok (.iconst 1, 1) := by decide +kernel
theorem qd_O_keepsBounds_56 : decode qb_O_keepsBounds 56 = .ok (.goto 4, 3) := by decide +kernel
theorem qd_O_keepsBounds_59 : decode qb_O_keepsBounds 59 = .ok (.iconst 0, 1) := by decide +kernel
theorem qd_O_keepsBounds_60 : decode qb_O_keepsBounds 60 = .ok (.istore 5, 2) := by decide +kernel
theorem qd_O_keepsBounds_62 : decode qb_O_keepsBounds 62 = .ok (.iload 5, 2) := by decide +kernel
theorem qd_O_keepsBounds_64 : decode qb_O_keepsBounds 64 = .ok (.ifCond .ne 15, 3) := by decide +kernel
theorem qd_O_keepsBounds_67 : decode qb_O_keepsBounds 67 = .ok (.aload_n 0, 1) := by decide +kernel
theorem qd_O_keepsBounds_68 : decode qb_O_keepsBounds 68 = .ok (.iload_n 3, 1) := by decide +kernel
theorem qd_O_keepsBounds_69 : decode qb_O_keepsBounds 69 = .ok (.iload 4, 2) := by decide +kernel
theorem qd_O_keepsBounds_71 : decode qb_O_keepsBounds 71 = .ok (.invokevirtual 105, 3) := by decide +kernel
theorem qd_O_keepsBounds_74 : decode qb_O_keepsBounds 74 = .ok (.ifCond .ne 5, 3) := by decide +kernel
theorem qd_O_keepsBounds_77 : decode qb_O_keepsBounds 77 = .ok (.iconst 0, 1) := by decide +kernel
theorem qd_O_keepsBounds_78 : decode qb_O_keepsBounds 78 = .ok (.ireturn, 1) := by decide +kernel
theorem qd_O_keepsBounds_79 : decode qb_O_keepsBounds 79 = .ok (.iinc 4 1, 3) := by decide +kernel
theorem qd_O_keepsBounds_82 : decode qb_O_keepsBounds 82 = .ok (.goto (-61), 3) := by decide +kernel
theorem qd_O_keepsBounds_85 : decode qb_O_keepsBounds 85 = .ok (.iconst 1, 1) := by decide +kernel
theorem qd_O_keepsBounds_86 : decode qb_O_keepsBounds 86 = .ok (.ireturn, 1) := by decide +kernel
theorem qd_O_keepsBoundsAt_0 : decode qb_O_keepsBoundsAt 0 = .ok (.aload_n 0, 1) := by decide +kernel
theorem qd_O_keepsBoundsAt_1 : decode qb_O_keepsBoundsAt 1 = .ok (.getfield 15, 3) := by decide +kernel
theorem qd_O_keepsBoundsAt_4 : decode qb_O_keepsBoundsAt 4 = .ok (.iload_n 1, 1) := by decide +kernel
theorem qd_O_keepsBoundsAt_5 : decode qb_O_keepsBoundsAt 5 = .ok (.invokevirtual 72, 3) := by decide +kernel
theorem qd_O_keepsBoundsAt_8 : decode qb_O_keepsBoundsAt 8 = .ok (.istore_n 3, 1) := by decide +kernel
theorem qd_O_keepsBoundsAt_9 : decode qb_O_keepsBoundsAt 9 = .ok (.aload_n 0, 1) := by decide +kernel
theorem qd_O_keepsBoundsAt_10 : decode qb_O_keepsBoundsAt 10 = .ok (.getfield 9, 3) := by decide +kernel
theorem qd_O_keepsBoundsAt_13 : decode qb_O_keepsBoundsAt 13 = .ok (.iload_n 3, 1) := by decide +kernel
theorem qd_O_keepsBoundsAt_14 : decode qb_O_keepsBoundsAt 14 = .ok (.iload_n 2, 1) := by decide +kernel
theorem qd_O_keepsBoundsAt_15 : decode qb_O_keepsBoundsAt 15 = .ok (.invokevirtual 108, 3) := by decide +kernel
theorem qd_O_keepsBoundsAt_18 : decode qb_O_keepsBoundsAt 18 = .ok (.istore 4, 2) := by decide +kernel
theorem qd_O_keepsBoundsAt_20 : decode qb_O_keepsBoundsAt 20 = .ok (.iconst 0, 1) := by decide +kernel
theorem qd_O_keepsBoundsAt_21 : decode qb_O_keepsBoundsAt 21 = .ok (.istore 5, 2) := by decide +kernel
theorem qd_O_keepsBoundsAt_23 : decode qb_O_keepsBoundsAt 23 = .ok (.iload 5, 2) := by decide +kernel
theorem qd_O_keepsBoundsAt_25 : decode qb_O_keepsBoundsAt 25 = .ok (.iload 4, 2) := by decide +kernel
theorem qd_O_keepsBoundsAt_27 : decode qb_O_keepsBoundsAt 27 = .ok (.if_icmp .ge 54, 3) := by decide +kernel
theorem qd_O_keepsBoundsAt_30 : decode qb_O_keepsBoundsAt 30 = .ok (.aload_n 0, 1) := by decide +kernel
theorem qd_O_keepsBoundsAt_31 : decode qb_O_keepsBoundsAt 31 = .ok (.getfield 19, 3) := by decide +kernel
theorem qd_O_keepsBoundsAt_34 : decode qb_O_keepsBoundsAt 34 = .ok (.aload_n 0, 1) := by decide +kernel
theorem qd_O_keepsBoundsAt_35 : decode qb_O_keepsBoundsAt 35 = .ok (.getfield 9, 3) := by decide +kernel
theorem qd_O_keepsBoundsAt_38 : decode qb_O_keepsBoundsAt 38 = .ok (.iload_n 3, 1) := by decide +kernel
theorem qd_O_keepsBoundsAt_39 : decode qb_O_keepsBoundsAt 39 = .ok (.iload_n 2, 1) := by decide +kernel
theorem qd_O_keepsBoundsAt_40 : decode qb_O_keepsBoundsAt 40 = .ok (.iload 5, 2) := by decide +kernel
theorem qd_O_keepsBoundsAt_42 : decode qb_O_keepsBoundsAt 42 = .ok (.invokevirtual 111, 3) := by decide +kernel
theorem qd_O_keepsBoundsAt_45 : decode qb_O_keepsBoundsAt 45 = .ok (.iload_n 1, 1) := by decide +kernel
theorem qd_O_keepsBoundsAt_46 : decode qb_O_keepsBoundsAt 46 = .ok (.bipush 20, 2) := by decide +kernel
theorem qd_O_keepsBoundsAt_48 : decode qb_O_keepsBoundsAt 48 = .ok (.invokevirtual 115, 3) := by decide +kernel
theorem qd_O_keepsBoundsAt_51 : decode qb_O_keepsBoundsAt 51 = .ok (.istore 6, 2) := by decide +kernel
theorem qd_O_keepsBoundsAt_53 : decode qb_O_keepsBoundsAt 53 = .ok (.aload_n 0, 1) := by decide +kernel
theorem qd_O_keepsBoundsAt_54 : decode qb_O_keepsBoundsAt 54 = .ok (.aload_n 0, 1) := by decide +kernel
theorem qd_O_keepsBoundsAt_55 : decode qb_O_keepsBoundsAt 55 = .ok (.getfield 15, 3) := by decide +kernel
theorem qd_O_keepsBoundsAt_58 : decode qb_O_keepsBoundsAt 58 = .ok (.iload_n 1, 1) := by decide +kernel
theorem qd_O_keepsBoundsAt_59 : decode qb_O_keepsBoundsAt 59 = .ok (.iload_n 2, 1) := by decide +kernel
theorem qd_O_keepsBoundsAt_60 : decode qb_O_keepsBoundsAt 60 = .ok (.invokevirtual 102, 3) := by decide +kernel
theorem qd_O_keepsBoundsAt_63 : decode qb_O_keepsBoundsAt 63 = .ok (.iload 6, 2) := by decide +kernel
theorem qd_O_keepsBoundsAt_65 : decode qb_O_keepsBoundsAt 65 = .ok (.bipush 40, 2) := by decide +kernel
theorem qd_O_keepsBoundsAt_67 : decode qb_O_keepsBoundsAt 67 = .ok (.invokevirtual 48, 3) := by decide +kernel
theorem qd_O_keepsBoundsAt_70 : decode qb_O_keepsBoundsAt 70 = .ok (.ifCond .ne 5, 3) := by decide +kernel
theorem qd_O_keepsBoundsAt_73 : decode qb_O_keepsBoundsAt 73 = .ok (.iconst 0, 1) := by decide +kernel
theorem qd_O_keepsBoundsAt_74 : decode qb_O_keepsBoundsAt 74 = .ok (.ireturn, 1) := by decide +kernel
theorem qd_O_keepsBoundsAt_75 : decode qb_O_keepsBoundsAt 75 = .ok (.iinc 5 1, 3) := by decide +kernel
theorem qd_O_keepsBoundsAt_78 : decode qb_O_keepsBoundsAt 78 = .ok (.goto (-55), 3) := by decide +kernel
theorem qd_O_keepsBoundsAt_81 : decode qb_O_keepsBoundsAt 81 = .ok (.iconst 1, 1) := by decide +kernel
theorem qd_O_keepsBoundsAt_82 : decode qb_O_keepsBoundsAt 82 = .ok (.ireturn, 1) := by decide +kernel
