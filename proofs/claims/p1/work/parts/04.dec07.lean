theorem qd_M_stepBounds_44 : decode qb_M_stepBounds 44 = .ok (.getfield 77, 3) := by decide +kernel
theorem qd_M_stepBounds_47 : decode qb_M_stepBounds 47 = .ok (.iload_n 1, 1) := by decide +kernel
theorem qd_M_stepBounds_48 : decode qb_M_stepBounds 48 = .ok (.iaload, 1) := by decide +kernel
theorem qd_M_stepBounds_49 : decode qb_M_stepBounds 49 = .ok (.invokevirtual 187, 3) := by decide +kernel
theorem qd_M_stepBounds_52 : decode qb_M_stepBounds 52 = .ok (.istore 5, 2) := by decide +kernel
theorem qd_M_stepBounds_54 : decode qb_M_stepBounds 54 = .ok (.aload_n 0, 1) := by decide +kernel
theorem qd_M_stepBounds_55 : decode qb_M_stepBounds 55 = .ok (.getfield 77, 3) := by decide +kernel
theorem qd_M_stepBounds_58 : decode qb_M_stepBounds 58 = .ok (.iload_n 1, 1) := by decide +kernel
theorem qd_M_stepBounds_59 : decode qb_M_stepBounds 59 = .ok (.dup2, 1) := by decide +kernel
theorem qd_M_stepBounds_60 : decode qb_M_stepBounds 60 = .ok (.iaload, 1) := by decide +kernel
theorem qd_M_stepBounds_61 : decode qb_M_stepBounds 61 = .ok (.iconst 1, 1) := by decide +kernel
theorem qd_M_stepBounds_62 : decode qb_M_stepBounds 62 = .ok (.iadd, 1) := by decide +kernel
theorem qd_M_stepBounds_63 : decode qb_M_stepBounds 63 = .ok (.iastore, 1) := by decide +kernel
theorem qd_M_stepBounds_64 : decode qb_M_stepBounds 64 = .ok (.aload_n 0, 1) := by decide +kernel
theorem qd_M_stepBounds_65 : decode qb_M_stepBounds 65 = .ok (.iload 5, 2) := by decide +kernel
theorem qd_M_stepBounds_67 : decode qb_M_stepBounds 67 = .ok (.iload_n 3, 1) := by decide +kernel
theorem qd_M_stepBounds_68 : decode qb_M_stepBounds 68 = .ok (.invokevirtual 193, 3) := by decide +kernel
theorem qd_M_stepBounds_71 : decode qb_M_stepBounds 71 = .ok (.iconst 2, 1) := by decide +kernel
theorem qd_M_stepBounds_72 : decode qb_M_stepBounds 72 = .ok (.ireturn, 1) := by decide +kernel
theorem qd_M_stepBounds_73 : decode qb_M_stepBounds 73 = .ok (.aload_n 0, 1) := by decide +kernel
theorem qd_M_stepBounds_74 : decode qb_M_stepBounds 74 = .ok (.getfield 74, 3) := by decide +kernel
theorem qd_M_stepBounds_77 : decode qb_M_stepBounds 77 = .ok (.iload_n 1, 1) := by decide +kernel
theorem qd_M_stepBounds_78 : decode qb_M_stepBounds 78 = .ok (.iconst 2, 1) := by decide +kernel
theorem qd_M_stepBounds_79 : decode qb_M_stepBounds 79 = .ok (.iastore, 1) := by decide +kernel
theorem qd_M_stepBounds_80 : decode qb_M_stepBounds 80 = .ok (.aload_n 0, 1) := by decide +kernel
theorem qd_M_stepBounds_81 : decode qb_M_stepBounds 81 = .ok (.getfield 77, 3) := by decide +kernel
theorem qd_M_stepBounds_84 : decode qb_M_stepBounds 84 = .ok (.iload_n 1, 1) := by decide +kernel
theorem qd_M_stepBounds_85 : decode qb_M_stepBounds 85 = .ok (.iconst 0, 1) := by decide +kernel
theorem qd_M_stepBounds_86 : decode qb_M_stepBounds 86 = .ok (.iastore, 1) := by decide +kernel
theorem qd_M_stepBounds_87 : decode qb_M_stepBounds 87 = .ok (.iconst 2, 1) := by decide +kernel
theorem qd_M_stepBounds_88 : decode qb_M_stepBounds 88 = .ok (.ireturn, 1) := by decide +kernel
theorem qd_M_boundCount_0 : decode qb_M_boundCount 0 = .ok (.aload_n 0, 1) := by decide +kernel
theorem qd_M_boundCount_1 : decode qb_M_boundCount 1 = .ok (.getfield 31, 3) := by decide +kernel
theorem qd_M_boundCount_4 : decode qb_M_boundCount 4 = .ok (.iload_n 1, 1) := by decide +kernel
theorem qd_M_boundCount_5 : decode qb_M_boundCount 5 = .ok (.iaload, 1) := by decide +kernel
theorem qd_M_boundCount_6 : decode qb_M_boundCount 6 = .ok (.iconst (-1), 1) := by decide +kernel
theorem qd_M_boundCount_7 : decode qb_M_boundCount 7 = .ok (.if_icmp .ne 17, 3) := by decide +kernel
theorem qd_M_boundCount_10 : decode qb_M_boundCount 10 = .ok (.aload_n 0, 1) := by decide +kernel
theorem qd_M_boundCount_11 : decode qb_M_boundCount 11 = .ok (.getfield 46, 3) := by decide +kernel
theorem qd_M_boundCount_14 : decode qb_M_boundCount 14 = .ok (.aload_n 0, 1) := by decide +kernel
theorem qd_M_boundCount_15 : decode qb_M_boundCount 15 = .ok (.getfield 34, 3) := by decide +kernel
theorem qd_M_boundCount_18 : decode qb_M_boundCount 18 = .ok (.iload_n 1, 1) := by decide +kernel
theorem qd_M_boundCount_19 : decode qb_M_boundCount 19 = .ok (.iaload, 1) := by decide +kernel
theorem qd_M_boundCount_20 : decode qb_M_boundCount 20 = .ok (.iaload, 1) := by decide +kernel
theorem qd_M_boundCount_21 : decode qb_M_boundCount 21 = .ok (.goto 23, 3) := by decide +kernel
theorem qd_M_boundCount_24 : decode qb_M_boundCount 24 = .ok (.aload_n 0, 1) := by decide +kernel
theorem qd_M_boundCount_25 : decode qb_M_boundCount 25 = .ok (.getfield 25, 3) := by decide +kernel
theorem qd_M_boundCount_28 : decode qb_M_boundCount 28 = .ok (.iconst 2, 1) := by decide +kernel
theorem qd_M_boundCount_29 : decode qb_M_boundCount 29 = .ok (.aload_n 0, 1) := by decide +kernel
theorem qd_M_boundCount_30 : decode qb_M_boundCount 30 = .ok (.getfield 31, 3) := by decide +kernel
theorem qd_M_boundCount_33 : decode qb_M_boundCount 33 = .ok (.iload_n 1, 1) := by decide +kernel
theorem qd_M_boundCount_34 : decode qb_M_boundCount 34 = .ok (.iaload, 1) := by decide +kernel
theorem qd_M_boundCount_35 : decode qb_M_boundCount 35 = .ok (.imul, 1) := by decide +kernel
theorem qd_M_boundCount_36 : decode qb_M_boundCount 36 = .ok (.aload_n 0, 1) := by decide +kernel
theorem qd_M_boundCount_37 : decode qb_M_boundCount 37 = .ok (.getfield 34, 3) := by decide +kernel
theorem qd_M_boundCount_40 : decode qb_M_boundCount 40 = .ok (.iload_n 1, 1) := by decide +kernel
theorem qd_M_boundCount_41 : decode qb_M_boundCount 41 = .ok (.iaload, 1) := by decide +kernel
theorem qd_M_boundCount_42 : decode qb_M_boundCount 42 = .ok (.iadd, 1) := by decide +kernel
theorem qd_M_boundCount_43 : decode qb_M_boundCount 43 = .ok (.iaload, 1) := by decide +kernel
theorem qd_M_boundCount_44 : decode qb_M_boundCount 44 = .ok (.istore_n 2, 1) := by decide +kernel
theorem qd_M_boundCount_45 : decode qb_M_boundCount 45 = .ok (.iload_n 2, 1) := by decide +kernel
theorem qd_M_boundCount_46 : decode qb_M_boundCount 46 = .ok (.ifCond .ne 7, 3) := by decide +kernel
theorem qd_M_boundCount_49 : decode qb_M_boundCount 49 = .ok (.iconst 1, 1) := by decide +kernel
theorem qd_M_boundCount_50 : decode qb_M_boundCount 50 = .ok (.goto 4, 3) := by decide +kernel
theorem qd_M_boundCount_53 : decode qb_M_boundCount 53 = .ok (.iload_n 2, 1) := by decide +kernel
theorem qd_M_boundCount_54 : decode qb_M_boundCount 54 = .ok (.ireturn, 1) := by decide +kernel
theorem qd_M_boundOf_0 : decode qb_M_boundOf 0 = .ok (.aload_n 0, 1) := by decide +kernel
theorem qd_M_boundOf_1 : decode qb_M_boundOf 1 = .ok (.getfield 31, 3) := by decide +kernel
theorem qd_M_boundOf_4 : decode qb_M_boundOf 4 = .ok (.iload_n 1, 1) := by decide +kernel
theorem qd_M_boundOf_5 : decode qb_M_boundOf 5 = .ok (.iaload, 1) := by decide +kernel
theorem qd_M_boundOf_6 : decode qb_M_boundOf 6 = .ok (.iconst (-1), 1) := by decide +kernel
theorem qd_M_boundOf_7 : decode qb_M_boundOf 7 = .ok (.if_icmp .ne 17, 3) := by decide +kernel
theorem qd_M_boundOf_10 : decode qb_M_boundOf 10 = .ok (.aload_n 0, 1) := by decide +kernel
theorem qd_M_boundOf_11 : decode qb_M_boundOf 11 = .ok (.getfield 46, 3) := by decide +kernel
theorem qd_M_boundOf_14 : decode qb_M_boundOf 14 = .ok (.aload_n 0, 1) := by decide +kernel
theorem qd_M_boundOf_15 : decode qb_M_boundOf 15 = .ok (.getfield 34, 3) := by decide +kernel
theorem qd_M_boundOf_18 : decode qb_M_boundOf 18 = .ok (.iload_n 1, 1) := by decide +kernel
theorem qd_M_boundOf_19 : decode qb_M_boundOf 19 = .ok (.iaload, 1) := by decide +kernel
theorem qd_M_boundOf_20 : decode qb_M_boundOf 20 = .ok (.iaload, 1) := by decide +kernel
theorem qd_M_boundOf_21 : decode qb_M_boundOf 21 = .ok (.goto 23, 3) := by decide +kernel
theorem qd_M_boundOf_24 : decode qb_M_boundOf 24 = .ok (.aload_n 0, 1) := by decide +kernel
theorem qd_M_boundOf_25 : decode qb_M_boundOf 25 = .ok (.getfield 25, 3) := by decide +kernel
theorem qd_M_boundOf_28 : decode qb_M_boundOf 28 = .ok (.iconst 2, 1) := by decide +kernel
theorem qd_M_boundOf_29 : decode qb_M_boundOf 29 = .ok (.aload_n 0, 1) := by decide +kernel
theorem qd_M_boundOf_30 : decode qb_M_boundOf 30 = .ok (.getfield 31, 3) := by decide +kernel
theorem qd_M_boundOf_33 : decode qb_M_boundOf 33 = .ok (.iload_n 1, 1) := by decide +kernel
theorem qd_M_boundOf_34 : decode qb_M_boundOf 34 = .ok (.iaload, 1) := by decide +kernel
theorem qd_M_boundOf_35 : decode qb_M_boundOf 35 = .ok (.imul, 1) := by decide +kernel
theorem qd_M_boundOf_36 : decode qb_M_boundOf 36 = .ok (.aload_n 0, 1) := by decide +kernel
theorem qd_M_boundOf_37 : decode qb_M_boundOf 37 = .ok (.getfield 34, 3) := by decide +kernel
theorem qd_M_boundOf_40 : decode qb_M_boundOf 40 = .ok (.iload_n 1, 1) := by decide +kernel
theorem qd_M_boundOf_41 : decode qb_M_boundOf 41 = .ok (.iaload, 1) := by decide +kernel
theorem qd_M_boundOf_42 : decode qb_M_boundOf 42 = .ok (.iadd, 1) := by decide +kernel
theorem qd_M_boundOf_43 : decode qb_M_boundOf 43 = .ok (.iaload, 1) := by decide +kernel
theorem qd_M_boundOf_44 : decode qb_M_boundOf 44 = .ok (.istore_n 3, 1) := by decide +kernel
theorem qd_M_boundOf_45 : decode qb_M_boundOf 45 = .ok (.iload_n 3, 1) := by decide +kernel
theorem qd_M_boundOf_46 : decode qb_M_boundOf 46 = .ok (.ifCond .ne 7, 3) := by decide +kernel
theorem qd_M_boundOf_49 : decode qb_M_boundOf 49 = .ok (.iconst 0, 1) := by decide +kernel
theorem qd_M_boundOf_50 : decode qb_M_boundOf 50 = .ok (.goto 55, 3) := by decide +kernel
theorem qd_M_boundOf_53 : decode qb_M_boundOf 53 = .ok (.aload_n 0, 1) := by decide +kernel
theorem qd_M_boundOf_54 : decode qb_M_boundOf 54 = .ok (.getfield 31, 3) := by decide +kernel
theorem qd_M_boundOf_57 : decode qb_M_boundOf 57 = .ok (.iload_n 1, 1) := by decide +kernel
theorem qd_M_boundOf_58 : decode qb_M_boundOf 58 = .ok (.iaload, 1) := by decide +kernel
theorem qd_M_boundOf_59 : decode qb_M_boundOf 59 = .ok (.iconst (-1), 1) := by decide +kernel
theorem qd_M_boundOf_60 : decode qb_M_boundOf 60 = .ok (.if_icmp .ne 21, 3) := by decide +kernel
theorem qd_M_boundOf_63 : decode qb_M_boundOf 63 = .ok (.aload_n 0, 1) := by decide +kernel
theorem qd_M_boundOf_64 : decode qb_M_boundOf 64 = .ok (.getfield 43, 3) := by decide +kernel
theorem qd_M_boundOf_67 : decode qb_M_boundOf 67 = .ok (.iconst 3, 1) := by decide +kernel
theorem qd_M_boundOf_68 : decode qb_M_boundOf 68 = .ok (.aload_n 0, 1) := by decide +kernel
theorem qd_M_boundOf_69 : decode qb_M_boundOf 69 = .ok (.getfield 34, 3) := by decide +kernel
theorem qd_M_boundOf_72 : decode qb_M_boundOf 72 = .ok (.iload_n 1, 1) := by decide +kernel
theorem qd_M_boundOf_73 : decode qb_M_boundOf 73 = .ok (.iaload, 1) := by decide +kernel
theorem qd_M_boundOf_74 : decode qb_M_boundOf 74 = .ok (.imul, 1) := by decide +kernel
theorem qd_M_boundOf_75 : decode qb_M_boundOf 75 = .ok (.iload_n 2, 1) := by decide +kernel
theorem qd_M_boundOf_76 : decode qb_M_boundOf 76 = .ok (.iadd, 1) := by decide +kernel
theorem qd_M_boundOf_77 : decode qb_M_boundOf 77 = .ok (.iaload, 1) := by decide +kernel
theorem qd_M_boundOf_78 : decode qb_M_boundOf 78 = .ok (.goto 27, 3) := by decide +kernel
theorem qd_M_boundOf_81 : decode qb_M_boundOf 81 = .ok (.aload_n 0, 1) := by decide +kernel
theorem qd_M_boundOf_82 : decode qb_M_boundOf 82 = .ok (.getfield 22, 3) := by decide +kernel
theorem qd_M_boundOf_85 : decode qb_M_boundOf 85 = .ok (.iconst 2, 1) := by decide +kernel
theorem qd_M_boundOf_86 : decode qb_M_boundOf 86 = .ok (.iconst 2, 1) := by decide +kernel
theorem qd_M_boundOf_87 : decode qb_M_boundOf 87 = .ok (.aload_n 0, 1) := by decide +kernel
theorem qd_M_boundOf_88 : decode qb_M_boundOf 88 = .ok (.getfield 31, 3) := by decide +kernel
theorem qd_M_boundOf_91 : decode qb_M_boundOf 91 = .ok (.iload_n 1, 1) := by decide +kernel
theorem qd_M_boundOf_92 : decode qb_M_boundOf 92 = .ok (.iaload, 1) := by decide +kernel
theorem qd_M_boundOf_93 : decode qb_M_boundOf 93 = .ok (.imul, 1) := by decide +kernel
theorem qd_M_boundOf_94 : decode qb_M_boundOf 94 = .ok (.aload_n 0, 1) := by decide +kernel
theorem qd_M_boundOf_95 : decode qb_M_boundOf 95 = .ok (.getfield 34, 3) := by decide +kernel
theorem qd_M_boundOf_98 : decode qb_M_boundOf 98 = .ok (.iload_n 1, 1) := by decide +kernel
theorem qd_M_boundOf_99 : decode qb_M_boundOf 99 = .ok (.iaload, 1) := by decide +kernel
theorem qd_M_boundOf_100 : decode qb_M_boundOf 100 = .ok (.iadd, 1) := by decide +kernel
theorem qd_M_boundOf_101 : decode qb_M_boundOf 101 = .ok (.imul, 1) := by decide +kernel
theorem qd_M_boundOf_102 : decode qb_M_boundOf 102 = .ok (.iload_n 2, 1) := by decide +kernel
theorem qd_M_boundOf_103 : decode qb_M_boundOf 103 = .ok (.iadd, 1) := by decide +kernel
theorem qd_M_boundOf_104 : decode qb_M_boundOf 104 = .ok (.iaload, 1) := by decide +kernel
theorem qd_M_boundOf_105 : decode qb_M_boundOf 105 = .ok (.ireturn, 1) := by decide +kernel
theorem qd_M_stepLow_0 : decode qb_M_stepLow 0 = .ok (.aload_n 0, 1) := by decide +kernel
theorem qd_M_stepLow_1 : decode qb_M_stepLow 1 = .ok (.getfield 77, 3) := by decide +kernel
theorem qd_M_stepLow_4 : decode qb_M_stepLow 4 = .ok (.iload_n 1, 1) := by decide +kernel
theorem qd_M_stepLow_5 : decode qb_M_stepLow 5 = .ok (.iaload, 1) := by decide +kernel
theorem qd_M_stepLow_6 : decode qb_M_stepLow 6 = .ok (.ifCond .le 11, 3) := by decide +kernel
theorem qd_M_stepLow_9 : decode qb_M_stepLow 9 = .ok (.iload 4, 2) := by decide +kernel
theorem qd_M_stepLow_11 : decode qb_M_stepLow 11 = .ok (.iconst 1, 1) := by decide +kernel
theorem qd_M_stepLow_12 : decode qb_M_stepLow 12 = .ok (.if_icmp .ne 5, 3) := by decide +kernel
theorem qd_M_stepLow_15 : decode qb_M_stepLow 15 = .ok (.iconst 1, 1) := by decide +kernel
theorem qd_M_stepLow_16 : decode qb_M_stepLow 16 = .ok (.ireturn, 1) := by decide +kernel
theorem qd_M_stepLow_17 : decode qb_M_stepLow 17 = .ok (.aload_n 0, 1) := by decide +kernel
theorem qd_M_stepLow_18 : decode qb_M_stepLow 18 = .ok (.getfield 77, 3) := by decide +kernel
theorem qd_M_stepLow_21 : decode qb_M_stepLow 21 = .ok (.iload_n 1, 1) := by decide +kernel
theorem qd_M_stepLow_22 : decode qb_M_stepLow 22 = .ok (.iaload, 1) := by decide +kernel
theorem qd_M_stepLow_23 : decode qb_M_stepLow 23 = .ok (.ifCond .ne 41, 3) := by decide +kernel
theorem qd_M_stepLow_26 : decode qb_M_stepLow 26 = .ok (.aload_n 0, 1) := by decide +kernel
theorem qd_M_stepLow_27 : decode qb_M_stepLow 27 = .ok (.getfield 28, 3) := by decide +kernel
theorem qd_M_stepLow_30 : decode qb_M_stepLow 30 = .ok (.iload_n 3, 1) := by decide +kernel
theorem qd_M_stepLow_31 : decode qb_M_stepLow 31 = .ok (.iaload, 1) := by decide +kernel
theorem qd_M_stepLow_32 : decode qb_M_stepLow 32 = .ok (.iconst 3, 1) := by decide +kernel
theorem qd_M_stepLow_33 : decode qb_M_stepLow 33 = .ok (.if_icmp .ne 31, 3) := by decide +kernel
theorem qd_M_stepLow_36 : decode qb_M_stepLow 36 = .ok (.aload_n 0, 1) := by decide +kernel
theorem qd_M_stepLow_37 : decode qb_M_stepLow 37 = .ok (.iload_n 3, 1) := by decide +kernel
theorem qd_M_stepLow_38 : decode qb_M_stepLow 38 = .ok (.invokevirtual 216, 3) := by decide +kernel
theorem qd_M_stepLow_41 : decode qb_M_stepLow 41 = .ok (.iconst (-1), 1) := by decide +kernel
theorem qd_M_stepLow_42 : decode qb_M_stepLow 42 = .ok (.if_icmp .eq 22, 3) := by decide +kernel
theorem qd_M_stepLow_45 : decode qb_M_stepLow 45 = .ok (.aload_n 0, 1) := by decide +kernel
theorem qd_M_stepLow_46 : decode qb_M_stepLow 46 = .ok (.getfield 77, 3) := by decide +kernel
theorem qd_M_stepLow_49 : decode qb_M_stepLow 49 = .ok (.iload_n 1, 1) := by decide +kernel
theorem qd_M_stepLow_50 : decode qb_M_stepLow 50 = .ok (.iconst 1, 1) := by decide +kernel
theorem qd_M_stepLow_51 : decode qb_M_stepLow 51 = .ok (.iastore, 1) := by decide +kernel
theorem qd_M_stepLow_52 : decode qb_M_stepLow 52 = .ok (.aload_n 0, 1) := by decide +kernel
theorem qd_M_stepLow_53 : decode qb_M_stepLow 53 = .ok (.iload_n 2, 1) := by decide +kernel
theorem qd_M_stepLow_54 : decode qb_M_stepLow 54 = .ok (.aload_n 0, 1) := by decide +kernel
theorem qd_M_stepLow_55 : decode qb_M_stepLow 55 = .ok (.iload_n 3, 1) := by decide +kernel
theorem qd_M_stepLow_56 : decode qb_M_stepLow 56 = .ok (.invokevirtual 216, 3) := by decide +kernel
theorem qd_M_stepLow_59 : decode qb_M_stepLow 59 = .ok (.invokevirtual 193, 3) := by decide +kernel
theorem qd_M_stepLow_62 : decode qb_M_stepLow 62 = .ok (.iconst 2, 1) := by decide +kernel
theorem qd_M_stepLow_63 : decode qb_M_stepLow 63 = .ok (.ireturn, 1) := by decide +kernel
theorem qd_M_stepLow_64 : decode qb_M_stepLow 64 = .ok (.aload_n 0, 1) := by decide +kernel
theorem qd_M_stepLow_65 : decode qb_M_stepLow 65 = .ok (.getfield 74, 3) := by decide +kernel
theorem qd_M_stepLow_68 : decode qb_M_stepLow 68 = .ok (.iload_n 1, 1) := by decide +kernel
theorem qd_M_stepLow_69 : decode qb_M_stepLow 69 = .ok (.iconst 3, 1) := by decide +kernel
theorem qd_M_stepLow_70 : decode qb_M_stepLow 70 = .ok (.iastore, 1) := by decide +kernel
theorem qd_M_stepLow_71 : decode qb_M_stepLow 71 = .ok (.aload_n 0, 1) := by decide +kernel
theorem qd_M_stepLow_72 : decode qb_M_stepLow 72 = .ok (.getfield 77, 3) := by decide +kernel
theorem qd_M_stepLow_75 : decode qb_M_stepLow 75 = .ok (.iload_n 1, 1) := by decide +kernel
theorem qd_M_stepLow_76 : decode qb_M_stepLow 76 = .ok (.iconst 0, 1) := by decide +kernel
theorem qd_M_stepLow_77 : decode qb_M_stepLow 77 = .ok (.iastore, 1) := by decide +kernel
theorem qd_M_stepLow_78 : decode qb_M_stepLow 78 = .ok (.iconst 2, 1) := by decide +kernel
theorem qd_M_stepLow_79 : decode qb_M_stepLow 79 = .ok (.ireturn, 1) := by decide +kernel
theorem qd_M_lowOf_0 : decode qb_M_lowOf 0 = .ok (.aload_n 0, 1) := by decide +kernel
theorem qd_M_lowOf_1 : decode qb_M_lowOf 1 = .ok (.getfield 31, 3) := by decide +kernel
theorem qd_M_lowOf_4 : decode qb_M_lowOf 4 = .ok (.iload_n 1, 1) := by decide +kernel
theorem qd_M_lowOf_5 : decode qb_M_lowOf 5 = .ok (.iaload, 1) := by decide +kernel
theorem qd_M_lowOf_6 : decode qb_M_lowOf 6 = .ok (.iconst (-1), 1) := by decide +kernel
theorem qd_M_lowOf_7 : decode qb_M_lowOf 7 = .ok (.if_icmp .ne 17, 3) := by decide +kernel
theorem qd_M_lowOf_10 : decode qb_M_lowOf 10 = .ok (.aload_n 0, 1) := by decide +kernel
theorem qd_M_lowOf_11 : decode qb_M_lowOf 11 = .ok (.getfield 49, 3) := by decide +kernel
theorem qd_M_lowOf_14 : decode qb_M_lowOf 14 = .ok (.aload_n 0, 1) := by decide +kernel
theorem qd_M_lowOf_15 : decode qb_M_lowOf 15 = .ok (.getfield 34, 3) := by decide +kernel
theorem qd_M_lowOf_18 : decode qb_M_lowOf 18 = .ok (.iload_n 1, 1) := by decide +kernel
theorem qd_M_lowOf_19 : decode qb_M_lowOf 19 = .ok (.iaload, 1) := by decide +kernel
theorem qd_M_lowOf_20 : decode qb_M_lowOf 20 = .ok (.iaload, 1) := by decide +kernel
theorem qd_M_lowOf_21 : decode qb_M_lowOf 21 = .ok (.goto 4, 3) := by decide +kernel
theorem qd_M_lowOf_24 : decode qb_M_lowOf 24 = .ok (.iconst (-1), 1) := by decide +kernel
theorem qd_M_lowOf_25 : decode qb_M_lowOf 25 = .ok (.ireturn, 1) := by decide +kernel
theorem qd_M_stepParts_0 : decode qb_M_stepParts 0 = .ok (.aload_n 0, 1) := by decide +kernel
theorem qd_M_stepParts_1 : decode qb_M_stepParts 1 = .ok (.getfield 77, 3) := by decide +kernel
theorem qd_M_stepParts_4 : decode qb_M_stepParts 4 = .ok (.iload_n 1, 1) := by decide +kernel
theorem qd_M_stepParts_5 : decode qb_M_stepParts 5 = .ok (.iaload, 1) := by decide +kernel
theorem qd_M_stepParts_6 : decode qb_M_stepParts 6 = .ok (.ifCond .le 6, 3) := by decide +kernel
theorem qd_M_stepParts_9 : decode qb_M_stepParts 9 = .ok (.iload 4, 2) := by decide +kernel
theorem qd_M_stepParts_11 : decode qb_M_stepParts 11 = .ok (.ireturn, 1) := by decide +kernel
theorem qd_M_stepParts_12 : decode qb_M_stepParts 12 = .ok (.aload_n 0, 1) := by decide +kernel
theorem qd_M_stepParts_13 : decode qb_M_stepParts 13 = .ok (.getfield 28, 3) := by decide +kernel
theorem qd_M_stepParts_16 : decode qb_M_stepParts 16 = .ok (.iload_n 2, 1) := by decide +kernel
theorem qd_M_stepParts_17 : decode qb_M_stepParts 17 = .ok (.iaload, 1) := by decide +kernel
theorem qd_M_stepParts_18 : decode qb_M_stepParts 18 = .ok (.iconst 4, 1) := by decide +kernel
theorem qd_M_stepParts_19 : decode qb_M_stepParts 19 = .ok (.if_icmp .ne 60, 3) := by decide +kernel
theorem qd_M_stepParts_22 : decode qb_M_stepParts 22 = .ok (.aload_n 0, 1) := by decide +kernel
theorem qd_M_stepParts_23 : decode qb_M_stepParts 23 = .ok (.getfield 28, 3) := by decide +kernel
theorem qd_M_stepParts_26 : decode qb_M_stepParts 26 = .ok (.iload_n 3, 1) := by decide +kernel
theorem qd_M_stepParts_27 : decode qb_M_stepParts 27 = .ok (.iaload, 1) := by decide +kernel
theorem qd_M_stepParts_28 : decode qb_M_stepParts 28 = .ok (.iconst 4, 1) := by decide +kernel
theorem qd_M_stepParts_29 : decode qb_M_stepParts 29 = .ok (.if_icmp .ne 50, 3) := by decide +kernel
theorem qd_M_stepParts_32 : decode qb_M_stepParts 32 = .ok (.aload_n 0, 1) := by decide +kernel
theorem qd_M_stepParts_33 : decode qb_M_stepParts 33 = .ok (.getfield 34, 3) := by decide +kernel
theorem qd_M_stepParts_36 : decode qb_M_stepParts 36 = .ok (.iload_n 2, 1) := by decide +kernel
theorem qd_M_stepParts_37 : decode qb_M_stepParts 37 = .ok (.iaload, 1) := by decide +kernel
theorem qd_M_stepParts_38 : decode qb_M_stepParts 38 = .ok (.iconst 1, 1) := by decide +kernel
theorem qd_M_stepParts_39 : decode qb_M_stepParts 39 = .ok (.if_icmp .eq 13, 3) := by decide +kernel
theorem qd_M_stepParts_42 : decode qb_M_stepParts 42 = .ok (.aload_n 0, 1) := by decide +kernel
theorem qd_M_stepParts_43 : decode qb_M_stepParts 43 = .ok (.getfield 34, 3) := by decide +kernel
theorem qd_M_stepParts_46 : decode qb_M_stepParts 46 = .ok (.iload_n 3, 1) := by decide +kernel
theorem qd_M_stepParts_47 : decode qb_M_stepParts 47 = .ok (.iaload, 1) := by decide +kernel
theorem qd_M_stepParts_48 : decode qb_M_stepParts 48 = .ok (.iconst 1, 1) := by decide +kernel
theorem qd_M_stepParts_49 : decode qb_M_stepParts 49 = .ok (.if_icmp .ne 5, 3) := by decide +kernel
theorem qd_M_stepParts_52 : decode qb_M_stepParts 52 = .ok (.iconst 0, 1) := by decide +kernel
theorem qd_M_stepParts_53 : decode qb_M_stepParts 53 = .ok (.ireturn, 1) := by decide +kernel
theorem qd_M_stepParts_54 : decode qb_M_stepParts 54 = .ok (.aload_n 0, 1) := by decide +kernel
theorem qd_M_stepParts_55 : decode qb_M_stepParts 55 = .ok (.getfield 77, 3) := by decide +kernel
theorem qd_M_stepParts_58 : decode qb_M_stepParts 58 = .ok (.iload_n 1, 1) := by decide +kernel
theorem qd_M_stepParts_59 : decode qb_M_stepParts 59 = .ok (.iconst 1, 1) := by decide +kernel
theorem qd_M_stepParts_60 : decode qb_M_stepParts 60 = .ok (.iastore, 1) := by decide +kernel
theorem qd_M_stepParts_61 : decode qb_M_stepParts 61 = .ok (.aload_n 0, 1) := by decide +kernel
theorem qd_M_stepParts_62 : decode qb_M_stepParts 62 = .ok (.aload_n 0, 1) := by decide +kernel
theorem qd_M_stepParts_63 : decode qb_M_stepParts 63 = .ok (.getfield 34, 3) := by decide +kernel
theorem qd_M_stepParts_66 : decode qb_M_stepParts 66 = .ok (.iload_n 2, 1) := by decide +kernel
theorem qd_M_stepParts_67 : decode qb_M_stepParts 67 = .ok (.iaload, 1) := by decide +kernel
theorem qd_M_stepParts_68 : decode qb_M_stepParts 68 = .ok (.aload_n 0, 1) := by decide +kernel
theorem qd_M_stepParts_69 : decode qb_M_stepParts 69 = .ok (.getfield 34, 3) := by decide +kernel
theorem qd_M_stepParts_72 : decode qb_M_stepParts 72 = .ok (.iload_n 3, 1) := by decide +kernel
theorem qd_M_stepParts_73 : decode qb_M_stepParts 73 = .ok (.iaload, 1) := by decide +kernel
theorem qd_M_stepParts_74 : decode qb_M_stepParts 74 = .ok (.invokevirtual 193, 3) := by decide +kernel
theorem qd_M_stepParts_77 : decode qb_M_stepParts 77 = .ok (.iconst 2, 1) := by decide +kernel
theorem qd_M_stepParts_78 : decode qb_M_stepParts 78 = .ok (.ireturn, 1) := by decide +kernel
theorem qd_M_stepParts_79 : decode qb_M_stepParts 79 = .ok (.aload_n 0, 1) := by decide +kernel
theorem qd_M_stepParts_80 : decode qb_M_stepParts 80 = .ok (.iload_n 2, 1) := by decide +kernel
theorem qd_M_stepParts_81 : decode qb_M_stepParts 81 = .ok (.invokevirtual 219, 3) := by decide +kernel
theorem qd_M_stepParts_84 : decode qb_M_stepParts 84 = .ok (.ifCond .eq 35, 3) := by decide +kernel
theorem qd_M_stepParts_87 : decode qb_M_stepParts 87 = .ok (.aload_n 0, 1) := by decide +kernel
theorem qd_M_stepParts_88 : decode qb_M_stepParts 88 = .ok (.iload_n 3, 1) := by decide +kernel
theorem qd_M_stepParts_89 : decode qb_M_stepParts 89 = .ok (.invokevirtual 219, 3) := by decide +kernel
theorem qd_M_stepParts_92 : decode qb_M_stepParts 92 = .ok (.ifCond .eq 27, 3) := by decide +kernel
theorem qd_M_stepParts_95 : decode qb_M_stepParts 95 = .ok (.aload_n 0, 1) := by decide +kernel
theorem qd_M_stepParts_96 : decode qb_M_stepParts 96 = .ok (.getfield 52, 3) := by decide +kernel
theorem qd_M_stepParts_99 : decode qb_M_stepParts 99 = .ok (.bipush 12, 2) := by decide +kernel
theorem qd_M_stepParts_101 : decode qb_M_stepParts 101 = .ok (.aload_n 0, 1) := by decide +kernel
theorem qd_M_stepParts_102 : decode qb_M_stepParts 102 = .ok (.getfield 31, 3) := by decide +kernel
theorem qd_M_stepParts_105 : decode qb_M_stepParts 105 = .ok (.iload_n 2, 1) := by decide +kernel
theorem qd_M_stepParts_106 : decode qb_M_stepParts 106 = .ok (.iaload, 1) := by decide +kernel
theorem qd_M_stepParts_107 : decode qb_M_stepParts 107 = .ok (.imul, 1) := by decide +kernel
theorem qd_M_stepParts_108 : decode qb_M_stepParts 108 = .ok (.aload_n 0, 1) := by decide +kernel
theorem qd_M_stepParts_109 : decode qb_M_stepParts 109 = .ok (.getfield 31, 3) := by decide +kernel
theorem qd_M_stepParts_112 : decode qb_M_stepParts 112 = .ok (.iload_n 3, 1) := by decide +kernel
theorem qd_M_stepParts_113 : decode qb_M_stepParts 113 = .ok (.iaload, 1) := by decide +kernel
theorem qd_M_stepParts_114 : decode qb_M_stepParts 114 = .ok (.iadd, 1) := by decide +kernel
theorem qd_M_stepParts_115 : decode qb_M_stepParts 115 = .ok (.baload, 1) := by decide +kernel
theorem qd_M_stepParts_116 : decode qb_M_stepParts 116 = .ok (.ifCond .ne 5, 3) := by decide +kernel
theorem qd_M_stepParts_119 : decode qb_M_stepParts 119 = .ok (.iconst 0, 1) := by decide +kernel
theorem qd_M_stepParts_120 : decode qb_M_stepParts 120 = .ok (.ireturn, 1) := by decide +kernel
theorem qd_M_stepParts_121 : decode qb_M_stepParts 121 = .ok (.aload_n 0, 1) := by decide +kernel
theorem qd_M_stepParts_122 : decode qb_M_stepParts 122 = .ok (.getfield 28, 3) := by decide +kernel
theorem qd_M_stepParts_125 : decode qb_M_stepParts 125 = .ok (.iload_n 3, 1) := by decide +kernel
theorem qd_M_stepParts_126 : decode qb_M_stepParts 126 = .ok (.iaload, 1) := by decide +kernel
theorem qd_M_stepParts_127 : decode qb_M_stepParts 127 = .ok (.iconst 2, 1) := by decide +kernel
theorem qd_M_stepParts_128 : decode qb_M_stepParts 128 = .ok (.if_icmp .eq 5, 3) := by decide +kernel
theorem qd_M_stepParts_131 : decode qb_M_stepParts 131 = .ok (.iconst 1, 1) := by decide +kernel
theorem qd_M_stepParts_132 : decode qb_M_stepParts 132 = .ok (.ireturn, 1) := by decide +kernel
theorem qd_M_stepParts_133 : decode qb_M_stepParts 133 = .ok (.aload_n 0, 1) := by decide +kernel
theorem qd_M_stepParts_134 : decode qb_M_stepParts 134 = .ok (.getfield 80, 3) := by decide +kernel
theorem qd_M_stepParts_137 : decode qb_M_stepParts 137 = .ok (.iload_n 1, 1) := by decide +kernel
theorem qd_M_stepParts_138 : decode qb_M_stepParts 138 = .ok (.aload_n 0, 1) := by decide +kernel
theorem qd_M_stepParts_139 : decode qb_M_stepParts 139 = .ok (.iload_n 2, 1) := by decide +kernel
theorem qd_M_stepParts_140 : decode qb_M_stepParts 140 = .ok (.aload_n 0, 1) := by decide +kernel
theorem qd_M_stepParts_141 : decode qb_M_stepParts 141 = .ok (.getfield 31, 3) := by decide +kernel
theorem qd_M_stepParts_144 : decode qb_M_stepParts 144 = .ok (.iload_n 3, 1) := by decide +kernel
theorem qd_M_stepParts_145 : decode qb_M_stepParts 145 = .ok (.iaload, 1) := by decide +kernel
theorem qd_M_stepParts_146 : decode qb_M_stepParts 146 = .ok (.invokevirtual 222, 3) := by decide +kernel
theorem qd_M_stepParts_149 : decode qb_M_stepParts 149 = .ok (.iastore, 1) := by decide +kernel
theorem qd_M_stepParts_150 : decode qb_M_stepParts 150 = .ok (.aload_n 0, 1) := by decide +kernel
theorem qd_M_stepParts_151 : decode qb_M_stepParts 151 = .ok (.getfield 28, 3) := by decide +kernel
theorem qd_M_stepParts_154 : decode qb_M_stepParts 154 = .ok (.aload_n 0, 1) := by decide +kernel
theorem qd_M_stepParts_155 : decode qb_M_stepParts 155 = .ok (.getfield 80, 3) := by decide +kernel
theorem qd_M_stepParts_158 : decode qb_M_stepParts 158 = .ok (.iload_n 1, 1) := by decide +kernel
theorem qd_M_stepParts_159 : decode qb_M_stepParts 159 = .ok (.iaload, 1) := by decide +kernel
theorem qd_M_stepParts_160 : decode qb_M_stepParts 160 = .ok (.iaload, 1) := by decide +kernel
theorem qd_M_stepParts_161 : decode qb_M_stepParts 161 = .ok (.iconst 2, 1) := by decide +kernel
theorem qd_M_stepParts_162 : decode qb_M_stepParts 162 = .ok (.if_icmp .eq 5, 3) := by decide +kernel
theorem qd_M_stepParts_165 : decode qb_M_stepParts 165 = .ok (.iconst 0, 1) := by decide +kernel
theorem qd_M_stepParts_166 : decode qb_M_stepParts 166 = .ok (.ireturn, 1) := by decide +kernel
theorem qd_M_stepParts_167 : decode qb_M_stepParts 167 = .ok (.aload_n 0, 1) := by decide +kernel
theorem qd_M_stepParts_168 : decode qb_M_stepParts 168 = .ok (.getfield 74, 3) := by decide +kernel
theorem qd_M_stepParts_171 : decode qb_M_stepParts 171 = .ok (.iload_n 1, 1) := by decide +kernel
theorem qd_M_stepParts_172 : decode qb_M_stepParts 172 = .ok (.iconst 4, 1) := by decide +kernel
theorem qd_M_stepParts_173 : decode qb_M_stepParts 173 = .ok (.iastore, 1) := by decide +kernel
theorem qd_M_stepParts_174 : decode qb_M_stepParts 174 = .ok (.iconst 2, 1) := by decide +kernel
theorem qd_M_stepParts_175 : decode qb_M_stepParts 175 = .ok (.ireturn, 1) := by decide +kernel
theorem qd_M_isOfClass_0 : decode qb_M_isOfClass 0 = .ok (.aload_n 0, 1) := by decide +kernel
theorem qd_M_isOfClass_1 : decode qb_M_isOfClass 1 = .ok (.getfield 28, 3) := by decide +kernel
theorem qd_M_isOfClass_4 : decode qb_M_isOfClass 4 = .ok (.iload_n 1, 1) := by decide +kernel
theorem qd_M_isOfClass_5 : decode qb_M_isOfClass 5 = .ok (.iaload, 1) := by decide +kernel
theorem qd_M_isOfClass_6 : decode qb_M_isOfClass 6 = .ok (.iconst 2, 1) := by decide +kernel
theorem qd_M_isOfClass_7 : decode qb_M_isOfClass 7 = .ok (.if_icmp .gt 7, 3) := by decide +kernel
theorem qd_M_isOfClass_10 : decode qb_M_isOfClass 10 = .ok (.iconst 1, 1) := by decide +kernel
theorem qd_M_isOfClass_11 : decode qb_M_isOfClass 11 = .ok (.goto 4, 3) := by decide +kernel
theorem qd_M_isOfClass_14 : decode qb_M_isOfClass 14 = .ok (.iconst 0, 1) := by decide +kernel
theorem qd_M_isOfClass_15 : decode qb_M_isOfClass 15 = .ok (.ireturn, 1) := by decide +kernel
theorem qd_M_asClass_0 : decode qb_M_asClass 0 = .ok (.iload_n 2, 1) := by decide +kernel
theorem qd_M_asClass_1 : decode qb_M_asClass 1 = .ok (.ifCond .ne 5, 3) := by decide +kernel
theorem qd_M_asClass_4 : decode qb_M_asClass 4 = .ok (.iconst 0, 1) := by decide +kernel
theorem qd_M_asClass_5 : decode qb_M_asClass 5 = .ok (.ireturn, 1) := by decide +kernel
theorem qd_M_asClass_6 : decode qb_M_asClass 6 = .ok (.aload_n 0, 1) := by decide +kernel
theorem qd_M_asClass_7 : decode qb_M_asClass 7 = .ok (.iload_n 1, 1) := by decide +kernel
theorem qd_M_asClass_8 : decode qb_M_asClass 8 = .ok (.invokevirtual 181, 3) := by decide +kernel
theorem qd_M_asClass_11 : decode qb_M_asClass 11 = .ok (.istore_n 3, 1) := by decide +kernel
theorem qd_M_asClass_12 : decode qb_M_asClass 12 = .ok (.aload_n 0, 1) := by decide +kernel
theorem qd_M_asClass_13 : decode qb_M_asClass 13 = .ok (.getfield 31, 3) := by decide +kernel
theorem qd_M_asClass_16 : decode qb_M_asClass 16 = .ok (.iload_n 3, 1) := by decide +kernel
theorem qd_M_asClass_17 : decode qb_M_asClass 17 = .ok (.iaload, 1) := by decide +kernel
theorem qd_M_asClass_18 : decode qb_M_asClass 18 = .ok (.iload_n 2, 1) := by decide +kernel
theorem qd_M_asClass_19 : decode qb_M_asClass 19 = .ok (.if_icmp .eq 69, 3) := by decide +kernel
theorem qd_M_asClass_22 : decode qb_M_asClass 22 = .ok (.iconst 0, 1) := by decide +kernel
theorem qd_M_asClass_23 : decode qb_M_asClass 23 = .ok (.istore 4, 2) := by decide +kernel
theorem qd_M_asClass_25 : decode qb_M_asClass 25 = .ok (.aload_n 0, 1) := by decide +kernel
theorem qd_M_asClass_26 : decode qb_M_asClass 26 = .ok (.aload_n 0, 1) := by decide +kernel
theorem qd_M_asClass_27 : decode qb_M_asClass 27 = .ok (.getfield 31, 3) := by decide +kernel
theorem qd_M_asClass_30 : decode qb_M_asClass 30 = .ok (.iload_n 3, 1) := by decide +kernel
theorem qd_M_asClass_31 : decode qb_M_asClass 31 = .ok (.iaload, 1) := by decide +kernel
theorem qd_M_asClass_32 : decode qb_M_asClass 32 = .ok (.iload 4, 2) := by decide +kernel
theorem qd_M_asClass_34 : decode qb_M_asClass 34 = .ok (.invokevirtual 145, 3) := by decide +kernel
theorem qd_M_asClass_37 : decode qb_M_asClass 37 = .ok (.iconst (-1), 1) := by decide +kernel
theorem qd_M_asClass_38 : decode qb_M_asClass 38 = .ok (.if_icmp .eq 33, 3) := by decide +kernel
theorem qd_M_asClass_41 : decode qb_M_asClass 41 = .ok (.aload_n 0, 1) := by decide +kernel
theorem qd_M_asClass_42 : decode qb_M_asClass 42 = .ok (.getfield 52, 3) := by decide +kernel
theorem qd_M_asClass_45 : decode qb_M_asClass 45 = .ok (.bipush 12, 2) := by decide +kernel
theorem qd_M_asClass_47 : decode qb_M_asClass 47 = .ok (.aload_n 0, 1) := by decide +kernel
theorem qd_M_asClass_48 : decode qb_M_asClass 48 = .ok (.getfield 31, 3) := by decide +kernel
theorem qd_M_asClass_51 : decode qb_M_asClass 51 = .ok (.aload_n 0, 1) := by decide +kernel
theorem qd_M_asClass_52 : decode qb_M_asClass 52 = .ok (.aload_n 0, 1) := by decide +kernel
theorem qd_M_asClass_53 : decode qb_M_asClass 53 = .ok (.getfield 31, 3) := by decide +kernel
theorem qd_M_asClass_56 : decode qb_M_asClass 56 = .ok (.iload_n 3, 1) := by decide +kernel
theorem qd_M_asClass_57 : decode qb_M_asClass 57 = .ok (.iaload, 1) := by decide +kernel
theorem qd_M_asClass_58 : decode qb_M_asClass 58 = .ok (.iload 4, 2) := by decide +kernel
theorem qd_M_asClass_60 : decode qb_M_asClass 60 = .ok (.invokevirtual 145, 3) := by decide +kernel
theorem qd_M_asClass_63 : decode qb_M_asClass 63 = .ok (.iaload, 1) := by decide +kernel
theorem qd_M_asClass_64 : decode qb_M_asClass 64 = .ok (.imul, 1) := by decide +kernel
theorem qd_M_asClass_65 : decode qb_M_asClass 65 = .ok (.iload_n 2, 1) := by decide +kernel
theorem qd_M_asClass_66 : decode qb_M_asClass 66 = .ok (.iadd, 1) := by decide +kernel
theorem qd_M_asClass_67 : decode qb_M_asClass 67 = .ok (.baload, 1) := by decide +kernel
theorem qd_M_asClass_68 : decode qb_M_asClass 68 = .ok (.ifCond .ne 9, 3) := by decide +kernel
theorem qd_M_asClass_71 : decode qb_M_asClass 71 = .ok (.iinc 4 1, 3) := by decide +kernel
theorem qd_M_asClass_74 : decode qb_M_asClass 74 = .ok (.goto (-49), 3) := by decide +kernel
theorem qd_M_asClass_77 : decode qb_M_asClass 77 = .ok (.aload_n 0, 1) := by decide +kernel
theorem qd_M_asClass_78 : decode qb_M_asClass 78 = .ok (.iload_n 3, 1) := by decide +kernel
theorem qd_M_asClass_79 : decode qb_M_asClass 79 = .ok (.iload 4, 2) := by decide +kernel
theorem qd_M_asClass_81 : decode qb_M_asClass 81 = .ok (.invokevirtual 184, 3) := by decide +kernel
theorem qd_M_asClass_84 : decode qb_M_asClass 84 = .ok (.istore_n 3, 1) := by decide +kernel
theorem qd_M_asClass_85 : decode qb_M_asClass 85 = .ok (.goto (-73), 3) := by decide +kernel
theorem qd_M_asClass_88 : decode qb_M_asClass 88 = .ok (.iload_n 3, 1) := by decide +kernel
theorem qd_M_asClass_89 : decode qb_M_asClass 89 = .ok (.ireturn, 1) := by decide +kernel
theorem qd_M_catchIt_0 : decode qb_M_catchIt 0 = .ok (.aload_n 0, 1) := by decide +kernel
theorem qd_M_catchIt_1 : decode qb_M_catchIt 1 = .ok (.iload_n 1, 1) := by decide +kernel
theorem qd_M_catchIt_2 : decode qb_M_catchIt 2 = .ok (.invokevirtual 172, 3) := by decide +kernel
theorem qd_M_catchIt_5 : decode qb_M_catchIt 5 = .ok (.ifCond .ne 5, 3) := by decide +kernel
theorem qd_M_catchIt_8 : decode qb_M_catchIt 8 = .ok (.iload_n 1, 1) := by decide +kernel
theorem qd_M_catchIt_9 : decode qb_M_catchIt 9 = .ok (.ireturn, 1) := by decide +kernel
theorem qd_M_catchIt_10 : decode qb_M_catchIt 10 = .ok (.aload_n 0, 1) := by decide +kernel
theorem qd_M_catchIt_11 : decode qb_M_catchIt 11 = .ok (.getfield 31, 3) := by decide +kernel
theorem qd_M_catchIt_14 : decode qb_M_catchIt 14 = .ok (.iload_n 1, 1) := by decide +kernel
theorem qd_M_catchIt_15 : decode qb_M_catchIt 15 = .ok (.iaload, 1) := by decide +kernel
theorem qd_M_catchIt_16 : decode qb_M_catchIt 16 = .ok (.istore_n 2, 1) := by decide +kernel
theorem qd_M_catchIt_17 : decode qb_M_catchIt 17 = .ok (.iconst 0, 1) := by decide +kernel
theorem qd_M_catchIt_18 : decode qb_M_catchIt 18 = .ok (.istore_n 3, 1) := by decide +kernel
theorem qd_M_catchIt_19 : decode qb_M_catchIt 19 = .ok (.iload_n 3, 1) := by decide +kernel
theorem qd_M_catchIt_20 : decode qb_M_catchIt 20 = .ok (.aload_n 0, 1) := by decide +kernel
theorem qd_M_catchIt_21 : decode qb_M_catchIt 21 = .ok (.getfield 13, 3) := by decide +kernel
theorem qd_M_catchIt_24 : decode qb_M_catchIt 24 = .ok (.iload_n 2, 1) := by decide +kernel
theorem qd_M_catchIt_25 : decode qb_M_catchIt 25 = .ok (.iaload, 1) := by decide +kernel
theorem qd_M_catchIt_26 : decode qb_M_catchIt 26 = .ok (.if_icmp .ge 117, 3) := by decide +kernel
theorem qd_M_catchIt_29 : decode qb_M_catchIt 29 = .ok (.iload_n 3, 1) := by decide +kernel
theorem qd_M_catchIt_30 : decode qb_M_catchIt 30 = .ok (.ifCond .ne 12, 3) := by decide +kernel
theorem qd_M_catchIt_33 : decode qb_M_catchIt 33 = .ok (.aload_n 0, 1) := by decide +kernel
theorem qd_M_catchIt_34 : decode qb_M_catchIt 34 = .ok (.getfield 34, 3) := by decide +kernel
theorem qd_M_catchIt_37 : decode qb_M_catchIt 37 = .ok (.iload_n 1, 1) := by decide +kernel
theorem qd_M_catchIt_38 : decode qb_M_catchIt 38 = .ok (.iaload, 1) := by decide +kernel
theorem qd_M_catchIt_39 : decode qb_M_catchIt 39 = .ok (.goto 9, 3) := by decide +kernel
theorem qd_M_catchIt_42 : decode qb_M_catchIt 42 = .ok (.aload_n 0, 1) := by decide +kernel
theorem qd_M_catchIt_43 : decode qb_M_catchIt 43 = .ok (.getfield 37, 3) := by decide +kernel
theorem qd_M_catchIt_46 : decode qb_M_catchIt 46 = .ok (.iload_n 1, 1) := by decide +kernel
theorem qd_M_catchIt_47 : decode qb_M_catchIt 47 = .ok (.iaload, 1) := by decide +kernel
theorem qd_M_catchIt_48 : decode qb_M_catchIt 48 = .ok (.istore 4, 2) := by decide +kernel
theorem qd_M_catchIt_50 : decode qb_M_catchIt 50 = .ok (.aload_n 0, 1) := by decide +kernel
theorem qd_M_catchIt_51 : decode qb_M_catchIt 51 = .ok (.getfield 65, 3) := by decide +kernel
theorem qd_M_catchIt_54 : decode qb_M_catchIt 54 = .ok (.iload_n 3, 1) := by decide +kernel
theorem qd_M_catchIt_55 : decode qb_M_catchIt 55 = .ok (.iload 4, 2) := by decide +kernel
theorem qd_M_catchIt_57 : decode qb_M_catchIt 57 = .ok (.iastore, 1) := by decide +kernel
theorem qd_M_catchIt_58 : decode qb_M_catchIt 58 = .ok (.aload_n 0, 1) := by decide +kernel
theorem qd_M_catchIt_59 : decode qb_M_catchIt 59 = .ok (.getfield 28, 3) := by decide +kernel
theorem qd_M_catchIt_62 : decode qb_M_catchIt 62 = .ok (.iload 4, 2) := by decide +kernel
theorem qd_M_catchIt_64 : decode qb_M_catchIt 64 = .ok (.iaload, 1) := by decide +kernel
theorem qd_M_catchIt_65 : decode qb_M_catchIt 65 = .ok (.iconst 5, 1) := by decide +kernel
theorem qd_M_catchIt_66 : decode qb_M_catchIt 66 = .ok (.if_icmp .ne 71, 3) := by decide +kernel
theorem qd_M_catchIt_69 : decode qb_M_catchIt 69 = .ok (.aload_n 0, 1) := by decide +kernel
theorem qd_M_catchIt_70 : decode qb_M_catchIt 70 = .ok (.getfield 46, 3) := by decide +kernel
theorem qd_M_catchIt_73 : decode qb_M_catchIt 73 = .ok (.aload_n 0, 1) := by decide +kernel
theorem qd_M_catchIt_74 : decode qb_M_catchIt 74 = .ok (.getfield 112, 3) := by decide +kernel
theorem qd_M_catchIt_77 : decode qb_M_catchIt 77 = .ok (.iconst 0, 1) := by decide +kernel
theorem qd_M_catchIt_78 : decode qb_M_catchIt 78 = .ok (.iastore, 1) := by decide +kernel
theorem qd_M_catchIt_79 : decode qb_M_catchIt 79 = .ok (.aload_n 0, 1) := by decide +kernel
theorem qd_M_catchIt_80 : decode qb_M_catchIt 80 = .ok (.getfield 49, 3) := by decide +kernel
theorem qd_M_catchIt_83 : decode qb_M_catchIt 83 = .ok (.aload_n 0, 1) := by decide +kernel
theorem qd_M_catchIt_84 : decode qb_M_catchIt 84 = .ok (.getfield 112, 3) := by decide +kernel
theorem qd_M_catchIt_87 : decode qb_M_catchIt 87 = .ok (.aload_n 0, 1) := by decide +kernel
theorem qd_M_catchIt_88 : decode qb_M_catchIt 88 = .ok (.getfield 31, 3) := by decide +kernel
theorem qd_M_catchIt_91 : decode qb_M_catchIt 91 = .ok (.iload 4, 2) := by decide +kernel
theorem qd_M_catchIt_93 : decode qb_M_catchIt 93 = .ok (.iaload, 1) := by decide +kernel
theorem qd_M_catchIt_94 : decode qb_M_catchIt 94 = .ok (.iconst 2, 1) := by decide +kernel
theorem qd_M_catchIt_95 : decode qb_M_catchIt 95 = .ok (.if_icmp .ne 13, 3) := by decide +kernel
theorem qd_M_catchIt_98 : decode qb_M_catchIt 98 = .ok (.aload_n 0, 1) := by decide +kernel
theorem qd_M_catchIt_99 : decode qb_M_catchIt 99 = .ok (.getfield 34, 3) := by decide +kernel
theorem qd_M_catchIt_102 : decode qb_M_catchIt 102 = .ok (.iload 4, 2) := by decide +kernel
theorem qd_M_catchIt_104 : decode qb_M_catchIt 104 = .ok (.iaload, 1) := by decide +kernel
theorem qd_M_catchIt_105 : decode qb_M_catchIt 105 = .ok (.goto 4, 3) := by decide +kernel
theorem qd_M_catchIt_108 : decode qb_M_catchIt 108 = .ok (.iconst (-1), 1) := by decide +kernel
theorem qd_M_catchIt_109 : decode qb_M_catchIt 109 = .ok (.iastore, 1) := by decide +kernel
theorem qd_M_catchIt_110 : decode qb_M_catchIt 110 = .ok (.aload_n 0, 1) := by decide +kernel
theorem qd_M_catchIt_111 : decode qb_M_catchIt 111 = .ok (.getfield 65, 3) := by decide +kernel
theorem qd_M_catchIt_114 : decode qb_M_catchIt 114 = .ok (.iload_n 3, 1) := by decide +kernel
theorem qd_M_catchIt_115 : decode qb_M_catchIt 115 = .ok (.aload_n 0, 1) := by decide +kernel
theorem qd_M_catchIt_116 : decode qb_M_catchIt 116 = .ok (.iconst 3, 1) := by decide +kernel
theorem qd_M_catchIt_117 : decode qb_M_catchIt 117 = .ok (.iconst (-1), 1) := by decide +kernel
theorem qd_M_catchIt_118 : decode qb_M_catchIt 118 = .ok (.aload_n 0, 1) := by decide +kernel
theorem qd_M_catchIt_119 : decode qb_M_catchIt 119 = .ok (.getfield 112, 3) := by decide +kernel
theorem qd_M_catchIt_122 : decode qb_M_catchIt 122 = .ok (.iconst (-1), 1) := by decide +kernel
theorem qd_M_catchIt_123 : decode qb_M_catchIt 123 = .ok (.invokevirtual 169, 3) := by decide +kernel
theorem qd_M_catchIt_126 : decode qb_M_catchIt 126 = .ok (.iastore, 1) := by decide +kernel
theorem qd_M_catchIt_127 : decode qb_M_catchIt 127 = .ok (.aload_n 0, 1) := by decide +kernel
theorem qd_M_catchIt_128 : decode qb_M_catchIt 128 = .ok (.dup, 1) := by decide +kernel
theorem qd_M_catchIt_129 : decode qb_M_catchIt 129 = .ok (.getfield 112, 3) := by decide +kernel
theorem qd_M_catchIt_132 : decode qb_M_catchIt 132 = .ok (.iconst 1, 1) := by decide +kernel
theorem qd_M_catchIt_133 : decode qb_M_catchIt 133 = .ok (.iadd, 1) := by decide +kernel
theorem qd_M_catchIt_134 : decode qb_M_catchIt 134 = .ok (.putfield 112, 3) := by decide +kernel
theorem qd_M_catchIt_137 : decode qb_M_catchIt 137 = .ok (.iinc 3 1, 3) := by decide +kernel
theorem qd_M_catchIt_140 : decode qb_M_catchIt 140 = .ok (.goto (-121), 3) := by decide +kernel
theorem qd_M_catchIt_143 : decode qb_M_catchIt 143 = .ok (.aload_n 0, 1) := by decide +kernel
theorem qd_M_catchIt_144 : decode qb_M_catchIt 144 = .ok (.getfield 65, 3) := by decide +kernel
theorem qd_M_catchIt_147 : decode qb_M_catchIt 147 = .ok (.iconst 0, 1) := by decide +kernel
theorem qd_M_catchIt_148 : decode qb_M_catchIt 148 = .ok (.iaload, 1) := by decide +kernel
theorem qd_M_catchIt_149 : decode qb_M_catchIt 149 = .ok (.istore_n 3, 1) := by decide +kernel
theorem qd_M_catchIt_150 : decode qb_M_catchIt 150 = .ok (.aload_n 0, 1) := by decide +kernel
theorem qd_M_catchIt_151 : decode qb_M_catchIt 151 = .ok (.getfield 13, 3) := by decide +kernel
theorem qd_M_catchIt_154 : decode qb_M_catchIt 154 = .ok (.iload_n 2, 1) := by decide +kernel
theorem qd_M_catchIt_155 : decode qb_M_catchIt 155 = .ok (.iaload, 1) := by decide +kernel
theorem qd_M_catchIt_156 : decode qb_M_catchIt 156 = .ok (.iconst 2, 1) := by decide +kernel
theorem qd_M_catchIt_157 : decode qb_M_catchIt 157 = .ok (.if_icmp .ne 12, 3) := by decide +kernel
theorem qd_M_catchIt_160 : decode qb_M_catchIt 160 = .ok (.aload_n 0, 1) := by decide +kernel
theorem qd_M_catchIt_161 : decode qb_M_catchIt 161 = .ok (.getfield 65, 3) := by decide +kernel
theorem qd_M_catchIt_164 : decode qb_M_catchIt 164 = .ok (.iconst 1, 1) := by decide +kernel
theorem qd_M_catchIt_165 : decode qb_M_catchIt 165 = .ok (.iaload, 1) := by decide +kernel
theorem qd_M_catchIt_166 : decode qb_M_catchIt 166 = .ok (.goto 4, 3) := by decide +kernel
theorem qd_M_catchIt_169 : decode qb_M_catchIt 169 = .ok (.iconst (-1), 1) := by decide +kernel
theorem qd_M_catchIt_170 : decode qb_M_catchIt 170 = .ok (.istore 4, 2) := by decide +kernel
theorem qd_M_catchIt_172 : decode qb_M_catchIt 172 = .ok (.iconst 0, 1) := by decide +kernel
theorem qd_M_catchIt_173 : decode qb_M_catchIt 173 = .ok (.istore 5, 2) := by decide +kernel
theorem qd_M_catchIt_175 : decode qb_M_catchIt 175 = .ok (.iload 5, 2) := by decide +kernel
theorem qd_M_catchIt_177 : decode qb_M_catchIt 177 = .ok (.aload_n 0, 1) := by decide +kernel
theorem qd_M_catchIt_178 : decode qb_M_catchIt 178 = .ok (.getfield 13, 3) := by decide +kernel
theorem qd_M_catchIt_181 : decode qb_M_catchIt 181 = .ok (.iload_n 2, 1) := by decide +kernel
theorem qd_M_catchIt_182 : decode qb_M_catchIt 182 = .ok (.iaload, 1) := by decide +kernel
theorem qd_M_catchIt_183 : decode qb_M_catchIt 183 = .ok (.if_icmp .ge 172, 3) := by decide +kernel
theorem qd_M_catchIt_186 : decode qb_M_catchIt 186 = .ok (.iload 5, 2) := by decide +kernel
theorem qd_M_catchIt_188 : decode qb_M_catchIt 188 = .ok (.ifCond .ne 12, 3) := by decide +kernel
theorem qd_M_catchIt_191 : decode qb_M_catchIt 191 = .ok (.aload_n 0, 1) := by decide +kernel
theorem qd_M_catchIt_192 : decode qb_M_catchIt 192 = .ok (.getfield 34, 3) := by decide +kernel
theorem qd_M_catchIt_195 : decode qb_M_catchIt 195 = .ok (.iload_n 1, 1) := by decide +kernel
theorem qd_M_catchIt_196 : decode qb_M_catchIt 196 = .ok (.iaload, 1) := by decide +kernel
theorem qd_M_catchIt_197 : decode qb_M_catchIt 197 = .ok (.goto 9, 3) := by decide +kernel
theorem qd_M_catchIt_200 : decode qb_M_catchIt 200 = .ok (.aload_n 0, 1) := by decide +kernel
theorem qd_M_catchIt_201 : decode qb_M_catchIt 201 = .ok (.getfield 37, 3) := by decide +kernel
theorem qd_M_catchIt_204 : decode qb_M_catchIt 204 = .ok (.iload_n 1, 1) := by decide +kernel
theorem qd_M_catchIt_205 : decode qb_M_catchIt 205 = .ok (.iaload, 1) := by decide +kernel
theorem qd_M_catchIt_206 : decode qb_M_catchIt 206 = .ok (.istore 6, 2) := by decide +kernel
theorem qd_M_catchIt_208 : decode qb_M_catchIt 208 = .ok (.aload_n 0, 1) := by decide +kernel
theorem qd_M_catchIt_209 : decode qb_M_catchIt 209 = .ok (.getfield 28, 3) := by decide +kernel
theorem qd_M_catchIt_212 : decode qb_M_catchIt 212 = .ok (.iload 6, 2) := by decide +kernel
theorem qd_M_catchIt_214 : decode qb_M_catchIt 214 = .ok (.iaload, 1) := by decide +kernel
theorem qd_M_catchIt_215 : decode qb_M_catchIt 215 = .ok (.iconst 5, 1) := by decide +kernel
theorem qd_M_catchIt_216 : decode qb_M_catchIt 216 = .ok (.if_icmp .ne 133, 3) := by decide +kernel
theorem qd_M_catchIt_219 : decode qb_M_catchIt 219 = .ok (.aload_n 0, 1) := by decide +kernel
theorem qd_M_catchIt_220 : decode qb_M_catchIt 220 = .ok (.getfield 34, 3) := by decide +kernel
theorem qd_M_catchIt_223 : decode qb_M_catchIt 223 = .ok (.iload 5, 2) := by decide +kernel
theorem qd_M_catchIt_225 : decode qb_M_catchIt 225 = .ok (.ifCond .ne 7, 3) := by decide +kernel
theorem qd_M_catchIt_228 : decode qb_M_catchIt 228 = .ok (.iload_n 3, 1) := by decide +kernel
theorem qd_M_catchIt_229 : decode qb_M_catchIt 229 = .ok (.goto 5, 3) := by decide +kernel
theorem qd_M_catchIt_232 : decode qb_M_catchIt 232 = .ok (.iload 4, 2) := by decide +kernel
theorem qd_M_catchIt_234 : decode qb_M_catchIt 234 = .ok (.iaload, 1) := by decide +kernel
theorem qd_M_catchIt_235 : decode qb_M_catchIt 235 = .ok (.istore 7, 2) := by decide +kernel
theorem qd_M_catchIt_237 : decode qb_M_catchIt 237 = .ok (.aload_n 0, 1) := by decide +kernel
theorem qd_M_catchIt_238 : decode qb_M_catchIt 238 = .ok (.getfield 31, 3) := by decide +kernel
theorem qd_M_catchIt_241 : decode qb_M_catchIt 241 = .ok (.iload 6, 2) := by decide +kernel
theorem qd_M_catchIt_243 : decode qb_M_catchIt 243 = .ok (.iaload, 1) := by decide +kernel
theorem qd_M_catchIt_244 : decode qb_M_catchIt 244 = .ok (.iconst 1, 1) := by decide +kernel
theorem qd_M_catchIt_245 : decode qb_M_catchIt 245 = .ok (.if_icmp .ne 27, 3) := by decide +kernel
theorem qd_M_catchIt_248 : decode qb_M_catchIt 248 = .ok (.aload_n 0, 1) := by decide +kernel
theorem qd_M_catchIt_249 : decode qb_M_catchIt 249 = .ok (.getfield 43, 3) := by decide +kernel
theorem qd_M_catchIt_252 : decode qb_M_catchIt 252 = .ok (.iconst 3, 1) := by decide +kernel
theorem qd_M_catchIt_253 : decode qb_M_catchIt 253 = .ok (.iload 7, 2) := by decide +kernel
theorem qd_M_catchIt_255 : decode qb_M_catchIt 255 = .ok (.imul, 1) := by decide +kernel
theorem qd_M_catchIt_256 : decode qb_M_catchIt 256 = .ok (.aload_n 0, 1) := by decide +kernel
theorem qd_M_catchIt_257 : decode qb_M_catchIt 257 = .ok (.getfield 34, 3) := by decide +kernel
theorem qd_M_catchIt_260 : decode qb_M_catchIt 260 = .ok (.iload 6, 2) := by decide +kernel
theorem qd_M_catchIt_262 : decode qb_M_catchIt 262 = .ok (.iaload, 1) := by decide +kernel
theorem qd_M_catchIt_263 : decode qb_M_catchIt 263 = .ok (.iastore, 1) := by decide +kernel
theorem qd_M_catchIt_264 : decode qb_M_catchIt 264 = .ok (.aload_n 0, 1) := by decide +kernel
theorem qd_M_catchIt_265 : decode qb_M_catchIt 265 = .ok (.getfield 46, 3) := by decide +kernel
theorem qd_M_catchIt_268 : decode qb_M_catchIt 268 = .ok (.iload 7, 2) := by decide +kernel
theorem qd_M_catchIt_270 : decode qb_M_catchIt 270 = .ok (.iconst 1, 1) := by decide +kernel
theorem qd_M_catchIt_271 : decode qb_M_catchIt 271 = .ok (.iastore, 1) := by decide +kernel
theorem qd_M_catchIt_272 : decode qb_M_catchIt 272 = .ok (.iconst 0, 1) := by decide +kernel
theorem qd_M_catchIt_273 : decode qb_M_catchIt 273 = .ok (.istore 8, 2) := by decide +kernel
theorem qd_M_catchIt_275 : decode qb_M_catchIt 275 = .ok (.iload 8, 2) := by decide +kernel
theorem qd_M_catchIt_277 : decode qb_M_catchIt 277 = .ok (.aload_n 0, 1) := by decide +kernel
theorem qd_M_catchIt_278 : decode qb_M_catchIt 278 = .ok (.getfield 25, 3) := by decide +kernel
theorem qd_M_catchIt_281 : decode qb_M_catchIt 281 = .ok (.iconst 2, 1) := by decide +kernel
theorem qd_M_catchIt_282 : decode qb_M_catchIt 282 = .ok (.iload_n 2, 1) := by decide +kernel
theorem qd_M_catchIt_283 : decode qb_M_catchIt 283 = .ok (.imul, 1) := by decide +kernel
theorem qd_M_catchIt_284 : decode qb_M_catchIt 284 = .ok (.iload 5, 2) := by decide +kernel
theorem qd_M_catchIt_286 : decode qb_M_catchIt 286 = .ok (.iadd, 1) := by decide +kernel
theorem qd_M_catchIt_287 : decode qb_M_catchIt 287 = .ok (.iaload, 1) := by decide +kernel
theorem qd_M_catchIt_288 : decode qb_M_catchIt 288 = .ok (.if_icmp .ge 61, 3) := by decide +kernel
theorem qd_M_catchIt_291 : decode qb_M_catchIt 291 = .ok (.aload_n 0, 1) := by decide +kernel
theorem qd_M_catchIt_292 : decode qb_M_catchIt 292 = .ok (.getfield 43, 3) := by decide +kernel
theorem qd_M_catchIt_295 : decode qb_M_catchIt 295 = .ok (.iconst 3, 1) := by decide +kernel
theorem qd_M_catchIt_296 : decode qb_M_catchIt 296 = .ok (.iload 7, 2) := by decide +kernel
theorem qd_M_catchIt_298 : decode qb_M_catchIt 298 = .ok (.imul, 1) := by decide +kernel
theorem qd_M_catchIt_299 : decode qb_M_catchIt 299 = .ok (.aload_n 0, 1) := by decide +kernel
theorem qd_M_catchIt_300 : decode qb_M_catchIt 300 = .ok (.getfield 46, 3) := by decide +kernel
theorem qd_M_catchIt_303 : decode qb_M_catchIt 303 = .ok (.iload 7, 2) := by decide +kernel
theorem qd_M_catchIt_305 : decode qb_M_catchIt 305 = .ok (.iaload, 1) := by decide +kernel
theorem qd_M_catchIt_306 : decode qb_M_catchIt 306 = .ok (.iadd, 1) := by decide +kernel
theorem qd_M_catchIt_307 : decode qb_M_catchIt 307 = .ok (.aload_n 0, 1) := by decide +kernel
theorem qd_M_catchIt_308 : decode qb_M_catchIt 308 = .ok (.aload_n 0, 1) := by decide +kernel
theorem qd_M_catchIt_309 : decode qb_M_catchIt 309 = .ok (.getfield 22, 3) := by decide +kernel
theorem qd_M_catchIt_312 : decode qb_M_catchIt 312 = .ok (.iconst 2, 1) := by decide +kernel
theorem qd_M_catchIt_313 : decode qb_M_catchIt 313 = .ok (.iconst 2, 1) := by decide +kernel
theorem qd_M_catchIt_314 : decode qb_M_catchIt 314 = .ok (.iload_n 2, 1) := by decide +kernel
theorem qd_M_catchIt_315 : decode qb_M_catchIt 315 = .ok (.imul, 1) := by decide +kernel
theorem qd_M_catchIt_316 : decode qb_M_catchIt 316 = .ok (.iload 5, 2) := by decide +kernel
theorem qd_M_catchIt_318 : decode qb_M_catchIt 318 = .ok (.iadd, 1) := by decide +kernel
theorem qd_M_catchIt_319 : decode qb_M_catchIt 319 = .ok (.imul, 1) := by decide +kernel
theorem qd_M_catchIt_320 : decode qb_M_catchIt 320 = .ok (.iload 8, 2) := by decide +kernel
theorem qd_M_catchIt_322 : decode qb_M_catchIt 322 = .ok (.iadd, 1) := by decide +kernel
theorem qd_M_catchIt_323 : decode qb_M_catchIt 323 = .ok (.iaload, 1) := by decide +kernel
theorem qd_M_catchIt_324 : decode qb_M_catchIt 324 = .ok (.iload_n 2, 1) := by decide +kernel
theorem qd_M_catchIt_325 : decode qb_M_catchIt 325 = .ok (.iload_n 3, 1) := by decide +kernel
theorem qd_M_catchIt_326 : decode qb_M_catchIt 326 = .ok (.iload 4, 2) := by decide +kernel
theorem qd_M_catchIt_328 : decode qb_M_catchIt 328 = .ok (.invokevirtual 175, 3) := by decide +kernel
theorem qd_M_catchIt_331 : decode qb_M_catchIt 331 = .ok (.iastore, 1) := by decide +kernel
theorem qd_M_catchIt_332 : decode qb_M_catchIt 332 = .ok (.aload_n 0, 1) := by decide +kernel
theorem qd_M_catchIt_333 : decode qb_M_catchIt 333 = .ok (.getfield 46, 3) := by decide +kernel
theorem qd_M_catchIt_336 : decode qb_M_catchIt 336 = .ok (.iload 7, 2) := by decide +kernel
theorem qd_M_catchIt_338 : decode qb_M_catchIt 338 = .ok (.dup2, 1) := by decide +kernel
theorem qd_M_catchIt_339 : decode qb_M_catchIt 339 = .ok (.iaload, 1) := by decide +kernel
theorem qd_M_catchIt_340 : decode qb_M_catchIt 340 = .ok (.iconst 1, 1) := by decide +kernel
theorem qd_M_catchIt_341 : decode qb_M_catchIt 341 = .ok (.iadd, 1) := by decide +kernel
theorem qd_M_catchIt_342 : decode qb_M_catchIt 342 = .ok (.iastore, 1) := by decide +kernel
theorem qd_M_catchIt_343 : decode qb_M_catchIt 343 = .ok (.iinc 8 1, 3) := by decide +kernel
theorem qd_M_catchIt_346 : decode qb_M_catchIt 346 = .ok (.goto (-71), 3) := by decide +kernel
theorem qd_M_catchIt_349 : decode qb_M_catchIt 349 = .ok (.iinc 5 1, 3) := by decide +kernel
theorem qd_M_catchIt_352 : decode qb_M_catchIt 352 = .ok (.goto (-177), 3) := by decide +kernel
theorem qd_M_catchIt_355 : decode qb_M_catchIt 355 = .ok (.aload_n 0, 1) := by decide +kernel
theorem qd_M_catchIt_356 : decode qb_M_catchIt 356 = .ok (.iconst 2, 1) := by decide +kernel
theorem qd_M_catchIt_357 : decode qb_M_catchIt 357 = .ok (.iload_n 2, 1) := by decide +kernel
theorem qd_M_catchIt_358 : decode qb_M_catchIt 358 = .ok (.iload_n 3, 1) := by decide +kernel
theorem qd_M_catchIt_359 : decode qb_M_catchIt 359 = .ok (.iload 4, 2) := by decide +kernel
theorem qd_M_catchIt_361 : decode qb_M_catchIt 361 = .ok (.invokevirtual 169, 3) := by decide +kernel
theorem qd_M_catchIt_364 : decode qb_M_catchIt 364 = .ok (.ireturn, 1) := by decide +kernel
theorem qd_M_hasWild_0 : decode qb_M_hasWild 0 = .ok (.aload_n 0, 1) := by decide +kernel
theorem qd_M_hasWild_1 : decode qb_M_hasWild 1 = .ok (.getfield 28, 3) := by decide +kernel
theorem qd_M_hasWild_4 : decode qb_M_hasWild 4 = .ok (.iload_n 1, 1) := by decide +kernel
theorem qd_M_hasWild_5 : decode qb_M_hasWild 5 = .ok (.iaload, 1) := by decide +kernel
theorem qd_M_hasWild_6 : decode qb_M_hasWild 6 = .ok (.iconst 2, 1) := by decide +kernel
theorem qd_M_hasWild_7 : decode qb_M_hasWild 7 = .ok (.if_icmp .ne 47, 3) := by decide +kernel
theorem qd_M_hasWild_10 : decode qb_M_hasWild 10 = .ok (.aload_n 0, 1) := by decide +kernel
theorem qd_M_hasWild_11 : decode qb_M_hasWild 11 = .ok (.getfield 28, 3) := by decide +kernel
theorem qd_M_hasWild_14 : decode qb_M_hasWild 14 = .ok (.aload_n 0, 1) := by decide +kernel
theorem qd_M_hasWild_15 : decode qb_M_hasWild 15 = .ok (.getfield 34, 3) := by decide +kernel
theorem qd_M_hasWild_18 : decode qb_M_hasWild 18 = .ok (.iload_n 1, 1) := by decide +kernel
theorem qd_M_hasWild_19 : decode qb_M_hasWild 19 = .ok (.iaload, 1) := by decide +kernel
theorem qd_M_hasWild_20 : decode qb_M_hasWild 20 = .ok (.iaload, 1) := by decide +kernel
theorem qd_M_hasWild_21 : decode qb_M_hasWild 21 = .ok (.iconst 5, 1) := by decide +kernel
theorem qd_M_hasWild_22 : decode qb_M_hasWild 22 = .ok (.if_icmp .eq 28, 3) := by decide +kernel
theorem qd_M_hasWild_25 : decode qb_M_hasWild 25 = .ok (.aload_n 0, 1) := by decide +kernel
theorem qd_M_hasWild_26 : decode qb_M_hasWild 26 = .ok (.getfield 37, 3) := by decide +kernel
theorem qd_M_hasWild_29 : decode qb_M_hasWild 29 = .ok (.iload_n 1, 1) := by decide +kernel
theorem qd_M_hasWild_30 : decode qb_M_hasWild 30 = .ok (.iaload, 1) := by decide +kernel
theorem qd_M_hasWild_31 : decode qb_M_hasWild 31 = .ok (.iconst (-1), 1) := by decide +kernel
theorem qd_M_hasWild_32 : decode qb_M_hasWild 32 = .ok (.if_icmp .eq 22, 3) := by decide +kernel
theorem qd_M_hasWild_35 : decode qb_M_hasWild 35 = .ok (.aload_n 0, 1) := by decide +kernel
theorem qd_M_hasWild_36 : decode qb_M_hasWild 36 = .ok (.getfield 28, 3) := by decide +kernel
theorem qd_M_hasWild_39 : decode qb_M_hasWild 39 = .ok (.aload_n 0, 1) := by decide +kernel
theorem qd_M_hasWild_40 : decode qb_M_hasWild 40 = .ok (.getfield 37, 3) := by decide +kernel
theorem qd_M_hasWild_43 : decode qb_M_hasWild 43 = .ok (.iload_n 1, 1) := by decide +kernel
theorem qd_M_hasWild_44 : decode qb_M_hasWild 44 = .ok (.iaload, 1) := by decide +kernel
theorem qd_M_hasWild_45 : decode qb_M_hasWild 45 = .ok (.iaload, 1) := by decide +kernel
theorem qd_M_hasWild_46 : decode qb_M_hasWild 46 = .ok (.iconst 5, 1) := by decide +kernel
theorem qd_M_hasWild_47 : decode qb_M_hasWild 47 = .ok (.if_icmp .ne 7, 3) := by decide +kernel
theorem qd_M_hasWild_50 : decode qb_M_hasWild 50 = .ok (.iconst 1, 1) := by decide +kernel
theorem qd_M_hasWild_51 : decode qb_M_hasWild 51 = .ok (.goto 4, 3) := by decide +kernel
theorem qd_M_hasWild_54 : decode qb_M_hasWild 54 = .ok (.iconst 0, 1) := by decide +kernel
theorem qd_M_hasWild_55 : decode qb_M_hasWild 55 = .ok (.ireturn, 1) := by decide +kernel
theorem qd_M_come_0 : decode qb_M_come 0 = .ok (.aload_n 0, 1) := by decide +kernel
theorem qd_M_come_1 : decode qb_M_come 1 = .ok (.iload_n 1, 1) := by decide +kernel
theorem qd_M_come_2 : decode qb_M_come 2 = .ok (.iload_n 2, 1) := by decide +kernel
theorem qd_M_come_3 : decode qb_M_come 3 = .ok (.iload_n 3, 1) := by decide +kernel
theorem qd_M_come_4 : decode qb_M_come 4 = .ok (.iload 4, 2) := by decide +kernel
theorem qd_M_come_6 : decode qb_M_come 6 = .ok (.invokevirtual 119, 3) := by decide +kernel
theorem qd_M_come_9 : decode qb_M_come 9 = .ok (.istore 5, 2) := by decide +kernel
theorem qd_M_come_11 : decode qb_M_come 11 = .ok (.iload 5, 2) := by decide +kernel
theorem qd_M_come_13 : decode qb_M_come 13 = .ok (.iconst (-1), 1) := by decide +kernel
theorem qd_M_come_14 : decode qb_M_come 14 = .ok (.if_icmp .ne 31, 3) := by decide +kernel
theorem qd_M_come_17 : decode qb_M_come 17 = .ok (.aload_n 0, 1) := by decide +kernel
theorem qd_M_come_18 : decode qb_M_come 18 = .ok (.getfield 109, 3) := by decide +kernel
theorem qd_M_come_21 : decode qb_M_come 21 = .ok (.istore 5, 2) := by decide +kernel
theorem qd_M_come_23 : decode qb_M_come 23 = .ok (.aload_n 0, 1) := by decide +kernel
theorem qd_M_come_24 : decode qb_M_come 24 = .ok (.iload 5, 2) := by decide +kernel
theorem qd_M_come_26 : decode qb_M_come 26 = .ok (.iload_n 1, 1) := by decide +kernel
theorem qd_M_come_27 : decode qb_M_come 27 = .ok (.iload_n 2, 1) := by decide +kernel
theorem qd_M_come_28 : decode qb_M_come 28 = .ok (.iload_n 3, 1) := by decide +kernel
theorem qd_M_come_29 : decode qb_M_come 29 = .ok (.iload 4, 2) := by decide +kernel
theorem qd_M_come_31 : decode qb_M_come 31 = .ok (.iconst 0, 1) := by decide +kernel
theorem qd_M_come_32 : decode qb_M_come 32 = .ok (.invokevirtual 102, 3) := by decide +kernel
theorem qd_M_come_35 : decode qb_M_come 35 = .ok (.aload_n 0, 1) := by decide +kernel
theorem qd_M_come_36 : decode qb_M_come 36 = .ok (.dup, 1) := by decide +kernel
theorem qd_M_come_37 : decode qb_M_come 37 = .ok (.getfield 109, 3) := by decide +kernel
theorem qd_M_come_40 : decode qb_M_come 40 = .ok (.iconst 1, 1) := by decide +kernel
theorem qd_M_come_41 : decode qb_M_come 41 = .ok (.iadd, 1) := by decide +kernel
theorem qd_M_come_42 : decode qb_M_come 42 = .ok (.putfield 109, 3) := by decide +kernel
theorem qd_M_come_45 : decode qb_M_come 45 = .ok (.iload 5, 2) := by decide +kernel
theorem qd_M_come_47 : decode qb_M_come 47 = .ok (.ireturn, 1) := by decide +kernel
theorem qd_M_replace_0 : decode qb_M_replace 0 = .ok (.iconst 0, 1) := by decide +kernel
theorem qd_M_replace_1 : decode qb_M_replace 1 = .ok (.istore 5, 2) := by decide +kernel
theorem qd_M_replace_3 : decode qb_M_replace 3 = .ok (.iload 5, 2) := by decide +kernel
theorem qd_M_replace_5 : decode qb_M_replace 5 = .ok (.iload_n 1, 1) := by decide +kernel
theorem qd_M_replace_6 : decode qb_M_replace 6 = .ok (.if_icmp .gt 27, 3) := by decide +kernel
theorem qd_M_replace_9 : decode qb_M_replace 9 = .ok (.aload_n 0, 1) := by decide +kernel
theorem qd_M_replace_10 : decode qb_M_replace 10 = .ok (.getfield 62, 3) := by decide +kernel
theorem qd_M_replace_13 : decode qb_M_replace 13 = .ok (.iload 5, 2) := by decide +kernel
theorem qd_M_replace_15 : decode qb_M_replace 15 = .ok (.iload 5, 2) := by decide +kernel
theorem qd_M_replace_17 : decode qb_M_replace 17 = .ok (.iload_n 1, 1) := by decide +kernel
theorem qd_M_replace_18 : decode qb_M_replace 18 = .ok (.if_icmp .ne 7, 3) := by decide +kernel
theorem qd_M_replace_21 : decode qb_M_replace 21 = .ok (.iconst 1, 1) := by decide +kernel
theorem qd_M_replace_22 : decode qb_M_replace 22 = .ok (.goto 4, 3) := by decide +kernel
theorem qd_M_replace_25 : decode qb_M_replace 25 = .ok (.iconst 0, 1) := by decide +kernel
theorem qd_M_replace_26 : decode qb_M_replace 26 = .ok (.bastore, 1) := by decide +kernel
theorem qd_M_replace_27 : decode qb_M_replace 27 = .ok (.iinc 5 1, 3) := by decide +kernel
theorem qd_M_replace_30 : decode qb_M_replace 30 = .ok (.goto (-27), 3) := by decide +kernel
theorem qd_M_replace_33 : decode qb_M_replace 33 = .ok (.iload_n 1, 1) := by decide +kernel
theorem qd_M_replace_34 : decode qb_M_replace 34 = .ok (.istore 5, 2) := by decide +kernel
theorem qd_M_replace_36 : decode qb_M_replace 36 = .ok (.iload 5, 2) := by decide +kernel
theorem qd_M_replace_38 : decode qb_M_replace 38 = .ok (.ifCond .lt 76, 3) := by decide +kernel
theorem qd_M_replace_41 : decode qb_M_replace 41 = .ok (.aload_n 0, 1) := by decide +kernel
theorem qd_M_replace_42 : decode qb_M_replace 42 = .ok (.getfield 62, 3) := by decide +kernel
theorem qd_M_replace_45 : decode qb_M_replace 45 = .ok (.iload 5, 2) := by decide +kernel
theorem qd_M_replace_47 : decode qb_M_replace 47 = .ok (.baload, 1) := by decide +kernel
theorem qd_M_replace_48 : decode qb_M_replace 48 = .ok (.ifCond .eq 60, 3) := by decide +kernel
theorem qd_M_replace_51 : decode qb_M_replace 51 = .ok (.aload_n 0, 1) := by decide +kernel
theorem qd_M_replace_52 : decode qb_M_replace 52 = .ok (.iload 5, 2) := by decide +kernel
theorem qd_M_replace_54 : decode qb_M_replace 54 = .ok (.invokevirtual 166, 3) := by decide +kernel
theorem qd_M_replace_57 : decode qb_M_replace 57 = .ok (.ifCond .eq 16, 3) := by decide +kernel
theorem qd_M_replace_60 : decode qb_M_replace 60 = .ok (.aload_n 0, 1) := by decide +kernel
theorem qd_M_replace_61 : decode qb_M_replace 61 = .ok (.getfield 62, 3) := by decide +kernel
theorem qd_M_replace_64 : decode qb_M_replace 64 = .ok (.aload_n 0, 1) := by decide +kernel
theorem qd_M_replace_65 : decode qb_M_replace 65 = .ok (.getfield 34, 3) := by decide +kernel
theorem qd_M_replace_68 : decode qb_M_replace 68 = .ok (.iload 5, 2) := by decide +kernel
theorem qd_M_replace_70 : decode qb_M_replace 70 = .ok (.iaload, 1) := by decide +kernel
theorem qd_M_replace_71 : decode qb_M_replace 71 = .ok (.iconst 1, 1) := by decide +kernel
theorem qd_M_replace_72 : decode qb_M_replace 72 = .ok (.bastore, 1) := by decide +kernel
theorem qd_M_replace_73 : decode qb_M_replace 73 = .ok (.aload_n 0, 1) := by decide +kernel
theorem qd_M_replace_74 : decode qb_M_replace 74 = .ok (.getfield 28, 3) := by decide +kernel
theorem qd_M_replace_77 : decode qb_M_replace 77 = .ok (.iload 5, 2) := by decide +kernel
theorem qd_M_replace_79 : decode qb_M_replace 79 = .ok (.iaload, 1) := by decide +kernel
theorem qd_M_replace_80 : decode qb_M_replace 80 = .ok (.iconst 2, 1) := by decide +kernel
theorem qd_M_replace_81 : decode qb_M_replace 81 = .ok (.if_icmp .ne 27, 3) := by decide +kernel
theorem qd_M_replace_84 : decode qb_M_replace 84 = .ok (.aload_n 0, 1) := by decide +kernel
theorem qd_M_replace_85 : decode qb_M_replace 85 = .ok (.getfield 37, 3) := by decide +kernel
theorem qd_M_replace_88 : decode qb_M_replace 88 = .ok (.iload 5, 2) := by decide +kernel
theorem qd_M_replace_90 : decode qb_M_replace 90 = .ok (.iaload, 1) := by decide +kernel
theorem qd_M_replace_91 : decode qb_M_replace 91 = .ok (.iconst (-1), 1) := by decide +kernel
theorem qd_M_replace_92 : decode qb_M_replace 92 = .ok (.if_icmp .eq 16, 3) := by decide +kernel
theorem qd_M_replace_95 : decode qb_M_replace 95 = .ok (.aload_n 0, 1) := by decide +kernel
theorem qd_M_replace_96 : decode qb_M_replace 96 = .ok (.getfield 62, 3) := by decide +kernel
theorem qd_M_replace_99 : decode qb_M_replace 99 = .ok (.aload_n 0, 1) := by decide +kernel
theorem qd_M_replace_100 : decode qb_M_replace 100 = .ok (.getfield 37, 3) := by decide +kernel
theorem qd_M_replace_103 : decode qb_M_replace 103 = .ok (.iload 5, 2) := by decide +kernel
theorem qd_M_replace_105 : decode qb_M_replace 105 = .ok (.iaload, 1) := by decide +kernel
theorem qd_M_replace_106 : decode qb_M_replace 106 = .ok (.iconst 1, 1) := by decide +kernel
theorem qd_M_replace_107 : decode qb_M_replace 107 = .ok (.bastore, 1) := by decide +kernel
theorem qd_M_replace_108 : decode qb_M_replace 108 = .ok (.iinc 5 (-1), 3) := by decide +kernel
theorem qd_M_replace_111 : decode qb_M_replace 111 = .ok (.goto (-75), 3) := by decide +kernel
theorem qd_M_replace_114 : decode qb_M_replace 114 = .ok (.iconst 0, 1) := by decide +kernel
theorem qd_M_replace_115 : decode qb_M_replace 115 = .ok (.istore 5, 2) := by decide +kernel
theorem qd_M_replace_117 : decode qb_M_replace 117 = .ok (.iload 5, 2) := by decide +kernel
theorem qd_M_replace_119 : decode qb_M_replace 119 = .ok (.iload_n 1, 1) := by decide +kernel
theorem qd_M_replace_120 : decode qb_M_replace 120 = .ok (.if_icmp .gt 160, 3) := by decide +kernel
theorem qd_M_replace_123 : decode qb_M_replace 123 = .ok (.aload_n 0, 1) := by decide +kernel
theorem qd_M_replace_124 : decode qb_M_replace 124 = .ok (.getfield 62, 3) := by decide +kernel
theorem qd_M_replace_127 : decode qb_M_replace 127 = .ok (.iload 5, 2) := by decide +kernel
theorem qd_M_replace_129 : decode qb_M_replace 129 = .ok (.baload, 1) := by decide +kernel
theorem qd_M_replace_130 : decode qb_M_replace 130 = .ok (.ifCond .eq 144, 3) := by decide +kernel
theorem qd_M_replace_133 : decode qb_M_replace 133 = .ok (.aload_n 0, 1) := by decide +kernel
theorem qd_M_replace_134 : decode qb_M_replace 134 = .ok (.getfield 59, 3) := by decide +kernel
theorem qd_M_replace_137 : decode qb_M_replace 137 = .ok (.iload 5, 2) := by decide +kernel
theorem qd_M_replace_139 : decode qb_M_replace 139 = .ok (.iload 5, 2) := by decide +kernel
theorem qd_M_replace_141 : decode qb_M_replace 141 = .ok (.iastore, 1) := by decide +kernel
theorem qd_M_replace_142 : decode qb_M_replace 142 = .ok (.aload_n 0, 1) := by decide +kernel
theorem qd_M_replace_143 : decode qb_M_replace 143 = .ok (.getfield 28, 3) := by decide +kernel
theorem qd_M_replace_146 : decode qb_M_replace 146 = .ok (.iload 5, 2) := by decide +kernel
theorem qd_M_replace_148 : decode qb_M_replace 148 = .ok (.iaload, 1) := by decide +kernel
theorem qd_M_replace_149 : decode qb_M_replace 149 = .ok (.iconst 3, 1) := by decide +kernel
theorem qd_M_replace_150 : decode qb_M_replace 150 = .ok (.if_icmp .ne 40, 3) := by decide +kernel
theorem qd_M_replace_153 : decode qb_M_replace 153 = .ok (.aload_n 0, 1) := by decide +kernel
theorem qd_M_replace_154 : decode qb_M_replace 154 = .ok (.getfield 31, 3) := by decide +kernel
theorem qd_M_replace_157 : decode qb_M_replace 157 = .ok (.iload 5, 2) := by decide +kernel
theorem qd_M_replace_159 : decode qb_M_replace 159 = .ok (.iaload, 1) := by decide +kernel
theorem qd_M_replace_160 : decode qb_M_replace 160 = .ok (.iload_n 2, 1) := by decide +kernel
theorem qd_M_replace_161 : decode qb_M_replace 161 = .ok (.if_icmp .ne 29, 3) := by decide +kernel
theorem qd_M_replace_164 : decode qb_M_replace 164 = .ok (.aload_n 0, 1) := by decide +kernel
theorem qd_M_replace_165 : decode qb_M_replace 165 = .ok (.getfield 59, 3) := by decide +kernel
theorem qd_M_replace_168 : decode qb_M_replace 168 = .ok (.iload 5, 2) := by decide +kernel
theorem qd_M_replace_170 : decode qb_M_replace 170 = .ok (.aload_n 0, 1) := by decide +kernel
theorem qd_M_replace_171 : decode qb_M_replace 171 = .ok (.getfield 34, 3) := by decide +kernel
theorem qd_M_replace_174 : decode qb_M_replace 174 = .ok (.iload 5, 2) := by decide +kernel
theorem qd_M_replace_176 : decode qb_M_replace 176 = .ok (.iaload, 1) := by decide +kernel
theorem qd_M_replace_177 : decode qb_M_replace 177 = .ok (.ifCond .ne 7, 3) := by decide +kernel
theorem qd_M_replace_180 : decode qb_M_replace 180 = .ok (.iload_n 3, 1) := by decide +kernel
theorem qd_M_replace_181 : decode qb_M_replace 181 = .ok (.goto 5, 3) := by decide +kernel
theorem qd_M_replace_184 : decode qb_M_replace 184 = .ok (.iload 4, 2) := by decide +kernel
theorem qd_M_replace_186 : decode qb_M_replace 186 = .ok (.iastore, 1) := by decide +kernel
theorem qd_M_replace_187 : decode qb_M_replace 187 = .ok (.goto 87, 3) := by decide +kernel
theorem qd_M_replace_190 : decode qb_M_replace 190 = .ok (.aload_n 0, 1) := by decide +kernel
theorem qd_M_replace_191 : decode qb_M_replace 191 = .ok (.iload 5, 2) := by decide +kernel
theorem qd_M_replace_193 : decode qb_M_replace 193 = .ok (.invokevirtual 166, 3) := by decide +kernel
theorem qd_M_replace_196 : decode qb_M_replace 196 = .ok (.ifCond .eq 78, 3) := by decide +kernel
theorem qd_M_replace_199 : decode qb_M_replace 199 = .ok (.aload_n 0, 1) := by decide +kernel
theorem qd_M_replace_200 : decode qb_M_replace 200 = .ok (.getfield 59, 3) := by decide +kernel
theorem qd_M_replace_203 : decode qb_M_replace 203 = .ok (.iload 5, 2) := by decide +kernel
theorem qd_M_replace_205 : decode qb_M_replace 205 = .ok (.aload_n 0, 1) := by decide +kernel
theorem qd_M_replace_206 : decode qb_M_replace 206 = .ok (.aload_n 0, 1) := by decide +kernel
theorem qd_M_replace_207 : decode qb_M_replace 207 = .ok (.getfield 28, 3) := by decide +kernel
theorem qd_M_replace_210 : decode qb_M_replace 210 = .ok (.iload 5, 2) := by decide +kernel
theorem qd_M_replace_212 : decode qb_M_replace 212 = .ok (.iaload, 1) := by decide +kernel
theorem qd_M_replace_213 : decode qb_M_replace 213 = .ok (.aload_n 0, 1) := by decide +kernel
theorem qd_M_replace_214 : decode qb_M_replace 214 = .ok (.getfield 31, 3) := by decide +kernel
theorem qd_M_replace_217 : decode qb_M_replace 217 = .ok (.iload 5, 2) := by decide +kernel
theorem qd_M_replace_219 : decode qb_M_replace 219 = .ok (.iaload, 1) := by decide +kernel
theorem qd_M_replace_220 : decode qb_M_replace 220 = .ok (.aload_n 0, 1) := by decide +kernel
theorem qd_M_replace_221 : decode qb_M_replace 221 = .ok (.getfield 59, 3) := by decide +kernel
theorem qd_M_replace_224 : decode qb_M_replace 224 = .ok (.aload_n 0, 1) := by decide +kernel
theorem qd_M_replace_225 : decode qb_M_replace 225 = .ok (.getfield 34, 3) := by decide +kernel
theorem qd_M_replace_228 : decode qb_M_replace 228 = .ok (.iload 5, 2) := by decide +kernel
theorem qd_M_replace_230 : decode qb_M_replace 230 = .ok (.iaload, 1) := by decide +kernel
theorem qd_M_replace_231 : decode qb_M_replace 231 = .ok (.iaload, 1) := by decide +kernel
theorem qd_M_replace_232 : decode qb_M_replace 232 = .ok (.aload_n 0, 1) := by decide +kernel
theorem qd_M_replace_233 : decode qb_M_replace 233 = .ok (.getfield 28, 3) := by decide +kernel
theorem qd_M_replace_236 : decode qb_M_replace 236 = .ok (.iload 5, 2) := by decide +kernel
theorem qd_M_replace_238 : decode qb_M_replace 238 = .ok (.iaload, 1) := by decide +kernel
theorem qd_M_replace_239 : decode qb_M_replace 239 = .ok (.iconst 2, 1) := by decide +kernel
theorem qd_M_replace_240 : decode qb_M_replace 240 = .ok (.if_icmp .ne 29, 3) := by decide +kernel
theorem qd_M_replace_243 : decode qb_M_replace 243 = .ok (.aload_n 0, 1) := by decide +kernel
theorem qd_M_replace_244 : decode qb_M_replace 244 = .ok (.getfield 37, 3) := by decide +kernel
theorem qd_M_replace_247 : decode qb_M_replace 247 = .ok (.iload 5, 2) := by decide +kernel
theorem qd_M_replace_249 : decode qb_M_replace 249 = .ok (.iaload, 1) := by decide +kernel
theorem qd_M_replace_250 : decode qb_M_replace 250 = .ok (.iconst (-1), 1) := by decide +kernel
theorem qd_M_replace_251 : decode qb_M_replace 251 = .ok (.if_icmp .eq 18, 3) := by decide +kernel
theorem qd_M_replace_254 : decode qb_M_replace 254 = .ok (.aload_n 0, 1) := by decide +kernel
theorem qd_M_replace_255 : decode qb_M_replace 255 = .ok (.getfield 59, 3) := by decide +kernel
theorem qd_M_replace_258 : decode qb_M_replace 258 = .ok (.aload_n 0, 1) := by decide +kernel
theorem qd_M_replace_259 : decode qb_M_replace 259 = .ok (.getfield 37, 3) := by decide +kernel
theorem qd_M_replace_262 : decode qb_M_replace 262 = .ok (.iload 5, 2) := by decide +kernel
theorem qd_M_replace_264 : decode qb_M_replace 264 = .ok (.iaload, 1) := by decide +kernel
theorem qd_M_replace_265 : decode qb_M_replace 265 = .ok (.iaload, 1) := by decide +kernel
theorem qd_M_replace_266 : decode qb_M_replace 266 = .ok (.goto 4, 3) := by decide +kernel
theorem qd_M_replace_269 : decode qb_M_replace 269 = .ok (.iconst (-1), 1) := by decide +kernel
theorem qd_M_replace_270 : decode qb_M_replace 270 = .ok (.invokevirtual 169, 3) := by decide +kernel
theorem qd_M_replace_273 : decode qb_M_replace 273 = .ok (.iastore, 1) := by decide +kernel
theorem qd_M_replace_274 : decode qb_M_replace 274 = .ok (.iinc 5 1, 3) := by decide +kernel
theorem qd_M_replace_277 : decode qb_M_replace 277 = .ok (.goto (-160), 3) := by decide +kernel
theorem qd_M_replace_280 : decode qb_M_replace 280 = .ok (.aload_n 0, 1) := by decide +kernel
theorem qd_M_replace_281 : decode qb_M_replace 281 = .ok (.getfield 59, 3) := by decide +kernel
theorem qd_M_replace_284 : decode qb_M_replace 284 = .ok (.iload_n 1, 1) := by decide +kernel
theorem qd_M_replace_285 : decode qb_M_replace 285 = .ok (.iaload, 1) := by decide +kernel
theorem qd_M_replace_286 : decode qb_M_replace 286 = .ok (.ireturn, 1) := by decide +kernel
theorem qd_M_hasFirst_0 : decode qb_M_hasFirst 0 = .ok (.aload_n 0, 1) := by decide +kernel
theorem qd_M_hasFirst_1 : decode qb_M_hasFirst 1 = .ok (.getfield 28, 3) := by decide +kernel
theorem qd_M_hasFirst_4 : decode qb_M_hasFirst 4 = .ok (.iload_n 1, 1) := by decide +kernel
theorem qd_M_hasFirst_5 : decode qb_M_hasFirst 5 = .ok (.iaload, 1) := by decide +kernel
theorem qd_M_hasFirst_6 : decode qb_M_hasFirst 6 = .ok (.iconst 2, 1) := by decide +kernel
theorem qd_M_hasFirst_7 : decode qb_M_hasFirst 7 = .ok (.if_icmp .eq 32, 3) := by decide +kernel
theorem qd_M_hasFirst_10 : decode qb_M_hasFirst 10 = .ok (.aload_n 0, 1) := by decide +kernel
theorem qd_M_hasFirst_11 : decode qb_M_hasFirst 11 = .ok (.getfield 28, 3) := by decide +kernel
theorem qd_M_hasFirst_14 : decode qb_M_hasFirst 14 = .ok (.iload_n 1, 1) := by decide +kernel
theorem qd_M_hasFirst_15 : decode qb_M_hasFirst 15 = .ok (.iaload, 1) := by decide +kernel
theorem qd_M_hasFirst_16 : decode qb_M_hasFirst 16 = .ok (.iconst 4, 1) := by decide +kernel
theorem qd_M_hasFirst_17 : decode qb_M_hasFirst 17 = .ok (.if_icmp .eq 22, 3) := by decide +kernel
theorem qd_M_hasFirst_20 : decode qb_M_hasFirst 20 = .ok (.aload_n 0, 1) := by decide +kernel
theorem qd_M_hasFirst_21 : decode qb_M_hasFirst 21 = .ok (.getfield 28, 3) := by decide +kernel
theorem qd_M_hasFirst_24 : decode qb_M_hasFirst 24 = .ok (.iload_n 1, 1) := by decide +kernel
theorem qd_M_hasFirst_25 : decode qb_M_hasFirst 25 = .ok (.iaload, 1) := by decide +kernel
theorem qd_M_hasFirst_26 : decode qb_M_hasFirst 26 = .ok (.iconst 5, 1) := by decide +kernel
theorem qd_M_hasFirst_27 : decode qb_M_hasFirst 27 = .ok (.if_icmp .ne 16, 3) := by decide +kernel
theorem qd_M_hasFirst_30 : decode qb_M_hasFirst 30 = .ok (.aload_n 0, 1) := by decide +kernel
theorem qd_M_hasFirst_31 : decode qb_M_hasFirst 31 = .ok (.getfield 31, 3) := by decide +kernel
theorem qd_M_hasFirst_34 : decode qb_M_hasFirst 34 = .ok (.iload_n 1, 1) := by decide +kernel
theorem qd_M_hasFirst_35 : decode qb_M_hasFirst 35 = .ok (.iaload, 1) := by decide +kernel
theorem qd_M_hasFirst_36 : decode qb_M_hasFirst 36 = .ok (.ifCond .le 7, 3) := by decide +kernel
theorem qd_M_hasFirst_39 : decode qb_M_hasFirst 39 = .ok (.iconst 1, 1) := by decide +kernel
theorem qd_M_hasFirst_40 : decode qb_M_hasFirst 40 = .ok (.goto 4, 3) := by decide +kernel
theorem qd_M_hasFirst_43 : decode qb_M_hasFirst 43 = .ok (.iconst 0, 1) := by decide +kernel
theorem qd_M_hasFirst_44 : decode qb_M_hasFirst 44 = .ok (.ireturn, 1) := by decide +kernel
theorem qd_M_superType_0 : decode qb_M_superType 0 = .ok (.aload_n 0, 1) := by decide +kernel
theorem qd_M_superType_1 : decode qb_M_superType 1 = .ok (.aload_n 0, 1) := by decide +kernel
theorem qd_M_superType_2 : decode qb_M_superType 2 = .ok (.getfield 31, 3) := by decide +kernel
theorem qd_M_superType_5 : decode qb_M_superType 5 = .ok (.iload_n 1, 1) := by decide +kernel
theorem qd_M_superType_6 : decode qb_M_superType 6 = .ok (.iaload, 1) := by decide +kernel
theorem qd_M_superType_7 : decode qb_M_superType 7 = .ok (.iload_n 2, 1) := by decide +kernel
theorem qd_M_superType_8 : decode qb_M_superType 8 = .ok (.invokevirtual 145, 3) := by decide +kernel
theorem qd_M_superType_11 : decode qb_M_superType 11 = .ok (.istore_n 3, 1) := by decide +kernel
theorem qd_M_superType_12 : decode qb_M_superType 12 = .ok (.iload_n 3, 1) := by decide +kernel
theorem qd_M_superType_13 : decode qb_M_superType 13 = .ok (.iconst (-1), 1) := by decide +kernel
theorem qd_M_superType_14 : decode qb_M_superType 14 = .ok (.if_icmp .eq 12, 3) := by decide +kernel
theorem qd_M_superType_17 : decode qb_M_superType 17 = .ok (.aload_n 0, 1) := by decide +kernel
theorem qd_M_superType_18 : decode qb_M_superType 18 = .ok (.getfield 28, 3) := by decide +kernel
theorem qd_M_superType_21 : decode qb_M_superType 21 = .ok (.iload_n 1, 1) := by decide +kernel
theorem qd_M_superType_22 : decode qb_M_superType 22 = .ok (.iaload, 1) := by decide +kernel
theorem qd_M_superType_23 : decode qb_M_superType 23 = .ok (.ifCond .ne 5, 3) := by decide +kernel
theorem qd_M_superType_26 : decode qb_M_superType 26 = .ok (.iload_n 3, 1) := by decide +kernel
theorem qd_M_superType_27 : decode qb_M_superType 27 = .ok (.ireturn, 1) := by decide +kernel
theorem qd_M_superType_28 : decode qb_M_superType 28 = .ok (.aload_n 0, 1) := by decide +kernel
theorem qd_M_superType_29 : decode qb_M_superType 29 = .ok (.getfield 28, 3) := by decide +kernel
theorem qd_M_superType_32 : decode qb_M_superType 32 = .ok (.iload_n 1, 1) := by decide +kernel
theorem qd_M_superType_33 : decode qb_M_superType 33 = .ok (.iaload, 1) := by decide +kernel
theorem qd_M_superType_34 : decode qb_M_superType 34 = .ok (.iconst 1, 1) := by decide +kernel
theorem qd_M_superType_35 : decode qb_M_superType 35 = .ok (.if_icmp .ne 16, 3) := by decide +kernel
theorem qd_M_superType_38 : decode qb_M_superType 38 = .ok (.aload_n 0, 1) := by decide +kernel
theorem qd_M_superType_39 : decode qb_M_superType 39 = .ok (.aload_n 0, 1) := by decide +kernel
theorem qd_M_superType_40 : decode qb_M_superType 40 = .ok (.getfield 31, 3) := by decide +kernel
theorem qd_M_superType_43 : decode qb_M_superType 43 = .ok (.iload_n 3, 1) := by decide +kernel
theorem qd_M_superType_44 : decode qb_M_superType 44 = .ok (.iaload, 1) := by decide +kernel
theorem qd_M_superType_45 : decode qb_M_superType 45 = .ok (.invokevirtual 178, 3) := by decide +kernel
theorem qd_M_superType_48 : decode qb_M_superType 48 = .ok (.goto 26, 3) := by decide +kernel
theorem qd_M_superType_51 : decode qb_M_superType 51 = .ok (.aload_n 0, 1) := by decide +kernel
theorem qd_M_superType_52 : decode qb_M_superType 52 = .ok (.iload_n 3, 1) := by decide +kernel
theorem qd_M_superType_53 : decode qb_M_superType 53 = .ok (.aload_n 0, 1) := by decide +kernel
theorem qd_M_superType_54 : decode qb_M_superType 54 = .ok (.getfield 31, 3) := by decide +kernel
theorem qd_M_superType_57 : decode qb_M_superType 57 = .ok (.iload_n 1, 1) := by decide +kernel
theorem qd_M_superType_58 : decode qb_M_superType 58 = .ok (.iaload, 1) := by decide +kernel
theorem qd_M_superType_59 : decode qb_M_superType 59 = .ok (.aload_n 0, 1) := by decide +kernel
theorem qd_M_superType_60 : decode qb_M_superType 60 = .ok (.getfield 34, 3) := by decide +kernel
theorem qd_M_superType_63 : decode qb_M_superType 63 = .ok (.iload_n 1, 1) := by decide +kernel
theorem qd_M_superType_64 : decode qb_M_superType 64 = .ok (.iaload, 1) := by decide +kernel
theorem qd_M_superType_65 : decode qb_M_superType 65 = .ok (.aload_n 0, 1) := by decide +kernel
theorem qd_M_superType_66 : decode qb_M_superType 66 = .ok (.getfield 37, 3) := by decide +kernel
theorem qd_M_superType_69 : decode qb_M_superType 69 = .ok (.iload_n 1, 1) := by decide +kernel
theorem qd_M_superType_70 : decode qb_M_superType 70 = .ok (.iaload, 1) := by decide +kernel
theorem qd_M_superType_71 : decode qb_M_superType 71 = .ok (.invokevirtual 175, 3) := by decide +kernel
theorem qd_M_superType_74 : decode qb_M_superType 74 = .ok (.ireturn, 1) := by decide +kernel
theorem qd_M_bare_0 : decode qb_M_bare 0 = .ok (.aload_n 0, 1) := by decide +kernel
theorem qd_M_bare_1 : decode qb_M_bare 1 = .ok (.aload_n 0, 1) := by decide +kernel
theorem qd_M_bare_2 : decode qb_M_bare 2 = .ok (.getfield 13, 3) := by decide +kernel
theorem qd_M_bare_5 : decode qb_M_bare 5 = .ok (.iload_n 1, 1) := by decide +kernel
theorem qd_M_bare_6 : decode qb_M_bare 6 = .ok (.iaload, 1) := by decide +kernel
theorem qd_M_bare_7 : decode qb_M_bare 7 = .ok (.ifCond .ne 7, 3) := by decide +kernel
theorem qd_M_bare_10 : decode qb_M_bare 10 = .ok (.iconst 0, 1) := by decide +kernel
theorem qd_M_bare_11 : decode qb_M_bare 11 = .ok (.goto 4, 3) := by decide +kernel
theorem qd_M_bare_14 : decode qb_M_bare 14 = .ok (.iconst 1, 1) := by decide +kernel
theorem qd_M_bare_15 : decode qb_M_bare 15 = .ok (.iload_n 1, 1) := by decide +kernel
theorem qd_M_bare_16 : decode qb_M_bare 16 = .ok (.iconst (-1), 1) := by decide +kernel
theorem qd_M_bare_17 : decode qb_M_bare 17 = .ok (.iconst (-1), 1) := by decide +kernel
theorem qd_M_bare_18 : decode qb_M_bare 18 = .ok (.invokevirtual 169, 3) := by decide +kernel
theorem qd_M_bare_21 : decode qb_M_bare 21 = .ok (.ireturn, 1) := by decide +kernel
theorem qd_M_stepArguments_0 : decode qb_M_stepArguments 0 = .ok (.aload_n 0, 1) := by decide +kernel
theorem qd_M_stepArguments_1 : decode qb_M_stepArguments 1 = .ok (.getfield 77, 3) := by decide +kernel
theorem qd_M_stepArguments_4 : decode qb_M_stepArguments 4 = .ok (.iload_n 1, 1) := by decide +kernel
theorem qd_M_stepArguments_5 : decode qb_M_stepArguments 5 = .ok (.iaload, 1) := by decide +kernel
theorem qd_M_stepArguments_6 : decode qb_M_stepArguments 6 = .ok (.iconst 2, 1) := by decide +kernel
theorem qd_M_stepArguments_7 : decode qb_M_stepArguments 7 = .ok (.irem, 1) := by decide +kernel
theorem qd_M_stepArguments_8 : decode qb_M_stepArguments 8 = .ok (.iconst 1, 1) := by decide +kernel
theorem qd_M_stepArguments_9 : decode qb_M_stepArguments 9 = .ok (.if_icmp .ne 19, 3) := by decide +kernel
theorem qd_M_stepArguments_12 : decode qb_M_stepArguments 12 = .ok (.iload_n 3, 1) := by decide +kernel
theorem qd_M_stepArguments_13 : decode qb_M_stepArguments 13 = .ok (.ifCond .ne 5, 3) := by decide +kernel
theorem qd_M_stepArguments_16 : decode qb_M_stepArguments 16 = .ok (.iconst 0, 1) := by decide +kernel
theorem qd_M_stepArguments_17 : decode qb_M_stepArguments 17 = .ok (.ireturn, 1) := by decide +kernel
theorem qd_M_stepArguments_18 : decode qb_M_stepArguments 18 = .ok (.aload_n 0, 1) := by decide +kernel
theorem qd_M_stepArguments_19 : decode qb_M_stepArguments 19 = .ok (.getfield 77, 3) := by decide +kernel
theorem qd_M_stepArguments_22 : decode qb_M_stepArguments 22 = .ok (.iload_n 1, 1) := by decide +kernel
theorem qd_M_stepArguments_23 : decode qb_M_stepArguments 23 = .ok (.dup2, 1) := by decide +kernel
theorem qd_M_stepArguments_24 : decode qb_M_stepArguments 24 = .ok (.iaload, 1) := by decide +kernel
theorem qd_M_stepArguments_25 : decode qb_M_stepArguments 25 = .ok (.iconst 1, 1) := by decide +kernel
theorem qd_M_stepArguments_26 : decode qb_M_stepArguments 26 = .ok (.iadd, 1) := by decide +kernel
theorem qd_M_stepArguments_27 : decode qb_M_stepArguments 27 = .ok (.iastore, 1) := by decide +kernel
theorem qd_M_stepArguments_28 : decode qb_M_stepArguments 28 = .ok (.aload_n 0, 1) := by decide +kernel
theorem qd_M_stepArguments_29 : decode qb_M_stepArguments 29 = .ok (.getfield 77, 3) := by decide +kernel
theorem qd_M_stepArguments_32 : decode qb_M_stepArguments 32 = .ok (.iload_n 1, 1) := by decide +kernel
theorem qd_M_stepArguments_33 : decode qb_M_stepArguments 33 = .ok (.iaload, 1) := by decide +kernel
theorem qd_M_stepArguments_34 : decode qb_M_stepArguments 34 = .ok (.iconst 2, 1) := by decide +kernel
theorem qd_M_stepArguments_35 : decode qb_M_stepArguments 35 = .ok (.idiv, 1) := by decide +kernel
theorem qd_M_stepArguments_36 : decode qb_M_stepArguments 36 = .ok (.istore 4, 2) := by decide +kernel
theorem qd_M_stepArguments_38 : decode qb_M_stepArguments 38 = .ok (.iload 4, 2) := by decide +kernel
theorem qd_M_stepArguments_40 : decode qb_M_stepArguments 40 = .ok (.aload_n 0, 1) := by decide +kernel
theorem qd_M_stepArguments_41 : decode qb_M_stepArguments 41 = .ok (.getfield 13, 3) := by decide +kernel
theorem qd_M_stepArguments_44 : decode qb_M_stepArguments 44 = .ok (.aload_n 0, 1) := by decide +kernel
theorem qd_M_stepArguments_45 : decode qb_M_stepArguments 45 = .ok (.getfield 31, 3) := by decide +kernel
theorem qd_M_stepArguments_48 : decode qb_M_stepArguments 48 = .ok (.iload_n 2, 1) := by decide +kernel
theorem qd_M_stepArguments_49 : decode qb_M_stepArguments 49 = .ok (.iaload, 1) := by decide +kernel
theorem qd_M_stepArguments_50 : decode qb_M_stepArguments 50 = .ok (.iaload, 1) := by decide +kernel
theorem qd_M_stepArguments_51 : decode qb_M_stepArguments 51 = .ok (.if_icmp .ne 5, 3) := by decide +kernel
theorem qd_M_stepArguments_54 : decode qb_M_stepArguments 54 = .ok (.iconst 1, 1) := by decide +kernel
theorem qd_M_stepArguments_55 : decode qb_M_stepArguments 55 = .ok (.ireturn, 1) := by decide +kernel
theorem qd_M_stepArguments_56 : decode qb_M_stepArguments 56 = .ok (.iload 4, 2) := by decide +kernel
theorem qd_M_stepArguments_58 : decode qb_M_stepArguments 58 = .ok (.ifCond .ne 17, 3) := by decide +kernel
theorem qd_M_stepArguments_61 : decode qb_M_stepArguments 61 = .ok (.aload_n 0, 1) := by decide +kernel
theorem qd_M_stepArguments_62 : decode qb_M_stepArguments 62 = .ok (.getfield 34, 3) := by decide +kernel
theorem qd_M_stepArguments_65 : decode qb_M_stepArguments 65 = .ok (.aload_n 0, 1) := by decide +kernel
theorem qd_M_stepArguments_66 : decode qb_M_stepArguments 66 = .ok (.getfield 80, 3) := by decide +kernel
theorem qd_M_stepArguments_69 : decode qb_M_stepArguments 69 = .ok (.iload_n 1, 1) := by decide +kernel
theorem qd_M_stepArguments_70 : decode qb_M_stepArguments 70 = .ok (.iaload, 1) := by decide +kernel
theorem qd_M_stepArguments_71 : decode qb_M_stepArguments 71 = .ok (.iaload, 1) := by decide +kernel
theorem qd_M_stepArguments_72 : decode qb_M_stepArguments 72 = .ok (.goto 14, 3) := by decide +kernel
theorem qd_M_stepArguments_75 : decode qb_M_stepArguments 75 = .ok (.aload_n 0, 1) := by decide +kernel
theorem qd_M_stepArguments_76 : decode qb_M_stepArguments 76 = .ok (.getfield 37, 3) := by decide +kernel
theorem qd_M_stepArguments_79 : decode qb_M_stepArguments 79 = .ok (.aload_n 0, 1) := by decide +kernel
theorem qd_M_stepArguments_80 : decode qb_M_stepArguments 80 = .ok (.getfield 80, 3) := by decide +kernel
theorem qd_M_stepArguments_83 : decode qb_M_stepArguments 83 = .ok (.iload_n 1, 1) := by decide +kernel
theorem qd_M_stepArguments_84 : decode qb_M_stepArguments 84 = .ok (.iaload, 1) := by decide +kernel
theorem qd_M_stepArguments_85 : decode qb_M_stepArguments 85 = .ok (.iaload, 1) := by decide +kernel
theorem qd_M_stepArguments_86 : decode qb_M_stepArguments 86 = .ok (.istore 5, 2) := by decide +kernel
theorem qd_M_stepArguments_88 : decode qb_M_stepArguments 88 = .ok (.iload 4, 2) := by decide +kernel
theorem qd_M_stepArguments_90 : decode qb_M_stepArguments 90 = .ok (.ifCond .ne 12, 3) := by decide +kernel
theorem qd_M_stepArguments_93 : decode qb_M_stepArguments 93 = .ok (.aload_n 0, 1) := by decide +kernel
theorem qd_M_stepArguments_94 : decode qb_M_stepArguments 94 = .ok (.getfield 34, 3) := by decide +kernel
theorem qd_M_stepArguments_97 : decode qb_M_stepArguments 97 = .ok (.iload_n 2, 1) := by decide +kernel
theorem qd_M_stepArguments_98 : decode qb_M_stepArguments 98 = .ok (.iaload, 1) := by decide +kernel
theorem qd_M_stepArguments_99 : decode qb_M_stepArguments 99 = .ok (.goto 9, 3) := by decide +kernel
theorem qd_M_stepArguments_102 : decode qb_M_stepArguments 102 = .ok (.aload_n 0, 1) := by decide +kernel
theorem qd_M_stepArguments_103 : decode qb_M_stepArguments 103 = .ok (.getfield 37, 3) := by decide +kernel
theorem qd_M_stepArguments_106 : decode qb_M_stepArguments 106 = .ok (.iload_n 2, 1) := by decide +kernel
theorem qd_M_stepArguments_107 : decode qb_M_stepArguments 107 = .ok (.iaload, 1) := by decide +kernel
theorem qd_M_stepArguments_108 : decode qb_M_stepArguments 108 = .ok (.istore 6, 2) := by decide +kernel
theorem qd_M_stepArguments_110 : decode qb_M_stepArguments 110 = .ok (.iload 5, 2) := by decide +kernel
theorem qd_M_stepArguments_112 : decode qb_M_stepArguments 112 = .ok (.iload 6, 2) := by decide +kernel
theorem qd_M_stepArguments_114 : decode qb_M_stepArguments 114 = .ok (.if_icmp .eq 24, 3) := by decide +kernel
theorem qd_M_stepArguments_117 : decode qb_M_stepArguments 117 = .ok (.aload_n 0, 1) := by decide +kernel
theorem qd_M_stepArguments_118 : decode qb_M_stepArguments 118 = .ok (.getfield 28, 3) := by decide +kernel
theorem qd_M_stepArguments_121 : decode qb_M_stepArguments 121 = .ok (.iload 6, 2) := by decide +kernel
theorem qd_M_stepArguments_123 : decode qb_M_stepArguments 123 = .ok (.iaload, 1) := by decide +kernel
theorem qd_M_stepArguments_124 : decode qb_M_stepArguments 124 = .ok (.iconst 5, 1) := by decide +kernel
theorem qd_M_stepArguments_125 : decode qb_M_stepArguments 125 = .ok (.if_icmp .ne 25, 3) := by decide +kernel
theorem qd_M_stepArguments_128 : decode qb_M_stepArguments 128 = .ok (.aload_n 0, 1) := by decide +kernel
theorem qd_M_stepArguments_129 : decode qb_M_stepArguments 129 = .ok (.getfield 31, 3) := by decide +kernel
theorem qd_M_stepArguments_132 : decode qb_M_stepArguments 132 = .ok (.iload 6, 2) := by decide +kernel
theorem qd_M_stepArguments_134 : decode qb_M_stepArguments 134 = .ok (.iaload, 1) := by decide +kernel
theorem qd_M_stepArguments_135 : decode qb_M_stepArguments 135 = .ok (.ifCond .ne 15, 3) := by decide +kernel
theorem qd_M_stepArguments_138 : decode qb_M_stepArguments 138 = .ok (.aload_n 0, 1) := by decide +kernel
theorem qd_M_stepArguments_139 : decode qb_M_stepArguments 139 = .ok (.getfield 77, 3) := by decide +kernel
theorem qd_M_stepArguments_142 : decode qb_M_stepArguments 142 = .ok (.iload_n 1, 1) := by decide +kernel
theorem qd_M_stepArguments_143 : decode qb_M_stepArguments 143 = .ok (.dup2, 1) := by decide +kernel
theorem qd_M_stepArguments_144 : decode qb_M_stepArguments 144 = .ok (.iaload, 1) := by decide +kernel
theorem qd_M_stepArguments_145 : decode qb_M_stepArguments 145 = .ok (.iconst 2, 1) := by decide +kernel
theorem qd_M_stepArguments_146 : decode qb_M_stepArguments 146 = .ok (.iadd, 1) := by decide +kernel
theorem qd_M_stepArguments_147 : decode qb_M_stepArguments 147 = .ok (.iastore, 1) := by decide +kernel
theorem qd_M_stepArguments_148 : decode qb_M_stepArguments 148 = .ok (.iconst 2, 1) := by decide +kernel
theorem qd_M_stepArguments_149 : decode qb_M_stepArguments 149 = .ok (.ireturn, 1) := by decide +kernel
theorem qd_M_stepArguments_150 : decode qb_M_stepArguments 150 = .ok (.aload_n 0, 1) := by decide +kernel
theorem qd_M_stepArguments_151 : decode qb_M_stepArguments 151 = .ok (.getfield 28, 3) := by decide +kernel
theorem qd_M_stepArguments_154 : decode qb_M_stepArguments 154 = .ok (.iload 6, 2) := by decide +kernel
theorem qd_M_stepArguments_156 : decode qb_M_stepArguments 156 = .ok (.iaload, 1) := by decide +kernel
theorem qd_M_stepArguments_157 : decode qb_M_stepArguments 157 = .ok (.iconst 5, 1) := by decide +kernel
theorem qd_M_stepArguments_158 : decode qb_M_stepArguments 158 = .ok (.if_icmp .eq 5, 3) := by decide +kernel
theorem qd_M_stepArguments_161 : decode qb_M_stepArguments 161 = .ok (.iconst 0, 1) := by decide +kernel
theorem qd_M_stepArguments_162 : decode qb_M_stepArguments 162 = .ok (.ireturn, 1) := by decide +kernel
theorem qd_M_stepArguments_163 : decode qb_M_stepArguments 163 = .ok (.aload_n 0, 1) := by decide +kernel
theorem qd_M_stepArguments_164 : decode qb_M_stepArguments 164 = .ok (.getfield 77, 3) := by decide +kernel
theorem qd_M_stepArguments_167 : decode qb_M_stepArguments 167 = .ok (.iload_n 1, 1) := by decide +kernel
theorem qd_M_stepArguments_168 : decode qb_M_stepArguments 168 = .ok (.dup2, 1) := by decide +kernel
theorem qd_M_stepArguments_169 : decode qb_M_stepArguments 169 = .ok (.iaload, 1) := by decide +kernel
theorem qd_M_stepArguments_170 : decode qb_M_stepArguments 170 = .ok (.iconst 1, 1) := by decide +kernel
theorem qd_M_stepArguments_171 : decode qb_M_stepArguments 171 = .ok (.iadd, 1) := by decide +kernel
theorem qd_M_stepArguments_172 : decode qb_M_stepArguments 172 = .ok (.iastore, 1) := by decide +kernel
theorem qd_M_stepArguments_173 : decode qb_M_stepArguments 173 = .ok (.aload_n 0, 1) := by decide +kernel
theorem qd_M_stepArguments_174 : decode qb_M_stepArguments 174 = .ok (.getfield 31, 3) := by decide +kernel
theorem qd_M_stepArguments_177 : decode qb_M_stepArguments 177 = .ok (.iload 6, 2) := by decide +kernel
theorem qd_M_stepArguments_179 : decode qb_M_stepArguments 179 = .ok (.iaload, 1) := by decide +kernel
theorem qd_M_stepArguments_180 : decode qb_M_stepArguments 180 = .ok (.iconst 1, 1) := by decide +kernel
theorem qd_M_stepArguments_181 : decode qb_M_stepArguments 181 = .ok (.if_icmp .ne 19, 3) := by decide +kernel
theorem qd_M_stepArguments_184 : decode qb_M_stepArguments 184 = .ok (.aload_n 0, 1) := by decide +kernel
theorem qd_M_stepArguments_185 : decode qb_M_stepArguments 185 = .ok (.iload 5, 2) := by decide +kernel
theorem qd_M_stepArguments_187 : decode qb_M_stepArguments 187 = .ok (.aload_n 0, 1) := by decide +kernel
theorem qd_M_stepArguments_188 : decode qb_M_stepArguments 188 = .ok (.getfield 34, 3) := by decide +kernel
theorem qd_M_stepArguments_191 : decode qb_M_stepArguments 191 = .ok (.iload 6, 2) := by decide +kernel
theorem qd_M_stepArguments_193 : decode qb_M_stepArguments 193 = .ok (.iaload, 1) := by decide +kernel
theorem qd_M_stepArguments_194 : decode qb_M_stepArguments 194 = .ok (.invokevirtual 193, 3) := by decide +kernel
theorem qd_M_stepArguments_197 : decode qb_M_stepArguments 197 = .ok (.goto 16, 3) := by decide +kernel
theorem qd_M_stepArguments_200 : decode qb_M_stepArguments 200 = .ok (.aload_n 0, 1) := by decide +kernel
theorem qd_M_stepArguments_201 : decode qb_M_stepArguments 201 = .ok (.aload_n 0, 1) := by decide +kernel
theorem qd_M_stepArguments_202 : decode qb_M_stepArguments 202 = .ok (.getfield 34, 3) := by decide +kernel
theorem qd_M_stepArguments_205 : decode qb_M_stepArguments 205 = .ok (.iload 6, 2) := by decide +kernel
theorem qd_M_stepArguments_207 : decode qb_M_stepArguments 207 = .ok (.iaload, 1) := by decide +kernel
theorem qd_M_stepArguments_208 : decode qb_M_stepArguments 208 = .ok (.iload 5, 2) := by decide +kernel
theorem qd_M_stepArguments_210 : decode qb_M_stepArguments 210 = .ok (.invokevirtual 193, 3) := by decide +kernel
theorem qd_M_stepArguments_213 : decode qb_M_stepArguments 213 = .ok (.iconst 2, 1) := by decide +kernel
theorem qd_M_stepArguments_214 : decode qb_M_stepArguments 214 = .ok (.ireturn, 1) := by decide +kernel
theorem qd_M_isUnchecked_0 : decode qb_M_isUnchecked 0 = .ok (.aload_n 0, 1) := by decide +kernel
theorem qd_M_isUnchecked_1 : decode qb_M_isUnchecked 1 = .ok (.getfield 28, 3) := by decide +kernel
theorem qd_M_isUnchecked_4 : decode qb_M_isUnchecked 4 = .ok (.iload_n 2, 1) := by decide +kernel
theorem qd_M_isUnchecked_5 : decode qb_M_isUnchecked 5 = .ok (.iaload, 1) := by decide +kernel
theorem qd_M_isUnchecked_6 : decode qb_M_isUnchecked 6 = .ok (.iconst 2, 1) := by decide +kernel
theorem qd_M_isUnchecked_7 : decode qb_M_isUnchecked 7 = .ok (.if_icmp .eq 5, 3) := by decide +kernel
theorem qd_M_isUnchecked_10 : decode qb_M_isUnchecked 10 = .ok (.iconst 0, 1) := by decide +kernel
theorem qd_M_isUnchecked_11 : decode qb_M_isUnchecked 11 = .ok (.ireturn, 1) := by decide +kernel
theorem qd_M_isUnchecked_12 : decode qb_M_isUnchecked 12 = .ok (.iconst 1, 1) := by decide +kernel
theorem qd_M_isUnchecked_13 : decode qb_M_isUnchecked 13 = .ok (.istore_n 3, 1) := by decide +kernel
theorem qd_M_isUnchecked_14 : decode qb_M_isUnchecked 14 = .ok (.aload_n 0, 1) := by decide +kernel
theorem qd_M_isUnchecked_15 : decode qb_M_isUnchecked 15 = .ok (.getfield 83, 3) := by decide +kernel
theorem qd_M_isUnchecked_18 : decode qb_M_isUnchecked 18 = .ok (.iconst 0, 1) := by decide +kernel
theorem qd_M_isUnchecked_19 : decode qb_M_isUnchecked 19 = .ok (.iload_n 1, 1) := by decide +kernel
theorem qd_M_isUnchecked_20 : decode qb_M_isUnchecked 20 = .ok (.iastore, 1) := by decide +kernel
theorem qd_M_isUnchecked_21 : decode qb_M_isUnchecked 21 = .ok (.iconst 0, 1) := by decide +kernel
theorem qd_M_isUnchecked_22 : decode qb_M_isUnchecked 22 = .ok (.istore 4, 2) := by decide +kernel
theorem qd_M_isUnchecked_24 : decode qb_M_isUnchecked 24 = .ok (.iload 4, 2) := by decide +kernel
theorem qd_M_isUnchecked_26 : decode qb_M_isUnchecked 26 = .ok (.iload_n 3, 1) := by decide +kernel
theorem qd_M_isUnchecked_27 : decode qb_M_isUnchecked 27 = .ok (.if_icmp .ge 126, 3) := by decide +kernel
theorem qd_M_isUnchecked_30 : decode qb_M_isUnchecked 30 = .ok (.aload_n 0, 1) := by decide +kernel
theorem qd_M_isUnchecked_31 : decode qb_M_isUnchecked 31 = .ok (.getfield 83, 3) := by decide +kernel
theorem qd_M_isUnchecked_34 : decode qb_M_isUnchecked 34 = .ok (.iload 4, 2) := by decide +kernel
theorem qd_M_isUnchecked_36 : decode qb_M_isUnchecked 36 = .ok (.iaload, 1) := by decide +kernel
theorem qd_M_isUnchecked_37 : decode qb_M_isUnchecked 37 = .ok (.istore 5, 2) := by decide +kernel
theorem qd_M_isUnchecked_39 : decode qb_M_isUnchecked 39 = .ok (.aload_n 0, 1) := by decide +kernel
theorem qd_M_isUnchecked_40 : decode qb_M_isUnchecked 40 = .ok (.getfield 28, 3) := by decide +kernel
theorem qd_M_isUnchecked_43 : decode qb_M_isUnchecked 43 = .ok (.iload 5, 2) := by decide +kernel
theorem qd_M_isUnchecked_45 : decode qb_M_isUnchecked 45 = .ok (.iaload, 1) := by decide +kernel
theorem qd_M_isUnchecked_46 : decode qb_M_isUnchecked 46 = .ok (.iconst 3, 1) := by decide +kernel
theorem qd_M_isUnchecked_47 : decode qb_M_isUnchecked 47 = .ok (.if_icmp .ne 43, 3) := by decide +kernel
theorem qd_M_isUnchecked_50 : decode qb_M_isUnchecked 50 = .ok (.iconst 0, 1) := by decide +kernel
theorem qd_M_isUnchecked_51 : decode qb_M_isUnchecked 51 = .ok (.istore 6, 2) := by decide +kernel
theorem qd_M_isUnchecked_53 : decode qb_M_isUnchecked 53 = .ok (.iload 6, 2) := by decide +kernel
theorem qd_M_isUnchecked_55 : decode qb_M_isUnchecked 55 = .ok (.aload_n 0, 1) := by decide +kernel
theorem qd_M_isUnchecked_56 : decode qb_M_isUnchecked 56 = .ok (.iload 5, 2) := by decide +kernel
theorem qd_M_isUnchecked_58 : decode qb_M_isUnchecked 58 = .ok (.invokevirtual 213, 3) := by decide +kernel
theorem qd_M_isUnchecked_61 : decode qb_M_isUnchecked 61 = .ok (.if_icmp .ge 26, 3) := by decide +kernel
theorem qd_M_isUnchecked_64 : decode qb_M_isUnchecked 64 = .ok (.aload_n 0, 1) := by decide +kernel
theorem qd_M_isUnchecked_65 : decode qb_M_isUnchecked 65 = .ok (.getfield 83, 3) := by decide +kernel
theorem qd_M_isUnchecked_68 : decode qb_M_isUnchecked 68 = .ok (.iload_n 3, 1) := by decide +kernel
theorem qd_M_isUnchecked_69 : decode qb_M_isUnchecked 69 = .ok (.aload_n 0, 1) := by decide +kernel
theorem qd_M_isUnchecked_70 : decode qb_M_isUnchecked 70 = .ok (.iload 5, 2) := by decide +kernel
theorem qd_M_isUnchecked_72 : decode qb_M_isUnchecked 72 = .ok (.iload 6, 2) := by decide +kernel
theorem qd_M_isUnchecked_74 : decode qb_M_isUnchecked 74 = .ok (.invokevirtual 187, 3) := by decide +kernel
theorem qd_M_isUnchecked_77 : decode qb_M_isUnchecked 77 = .ok (.iastore, 1) := by decide +kernel
theorem qd_M_isUnchecked_78 : decode qb_M_isUnchecked 78 = .ok (.iinc 3 1, 3) := by decide +kernel
theorem qd_M_isUnchecked_81 : decode qb_M_isUnchecked 81 = .ok (.iinc 6 1, 3) := by decide +kernel
theorem qd_M_isUnchecked_84 : decode qb_M_isUnchecked 84 = .ok (.goto (-31), 3) := by decide +kernel
theorem qd_M_isUnchecked_87 : decode qb_M_isUnchecked 87 = .ok (.goto 60, 3) := by decide +kernel
theorem qd_M_isUnchecked_90 : decode qb_M_isUnchecked 90 = .ok (.aload_n 0, 1) := by decide +kernel
theorem qd_M_isUnchecked_91 : decode qb_M_isUnchecked 91 = .ok (.iload 5, 2) := by decide +kernel
theorem qd_M_isUnchecked_93 : decode qb_M_isUnchecked 93 = .ok (.invokevirtual 219, 3) := by decide +kernel
theorem qd_M_isUnchecked_96 : decode qb_M_isUnchecked 96 = .ok (.ifCond .eq 51, 3) := by decide +kernel
theorem qd_M_isUnchecked_99 : decode qb_M_isUnchecked 99 = .ok (.aload_n 0, 1) := by decide +kernel
theorem qd_M_isUnchecked_100 : decode qb_M_isUnchecked 100 = .ok (.getfield 52, 3) := by decide +kernel
theorem qd_M_isUnchecked_103 : decode qb_M_isUnchecked 103 = .ok (.bipush 12, 2) := by decide +kernel
theorem qd_M_isUnchecked_105 : decode qb_M_isUnchecked 105 = .ok (.aload_n 0, 1) := by decide +kernel
theorem qd_M_isUnchecked_106 : decode qb_M_isUnchecked 106 = .ok (.getfield 31, 3) := by decide +kernel
theorem qd_M_isUnchecked_109 : decode qb_M_isUnchecked 109 = .ok (.iload 5, 2) := by decide +kernel
theorem qd_M_isUnchecked_111 : decode qb_M_isUnchecked 111 = .ok (.iaload, 1) := by decide +kernel
theorem qd_M_isUnchecked_112 : decode qb_M_isUnchecked 112 = .ok (.imul, 1) := by decide +kernel
theorem qd_M_isUnchecked_113 : decode qb_M_isUnchecked 113 = .ok (.aload_n 0, 1) := by decide +kernel
theorem qd_M_isUnchecked_114 : decode qb_M_isUnchecked 114 = .ok (.getfield 31, 3) := by decide +kernel
theorem qd_M_isUnchecked_117 : decode qb_M_isUnchecked 117 = .ok (.iload_n 2, 1) := by decide +kernel
theorem qd_M_isUnchecked_118 : decode qb_M_isUnchecked 118 = .ok (.iaload, 1) := by decide +kernel
theorem qd_M_isUnchecked_119 : decode qb_M_isUnchecked 119 = .ok (.iadd, 1) := by decide +kernel
theorem qd_M_isUnchecked_120 : decode qb_M_isUnchecked 120 = .ok (.baload, 1) := by decide +kernel
theorem qd_M_isUnchecked_121 : decode qb_M_isUnchecked 121 = .ok (.ifCond .eq 26, 3) := by decide +kernel
theorem qd_M_isUnchecked_124 : decode qb_M_isUnchecked 124 = .ok (.aload_n 0, 1) := by decide +kernel
theorem qd_M_isUnchecked_125 : decode qb_M_isUnchecked 125 = .ok (.getfield 28, 3) := by decide +kernel
theorem qd_M_isUnchecked_128 : decode qb_M_isUnchecked 128 = .ok (.aload_n 0, 1) := by decide +kernel
theorem qd_M_isUnchecked_129 : decode qb_M_isUnchecked 129 = .ok (.iload 5, 2) := by decide +kernel
theorem qd_M_isUnchecked_131 : decode qb_M_isUnchecked 131 = .ok (.aload_n 0, 1) := by decide +kernel
theorem qd_M_isUnchecked_132 : decode qb_M_isUnchecked 132 = .ok (.getfield 31, 3) := by decide +kernel
theorem qd_M_isUnchecked_135 : decode qb_M_isUnchecked 135 = .ok (.iload_n 2, 1) := by decide +kernel
theorem qd_M_isUnchecked_136 : decode qb_M_isUnchecked 136 = .ok (.iaload, 1) := by decide +kernel
theorem qd_M_isUnchecked_137 : decode qb_M_isUnchecked 137 = .ok (.invokevirtual 222, 3) := by decide +kernel
theorem qd_M_isUnchecked_140 : decode qb_M_isUnchecked 140 = .ok (.iaload, 1) := by decide +kernel
theorem qd_M_isUnchecked_141 : decode qb_M_isUnchecked 141 = .ok (.iconst 1, 1) := by decide +kernel
theorem qd_M_isUnchecked_142 : decode qb_M_isUnchecked 142 = .ok (.if_icmp .ne 5, 3) := by decide +kernel
theorem qd_M_isUnchecked_145 : decode qb_M_isUnchecked 145 = .ok (.iconst 1, 1) := by decide +kernel
theorem qd_M_isUnchecked_146 : decode qb_M_isUnchecked 146 = .ok (.ireturn, 1) := by decide +kernel
theorem qd_M_isUnchecked_147 : decode qb_M_isUnchecked 147 = .ok (.iinc 4 1, 3) := by decide +kernel
theorem qd_M_isUnchecked_150 : decode qb_M_isUnchecked 150 = .ok (.goto (-126), 3) := by decide +kernel
theorem qd_M_isUnchecked_153 : decode qb_M_isUnchecked 153 = .ok (.iconst 0, 1) := by decide +kernel
theorem qd_M_isUnchecked_154 : decode qb_M_isUnchecked 154 = .ok (.ireturn, 1) := by decide +kernel
theorem qd_M_may_0 : decode qb_M_may 0 = .ok (.aload_n 0, 1) := by decide +kernel
theorem qd_M_may_1 : decode qb_M_may 1 = .ok (.iload_n 1, 1) := by decide +kernel
theorem qd_M_may_2 : decode qb_M_may 2 = .ok (.invokevirtual 225, 3) := by decide +kernel
theorem qd_M_may_5 : decode qb_M_may 5 = .ok (.ifCond .eq 16, 3) := by decide +kernel
theorem qd_M_may_8 : decode qb_M_may 8 = .ok (.aload_n 0, 1) := by decide +kernel
theorem qd_M_may_9 : decode qb_M_may 9 = .ok (.iload_n 2, 1) := by decide +kernel
theorem qd_M_may_10 : decode qb_M_may 10 = .ok (.invokevirtual 225, 3) := by decide +kernel
theorem qd_M_may_13 : decode qb_M_may 13 = .ok (.ifCond .eq 8, 3) := by decide +kernel
theorem qd_M_may_16 : decode qb_M_may 16 = .ok (.iload_n 2, 1) := by decide +kernel
theorem qd_M_may_17 : decode qb_M_may 17 = .ok (.iconst 2, 1) := by decide +kernel
theorem qd_M_may_18 : decode qb_M_may 18 = .ok (.if_icmp .ne 6, 3) := by decide +kernel
theorem qd_M_may_21 : decode qb_M_may 21 = .ok (.bipush (-2), 2) := by decide +kernel
theorem qd_M_may_23 : decode qb_M_may 23 = .ok (.ireturn, 1) := by decide +kernel
theorem qd_M_may_24 : decode qb_M_may 24 = .ok (.aload_n 0, 1) := by decide +kernel
theorem qd_M_may_25 : decode qb_M_may 25 = .ok (.invokevirtual 163, 3) := by decide +kernel
theorem qd_M_may_28 : decode qb_M_may 28 = .ok (.aload_n 0, 1) := by decide +kernel
theorem qd_M_may_29 : decode qb_M_may 29 = .ok (.invokevirtual 106, 3) := by decide +kernel
theorem qd_M_may_32 : decode qb_M_may 32 = .ok (.iconst 1, 1) := by decide +kernel
theorem qd_M_may_33 : decode qb_M_may 33 = .ok (.istore_n 3, 1) := by decide +kernel
theorem qd_M_may_34 : decode qb_M_may 34 = .ok (.aload_n 0, 1) := by decide +kernel
theorem qd_M_may_35 : decode qb_M_may 35 = .ok (.getfield 83, 3) := by decide +kernel
theorem qd_M_may_38 : decode qb_M_may 38 = .ok (.iconst 0, 1) := by decide +kernel
theorem qd_M_may_39 : decode qb_M_may 39 = .ok (.iload_n 1, 1) := by decide +kernel
theorem qd_M_may_40 : decode qb_M_may 40 = .ok (.iastore, 1) := by decide +kernel
theorem qd_M_may_41 : decode qb_M_may 41 = .ok (.aload_n 0, 1) := by decide +kernel
theorem qd_M_may_42 : decode qb_M_may 42 = .ok (.getfield 86, 3) := by decide +kernel
theorem qd_M_may_45 : decode qb_M_may 45 = .ok (.iconst 0, 1) := by decide +kernel
theorem qd_M_may_46 : decode qb_M_may 46 = .ok (.iload_n 2, 1) := by decide +kernel
theorem qd_M_may_47 : decode qb_M_may 47 = .ok (.iastore, 1) := by decide +kernel
theorem qd_M_may_48 : decode qb_M_may 48 = .ok (.iconst 0, 1) := by decide +kernel
theorem qd_M_may_49 : decode qb_M_may 49 = .ok (.istore 4, 2) := by decide +kernel
theorem qd_M_may_51 : decode qb_M_may 51 = .ok (.iload 4, 2) := by decide +kernel
theorem qd_M_may_53 : decode qb_M_may 53 = .ok (.iload_n 3, 1) := by decide +kernel
theorem qd_M_may_54 : decode qb_M_may 54 = .ok (.if_icmp .ge 292, 3) := by decide +kernel
theorem qd_M_may_57 : decode qb_M_may 57 = .ok (.aload_n 0, 1) := by decide +kernel
theorem qd_M_may_58 : decode qb_M_may 58 = .ok (.getfield 83, 3) := by decide +kernel
theorem qd_M_may_61 : decode qb_M_may 61 = .ok (.iload 4, 2) := by decide +kernel
theorem qd_M_may_63 : decode qb_M_may 63 = .ok (.iaload, 1) := by decide +kernel
theorem qd_M_may_64 : decode qb_M_may 64 = .ok (.istore 5, 2) := by decide +kernel
theorem qd_M_may_66 : decode qb_M_may 66 = .ok (.aload_n 0, 1) := by decide +kernel
theorem qd_M_may_67 : decode qb_M_may 67 = .ok (.getfield 86, 3) := by decide +kernel
theorem qd_M_may_70 : decode qb_M_may 70 = .ok (.iload 4, 2) := by decide +kernel
theorem qd_M_may_72 : decode qb_M_may 72 = .ok (.iaload, 1) := by decide +kernel
theorem qd_M_may_73 : decode qb_M_may 73 = .ok (.istore 6, 2) := by decide +kernel
theorem qd_M_may_75 : decode qb_M_may 75 = .ok (.aload_n 0, 1) := by decide +kernel
theorem qd_M_may_76 : decode qb_M_may 76 = .ok (.iload 5, 2) := by decide +kernel
theorem qd_M_may_78 : decode qb_M_may 78 = .ok (.iload 6, 2) := by decide +kernel
theorem qd_M_may_80 : decode qb_M_may 80 = .ok (.invokevirtual 228, 3) := by decide +kernel
theorem qd_M_may_83 : decode qb_M_may 83 = .ok (.ifCond .ne 14, 3) := by decide +kernel
theorem qd_M_may_86 : decode qb_M_may 86 = .ok (.aload_n 0, 1) := by decide +kernel
theorem qd_M_may_87 : decode qb_M_may 87 = .ok (.iload 6, 2) := by decide +kernel
theorem qd_M_may_89 : decode qb_M_may 89 = .ok (.iload 5, 2) := by decide +kernel
theorem qd_M_may_91 : decode qb_M_may 91 = .ok (.invokevirtual 228, 3) := by decide +kernel
theorem qd_M_may_94 : decode qb_M_may 94 = .ok (.ifCond .eq 7, 3) := by decide +kernel
theorem qd_M_may_97 : decode qb_M_may 97 = .ok (.iconst 1, 1) := by decide +kernel
theorem qd_M_may_98 : decode qb_M_may 98 = .ok (.goto 4, 3) := by decide +kernel
theorem qd_M_may_101 : decode qb_M_may 101 = .ok (.iconst 0, 1) := by decide +kernel
theorem qd_M_may_102 : decode qb_M_may 102 = .ok (.istore 7, 2) := by decide +kernel
theorem qd_M_may_104 : decode qb_M_may 104 = .ok (.iload 7, 2) := by decide +kernel
theorem qd_M_may_106 : decode qb_M_may 106 = .ok (.ifCond .ne 17, 3) := by decide +kernel
theorem qd_M_may_109 : decode qb_M_may 109 = .ok (.iload 5, 2) := by decide +kernel
theorem qd_M_may_111 : decode qb_M_may 111 = .ok (.iconst 1, 1) := by decide +kernel
theorem qd_M_may_112 : decode qb_M_may 112 = .ok (.if_icmp .eq 9, 3) := by decide +kernel
theorem qd_M_may_115 : decode qb_M_may 115 = .ok (.iload 6, 2) := by decide +kernel
theorem qd_M_may_117 : decode qb_M_may 117 = .ok (.iconst 1, 1) := by decide +kernel
theorem qd_M_may_118 : decode qb_M_may 118 = .ok (.if_icmp .ne 5, 3) := by decide +kernel
theorem qd_M_may_121 : decode qb_M_may 121 = .ok (.iconst 0, 1) := by decide +kernel
theorem qd_M_may_122 : decode qb_M_may 122 = .ok (.ireturn, 1) := by decide +kernel
theorem qd_M_may_123 : decode qb_M_may 123 = .ok (.iload 7, 2) := by decide +kernel
theorem qd_M_may_125 : decode qb_M_may 125 = .ok (.ifCond .eq 6, 3) := by decide +kernel
theorem qd_M_may_128 : decode qb_M_may 128 = .ok (.goto 212, 3) := by decide +kernel
theorem qd_M_may_131 : decode qb_M_may 131 = .ok (.aload_n 0, 1) := by decide +kernel
theorem qd_M_may_132 : decode qb_M_may 132 = .ok (.getfield 28, 3) := by decide +kernel
theorem qd_M_may_135 : decode qb_M_may 135 = .ok (.iload 5, 2) := by decide +kernel
theorem qd_M_may_137 : decode qb_M_may 137 = .ok (.iaload, 1) := by decide +kernel
theorem qd_M_may_138 : decode qb_M_may 138 = .ok (.iconst 3, 1) := by decide +kernel
theorem qd_M_may_139 : decode qb_M_may 139 = .ok (.if_icmp .ne 51, 3) := by decide +kernel
theorem qd_M_may_142 : decode qb_M_may 142 = .ok (.iconst 0, 1) := by decide +kernel
theorem qd_M_may_143 : decode qb_M_may 143 = .ok (.istore 8, 2) := by decide +kernel
theorem qd_M_may_145 : decode qb_M_may 145 = .ok (.iload 8, 2) := by decide +kernel
theorem qd_M_may_147 : decode qb_M_may 147 = .ok (.aload_n 0, 1) := by decide +kernel
theorem qd_M_may_148 : decode qb_M_may 148 = .ok (.iload 5, 2) := by decide +kernel
theorem qd_M_may_150 : decode qb_M_may 150 = .ok (.invokevirtual 213, 3) := by decide +kernel
theorem qd_M_may_153 : decode qb_M_may 153 = .ok (.if_icmp .ge 34, 3) := by decide +kernel
theorem qd_M_may_156 : decode qb_M_may 156 = .ok (.aload_n 0, 1) := by decide +kernel
theorem qd_M_may_157 : decode qb_M_may 157 = .ok (.getfield 83, 3) := by decide +kernel
theorem qd_M_may_160 : decode qb_M_may 160 = .ok (.iload_n 3, 1) := by decide +kernel
theorem qd_M_may_161 : decode qb_M_may 161 = .ok (.aload_n 0, 1) := by decide +kernel
theorem qd_M_may_162 : decode qb_M_may 162 = .ok (.iload 5, 2) := by decide +kernel
theorem qd_M_may_164 : decode qb_M_may 164 = .ok (.iload 8, 2) := by decide +kernel
theorem qd_M_may_166 : decode qb_M_may 166 = .ok (.invokevirtual 187, 3) := by decide +kernel
theorem qd_M_may_169 : decode qb_M_may 169 = .ok (.iastore, 1) := by decide +kernel
theorem qd_M_may_170 : decode qb_M_may 170 = .ok (.aload_n 0, 1) := by decide +kernel
theorem qd_M_may_171 : decode qb_M_may 171 = .ok (.getfield 86, 3) := by decide +kernel
theorem qd_M_may_174 : decode qb_M_may 174 = .ok (.iload_n 3, 1) := by decide +kernel
theorem qd_M_may_175 : decode qb_M_may 175 = .ok (.iload 6, 2) := by decide +kernel
theorem qd_M_may_177 : decode qb_M_may 177 = .ok (.iastore, 1) := by decide +kernel
theorem qd_M_may_178 : decode qb_M_may 178 = .ok (.iinc 3 1, 3) := by decide +kernel
theorem qd_M_may_181 : decode qb_M_may 181 = .ok (.iinc 8 1, 3) := by decide +kernel
theorem qd_M_may_184 : decode qb_M_may 184 = .ok (.goto (-39), 3) := by decide +kernel
theorem qd_M_may_187 : decode qb_M_may 187 = .ok (.goto 153, 3) := by decide +kernel
theorem qd_M_may_190 : decode qb_M_may 190 = .ok (.aload_n 0, 1) := by decide +kernel
theorem qd_M_may_191 : decode qb_M_may 191 = .ok (.getfield 28, 3) := by decide +kernel
theorem qd_M_may_194 : decode qb_M_may 194 = .ok (.iload 6, 2) := by decide +kernel
theorem qd_M_may_196 : decode qb_M_may 196 = .ok (.iaload, 1) := by decide +kernel
theorem qd_M_may_197 : decode qb_M_may 197 = .ok (.iconst 3, 1) := by decide +kernel
theorem qd_M_may_198 : decode qb_M_may 198 = .ok (.if_icmp .ne 51, 3) := by decide +kernel
theorem qd_M_may_201 : decode qb_M_may 201 = .ok (.iconst 0, 1) := by decide +kernel
theorem qd_M_may_202 : decode qb_M_may 202 = .ok (.istore 8, 2) := by decide +kernel
theorem qd_M_may_204 : decode qb_M_may 204 = .ok (.iload 8, 2) := by decide +kernel
theorem qd_M_may_206 : decode qb_M_may 206 = .ok (.aload_n 0, 1) := by decide +kernel
theorem qd_M_may_207 : decode qb_M_may 207 = .ok (.iload 6, 2) := by decide +kernel
theorem qd_M_may_209 : decode qb_M_may 209 = .ok (.invokevirtual 213, 3) := by decide +kernel
theorem qd_M_may_212 : decode qb_M_may 212 = .ok (.if_icmp .ge 34, 3) := by decide +kernel
theorem qd_M_may_215 : decode qb_M_may 215 = .ok (.aload_n 0, 1) := by decide +kernel
theorem qd_M_may_216 : decode qb_M_may 216 = .ok (.getfield 83, 3) := by decide +kernel
theorem qd_M_may_219 : decode qb_M_may 219 = .ok (.iload_n 3, 1) := by decide +kernel
theorem qd_M_may_220 : decode qb_M_may 220 = .ok (.iload 5, 2) := by decide +kernel
theorem qd_M_may_222 : decode qb_M_may 222 = .ok (.iastore, 1) := by decide +kernel
theorem qd_M_may_223 : decode qb_M_may 223 = .ok (.aload_n 0, 1) := by decide +kernel
theorem qd_M_may_224 : decode qb_M_may 224 = .ok (.getfield 86, 3) := by decide +kernel
theorem qd_M_may_227 : decode qb_M_may 227 = .ok (.iload_n 3, 1) := by decide +kernel
theorem qd_M_may_228 : decode qb_M_may 228 = .ok (.aload_n 0, 1) := by decide +kernel
theorem qd_M_may_229 : decode qb_M_may 229 = .ok (.iload 6, 2) := by decide +kernel
theorem qd_M_may_231 : decode qb_M_may 231 = .ok (.iload 8, 2) := by decide +kernel
theorem qd_M_may_233 : decode qb_M_may 233 = .ok (.invokevirtual 187, 3) := by decide +kernel
theorem qd_M_may_236 : decode qb_M_may 236 = .ok (.iastore, 1) := by decide +kernel
theorem qd_M_may_237 : decode qb_M_may 237 = .ok (.iinc 3 1, 3) := by decide +kernel
theorem qd_M_may_240 : decode qb_M_may 240 = .ok (.iinc 8 1, 3) := by decide +kernel
theorem qd_M_may_243 : decode qb_M_may 243 = .ok (.goto (-39), 3) := by decide +kernel
theorem qd_M_may_246 : decode qb_M_may 246 = .ok (.goto 94, 3) := by decide +kernel
theorem qd_M_may_249 : decode qb_M_may 249 = .ok (.aload_n 0, 1) := by decide +kernel
theorem qd_M_may_250 : decode qb_M_may 250 = .ok (.getfield 28, 3) := by decide +kernel
theorem qd_M_may_253 : decode qb_M_may 253 = .ok (.iload 5, 2) := by decide +kernel
theorem qd_M_may_255 : decode qb_M_may 255 = .ok (.iaload, 1) := by decide +kernel
theorem qd_M_may_256 : decode qb_M_may 256 = .ok (.iconst 4, 1) := by decide +kernel
theorem qd_M_may_257 : decode qb_M_may 257 = .ok (.if_icmp .ne 46, 3) := by decide +kernel
theorem qd_M_may_260 : decode qb_M_may 260 = .ok (.aload_n 0, 1) := by decide +kernel
theorem qd_M_may_261 : decode qb_M_may 261 = .ok (.getfield 28, 3) := by decide +kernel
theorem qd_M_may_264 : decode qb_M_may 264 = .ok (.iload 6, 2) := by decide +kernel
theorem qd_M_may_266 : decode qb_M_may 266 = .ok (.iaload, 1) := by decide +kernel
theorem qd_M_may_267 : decode qb_M_may 267 = .ok (.iconst 4, 1) := by decide +kernel
theorem qd_M_may_268 : decode qb_M_may 268 = .ok (.if_icmp .ne 35, 3) := by decide +kernel
theorem qd_M_may_271 : decode qb_M_may 271 = .ok (.aload_n 0, 1) := by decide +kernel
theorem qd_M_may_272 : decode qb_M_may 272 = .ok (.getfield 83, 3) := by decide +kernel
theorem qd_M_may_275 : decode qb_M_may 275 = .ok (.iload_n 3, 1) := by decide +kernel
theorem qd_M_may_276 : decode qb_M_may 276 = .ok (.aload_n 0, 1) := by decide +kernel
theorem qd_M_may_277 : decode qb_M_may 277 = .ok (.getfield 34, 3) := by decide +kernel
theorem qd_M_may_280 : decode qb_M_may 280 = .ok (.iload 5, 2) := by decide +kernel
theorem qd_M_may_282 : decode qb_M_may 282 = .ok (.iaload, 1) := by decide +kernel
theorem qd_M_may_283 : decode qb_M_may 283 = .ok (.iastore, 1) := by decide +kernel
theorem qd_M_may_284 : decode qb_M_may 284 = .ok (.aload_n 0, 1) := by decide +kernel
theorem qd_M_may_285 : decode qb_M_may 285 = .ok (.getfield 86, 3) := by decide +kernel
theorem qd_M_may_288 : decode qb_M_may 288 = .ok (.iload_n 3, 1) := by decide +kernel
theorem qd_M_may_289 : decode qb_M_may 289 = .ok (.aload_n 0, 1) := by decide +kernel
theorem qd_M_may_290 : decode qb_M_may 290 = .ok (.getfield 34, 3) := by decide +kernel
theorem qd_M_may_293 : decode qb_M_may 293 = .ok (.iload 6, 2) := by decide +kernel
theorem qd_M_may_295 : decode qb_M_may 295 = .ok (.iaload, 1) := by decide +kernel
theorem qd_M_may_296 : decode qb_M_may 296 = .ok (.iastore, 1) := by decide +kernel
theorem qd_M_may_297 : decode qb_M_may 297 = .ok (.iinc 3 1, 3) := by decide +kernel
theorem qd_M_may_300 : decode qb_M_may 300 = .ok (.goto 40, 3) := by decide +kernel
theorem qd_M_may_303 : decode qb_M_may 303 = .ok (.aload_n 0, 1) := by decide +kernel
theorem qd_M_may_304 : decode qb_M_may 304 = .ok (.getfield 28, 3) := by decide +kernel
theorem qd_M_may_307 : decode qb_M_may 307 = .ok (.iload 5, 2) := by decide +kernel
theorem qd_M_may_309 : decode qb_M_may 309 = .ok (.iaload, 1) := by decide +kernel
theorem qd_M_may_310 : decode qb_M_may 310 = .ok (.iconst 4, 1) := by decide +kernel
theorem qd_M_may_311 : decode qb_M_may 311 = .ok (.if_icmp .eq 14, 3) := by decide +kernel
theorem qd_M_may_314 : decode qb_M_may 314 = .ok (.aload_n 0, 1) := by decide +kernel
theorem qd_M_may_315 : decode qb_M_may 315 = .ok (.getfield 28, 3) := by decide +kernel
theorem qd_M_may_318 : decode qb_M_may 318 = .ok (.iload 6, 2) := by decide +kernel
theorem qd_M_may_320 : decode qb_M_may 320 = .ok (.iaload, 1) := by decide +kernel
theorem qd_M_may_321 : decode qb_M_may 321 = .ok (.iconst 4, 1) := by decide +kernel
theorem qd_M_may_322 : decode qb_M_may 322 = .ok (.if_icmp .ne 5, 3) := by decide +kernel
theorem qd_M_may_325 : decode qb_M_may 325 = .ok (.iconst 0, 1) := by decide +kernel
theorem qd_M_may_326 : decode qb_M_may 326 = .ok (.ireturn, 1) := by decide +kernel
theorem qd_M_may_327 : decode qb_M_may 327 = .ok (.aload_n 0, 1) := by decide +kernel
theorem qd_M_may_328 : decode qb_M_may 328 = .ok (.iload 5, 2) := by decide +kernel
theorem qd_M_may_330 : decode qb_M_may 330 = .ok (.iload 6, 2) := by decide +kernel
theorem qd_M_may_332 : decode qb_M_may 332 = .ok (.invokevirtual 234, 3) := by decide +kernel
theorem qd_M_may_335 : decode qb_M_may 335 = .ok (.ifCond .ne 5, 3) := by decide +kernel
theorem qd_M_may_338 : decode qb_M_may 338 = .ok (.iconst 0, 1) := by decide +kernel
theorem qd_M_may_339 : decode qb_M_may 339 = .ok (.ireturn, 1) := by decide +kernel
theorem qd_M_may_340 : decode qb_M_may 340 = .ok (.iinc 4 1, 3) := by decide +kernel
