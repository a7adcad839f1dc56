theorem qd_S_init_0 : decode qb_S_init 0 = .ok (.aload_n 0, 1) := by decide +kernel
theorem qd_S_init_1 : decode qb_S_init 1 = .ok (.invokespecial 3, 3) := by decide +kernel
theorem qd_S_init_4 : decode qb_S_init 4 = .ok (.aload_n 0, 1) := by decide +kernel
theorem qd_S_init_5 : decode qb_S_init 5 = .ok (.aload_n 1, 1) := by decide +kernel
theorem qd_S_init_6 : decode qb_S_init 6 = .ok (.putfield 9, 3) := by decide +kernel
theorem qd_S_init_9 : decode qb_S_init 9 = .ok (.aload_n 0, 1) := by decide +kernel
theorem qd_S_init_10 : decode qb_S_init 10 = .ok (.aload_n 2, 1) := by decide +kernel
theorem qd_S_init_11 : decode qb_S_init 11 = .ok (.putfield 15, 3) := by decide +kernel
theorem qd_S_init_14 : decode qb_S_init 14 = .ok (.return_, 1) := by decide +kernel
theorem qd_S_clashes_0 : decode qb_S_clashes 0 = .ok (.iconst 1, 1) := by decide +kernel
theorem qd_S_clashes_1 : decode qb_S_clashes 1 = .ok (.istore_n 1, 1) := by decide +kernel
theorem qd_S_clashes_2 : decode qb_S_clashes 2 = .ok (.iload_n 1, 1) := by decide +kernel
theorem qd_S_clashes_3 : decode qb_S_clashes 3 = .ok (.aload_n 0, 1) := by decide +kernel
theorem qd_S_clashes_4 : decode qb_S_clashes 4 = .ok (.getfield 9, 3) := by decide +kernel
theorem qd_S_clashes_7 : decode qb_S_clashes 7 = .ok (.getfield 107, 3) := by decide +kernel
theorem qd_S_clashes_10 : decode qb_S_clashes 10 = .ok (.if_icmp .ge 33, 3) := by decide +kernel
theorem qd_S_clashes_13 : decode qb_S_clashes 13 = .ok (.iconst 1, 1) := by decide +kernel
theorem qd_S_clashes_14 : decode qb_S_clashes 14 = .ok (.istore_n 2, 1) := by decide +kernel
theorem qd_S_clashes_15 : decode qb_S_clashes 15 = .ok (.iload_n 2, 1) := by decide +kernel
theorem qd_S_clashes_16 : decode qb_S_clashes 16 = .ok (.iload_n 1, 1) := by decide +kernel
theorem qd_S_clashes_17 : decode qb_S_clashes 17 = .ok (.if_icmp .ge 20, 3) := by decide +kernel
theorem qd_S_clashes_20 : decode qb_S_clashes 20 = .ok (.aload_n 0, 1) := by decide +kernel
theorem qd_S_clashes_21 : decode qb_S_clashes 21 = .ok (.iload_n 1, 1) := by decide +kernel
theorem qd_S_clashes_22 : decode qb_S_clashes 22 = .ok (.iload_n 2, 1) := by decide +kernel
theorem qd_S_clashes_23 : decode qb_S_clashes 23 = .ok (.invokevirtual 111, 3) := by decide +kernel
theorem qd_S_clashes_26 : decode qb_S_clashes 26 = .ok (.ifCond .eq 5, 3) := by decide +kernel
theorem qd_S_clashes_29 : decode qb_S_clashes 29 = .ok (.iconst 1, 1) := by decide +kernel
theorem qd_S_clashes_30 : decode qb_S_clashes 30 = .ok (.ireturn, 1) := by decide +kernel
theorem qd_S_clashes_31 : decode qb_S_clashes 31 = .ok (.iinc 2 1, 3) := by decide +kernel
theorem qd_S_clashes_34 : decode qb_S_clashes 34 = .ok (.goto (-19), 3) := by decide +kernel
theorem qd_S_clashes_37 : decode qb_S_clashes 37 = .ok (.iinc 1 1, 3) := by decide +kernel
theorem qd_S_clashes_40 : decode qb_S_clashes 40 = .ok (.goto (-38), 3) := by decide +kernel
theorem qd_S_clashes_43 : decode qb_S_clashes 43 = .ok (.iconst 0, 1) := by decide +kernel
theorem qd_S_clashes_44 : decode qb_S_clashes 44 = .ok (.ireturn, 1) := by decide +kernel
theorem qd_S_clashesAt_0 : decode qb_S_clashesAt 0 = .ok (.aload_n 0, 1) := by decide +kernel
theorem qd_S_clashesAt_1 : decode qb_S_clashesAt 1 = .ok (.getfield 15, 3) := by decide +kernel
theorem qd_S_clashesAt_4 : decode qb_S_clashesAt 4 = .ok (.invokevirtual 114, 3) := by decide +kernel
theorem qd_S_clashesAt_7 : decode qb_S_clashesAt 7 = .ok (.istore_n 3, 1) := by decide +kernel
theorem qd_S_clashesAt_8 : decode qb_S_clashesAt 8 = .ok (.iconst (-1), 1) := by decide +kernel
theorem qd_S_clashesAt_9 : decode qb_S_clashesAt 9 = .ok (.istore 4, 2) := by decide +kernel
theorem qd_S_clashesAt_11 : decode qb_S_clashesAt 11 = .ok (.iconst 0, 1) := by decide +kernel
theorem qd_S_clashesAt_12 : decode qb_S_clashesAt 12 = .ok (.istore 5, 2) := by decide +kernel
theorem qd_S_clashesAt_14 : decode qb_S_clashesAt 14 = .ok (.iconst 0, 1) := by decide +kernel
theorem qd_S_clashesAt_15 : decode qb_S_clashesAt 15 = .ok (.istore 6, 2) := by decide +kernel
theorem qd_S_clashesAt_17 : decode qb_S_clashesAt 17 = .ok (.iload 6, 2) := by decide +kernel
theorem qd_S_clashesAt_19 : decode qb_S_clashesAt 19 = .ok (.iconst 3, 1) := by decide +kernel
theorem qd_S_clashesAt_20 : decode qb_S_clashesAt 20 = .ok (.if_icmp .ge 76, 3) := by decide +kernel
theorem qd_S_clashesAt_23 : decode qb_S_clashesAt 23 = .ok (.aload_n 0, 1) := by decide +kernel
theorem qd_S_clashesAt_24 : decode qb_S_clashesAt 24 = .ok (.getfield 9, 3) := by decide +kernel
theorem qd_S_clashesAt_27 : decode qb_S_clashesAt 27 = .ok (.aload_n 0, 1) := by decide +kernel
theorem qd_S_clashesAt_28 : decode qb_S_clashesAt 28 = .ok (.getfield 9, 3) := by decide +kernel
theorem qd_S_clashesAt_31 : decode qb_S_clashesAt 31 = .ok (.iload_n 1, 1) := by decide +kernel
theorem qd_S_clashesAt_32 : decode qb_S_clashesAt 32 = .ok (.iload 6, 2) := by decide +kernel
theorem qd_S_clashesAt_34 : decode qb_S_clashesAt 34 = .ok (.invokevirtual 101, 3) := by decide +kernel
theorem qd_S_clashesAt_37 : decode qb_S_clashesAt 37 = .ok (.iload_n 2, 1) := by decide +kernel
theorem qd_S_clashesAt_38 : decode qb_S_clashesAt 38 = .ok (.invokevirtual 118, 3) := by decide +kernel
theorem qd_S_clashesAt_41 : decode qb_S_clashesAt 41 = .ok (.ifCond .eq 49, 3) := by decide +kernel
theorem qd_S_clashesAt_44 : decode qb_S_clashesAt 44 = .ok (.aload_n 0, 1) := by decide +kernel
theorem qd_S_clashesAt_45 : decode qb_S_clashesAt 45 = .ok (.aload_n 0, 1) := by decide +kernel
theorem qd_S_clashesAt_46 : decode qb_S_clashesAt 46 = .ok (.getfield 9, 3) := by decide +kernel
theorem qd_S_clashesAt_49 : decode qb_S_clashesAt 49 = .ok (.iload_n 1, 1) := by decide +kernel
theorem qd_S_clashesAt_50 : decode qb_S_clashesAt 50 = .ok (.iload 6, 2) := by decide +kernel
theorem qd_S_clashesAt_52 : decode qb_S_clashesAt 52 = .ok (.invokevirtual 104, 3) := by decide +kernel
theorem qd_S_clashesAt_55 : decode qb_S_clashesAt 55 = .ok (.iload_n 2, 1) := by decide +kernel
theorem qd_S_clashesAt_56 : decode qb_S_clashesAt 56 = .ok (.invokevirtual 121, 3) := by decide +kernel
theorem qd_S_clashesAt_59 : decode qb_S_clashesAt 59 = .ok (.istore 7, 2) := by decide +kernel
theorem qd_S_clashesAt_61 : decode qb_S_clashesAt 61 = .ok (.iload 5, 2) := by decide +kernel
theorem qd_S_clashesAt_63 : decode qb_S_clashesAt 63 = .ok (.ifCond .ne 16, 3) := by decide +kernel
theorem qd_S_clashesAt_66 : decode qb_S_clashesAt 66 = .ok (.iload 4, 2) := by decide +kernel
theorem qd_S_clashesAt_68 : decode qb_S_clashesAt 68 = .ok (.iconst (-1), 1) := by decide +kernel
theorem qd_S_clashesAt_69 : decode qb_S_clashesAt 69 = .ok (.if_icmp .eq 14, 3) := by decide +kernel
theorem qd_S_clashesAt_72 : decode qb_S_clashesAt 72 = .ok (.iload 4, 2) := by decide +kernel
theorem qd_S_clashesAt_74 : decode qb_S_clashesAt 74 = .ok (.iload 7, 2) := by decide +kernel
theorem qd_S_clashesAt_76 : decode qb_S_clashesAt 76 = .ok (.if_icmp .eq 7, 3) := by decide +kernel
theorem qd_S_clashesAt_79 : decode qb_S_clashesAt 79 = .ok (.iconst 1, 1) := by decide +kernel
theorem qd_S_clashesAt_80 : decode qb_S_clashesAt 80 = .ok (.goto 4, 3) := by decide +kernel
theorem qd_S_clashesAt_83 : decode qb_S_clashesAt 83 = .ok (.iconst 0, 1) := by decide +kernel
theorem qd_S_clashesAt_84 : decode qb_S_clashesAt 84 = .ok (.istore 5, 2) := by decide +kernel
theorem qd_S_clashesAt_86 : decode qb_S_clashesAt 86 = .ok (.iload 7, 2) := by decide +kernel
theorem qd_S_clashesAt_88 : decode qb_S_clashesAt 88 = .ok (.istore 4, 2) := by decide +kernel
theorem qd_S_clashesAt_90 : decode qb_S_clashesAt 90 = .ok (.iinc 6 1, 3) := by decide +kernel
theorem qd_S_clashesAt_93 : decode qb_S_clashesAt 93 = .ok (.goto (-76), 3) := by decide +kernel
theorem qd_S_clashesAt_96 : decode qb_S_clashesAt 96 = .ok (.aload_n 0, 1) := by decide +kernel
theorem qd_S_clashesAt_97 : decode qb_S_clashesAt 97 = .ok (.getfield 15, 3) := by decide +kernel
theorem qd_S_clashesAt_100 : decode qb_S_clashesAt 100 = .ok (.iload_n 3, 1) := by decide +kernel
theorem qd_S_clashesAt_101 : decode qb_S_clashesAt 101 = .ok (.invokevirtual 124, 3) := by decide +kernel
theorem qd_S_clashesAt_104 : decode qb_S_clashesAt 104 = .ok (.iload 5, 2) := by decide +kernel
theorem qd_S_clashesAt_106 : decode qb_S_clashesAt 106 = .ok (.ireturn, 1) := by decide +kernel
theorem qd_S_viewedAs_0 : decode qb_S_viewedAs 0 = .ok (.iload_n 2, 1) := by decide +kernel
theorem qd_S_viewedAs_1 : decode qb_S_viewedAs 1 = .ok (.ifCond .ne 5, 3) := by decide +kernel
theorem qd_S_viewedAs_4 : decode qb_S_viewedAs 4 = .ok (.iconst 0, 1) := by decide +kernel
theorem qd_S_viewedAs_5 : decode qb_S_viewedAs 5 = .ok (.ireturn, 1) := by decide +kernel
theorem qd_S_viewedAs_6 : decode qb_S_viewedAs 6 = .ok (.iload_n 1, 1) := by decide +kernel
theorem qd_S_viewedAs_7 : decode qb_S_viewedAs 7 = .ok (.istore_n 3, 1) := by decide +kernel
theorem qd_S_viewedAs_8 : decode qb_S_viewedAs 8 = .ok (.iconst 0, 1) := by decide +kernel
theorem qd_S_viewedAs_9 : decode qb_S_viewedAs 9 = .ok (.istore 4, 2) := by decide +kernel
theorem qd_S_viewedAs_11 : decode qb_S_viewedAs 11 = .ok (.iload 4, 2) := by decide +kernel
theorem qd_S_viewedAs_13 : decode qb_S_viewedAs 13 = .ok (.bipush 12, 2) := by decide +kernel
theorem qd_S_viewedAs_15 : decode qb_S_viewedAs 15 = .ok (.if_icmp .ge 100, 3) := by decide +kernel
theorem qd_S_viewedAs_18 : decode qb_S_viewedAs 18 = .ok (.aload_n 0, 1) := by decide +kernel
theorem qd_S_viewedAs_19 : decode qb_S_viewedAs 19 = .ok (.getfield 15, 3) := by decide +kernel
theorem qd_S_viewedAs_22 : decode qb_S_viewedAs 22 = .ok (.iload_n 3, 1) := by decide +kernel
theorem qd_S_viewedAs_23 : decode qb_S_viewedAs 23 = .ok (.invokevirtual 39, 3) := by decide +kernel
theorem qd_S_viewedAs_26 : decode qb_S_viewedAs 26 = .ok (.istore 5, 2) := by decide +kernel
theorem qd_S_viewedAs_28 : decode qb_S_viewedAs 28 = .ok (.aload_n 0, 1) := by decide +kernel
theorem qd_S_viewedAs_29 : decode qb_S_viewedAs 29 = .ok (.getfield 15, 3) := by decide +kernel
theorem qd_S_viewedAs_32 : decode qb_S_viewedAs 32 = .ok (.iload_n 3, 1) := by decide +kernel
theorem qd_S_viewedAs_33 : decode qb_S_viewedAs 33 = .ok (.invokevirtual 36, 3) := by decide +kernel
theorem qd_S_viewedAs_36 : decode qb_S_viewedAs 36 = .ok (.ifCond .eq 9, 3) := by decide +kernel
theorem qd_S_viewedAs_39 : decode qb_S_viewedAs 39 = .ok (.iload 5, 2) := by decide +kernel
theorem qd_S_viewedAs_41 : decode qb_S_viewedAs 41 = .ok (.iload_n 2, 1) := by decide +kernel
theorem qd_S_viewedAs_42 : decode qb_S_viewedAs 42 = .ok (.if_icmp .ne 5, 3) := by decide +kernel
theorem qd_S_viewedAs_45 : decode qb_S_viewedAs 45 = .ok (.iload_n 3, 1) := by decide +kernel
theorem qd_S_viewedAs_46 : decode qb_S_viewedAs 46 = .ok (.ireturn, 1) := by decide +kernel
theorem qd_S_viewedAs_47 : decode qb_S_viewedAs 47 = .ok (.aload_n 0, 1) := by decide +kernel
theorem qd_S_viewedAs_48 : decode qb_S_viewedAs 48 = .ok (.getfield 9, 3) := by decide +kernel
theorem qd_S_viewedAs_51 : decode qb_S_viewedAs 51 = .ok (.iload 5, 2) := by decide +kernel
theorem qd_S_viewedAs_53 : decode qb_S_viewedAs 53 = .ok (.iload_n 2, 1) := by decide +kernel
theorem qd_S_viewedAs_54 : decode qb_S_viewedAs 54 = .ok (.invokevirtual 98, 3) := by decide +kernel
theorem qd_S_viewedAs_57 : decode qb_S_viewedAs 57 = .ok (.istore 6, 2) := by decide +kernel
theorem qd_S_viewedAs_59 : decode qb_S_viewedAs 59 = .ok (.aload_n 0, 1) := by decide +kernel
theorem qd_S_viewedAs_60 : decode qb_S_viewedAs 60 = .ok (.getfield 15, 3) := by decide +kernel
theorem qd_S_viewedAs_63 : decode qb_S_viewedAs 63 = .ok (.iload_n 3, 1) := by decide +kernel
theorem qd_S_viewedAs_64 : decode qb_S_viewedAs 64 = .ok (.invokevirtual 29, 3) := by decide +kernel
theorem qd_S_viewedAs_67 : decode qb_S_viewedAs 67 = .ok (.iconst 1, 1) := by decide +kernel
theorem qd_S_viewedAs_68 : decode qb_S_viewedAs 68 = .ok (.if_icmp .ne 22, 3) := by decide +kernel
theorem qd_S_viewedAs_71 : decode qb_S_viewedAs 71 = .ok (.aload_n 0, 1) := by decide +kernel
theorem qd_S_viewedAs_72 : decode qb_S_viewedAs 72 = .ok (.aload_n 0, 1) := by decide +kernel
theorem qd_S_viewedAs_73 : decode qb_S_viewedAs 73 = .ok (.getfield 9, 3) := by decide +kernel
theorem qd_S_viewedAs_76 : decode qb_S_viewedAs 76 = .ok (.iload 5, 2) := by decide +kernel
theorem qd_S_viewedAs_78 : decode qb_S_viewedAs 78 = .ok (.iload 6, 2) := by decide +kernel
theorem qd_S_viewedAs_80 : decode qb_S_viewedAs 80 = .ok (.invokevirtual 101, 3) := by decide +kernel
theorem qd_S_viewedAs_83 : decode qb_S_viewedAs 83 = .ok (.invokevirtual 42, 3) := by decide +kernel
theorem qd_S_viewedAs_86 : decode qb_S_viewedAs 86 = .ok (.istore_n 3, 1) := by decide +kernel
theorem qd_S_viewedAs_87 : decode qb_S_viewedAs 87 = .ok (.goto 22, 3) := by decide +kernel
theorem qd_S_viewedAs_90 : decode qb_S_viewedAs 90 = .ok (.aload_n 0, 1) := by decide +kernel
theorem qd_S_viewedAs_91 : decode qb_S_viewedAs 91 = .ok (.aload_n 0, 1) := by decide +kernel
theorem qd_S_viewedAs_92 : decode qb_S_viewedAs 92 = .ok (.getfield 9, 3) := by decide +kernel
theorem qd_S_viewedAs_95 : decode qb_S_viewedAs 95 = .ok (.iload 5, 2) := by decide +kernel
theorem qd_S_viewedAs_97 : decode qb_S_viewedAs 97 = .ok (.iload 6, 2) := by decide +kernel
theorem qd_S_viewedAs_99 : decode qb_S_viewedAs 99 = .ok (.invokevirtual 104, 3) := by decide +kernel
theorem qd_S_viewedAs_102 : decode qb_S_viewedAs 102 = .ok (.iload_n 3, 1) := by decide +kernel
theorem qd_S_viewedAs_103 : decode qb_S_viewedAs 103 = .ok (.bipush 20, 2) := by decide +kernel
theorem qd_S_viewedAs_105 : decode qb_S_viewedAs 105 = .ok (.invokevirtual 78, 3) := by decide +kernel
theorem qd_S_viewedAs_108 : decode qb_S_viewedAs 108 = .ok (.istore_n 3, 1) := by decide +kernel
theorem qd_S_viewedAs_109 : decode qb_S_viewedAs 109 = .ok (.iinc 4 1, 3) := by decide +kernel
theorem qd_S_viewedAs_112 : decode qb_S_viewedAs 112 = .ok (.goto (-101), 3) := by decide +kernel
theorem qd_S_viewedAs_115 : decode qb_S_viewedAs 115 = .ok (.bipush (-3), 2) := by decide +kernel
theorem qd_S_viewedAs_117 : decode qb_S_viewedAs 117 = .ok (.ireturn, 1) := by decide +kernel
theorem qd_S_nameAlone_0 : decode qb_S_nameAlone 0 = .ok (.aload_n 0, 1) := by decide +kernel
theorem qd_S_nameAlone_1 : decode qb_S_nameAlone 1 = .ok (.getfield 9, 3) := by decide +kernel
theorem qd_S_nameAlone_4 : decode qb_S_nameAlone 4 = .ok (.iload_n 1, 1) := by decide +kernel
theorem qd_S_nameAlone_5 : decode qb_S_nameAlone 5 = .ok (.invokevirtual 52, 3) := by decide +kernel
theorem qd_S_nameAlone_8 : decode qb_S_nameAlone 8 = .ok (.ifCond .ne 6, 3) := by decide +kernel
theorem qd_S_nameAlone_11 : decode qb_S_nameAlone 11 = .ok (.bipush (-3), 2) := by decide +kernel
theorem qd_S_nameAlone_13 : decode qb_S_nameAlone 13 = .ok (.ireturn, 1) := by decide +kernel
theorem qd_S_nameAlone_14 : decode qb_S_nameAlone 14 = .ok (.aload_n 0, 1) := by decide +kernel
theorem qd_S_nameAlone_15 : decode qb_S_nameAlone 15 = .ok (.getfield 15, 3) := by decide +kernel
theorem qd_S_nameAlone_18 : decode qb_S_nameAlone 18 = .ok (.aload_n 0, 1) := by decide +kernel
theorem qd_S_nameAlone_19 : decode qb_S_nameAlone 19 = .ok (.getfield 9, 3) := by decide +kernel
theorem qd_S_nameAlone_22 : decode qb_S_nameAlone 22 = .ok (.iload_n 1, 1) := by decide +kernel
theorem qd_S_nameAlone_23 : decode qb_S_nameAlone 23 = .ok (.invokevirtual 57, 3) := by decide +kernel
theorem qd_S_nameAlone_26 : decode qb_S_nameAlone 26 = .ok (.iload_n 1, 1) := by decide +kernel
theorem qd_S_nameAlone_27 : decode qb_S_nameAlone 27 = .ok (.iconst (-1), 1) := by decide +kernel
theorem qd_S_nameAlone_28 : decode qb_S_nameAlone 28 = .ok (.iconst (-1), 1) := by decide +kernel
theorem qd_S_nameAlone_29 : decode qb_S_nameAlone 29 = .ok (.sipush 1024, 3) := by decide +kernel
theorem qd_S_nameAlone_32 : decode qb_S_nameAlone 32 = .ok (.invokevirtual 48, 3) := by decide +kernel
theorem qd_S_nameAlone_35 : decode qb_S_nameAlone 35 = .ok (.ireturn, 1) := by decide +kernel
theorem qd_S_putIn_0 : decode qb_S_putIn 0 = .ok (.aload_n 0, 1) := by decide +kernel
theorem qd_S_putIn_1 : decode qb_S_putIn 1 = .ok (.getfield 15, 3) := by decide +kernel
theorem qd_S_putIn_4 : decode qb_S_putIn 4 = .ok (.iload_n 1, 1) := by decide +kernel
theorem qd_S_putIn_5 : decode qb_S_putIn 5 = .ok (.invokevirtual 29, 3) := by decide +kernel
theorem qd_S_putIn_8 : decode qb_S_putIn 8 = .ok (.istore 4, 2) := by decide +kernel
theorem qd_S_putIn_10 : decode qb_S_putIn 10 = .ok (.iload_n 3, 1) := by decide +kernel
theorem qd_S_putIn_11 : decode qb_S_putIn 11 = .ok (.ifCond .gt 6, 3) := by decide +kernel
theorem qd_S_putIn_14 : decode qb_S_putIn 14 = .ok (.bipush (-3), 2) := by decide +kernel
theorem qd_S_putIn_16 : decode qb_S_putIn 16 = .ok (.ireturn, 1) := by decide +kernel
theorem qd_S_putIn_17 : decode qb_S_putIn 17 = .ok (.aload_n 0, 1) := by decide +kernel
theorem qd_S_putIn_18 : decode qb_S_putIn 18 = .ok (.getfield 15, 3) := by decide +kernel
theorem qd_S_putIn_21 : decode qb_S_putIn 21 = .ok (.iload_n 2, 1) := by decide +kernel
theorem qd_S_putIn_22 : decode qb_S_putIn 22 = .ok (.invokevirtual 29, 3) := by decide +kernel
theorem qd_S_putIn_25 : decode qb_S_putIn 25 = .ok (.iconst 2, 1) := by decide +kernel
theorem qd_S_putIn_26 : decode qb_S_putIn 26 = .ok (.if_icmp .ne 22, 3) := by decide +kernel
theorem qd_S_putIn_29 : decode qb_S_putIn 29 = .ok (.aload_n 0, 1) := by decide +kernel
theorem qd_S_putIn_30 : decode qb_S_putIn 30 = .ok (.getfield 15, 3) := by decide +kernel
theorem qd_S_putIn_33 : decode qb_S_putIn 33 = .ok (.iload_n 1, 1) := by decide +kernel
theorem qd_S_putIn_34 : decode qb_S_putIn 34 = .ok (.aload_n 0, 1) := by decide +kernel
theorem qd_S_putIn_35 : decode qb_S_putIn 35 = .ok (.getfield 15, 3) := by decide +kernel
theorem qd_S_putIn_38 : decode qb_S_putIn 38 = .ok (.iload_n 2, 1) := by decide +kernel
theorem qd_S_putIn_39 : decode qb_S_putIn 39 = .ok (.invokevirtual 39, 3) := by decide +kernel
theorem qd_S_putIn_42 : decode qb_S_putIn 42 = .ok (.invokevirtual 81, 3) := by decide +kernel
theorem qd_S_putIn_45 : decode qb_S_putIn 45 = .ok (.ifCond .ne 5, 3) := by decide +kernel
theorem qd_S_putIn_48 : decode qb_S_putIn 48 = .ok (.iload_n 1, 1) := by decide +kernel
theorem qd_S_putIn_49 : decode qb_S_putIn 49 = .ok (.ireturn, 1) := by decide +kernel
theorem qd_S_putIn_50 : decode qb_S_putIn 50 = .ok (.iload 4, 2) := by decide +kernel
theorem qd_S_putIn_52 : decode qb_S_putIn 52 = .ok (.iconst 3, 1) := by decide +kernel
theorem qd_S_putIn_53 : decode qb_S_putIn 53 = .ok (.if_icmp .ne 20, 3) := by decide +kernel
theorem qd_S_putIn_56 : decode qb_S_putIn 56 = .ok (.aload_n 0, 1) := by decide +kernel
theorem qd_S_putIn_57 : decode qb_S_putIn 57 = .ok (.getfield 15, 3) := by decide +kernel
theorem qd_S_putIn_60 : decode qb_S_putIn 60 = .ok (.iload_n 2, 1) := by decide +kernel
theorem qd_S_putIn_61 : decode qb_S_putIn 61 = .ok (.aload_n 0, 1) := by decide +kernel
theorem qd_S_putIn_62 : decode qb_S_putIn 62 = .ok (.getfield 15, 3) := by decide +kernel
theorem qd_S_putIn_65 : decode qb_S_putIn 65 = .ok (.iload_n 1, 1) := by decide +kernel
theorem qd_S_putIn_66 : decode qb_S_putIn 66 = .ok (.invokevirtual 33, 3) := by decide +kernel
theorem qd_S_putIn_69 : decode qb_S_putIn 69 = .ok (.invokevirtual 85, 3) := by decide +kernel
theorem qd_S_putIn_72 : decode qb_S_putIn 72 = .ok (.ireturn, 1) := by decide +kernel
theorem qd_S_putIn_73 : decode qb_S_putIn 73 = .ok (.aload_n 0, 1) := by decide +kernel
theorem qd_S_putIn_74 : decode qb_S_putIn 74 = .ok (.getfield 15, 3) := by decide +kernel
theorem qd_S_putIn_77 : decode qb_S_putIn 77 = .ok (.iload_n 1, 1) := by decide +kernel
theorem qd_S_putIn_78 : decode qb_S_putIn 78 = .ok (.invokevirtual 75, 3) := by decide +kernel
theorem qd_S_putIn_81 : decode qb_S_putIn 81 = .ok (.iconst (-1), 1) := by decide +kernel
theorem qd_S_putIn_82 : decode qb_S_putIn 82 = .ok (.if_icmp .eq 7, 3) := by decide +kernel
theorem qd_S_putIn_85 : decode qb_S_putIn 85 = .ok (.iconst 1, 1) := by decide +kernel
theorem qd_S_putIn_86 : decode qb_S_putIn 86 = .ok (.goto 4, 3) := by decide +kernel
theorem qd_S_putIn_89 : decode qb_S_putIn 89 = .ok (.iconst 0, 1) := by decide +kernel
theorem qd_S_putIn_90 : decode qb_S_putIn 90 = .ok (.istore 5, 2) := by decide +kernel
theorem qd_S_putIn_92 : decode qb_S_putIn 92 = .ok (.aload_n 0, 1) := by decide +kernel
theorem qd_S_putIn_93 : decode qb_S_putIn 93 = .ok (.aload_n 0, 1) := by decide +kernel
theorem qd_S_putIn_94 : decode qb_S_putIn 94 = .ok (.getfield 15, 3) := by decide +kernel
theorem qd_S_putIn_97 : decode qb_S_putIn 97 = .ok (.iload_n 1, 1) := by decide +kernel
theorem qd_S_putIn_98 : decode qb_S_putIn 98 = .ok (.invokevirtual 33, 3) := by decide +kernel
theorem qd_S_putIn_101 : decode qb_S_putIn 101 = .ok (.iload_n 2, 1) := by decide +kernel
theorem qd_S_putIn_102 : decode qb_S_putIn 102 = .ok (.iload_n 3, 1) := by decide +kernel
theorem qd_S_putIn_103 : decode qb_S_putIn 103 = .ok (.iconst 1, 1) := by decide +kernel
theorem qd_S_putIn_104 : decode qb_S_putIn 104 = .ok (.isub, 1) := by decide +kernel
theorem qd_S_putIn_105 : decode qb_S_putIn 105 = .ok (.invokevirtual 78, 3) := by decide +kernel
theorem qd_S_putIn_108 : decode qb_S_putIn 108 = .ok (.istore 6, 2) := by decide +kernel
theorem qd_S_putIn_110 : decode qb_S_putIn 110 = .ok (.iload 5, 2) := by decide +kernel
theorem qd_S_putIn_112 : decode qb_S_putIn 112 = .ok (.ifCond .eq 22, 3) := by decide +kernel
theorem qd_S_putIn_115 : decode qb_S_putIn 115 = .ok (.aload_n 0, 1) := by decide +kernel
theorem qd_S_putIn_116 : decode qb_S_putIn 116 = .ok (.aload_n 0, 1) := by decide +kernel
theorem qd_S_putIn_117 : decode qb_S_putIn 117 = .ok (.getfield 15, 3) := by decide +kernel
theorem qd_S_putIn_120 : decode qb_S_putIn 120 = .ok (.iload_n 1, 1) := by decide +kernel
theorem qd_S_putIn_121 : decode qb_S_putIn 121 = .ok (.invokevirtual 75, 3) := by decide +kernel
theorem qd_S_putIn_124 : decode qb_S_putIn 124 = .ok (.iload_n 2, 1) := by decide +kernel
theorem qd_S_putIn_125 : decode qb_S_putIn 125 = .ok (.iload_n 3, 1) := by decide +kernel
theorem qd_S_putIn_126 : decode qb_S_putIn 126 = .ok (.iconst 1, 1) := by decide +kernel
theorem qd_S_putIn_127 : decode qb_S_putIn 127 = .ok (.isub, 1) := by decide +kernel
theorem qd_S_putIn_128 : decode qb_S_putIn 128 = .ok (.invokevirtual 78, 3) := by decide +kernel
theorem qd_S_putIn_131 : decode qb_S_putIn 131 = .ok (.goto 4, 3) := by decide +kernel
theorem qd_S_putIn_134 : decode qb_S_putIn 134 = .ok (.iconst (-1), 1) := by decide +kernel
theorem qd_S_putIn_135 : decode qb_S_putIn 135 = .ok (.istore 7, 2) := by decide +kernel
theorem qd_S_putIn_137 : decode qb_S_putIn 137 = .ok (.iload 6, 2) := by decide +kernel
theorem qd_S_putIn_139 : decode qb_S_putIn 139 = .ok (.ifCond .lt 13, 3) := by decide +kernel
theorem qd_S_putIn_142 : decode qb_S_putIn 142 = .ok (.iload 5, 2) := by decide +kernel
theorem qd_S_putIn_144 : decode qb_S_putIn 144 = .ok (.ifCond .eq 11, 3) := by decide +kernel
theorem qd_S_putIn_147 : decode qb_S_putIn 147 = .ok (.iload 7, 2) := by decide +kernel
theorem qd_S_putIn_149 : decode qb_S_putIn 149 = .ok (.ifCond .ge 6, 3) := by decide +kernel
theorem qd_S_putIn_152 : decode qb_S_putIn 152 = .ok (.bipush (-3), 2) := by decide +kernel
theorem qd_S_putIn_154 : decode qb_S_putIn 154 = .ok (.ireturn, 1) := by decide +kernel
theorem qd_S_putIn_155 : decode qb_S_putIn 155 = .ok (.aload_n 0, 1) := by decide +kernel
theorem qd_S_putIn_156 : decode qb_S_putIn 156 = .ok (.getfield 15, 3) := by decide +kernel
theorem qd_S_putIn_159 : decode qb_S_putIn 159 = .ok (.iload 4, 2) := by decide +kernel
theorem qd_S_putIn_161 : decode qb_S_putIn 161 = .ok (.aload_n 0, 1) := by decide +kernel
theorem qd_S_putIn_162 : decode qb_S_putIn 162 = .ok (.getfield 15, 3) := by decide +kernel
theorem qd_S_putIn_165 : decode qb_S_putIn 165 = .ok (.iload_n 1, 1) := by decide +kernel
theorem qd_S_putIn_166 : decode qb_S_putIn 166 = .ok (.invokevirtual 39, 3) := by decide +kernel
theorem qd_S_putIn_169 : decode qb_S_putIn 169 = .ok (.iload 6, 2) := by decide +kernel
theorem qd_S_putIn_171 : decode qb_S_putIn 171 = .ok (.iload 7, 2) := by decide +kernel
theorem qd_S_putIn_173 : decode qb_S_putIn 173 = .ok (.sipush 1024, 3) := by decide +kernel
theorem qd_S_putIn_176 : decode qb_S_putIn 176 = .ok (.invokevirtual 48, 3) := by decide +kernel
theorem qd_S_putIn_179 : decode qb_S_putIn 179 = .ok (.ireturn, 1) := by decide +kernel
theorem qd_S_boundCountOf_0 : decode qb_S_boundCountOf 0 = .ok (.iconst 1, 1) := by decide +kernel
theorem qd_S_boundCountOf_1 : decode qb_S_boundCountOf 1 = .ok (.aload_n 0, 1) := by decide +kernel
theorem qd_S_boundCountOf_2 : decode qb_S_boundCountOf 2 = .ok (.getfield 9, 3) := by decide +kernel
theorem qd_S_boundCountOf_5 : decode qb_S_boundCountOf 5 = .ok (.aload_n 0, 1) := by decide +kernel
theorem qd_S_boundCountOf_6 : decode qb_S_boundCountOf 6 = .ok (.getfield 15, 3) := by decide +kernel
theorem qd_S_boundCountOf_9 : decode qb_S_boundCountOf 9 = .ok (.iload_n 1, 1) := by decide +kernel
theorem qd_S_boundCountOf_10 : decode qb_S_boundCountOf 10 = .ok (.invokevirtual 39, 3) := by decide +kernel
theorem qd_S_boundCountOf_13 : decode qb_S_boundCountOf 13 = .ok (.aload_n 0, 1) := by decide +kernel
theorem qd_S_boundCountOf_14 : decode qb_S_boundCountOf 14 = .ok (.getfield 15, 3) := by decide +kernel
theorem qd_S_boundCountOf_17 : decode qb_S_boundCountOf 17 = .ok (.iload_n 1, 1) := by decide +kernel
theorem qd_S_boundCountOf_18 : decode qb_S_boundCountOf 18 = .ok (.invokevirtual 33, 3) := by decide +kernel
theorem qd_S_boundCountOf_21 : decode qb_S_boundCountOf 21 = .ok (.invokevirtual 60, 3) := by decide +kernel
theorem qd_S_boundCountOf_24 : decode qb_S_boundCountOf 24 = .ok (.invokestatic 63, 3) := by decide +kernel
theorem qd_S_boundCountOf_27 : decode qb_S_boundCountOf 27 = .ok (.istore_n 2, 1) := by decide +kernel
theorem qd_S_boundCountOf_28 : decode qb_S_boundCountOf 28 = .ok (.aload_n 0, 1) := by decide +kernel
theorem qd_S_boundCountOf_29 : decode qb_S_boundCountOf 29 = .ok (.getfield 15, 3) := by decide +kernel
theorem qd_S_boundCountOf_32 : decode qb_S_boundCountOf 32 = .ok (.iload_n 1, 1) := by decide +kernel
theorem qd_S_boundCountOf_33 : decode qb_S_boundCountOf 33 = .ok (.invokevirtual 68, 3) := by decide +kernel
theorem qd_S_boundCountOf_36 : decode qb_S_boundCountOf 36 = .ok (.iconst (-1), 1) := by decide +kernel
theorem qd_S_boundCountOf_37 : decode qb_S_boundCountOf 37 = .ok (.if_icmp .ne 7, 3) := by decide +kernel
theorem qd_S_boundCountOf_40 : decode qb_S_boundCountOf 40 = .ok (.iload_n 2, 1) := by decide +kernel
theorem qd_S_boundCountOf_41 : decode qb_S_boundCountOf 41 = .ok (.goto 6, 3) := by decide +kernel
theorem qd_S_boundCountOf_44 : decode qb_S_boundCountOf 44 = .ok (.iload_n 2, 1) := by decide +kernel
theorem qd_S_boundCountOf_45 : decode qb_S_boundCountOf 45 = .ok (.iconst 1, 1) := by decide +kernel
theorem qd_S_boundCountOf_46 : decode qb_S_boundCountOf 46 = .ok (.iadd, 1) := by decide +kernel
theorem qd_S_boundCountOf_47 : decode qb_S_boundCountOf 47 = .ok (.ireturn, 1) := by decide +kernel
theorem qd_S_boundOf_0 : decode qb_S_boundOf 0 = .ok (.aload_n 0, 1) := by decide +kernel
theorem qd_S_boundOf_1 : decode qb_S_boundOf 1 = .ok (.getfield 15, 3) := by decide +kernel
theorem qd_S_boundOf_4 : decode qb_S_boundOf 4 = .ok (.iload_n 1, 1) := by decide +kernel
theorem qd_S_boundOf_5 : decode qb_S_boundOf 5 = .ok (.invokevirtual 68, 3) := by decide +kernel
theorem qd_S_boundOf_8 : decode qb_S_boundOf 8 = .ok (.iconst (-1), 1) := by decide +kernel
theorem qd_S_boundOf_9 : decode qb_S_boundOf 9 = .ok (.if_icmp .ne 7, 3) := by decide +kernel
theorem qd_S_boundOf_12 : decode qb_S_boundOf 12 = .ok (.iconst 0, 1) := by decide +kernel
theorem qd_S_boundOf_13 : decode qb_S_boundOf 13 = .ok (.goto 4, 3) := by decide +kernel
theorem qd_S_boundOf_16 : decode qb_S_boundOf 16 = .ok (.iconst 1, 1) := by decide +kernel
theorem qd_S_boundOf_17 : decode qb_S_boundOf 17 = .ok (.istore_n 3, 1) := by decide +kernel
theorem qd_S_boundOf_18 : decode qb_S_boundOf 18 = .ok (.iload_n 2, 1) := by decide +kernel
theorem qd_S_boundOf_19 : decode qb_S_boundOf 19 = .ok (.iload_n 3, 1) := by decide +kernel
theorem qd_S_boundOf_20 : decode qb_S_boundOf 20 = .ok (.if_icmp .ge 12, 3) := by decide +kernel
theorem qd_S_boundOf_23 : decode qb_S_boundOf 23 = .ok (.aload_n 0, 1) := by decide +kernel
theorem qd_S_boundOf_24 : decode qb_S_boundOf 24 = .ok (.getfield 15, 3) := by decide +kernel
theorem qd_S_boundOf_27 : decode qb_S_boundOf 27 = .ok (.iload_n 1, 1) := by decide +kernel
theorem qd_S_boundOf_28 : decode qb_S_boundOf 28 = .ok (.invokevirtual 68, 3) := by decide +kernel
theorem qd_S_boundOf_31 : decode qb_S_boundOf 31 = .ok (.ireturn, 1) := by decide +kernel
theorem qd_S_boundOf_32 : decode qb_S_boundOf 32 = .ok (.aload_n 0, 1) := by decide +kernel
theorem qd_S_boundOf_33 : decode qb_S_boundOf 33 = .ok (.getfield 9, 3) := by decide +kernel
theorem qd_S_boundOf_36 : decode qb_S_boundOf 36 = .ok (.aload_n 0, 1) := by decide +kernel
theorem qd_S_boundOf_37 : decode qb_S_boundOf 37 = .ok (.getfield 15, 3) := by decide +kernel
theorem qd_S_boundOf_40 : decode qb_S_boundOf 40 = .ok (.iload_n 1, 1) := by decide +kernel
theorem qd_S_boundOf_41 : decode qb_S_boundOf 41 = .ok (.invokevirtual 39, 3) := by decide +kernel
theorem qd_S_boundOf_44 : decode qb_S_boundOf 44 = .ok (.aload_n 0, 1) := by decide +kernel
theorem qd_S_boundOf_45 : decode qb_S_boundOf 45 = .ok (.getfield 15, 3) := by decide +kernel
theorem qd_S_boundOf_48 : decode qb_S_boundOf 48 = .ok (.iload_n 1, 1) := by decide +kernel
theorem qd_S_boundOf_49 : decode qb_S_boundOf 49 = .ok (.invokevirtual 33, 3) := by decide +kernel
theorem qd_S_boundOf_52 : decode qb_S_boundOf 52 = .ok (.iload_n 2, 1) := by decide +kernel
theorem qd_S_boundOf_53 : decode qb_S_boundOf 53 = .ok (.iload_n 3, 1) := by decide +kernel
theorem qd_S_boundOf_54 : decode qb_S_boundOf 54 = .ok (.isub, 1) := by decide +kernel
theorem qd_S_boundOf_55 : decode qb_S_boundOf 55 = .ok (.invokevirtual 71, 3) := by decide +kernel
theorem qd_S_boundOf_58 : decode qb_S_boundOf 58 = .ok (.istore 4, 2) := by decide +kernel
theorem qd_S_boundOf_60 : decode qb_S_boundOf 60 = .ok (.aload_n 0, 1) := by decide +kernel
theorem qd_S_boundOf_61 : decode qb_S_boundOf 61 = .ok (.getfield 15, 3) := by decide +kernel
theorem qd_S_boundOf_64 : decode qb_S_boundOf 64 = .ok (.iload_n 1, 1) := by decide +kernel
theorem qd_S_boundOf_65 : decode qb_S_boundOf 65 = .ok (.invokevirtual 29, 3) := by decide +kernel
theorem qd_S_boundOf_68 : decode qb_S_boundOf 68 = .ok (.bipush 8, 2) := by decide +kernel
theorem qd_S_boundOf_70 : decode qb_S_boundOf 70 = .ok (.if_icmp .ne 20, 3) := by decide +kernel
theorem qd_S_boundOf_73 : decode qb_S_boundOf 73 = .ok (.aload_n 0, 1) := by decide +kernel
theorem qd_S_boundOf_74 : decode qb_S_boundOf 74 = .ok (.iload 4, 2) := by decide +kernel
theorem qd_S_boundOf_76 : decode qb_S_boundOf 76 = .ok (.aload_n 0, 1) := by decide +kernel
theorem qd_S_boundOf_77 : decode qb_S_boundOf 77 = .ok (.getfield 15, 3) := by decide +kernel
theorem qd_S_boundOf_80 : decode qb_S_boundOf 80 = .ok (.iload_n 1, 1) := by decide +kernel
theorem qd_S_boundOf_81 : decode qb_S_boundOf 81 = .ok (.invokevirtual 75, 3) := by decide +kernel
theorem qd_S_boundOf_84 : decode qb_S_boundOf 84 = .ok (.bipush 20, 2) := by decide +kernel
theorem qd_S_boundOf_86 : decode qb_S_boundOf 86 = .ok (.invokevirtual 78, 3) := by decide +kernel
theorem qd_S_boundOf_89 : decode qb_S_boundOf 89 = .ok (.ireturn, 1) := by decide +kernel
theorem qd_S_boundOf_90 : decode qb_S_boundOf 90 = .ok (.iload 4, 2) := by decide +kernel
theorem qd_S_boundOf_92 : decode qb_S_boundOf 92 = .ok (.ireturn, 1) := by decide +kernel
theorem qd_S_caught_0 : decode qb_S_caught 0 = .ok (.aload_n 0, 1) := by decide +kernel
theorem qd_S_caught_1 : decode qb_S_caught 1 = .ok (.getfield 15, 3) := by decide +kernel
theorem qd_S_caught_4 : decode qb_S_caught 4 = .ok (.iload_n 1, 1) := by decide +kernel
theorem qd_S_caught_5 : decode qb_S_caught 5 = .ok (.invokevirtual 88, 3) := by decide +kernel
theorem qd_S_caught_8 : decode qb_S_caught 8 = .ok (.ifCond .ne 5, 3) := by decide +kernel
theorem qd_S_caught_11 : decode qb_S_caught 11 = .ok (.iload_n 1, 1) := by decide +kernel
theorem qd_S_caught_12 : decode qb_S_caught 12 = .ok (.ireturn, 1) := by decide +kernel
theorem qd_S_caught_13 : decode qb_S_caught 13 = .ok (.aload_n 0, 1) := by decide +kernel
theorem qd_S_caught_14 : decode qb_S_caught 14 = .ok (.getfield 15, 3) := by decide +kernel
theorem qd_S_caught_17 : decode qb_S_caught 17 = .ok (.iload_n 1, 1) := by decide +kernel
theorem qd_S_caught_18 : decode qb_S_caught 18 = .ok (.invokevirtual 39, 3) := by decide +kernel
theorem qd_S_caught_21 : decode qb_S_caught 21 = .ok (.istore_n 2, 1) := by decide +kernel
theorem qd_S_caught_22 : decode qb_S_caught 22 = .ok (.aload_n 0, 1) := by decide +kernel
theorem qd_S_caught_23 : decode qb_S_caught 23 = .ok (.getfield 15, 3) := by decide +kernel
theorem qd_S_caught_26 : decode qb_S_caught 26 = .ok (.iload_n 1, 1) := by decide +kernel
theorem qd_S_caught_27 : decode qb_S_caught 27 = .ok (.invokevirtual 75, 3) := by decide +kernel
theorem qd_S_caught_30 : decode qb_S_caught 30 = .ok (.iconst (-1), 1) := by decide +kernel
theorem qd_S_caught_31 : decode qb_S_caught 31 = .ok (.if_icmp .eq 7, 3) := by decide +kernel
theorem qd_S_caught_34 : decode qb_S_caught 34 = .ok (.iconst 1, 1) := by decide +kernel
theorem qd_S_caught_35 : decode qb_S_caught 35 = .ok (.goto 4, 3) := by decide +kernel
theorem qd_S_caught_38 : decode qb_S_caught 38 = .ok (.iconst 0, 1) := by decide +kernel
theorem qd_S_caught_39 : decode qb_S_caught 39 = .ok (.istore_n 3, 1) := by decide +kernel
theorem qd_S_caught_40 : decode qb_S_caught 40 = .ok (.aload_n 0, 1) := by decide +kernel
theorem qd_S_caught_41 : decode qb_S_caught 41 = .ok (.getfield 15, 3) := by decide +kernel
theorem qd_S_caught_44 : decode qb_S_caught 44 = .ok (.iload_n 2, 1) := by decide +kernel
theorem qd_S_caught_45 : decode qb_S_caught 45 = .ok (.iconst 0, 1) := by decide +kernel
theorem qd_S_caught_46 : decode qb_S_caught 46 = .ok (.aload_n 0, 1) := by decide +kernel
theorem qd_S_caught_47 : decode qb_S_caught 47 = .ok (.getfield 15, 3) := by decide +kernel
theorem qd_S_caught_50 : decode qb_S_caught 50 = .ok (.iload_n 1, 1) := by decide +kernel
theorem qd_S_caught_51 : decode qb_S_caught 51 = .ok (.invokevirtual 33, 3) := by decide +kernel
theorem qd_S_caught_54 : decode qb_S_caught 54 = .ok (.invokevirtual 91, 3) := by decide +kernel
theorem qd_S_caught_57 : decode qb_S_caught 57 = .ok (.istore 4, 2) := by decide +kernel
theorem qd_S_caught_59 : decode qb_S_caught 59 = .ok (.iload_n 3, 1) := by decide +kernel
theorem qd_S_caught_60 : decode qb_S_caught 60 = .ok (.ifCond .eq 23, 3) := by decide +kernel
theorem qd_S_caught_63 : decode qb_S_caught 63 = .ok (.aload_n 0, 1) := by decide +kernel
theorem qd_S_caught_64 : decode qb_S_caught 64 = .ok (.getfield 15, 3) := by decide +kernel
theorem qd_S_caught_67 : decode qb_S_caught 67 = .ok (.iload_n 2, 1) := by decide +kernel
theorem qd_S_caught_68 : decode qb_S_caught 68 = .ok (.iconst 1, 1) := by decide +kernel
theorem qd_S_caught_69 : decode qb_S_caught 69 = .ok (.aload_n 0, 1) := by decide +kernel
theorem qd_S_caught_70 : decode qb_S_caught 70 = .ok (.getfield 15, 3) := by decide +kernel
theorem qd_S_caught_73 : decode qb_S_caught 73 = .ok (.iload_n 1, 1) := by decide +kernel
theorem qd_S_caught_74 : decode qb_S_caught 74 = .ok (.invokevirtual 75, 3) := by decide +kernel
theorem qd_S_caught_77 : decode qb_S_caught 77 = .ok (.invokevirtual 91, 3) := by decide +kernel
theorem qd_S_caught_80 : decode qb_S_caught 80 = .ok (.goto 4, 3) := by decide +kernel
theorem qd_S_caught_83 : decode qb_S_caught 83 = .ok (.iconst (-1), 1) := by decide +kernel
theorem qd_S_caught_84 : decode qb_S_caught 84 = .ok (.istore 5, 2) := by decide +kernel
theorem qd_S_caught_86 : decode qb_S_caught 86 = .ok (.iload 4, 2) := by decide +kernel
theorem qd_S_caught_88 : decode qb_S_caught 88 = .ok (.ifCond .lt 12, 3) := by decide +kernel
theorem qd_S_caught_91 : decode qb_S_caught 91 = .ok (.iload_n 3, 1) := by decide +kernel
theorem qd_S_caught_92 : decode qb_S_caught 92 = .ok (.ifCond .eq 11, 3) := by decide +kernel
theorem qd_S_caught_95 : decode qb_S_caught 95 = .ok (.iload 5, 2) := by decide +kernel
theorem qd_S_caught_97 : decode qb_S_caught 97 = .ok (.ifCond .ge 6, 3) := by decide +kernel
theorem qd_S_caught_100 : decode qb_S_caught 100 = .ok (.bipush (-3), 2) := by decide +kernel
theorem qd_S_caught_102 : decode qb_S_caught 102 = .ok (.ireturn, 1) := by decide +kernel
theorem qd_S_caught_103 : decode qb_S_caught 103 = .ok (.aload_n 0, 1) := by decide +kernel
theorem qd_S_caught_104 : decode qb_S_caught 104 = .ok (.getfield 15, 3) := by decide +kernel
theorem qd_S_caught_107 : decode qb_S_caught 107 = .ok (.iconst 2, 1) := by decide +kernel
theorem qd_S_caught_108 : decode qb_S_caught 108 = .ok (.iload_n 2, 1) := by decide +kernel
theorem qd_S_caught_109 : decode qb_S_caught 109 = .ok (.iload 4, 2) := by decide +kernel
theorem qd_S_caught_111 : decode qb_S_caught 111 = .ok (.iload 5, 2) := by decide +kernel
theorem qd_S_caught_113 : decode qb_S_caught 113 = .ok (.sipush 1024, 3) := by decide +kernel
theorem qd_S_caught_116 : decode qb_S_caught 116 = .ok (.invokevirtual 48, 3) := by decide +kernel
theorem qd_S_caught_119 : decode qb_S_caught 119 = .ok (.istore 6, 2) := by decide +kernel
theorem qd_S_caught_121 : decode qb_S_caught 121 = .ok (.aload_n 0, 1) := by decide +kernel
theorem qd_S_caught_122 : decode qb_S_caught 122 = .ok (.getfield 15, 3) := by decide +kernel
theorem qd_S_caught_125 : decode qb_S_caught 125 = .ok (.iload 4, 2) := by decide +kernel
theorem qd_S_caught_127 : decode qb_S_caught 127 = .ok (.iload 6, 2) := by decide +kernel
theorem qd_S_caught_129 : decode qb_S_caught 129 = .ok (.invokevirtual 94, 3) := by decide +kernel
theorem qd_S_caught_132 : decode qb_S_caught 132 = .ok (.aload_n 0, 1) := by decide +kernel
theorem qd_S_caught_133 : decode qb_S_caught 133 = .ok (.getfield 15, 3) := by decide +kernel
theorem qd_S_caught_136 : decode qb_S_caught 136 = .ok (.iload 5, 2) := by decide +kernel
theorem qd_S_caught_138 : decode qb_S_caught 138 = .ok (.iload 6, 2) := by decide +kernel
theorem qd_S_caught_140 : decode qb_S_caught 140 = .ok (.invokevirtual 94, 3) := by decide +kernel
theorem qd_S_caught_143 : decode qb_S_caught 143 = .ok (.iload 6, 2) := by decide +kernel
theorem qd_S_caught_145 : decode qb_S_caught 145 = .ok (.ireturn, 1) := by decide +kernel
theorem qd_S_erasure_0 : decode qb_S_erasure 0 = .ok (.iload_n 1, 1) := by decide +kernel
theorem qd_S_erasure_1 : decode qb_S_erasure 1 = .ok (.istore_n 2, 1) := by decide +kernel
theorem qd_S_erasure_2 : decode qb_S_erasure 2 = .ok (.iconst 0, 1) := by decide +kernel
theorem qd_S_erasure_3 : decode qb_S_erasure 3 = .ok (.istore_n 3, 1) := by decide +kernel
theorem qd_S_erasure_4 : decode qb_S_erasure 4 = .ok (.iconst 0, 1) := by decide +kernel
theorem qd_S_erasure_5 : decode qb_S_erasure 5 = .ok (.istore 4, 2) := by decide +kernel
theorem qd_S_erasure_7 : decode qb_S_erasure 7 = .ok (.iload 4, 2) := by decide +kernel
theorem qd_S_erasure_9 : decode qb_S_erasure 9 = .ok (.sipush 1024, 3) := by decide +kernel
theorem qd_S_erasure_12 : decode qb_S_erasure 12 = .ok (.if_icmp .ge 94, 3) := by decide +kernel
theorem qd_S_erasure_15 : decode qb_S_erasure 15 = .ok (.aload_n 0, 1) := by decide +kernel
theorem qd_S_erasure_16 : decode qb_S_erasure 16 = .ok (.getfield 15, 3) := by decide +kernel
theorem qd_S_erasure_19 : decode qb_S_erasure 19 = .ok (.iload_n 2, 1) := by decide +kernel
theorem qd_S_erasure_20 : decode qb_S_erasure 20 = .ok (.invokevirtual 21, 3) := by decide +kernel
theorem qd_S_erasure_23 : decode qb_S_erasure 23 = .ok (.ifCond .eq 13, 3) := by decide +kernel
theorem qd_S_erasure_26 : decode qb_S_erasure 26 = .ok (.aload_n 0, 1) := by decide +kernel
theorem qd_S_erasure_27 : decode qb_S_erasure 27 = .ok (.iload_n 2, 1) := by decide +kernel
theorem qd_S_erasure_28 : decode qb_S_erasure 28 = .ok (.iconst 0, 1) := by decide +kernel
theorem qd_S_erasure_29 : decode qb_S_erasure 29 = .ok (.invokevirtual 25, 3) := by decide +kernel
theorem qd_S_erasure_32 : decode qb_S_erasure 32 = .ok (.istore_n 2, 1) := by decide +kernel
theorem qd_S_erasure_33 : decode qb_S_erasure 33 = .ok (.goto 67, 3) := by decide +kernel
theorem qd_S_erasure_36 : decode qb_S_erasure 36 = .ok (.aload_n 0, 1) := by decide +kernel
theorem qd_S_erasure_37 : decode qb_S_erasure 37 = .ok (.getfield 15, 3) := by decide +kernel
theorem qd_S_erasure_40 : decode qb_S_erasure 40 = .ok (.iload_n 2, 1) := by decide +kernel
theorem qd_S_erasure_41 : decode qb_S_erasure 41 = .ok (.invokevirtual 29, 3) := by decide +kernel
theorem qd_S_erasure_44 : decode qb_S_erasure 44 = .ok (.iconst 4, 1) := by decide +kernel
theorem qd_S_erasure_45 : decode qb_S_erasure 45 = .ok (.if_icmp .ne 18, 3) := by decide +kernel
theorem qd_S_erasure_48 : decode qb_S_erasure 48 = .ok (.aload_n 0, 1) := by decide +kernel
theorem qd_S_erasure_49 : decode qb_S_erasure 49 = .ok (.getfield 15, 3) := by decide +kernel
theorem qd_S_erasure_52 : decode qb_S_erasure 52 = .ok (.iload_n 2, 1) := by decide +kernel
theorem qd_S_erasure_53 : decode qb_S_erasure 53 = .ok (.invokevirtual 33, 3) := by decide +kernel
theorem qd_S_erasure_56 : decode qb_S_erasure 56 = .ok (.istore_n 2, 1) := by decide +kernel
theorem qd_S_erasure_57 : decode qb_S_erasure 57 = .ok (.iinc 3 1, 3) := by decide +kernel
theorem qd_S_erasure_60 : decode qb_S_erasure 60 = .ok (.goto 40, 3) := by decide +kernel
theorem qd_S_erasure_63 : decode qb_S_erasure 63 = .ok (.aload_n 0, 1) := by decide +kernel
theorem qd_S_erasure_64 : decode qb_S_erasure 64 = .ok (.getfield 15, 3) := by decide +kernel
theorem qd_S_erasure_67 : decode qb_S_erasure 67 = .ok (.iload_n 2, 1) := by decide +kernel
theorem qd_S_erasure_68 : decode qb_S_erasure 68 = .ok (.invokevirtual 36, 3) := by decide +kernel
theorem qd_S_erasure_71 : decode qb_S_erasure 71 = .ok (.ifCond .eq 18, 3) := by decide +kernel
theorem qd_S_erasure_74 : decode qb_S_erasure 74 = .ok (.aload_n 0, 1) := by decide +kernel
theorem qd_S_erasure_75 : decode qb_S_erasure 75 = .ok (.aload_n 0, 1) := by decide +kernel
theorem qd_S_erasure_76 : decode qb_S_erasure 76 = .ok (.getfield 15, 3) := by decide +kernel
theorem qd_S_erasure_79 : decode qb_S_erasure 79 = .ok (.iload_n 2, 1) := by decide +kernel
theorem qd_S_erasure_80 : decode qb_S_erasure 80 = .ok (.invokevirtual 39, 3) := by decide +kernel
theorem qd_S_erasure_83 : decode qb_S_erasure 83 = .ok (.invokevirtual 42, 3) := by decide +kernel
theorem qd_S_erasure_86 : decode qb_S_erasure 86 = .ok (.goto 4, 3) := by decide +kernel
theorem qd_S_erasure_89 : decode qb_S_erasure 89 = .ok (.iload_n 2, 1) := by decide +kernel
theorem qd_S_erasure_90 : decode qb_S_erasure 90 = .ok (.istore 5, 2) := by decide +kernel
theorem qd_S_erasure_92 : decode qb_S_erasure 92 = .ok (.aload_n 0, 1) := by decide +kernel
theorem qd_S_erasure_93 : decode qb_S_erasure 93 = .ok (.iload 5, 2) := by decide +kernel
theorem qd_S_erasure_95 : decode qb_S_erasure 95 = .ok (.iload_n 3, 1) := by decide +kernel
theorem qd_S_erasure_96 : decode qb_S_erasure 96 = .ok (.invokevirtual 45, 3) := by decide +kernel
theorem qd_S_erasure_99 : decode qb_S_erasure 99 = .ok (.ireturn, 1) := by decide +kernel
theorem qd_S_erasure_100 : decode qb_S_erasure 100 = .ok (.iinc 4 1, 3) := by decide +kernel
theorem qd_S_erasure_103 : decode qb_S_erasure 103 = .ok (.goto (-96), 3) := by decide +kernel
theorem qd_S_erasure_106 : decode qb_S_erasure 106 = .ok (.bipush (-3), 2) := by decide +kernel
theorem qd_S_erasure_108 : decode qb_S_erasure 108 = .ok (.ireturn, 1) := by decide +kernel
theorem qd_S_inRows_0 : decode qb_S_inRows 0 = .ok (.iload_n 1, 1) := by decide +kernel
theorem qd_S_inRows_1 : decode qb_S_inRows 1 = .ok (.istore_n 3, 1) := by decide +kernel
theorem qd_S_inRows_2 : decode qb_S_inRows 2 = .ok (.iconst 0, 1) := by decide +kernel
theorem qd_S_inRows_3 : decode qb_S_inRows 3 = .ok (.istore 4, 2) := by decide +kernel
theorem qd_S_inRows_5 : decode qb_S_inRows 5 = .ok (.iload 4, 2) := by decide +kernel
theorem qd_S_inRows_7 : decode qb_S_inRows 7 = .ok (.iload_n 2, 1) := by decide +kernel
theorem qd_S_inRows_8 : decode qb_S_inRows 8 = .ok (.if_icmp .ge 28, 3) := by decide +kernel
theorem qd_S_inRows_11 : decode qb_S_inRows 11 = .ok (.iload_n 3, 1) := by decide +kernel
theorem qd_S_inRows_12 : decode qb_S_inRows 12 = .ok (.ifCond .lt 24, 3) := by decide +kernel
theorem qd_S_inRows_15 : decode qb_S_inRows 15 = .ok (.aload_n 0, 1) := by decide +kernel
theorem qd_S_inRows_16 : decode qb_S_inRows 16 = .ok (.getfield 15, 3) := by decide +kernel
theorem qd_S_inRows_19 : decode qb_S_inRows 19 = .ok (.iconst 4, 1) := by decide +kernel
theorem qd_S_inRows_20 : decode qb_S_inRows 20 = .ok (.iconst (-1), 1) := by decide +kernel
theorem qd_S_inRows_21 : decode qb_S_inRows 21 = .ok (.iload_n 3, 1) := by decide +kernel
theorem qd_S_inRows_22 : decode qb_S_inRows 22 = .ok (.iconst (-1), 1) := by decide +kernel
theorem qd_S_inRows_23 : decode qb_S_inRows 23 = .ok (.sipush 1024, 3) := by decide +kernel
theorem qd_S_inRows_26 : decode qb_S_inRows 26 = .ok (.invokevirtual 48, 3) := by decide +kernel
theorem qd_S_inRows_29 : decode qb_S_inRows 29 = .ok (.istore_n 3, 1) := by decide +kernel
theorem qd_S_inRows_30 : decode qb_S_inRows 30 = .ok (.iinc 4 1, 3) := by decide +kernel
theorem qd_S_inRows_33 : decode qb_S_inRows 33 = .ok (.goto (-28), 3) := by decide +kernel
theorem qd_S_inRows_36 : decode qb_S_inRows 36 = .ok (.iload_n 3, 1) := by decide +kernel
theorem qd_S_inRows_37 : decode qb_S_inRows 37 = .ok (.ireturn, 1) := by decide +kernel
