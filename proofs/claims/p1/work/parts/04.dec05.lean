theorem qd_X_init_0 : decode qb_X_init 0 = .ok (.aload_n 0, 1) := by decide +kernel
theorem qd_X_init_1 : decode qb_X_init 1 = .ok (.invokespecial 1, 3) := by decide +kernel
theorem qd_X_init_4 : decode qb_X_init 4 = .ok (.aload_n 0, 1) := by decide +kernel
theorem qd_X_init_5 : decode qb_X_init 5 = .ok (.new 7, 3) := by decide +kernel
theorem qd_X_init_8 : decode qb_X_init 8 = .ok (.dup, 1) := by decide +kernel
theorem qd_X_init_9 : decode qb_X_init 9 = .ok (.invokespecial 9, 3) := by decide +kernel
theorem qd_X_init_12 : decode qb_X_init 12 = .ok (.putfield 10, 3) := by decide +kernel
theorem qd_X_init_15 : decode qb_X_init 15 = .ok (.aload_n 0, 1) := by decide +kernel
theorem qd_X_init_16 : decode qb_X_init 16 = .ok (.new 16, 3) := by decide +kernel
theorem qd_X_init_19 : decode qb_X_init 19 = .ok (.dup, 1) := by decide +kernel
theorem qd_X_init_20 : decode qb_X_init 20 = .ok (.invokespecial 18, 3) := by decide +kernel
theorem qd_X_init_23 : decode qb_X_init 23 = .ok (.putfield 19, 3) := by decide +kernel
theorem qd_X_init_26 : decode qb_X_init 26 = .ok (.aload_n 0, 1) := by decide +kernel
theorem qd_X_init_27 : decode qb_X_init 27 = .ok (.new 23, 3) := by decide +kernel
theorem qd_X_init_30 : decode qb_X_init 30 = .ok (.dup, 1) := by decide +kernel
theorem qd_X_init_31 : decode qb_X_init 31 = .ok (.aload_n 0, 1) := by decide +kernel
theorem qd_X_init_32 : decode qb_X_init 32 = .ok (.getfield 10, 3) := by decide +kernel
theorem qd_X_init_35 : decode qb_X_init 35 = .ok (.aload_n 0, 1) := by decide +kernel
theorem qd_X_init_36 : decode qb_X_init 36 = .ok (.getfield 19, 3) := by decide +kernel
theorem qd_X_init_39 : decode qb_X_init 39 = .ok (.invokespecial 25, 3) := by decide +kernel
theorem qd_X_init_42 : decode qb_X_init 42 = .ok (.putfield 28, 3) := by decide +kernel
theorem qd_X_init_45 : decode qb_X_init 45 = .ok (.aload_n 0, 1) := by decide +kernel
theorem qd_X_init_46 : decode qb_X_init 46 = .ok (.new 32, 3) := by decide +kernel
theorem qd_X_init_49 : decode qb_X_init 49 = .ok (.dup, 1) := by decide +kernel
theorem qd_X_init_50 : decode qb_X_init 50 = .ok (.aload_n 0, 1) := by decide +kernel
theorem qd_X_init_51 : decode qb_X_init 51 = .ok (.getfield 10, 3) := by decide +kernel
theorem qd_X_init_54 : decode qb_X_init 54 = .ok (.aload_n 0, 1) := by decide +kernel
theorem qd_X_init_55 : decode qb_X_init 55 = .ok (.getfield 19, 3) := by decide +kernel
theorem qd_X_init_58 : decode qb_X_init 58 = .ok (.aload_n 0, 1) := by decide +kernel
theorem qd_X_init_59 : decode qb_X_init 59 = .ok (.getfield 28, 3) := by decide +kernel
theorem qd_X_init_62 : decode qb_X_init 62 = .ok (.invokespecial 34, 3) := by decide +kernel
theorem qd_X_init_65 : decode qb_X_init 65 = .ok (.putfield 37, 3) := by decide +kernel
theorem qd_X_init_68 : decode qb_X_init 68 = .ok (.aload_n 0, 1) := by decide +kernel
theorem qd_X_init_69 : decode qb_X_init 69 = .ok (.new 41, 3) := by decide +kernel
theorem qd_X_init_72 : decode qb_X_init 72 = .ok (.dup, 1) := by decide +kernel
theorem qd_X_init_73 : decode qb_X_init 73 = .ok (.aload_n 0, 1) := by decide +kernel
theorem qd_X_init_74 : decode qb_X_init 74 = .ok (.getfield 10, 3) := by decide +kernel
theorem qd_X_init_77 : decode qb_X_init 77 = .ok (.aload_n 0, 1) := by decide +kernel
theorem qd_X_init_78 : decode qb_X_init 78 = .ok (.getfield 19, 3) := by decide +kernel
theorem qd_X_init_81 : decode qb_X_init 81 = .ok (.aload_n 0, 1) := by decide +kernel
theorem qd_X_init_82 : decode qb_X_init 82 = .ok (.getfield 28, 3) := by decide +kernel
theorem qd_X_init_85 : decode qb_X_init 85 = .ok (.aload_n 0, 1) := by decide +kernel
theorem qd_X_init_86 : decode qb_X_init 86 = .ok (.getfield 37, 3) := by decide +kernel
theorem qd_X_init_89 : decode qb_X_init 89 = .ok (.invokespecial 43, 3) := by decide +kernel
theorem qd_X_init_92 : decode qb_X_init 92 = .ok (.putfield 46, 3) := by decide +kernel
theorem qd_X_init_95 : decode qb_X_init 95 = .ok (.return_, 1) := by decide +kernel
theorem qd_X_clear_0 : decode qb_X_clear 0 = .ok (.aload_n 0, 1) := by decide +kernel
theorem qd_X_clear_1 : decode qb_X_clear 1 = .ok (.getfield 10, 3) := by decide +kernel
theorem qd_X_clear_4 : decode qb_X_clear 4 = .ok (.getfield 50, 3) := by decide +kernel
theorem qd_X_clear_7 : decode qb_X_clear 7 = .ok (.istore_n 1, 1) := by decide +kernel
theorem qd_X_clear_8 : decode qb_X_clear 8 = .ok (.aload_n 0, 1) := by decide +kernel
theorem qd_X_clear_9 : decode qb_X_clear 9 = .ok (.getfield 10, 3) := by decide +kernel
theorem qd_X_clear_12 : decode qb_X_clear 12 = .ok (.invokevirtual 54, 3) := by decide +kernel
theorem qd_X_clear_15 : decode qb_X_clear 15 = .ok (.aload_n 0, 1) := by decide +kernel
theorem qd_X_clear_16 : decode qb_X_clear 16 = .ok (.getfield 19, 3) := by decide +kernel
theorem qd_X_clear_19 : decode qb_X_clear 19 = .ok (.invokevirtual 57, 3) := by decide +kernel
theorem qd_X_clear_22 : decode qb_X_clear 22 = .ok (.iload_n 1, 1) := by decide +kernel
theorem qd_X_clear_23 : decode qb_X_clear 23 = .ok (.ireturn, 1) := by decide +kernel
theorem qd_X_declare_0 : decode qb_X_declare 0 = .ok (.iload_n 1, 1) := by decide +kernel
theorem qd_X_declare_1 : decode qb_X_declare 1 = .ok (.ifCond .lt 17, 3) := by decide +kernel
theorem qd_X_declare_4 : decode qb_X_declare 4 = .ok (.iload_n 1, 1) := by decide +kernel
theorem qd_X_declare_5 : decode qb_X_declare 5 = .ok (.iconst 4, 1) := by decide +kernel
theorem qd_X_declare_6 : decode qb_X_declare 6 = .ok (.if_icmp .gt 12, 3) := by decide +kernel
theorem qd_X_declare_9 : decode qb_X_declare 9 = .ok (.iload_n 2, 1) := by decide +kernel
theorem qd_X_declare_10 : decode qb_X_declare 10 = .ok (.ifCond .lt 8, 3) := by decide +kernel
theorem qd_X_declare_13 : decode qb_X_declare 13 = .ok (.iload_n 2, 1) := by decide +kernel
theorem qd_X_declare_14 : decode qb_X_declare 14 = .ok (.iconst 2, 1) := by decide +kernel
theorem qd_X_declare_15 : decode qb_X_declare 15 = .ok (.if_icmp .le 6, 3) := by decide +kernel
theorem qd_X_declare_18 : decode qb_X_declare 18 = .ok (.bipush (-2), 2) := by decide +kernel
theorem qd_X_declare_20 : decode qb_X_declare 20 = .ok (.ireturn, 1) := by decide +kernel
theorem qd_X_declare_21 : decode qb_X_declare 21 = .ok (.aload_n 0, 1) := by decide +kernel
theorem qd_X_declare_22 : decode qb_X_declare 22 = .ok (.getfield 10, 3) := by decide +kernel
theorem qd_X_declare_25 : decode qb_X_declare 25 = .ok (.iload_n 1, 1) := by decide +kernel
theorem qd_X_declare_26 : decode qb_X_declare 26 = .ok (.iload_n 2, 1) := by decide +kernel
theorem qd_X_declare_27 : decode qb_X_declare 27 = .ok (.invokevirtual 58, 3) := by decide +kernel
theorem qd_X_declare_30 : decode qb_X_declare 30 = .ok (.ireturn, 1) := by decide +kernel
theorem qd_X_inherit_0 : decode qb_X_inherit 0 = .ok (.aload_n 0, 1) := by decide +kernel
theorem qd_X_inherit_1 : decode qb_X_inherit 1 = .ok (.iload_n 1, 1) := by decide +kernel
theorem qd_X_inherit_2 : decode qb_X_inherit 2 = .ok (.iload_n 2, 1) := by decide +kernel
theorem qd_X_inherit_3 : decode qb_X_inherit 3 = .ok (.invokevirtual 62, 3) := by decide +kernel
theorem qd_X_inherit_6 : decode qb_X_inherit 6 = .ok (.ifCond .ne 6, 3) := by decide +kernel
theorem qd_X_inherit_9 : decode qb_X_inherit 9 = .ok (.bipush (-2), 2) := by decide +kernel
theorem qd_X_inherit_11 : decode qb_X_inherit 11 = .ok (.ireturn, 1) := by decide +kernel
theorem qd_X_inherit_12 : decode qb_X_inherit 12 = .ok (.aload_n 0, 1) := by decide +kernel
theorem qd_X_inherit_13 : decode qb_X_inherit 13 = .ok (.getfield 19, 3) := by decide +kernel
theorem qd_X_inherit_16 : decode qb_X_inherit 16 = .ok (.iload_n 2, 1) := by decide +kernel
theorem qd_X_inherit_17 : decode qb_X_inherit 17 = .ok (.invokevirtual 66, 3) := by decide +kernel
theorem qd_X_inherit_20 : decode qb_X_inherit 20 = .ok (.istore_n 3, 1) := by decide +kernel
theorem qd_X_inherit_21 : decode qb_X_inherit 21 = .ok (.aload_n 0, 1) := by decide +kernel
theorem qd_X_inherit_22 : decode qb_X_inherit 22 = .ok (.getfield 10, 3) := by decide +kernel
theorem qd_X_inherit_25 : decode qb_X_inherit 25 = .ok (.iload_n 1, 1) := by decide +kernel
theorem qd_X_inherit_26 : decode qb_X_inherit 26 = .ok (.iload_n 3, 1) := by decide +kernel
theorem qd_X_inherit_27 : decode qb_X_inherit 27 = .ok (.invokevirtual 70, 3) := by decide +kernel
theorem qd_X_inherit_30 : decode qb_X_inherit 30 = .ok (.istore 4, 2) := by decide +kernel
theorem qd_X_inherit_32 : decode qb_X_inherit 32 = .ok (.iload 4, 2) := by decide +kernel
theorem qd_X_inherit_34 : decode qb_X_inherit 34 = .ok (.iconst (-1), 1) := by decide +kernel
theorem qd_X_inherit_35 : decode qb_X_inherit 35 = .ok (.if_icmp .ne 6, 3) := by decide +kernel
theorem qd_X_inherit_38 : decode qb_X_inherit 38 = .ok (.bipush (-3), 2) := by decide +kernel
theorem qd_X_inherit_40 : decode qb_X_inherit 40 = .ok (.ireturn, 1) := by decide +kernel
theorem qd_X_inherit_41 : decode qb_X_inherit 41 = .ok (.aload_n 0, 1) := by decide +kernel
theorem qd_X_inherit_42 : decode qb_X_inherit 42 = .ok (.getfield 10, 3) := by decide +kernel
theorem qd_X_inherit_45 : decode qb_X_inherit 45 = .ok (.iload_n 1, 1) := by decide +kernel
theorem qd_X_inherit_46 : decode qb_X_inherit 46 = .ok (.iload 4, 2) := by decide +kernel
theorem qd_X_inherit_48 : decode qb_X_inherit 48 = .ok (.invokevirtual 73, 3) := by decide +kernel
theorem qd_X_inherit_51 : decode qb_X_inherit 51 = .ok (.istore 5, 2) := by decide +kernel
theorem qd_X_inherit_53 : decode qb_X_inherit 53 = .ok (.aload_n 0, 1) := by decide +kernel
theorem qd_X_inherit_54 : decode qb_X_inherit 54 = .ok (.getfield 10, 3) := by decide +kernel
theorem qd_X_inherit_57 : decode qb_X_inherit 57 = .ok (.iload_n 1, 1) := by decide +kernel
theorem qd_X_inherit_58 : decode qb_X_inherit 58 = .ok (.iload 4, 2) := by decide +kernel
theorem qd_X_inherit_60 : decode qb_X_inherit 60 = .ok (.invokevirtual 76, 3) := by decide +kernel
theorem qd_X_inherit_63 : decode qb_X_inherit 63 = .ok (.istore 6, 2) := by decide +kernel
theorem qd_X_inherit_65 : decode qb_X_inherit 65 = .ok (.aload_n 0, 1) := by decide +kernel
theorem qd_X_inherit_66 : decode qb_X_inherit 66 = .ok (.getfield 10, 3) := by decide +kernel
theorem qd_X_inherit_69 : decode qb_X_inherit 69 = .ok (.iload_n 1, 1) := by decide +kernel
theorem qd_X_inherit_70 : decode qb_X_inherit 70 = .ok (.iload 4, 2) := by decide +kernel
theorem qd_X_inherit_72 : decode qb_X_inherit 72 = .ok (.iload_n 2, 1) := by decide +kernel
theorem qd_X_inherit_73 : decode qb_X_inherit 73 = .ok (.iload_n 3, 1) := by decide +kernel
theorem qd_X_inherit_74 : decode qb_X_inherit 74 = .ok (.invokevirtual 79, 3) := by decide +kernel
theorem qd_X_inherit_77 : decode qb_X_inherit 77 = .ok (.aload_n 0, 1) := by decide +kernel
theorem qd_X_inherit_78 : decode qb_X_inherit 78 = .ok (.getfield 28, 3) := by decide +kernel
theorem qd_X_inherit_81 : decode qb_X_inherit 81 = .ok (.invokevirtual 83, 3) := by decide +kernel
theorem qd_X_inherit_84 : decode qb_X_inherit 84 = .ok (.ifCond .eq 20, 3) := by decide +kernel
theorem qd_X_inherit_87 : decode qb_X_inherit 87 = .ok (.aload_n 0, 1) := by decide +kernel
theorem qd_X_inherit_88 : decode qb_X_inherit 88 = .ok (.getfield 10, 3) := by decide +kernel
theorem qd_X_inherit_91 : decode qb_X_inherit 91 = .ok (.iload_n 1, 1) := by decide +kernel
theorem qd_X_inherit_92 : decode qb_X_inherit 92 = .ok (.iload 4, 2) := by decide +kernel
theorem qd_X_inherit_94 : decode qb_X_inherit 94 = .ok (.iload 5, 2) := by decide +kernel
theorem qd_X_inherit_96 : decode qb_X_inherit 96 = .ok (.iload 6, 2) := by decide +kernel
theorem qd_X_inherit_98 : decode qb_X_inherit 98 = .ok (.invokevirtual 79, 3) := by decide +kernel
theorem qd_X_inherit_101 : decode qb_X_inherit 101 = .ok (.bipush (-5), 2) := by decide +kernel
theorem qd_X_inherit_103 : decode qb_X_inherit 103 = .ok (.ireturn, 1) := by decide +kernel
theorem qd_X_inherit_104 : decode qb_X_inherit 104 = .ok (.aload_n 0, 1) := by decide +kernel
theorem qd_X_inherit_105 : decode qb_X_inherit 105 = .ok (.getfield 10, 3) := by decide +kernel
theorem qd_X_inherit_108 : decode qb_X_inherit 108 = .ok (.iload_n 1, 1) := by decide +kernel
theorem qd_X_inherit_109 : decode qb_X_inherit 109 = .ok (.invokevirtual 87, 3) := by decide +kernel
theorem qd_X_inherit_112 : decode qb_X_inherit 112 = .ok (.ireturn, 1) := by decide +kernel
theorem qd_X_mayBeSuper_0 : decode qb_X_mayBeSuper 0 = .ok (.aload_n 0, 1) := by decide +kernel
theorem qd_X_mayBeSuper_1 : decode qb_X_mayBeSuper 1 = .ok (.getfield 10, 3) := by decide +kernel
theorem qd_X_mayBeSuper_4 : decode qb_X_mayBeSuper 4 = .ok (.iload_n 1, 1) := by decide +kernel
theorem qd_X_mayBeSuper_5 : decode qb_X_mayBeSuper 5 = .ok (.invokevirtual 101, 3) := by decide +kernel
theorem qd_X_mayBeSuper_8 : decode qb_X_mayBeSuper 8 = .ok (.ifCond .eq 29, 3) := by decide +kernel
theorem qd_X_mayBeSuper_11 : decode qb_X_mayBeSuper 11 = .ok (.aload_n 0, 1) := by decide +kernel
theorem qd_X_mayBeSuper_12 : decode qb_X_mayBeSuper 12 = .ok (.getfield 19, 3) := by decide +kernel
theorem qd_X_mayBeSuper_15 : decode qb_X_mayBeSuper 15 = .ok (.iload_n 2, 1) := by decide +kernel
theorem qd_X_mayBeSuper_16 : decode qb_X_mayBeSuper 16 = .ok (.invokevirtual 127, 3) := by decide +kernel
theorem qd_X_mayBeSuper_19 : decode qb_X_mayBeSuper 19 = .ok (.ifCond .eq 18, 3) := by decide +kernel
theorem qd_X_mayBeSuper_22 : decode qb_X_mayBeSuper 22 = .ok (.iload_n 2, 1) := by decide +kernel
theorem qd_X_mayBeSuper_23 : decode qb_X_mayBeSuper 23 = .ok (.ifCond .eq 14, 3) := by decide +kernel
theorem qd_X_mayBeSuper_26 : decode qb_X_mayBeSuper 26 = .ok (.aload_n 0, 1) := by decide +kernel
theorem qd_X_mayBeSuper_27 : decode qb_X_mayBeSuper 27 = .ok (.getfield 19, 3) := by decide +kernel
theorem qd_X_mayBeSuper_30 : decode qb_X_mayBeSuper 30 = .ok (.iload_n 2, 1) := by decide +kernel
theorem qd_X_mayBeSuper_31 : decode qb_X_mayBeSuper 31 = .ok (.invokevirtual 168, 3) := by decide +kernel
theorem qd_X_mayBeSuper_34 : decode qb_X_mayBeSuper 34 = .ok (.ifCond .ne 5, 3) := by decide +kernel
theorem qd_X_mayBeSuper_37 : decode qb_X_mayBeSuper 37 = .ok (.iconst 0, 1) := by decide +kernel
theorem qd_X_mayBeSuper_38 : decode qb_X_mayBeSuper 38 = .ok (.ireturn, 1) := by decide +kernel
theorem qd_X_mayBeSuper_39 : decode qb_X_mayBeSuper 39 = .ok (.aload_n 0, 1) := by decide +kernel
theorem qd_X_mayBeSuper_40 : decode qb_X_mayBeSuper 40 = .ok (.getfield 19, 3) := by decide +kernel
theorem qd_X_mayBeSuper_43 : decode qb_X_mayBeSuper 43 = .ok (.iload_n 2, 1) := by decide +kernel
theorem qd_X_mayBeSuper_44 : decode qb_X_mayBeSuper 44 = .ok (.invokevirtual 66, 3) := by decide +kernel
theorem qd_X_mayBeSuper_47 : decode qb_X_mayBeSuper 47 = .ok (.istore_n 3, 1) := by decide +kernel
theorem qd_X_mayBeSuper_48 : decode qb_X_mayBeSuper 48 = .ok (.iload_n 3, 1) := by decide +kernel
theorem qd_X_mayBeSuper_49 : decode qb_X_mayBeSuper 49 = .ok (.iload_n 1, 1) := by decide +kernel
theorem qd_X_mayBeSuper_50 : decode qb_X_mayBeSuper 50 = .ok (.if_icmp .ge 27, 3) := by decide +kernel
theorem qd_X_mayBeSuper_53 : decode qb_X_mayBeSuper 53 = .ok (.aload_n 0, 1) := by decide +kernel
theorem qd_X_mayBeSuper_54 : decode qb_X_mayBeSuper 54 = .ok (.getfield 10, 3) := by decide +kernel
theorem qd_X_mayBeSuper_57 : decode qb_X_mayBeSuper 57 = .ok (.iload_n 3, 1) := by decide +kernel
theorem qd_X_mayBeSuper_58 : decode qb_X_mayBeSuper 58 = .ok (.invokevirtual 137, 3) := by decide +kernel
theorem qd_X_mayBeSuper_61 : decode qb_X_mayBeSuper 61 = .ok (.iconst 1, 1) := by decide +kernel
theorem qd_X_mayBeSuper_62 : decode qb_X_mayBeSuper 62 = .ok (.if_icmp .eq 15, 3) := by decide +kernel
theorem qd_X_mayBeSuper_65 : decode qb_X_mayBeSuper 65 = .ok (.aload_n 0, 1) := by decide +kernel
theorem qd_X_mayBeSuper_66 : decode qb_X_mayBeSuper 66 = .ok (.getfield 19, 3) := by decide +kernel
theorem qd_X_mayBeSuper_69 : decode qb_X_mayBeSuper 69 = .ok (.iload_n 2, 1) := by decide +kernel
theorem qd_X_mayBeSuper_70 : decode qb_X_mayBeSuper 70 = .ok (.iload_n 1, 1) := by decide +kernel
theorem qd_X_mayBeSuper_71 : decode qb_X_mayBeSuper 71 = .ok (.invokevirtual 183, 3) := by decide +kernel
theorem qd_X_mayBeSuper_74 : decode qb_X_mayBeSuper 74 = .ok (.ifCond .ne 5, 3) := by decide +kernel
theorem qd_X_mayBeSuper_77 : decode qb_X_mayBeSuper 77 = .ok (.iconst 0, 1) := by decide +kernel
theorem qd_X_mayBeSuper_78 : decode qb_X_mayBeSuper 78 = .ok (.ireturn, 1) := by decide +kernel
theorem qd_X_mayBeSuper_79 : decode qb_X_mayBeSuper 79 = .ok (.aload_n 0, 1) := by decide +kernel
theorem qd_X_mayBeSuper_80 : decode qb_X_mayBeSuper 80 = .ok (.getfield 10, 3) := by decide +kernel
theorem qd_X_mayBeSuper_83 : decode qb_X_mayBeSuper 83 = .ok (.iload_n 3, 1) := by decide +kernel
theorem qd_X_mayBeSuper_84 : decode qb_X_mayBeSuper 84 = .ok (.invokevirtual 186, 3) := by decide +kernel
theorem qd_X_mayBeSuper_87 : decode qb_X_mayBeSuper 87 = .ok (.ifCond .ne 14, 3) := by decide +kernel
theorem qd_X_mayBeSuper_90 : decode qb_X_mayBeSuper 90 = .ok (.aload_n 0, 1) := by decide +kernel
theorem qd_X_mayBeSuper_91 : decode qb_X_mayBeSuper 91 = .ok (.getfield 10, 3) := by decide +kernel
theorem qd_X_mayBeSuper_94 : decode qb_X_mayBeSuper 94 = .ok (.iload_n 1, 1) := by decide +kernel
theorem qd_X_mayBeSuper_95 : decode qb_X_mayBeSuper 95 = .ok (.invokevirtual 186, 3) := by decide +kernel
theorem qd_X_mayBeSuper_98 : decode qb_X_mayBeSuper 98 = .ok (.ifCond .ne 7, 3) := by decide +kernel
theorem qd_X_mayBeSuper_101 : decode qb_X_mayBeSuper 101 = .ok (.iconst 1, 1) := by decide +kernel
theorem qd_X_mayBeSuper_102 : decode qb_X_mayBeSuper 102 = .ok (.goto 4, 3) := by decide +kernel
theorem qd_X_mayBeSuper_105 : decode qb_X_mayBeSuper 105 = .ok (.iconst 0, 1) := by decide +kernel
theorem qd_X_mayBeSuper_106 : decode qb_X_mayBeSuper 106 = .ok (.ireturn, 1) := by decide +kernel
theorem qd_X_bind_0 : decode qb_X_bind 0 = .ok (.aload_n 0, 1) := by decide +kernel
theorem qd_X_bind_1 : decode qb_X_bind 1 = .ok (.getfield 10, 3) := by decide +kernel
theorem qd_X_bind_4 : decode qb_X_bind 4 = .ok (.iload_n 1, 1) := by decide +kernel
theorem qd_X_bind_5 : decode qb_X_bind 5 = .ok (.iload_n 2, 1) := by decide +kernel
theorem qd_X_bind_6 : decode qb_X_bind 6 = .ok (.invokevirtual 90, 3) := by decide +kernel
theorem qd_X_bind_9 : decode qb_X_bind 9 = .ok (.ifCond .eq 13, 3) := by decide +kernel
theorem qd_X_bind_12 : decode qb_X_bind 12 = .ok (.aload_n 0, 1) := by decide +kernel
theorem qd_X_bind_13 : decode qb_X_bind 13 = .ok (.iload_n 1, 1) := by decide +kernel
theorem qd_X_bind_14 : decode qb_X_bind 14 = .ok (.iload_n 2, 1) := by decide +kernel
theorem qd_X_bind_15 : decode qb_X_bind 15 = .ok (.iload_n 3, 1) := by decide +kernel
theorem qd_X_bind_16 : decode qb_X_bind 16 = .ok (.invokevirtual 93, 3) := by decide +kernel
theorem qd_X_bind_19 : decode qb_X_bind 19 = .ok (.ifCond .ne 6, 3) := by decide +kernel
theorem qd_X_bind_22 : decode qb_X_bind 22 = .ok (.bipush (-2), 2) := by decide +kernel
theorem qd_X_bind_24 : decode qb_X_bind 24 = .ok (.ireturn, 1) := by decide +kernel
theorem qd_X_bind_25 : decode qb_X_bind 25 = .ok (.aload_n 0, 1) := by decide +kernel
theorem qd_X_bind_26 : decode qb_X_bind 26 = .ok (.getfield 10, 3) := by decide +kernel
theorem qd_X_bind_29 : decode qb_X_bind 29 = .ok (.iload_n 1, 1) := by decide +kernel
theorem qd_X_bind_30 : decode qb_X_bind 30 = .ok (.iload_n 2, 1) := by decide +kernel
theorem qd_X_bind_31 : decode qb_X_bind 31 = .ok (.iload_n 3, 1) := by decide +kernel
theorem qd_X_bind_32 : decode qb_X_bind 32 = .ok (.invokevirtual 97, 3) := by decide +kernel
theorem qd_X_bind_35 : decode qb_X_bind 35 = .ok (.ireturn, 1) := by decide +kernel
theorem qd_X_mayBeBound_0 : decode qb_X_mayBeBound 0 = .ok (.aload_n 0, 1) := by decide +kernel
theorem qd_X_mayBeBound_1 : decode qb_X_mayBeBound 1 = .ok (.getfield 19, 3) := by decide +kernel
theorem qd_X_mayBeBound_4 : decode qb_X_mayBeBound 4 = .ok (.iload_n 3, 1) := by decide +kernel
theorem qd_X_mayBeBound_5 : decode qb_X_mayBeBound 5 = .ok (.invokevirtual 127, 3) := by decide +kernel
theorem qd_X_mayBeBound_8 : decode qb_X_mayBeBound 8 = .ok (.ifCond .eq 19, 3) := by decide +kernel
theorem qd_X_mayBeBound_11 : decode qb_X_mayBeBound 11 = .ok (.iload_n 3, 1) := by decide +kernel
theorem qd_X_mayBeBound_12 : decode qb_X_mayBeBound 12 = .ok (.ifCond .eq 15, 3) := by decide +kernel
theorem qd_X_mayBeBound_15 : decode qb_X_mayBeBound 15 = .ok (.aload_n 0, 1) := by decide +kernel
theorem qd_X_mayBeBound_16 : decode qb_X_mayBeBound 16 = .ok (.getfield 19, 3) := by decide +kernel
theorem qd_X_mayBeBound_19 : decode qb_X_mayBeBound 19 = .ok (.iload_n 3, 1) := by decide +kernel
theorem qd_X_mayBeBound_20 : decode qb_X_mayBeBound 20 = .ok (.iload_n 1, 1) := by decide +kernel
theorem qd_X_mayBeBound_21 : decode qb_X_mayBeBound 21 = .ok (.invokevirtual 183, 3) := by decide +kernel
theorem qd_X_mayBeBound_24 : decode qb_X_mayBeBound 24 = .ok (.ifCond .ne 5, 3) := by decide +kernel
theorem qd_X_mayBeBound_27 : decode qb_X_mayBeBound 27 = .ok (.iconst 0, 1) := by decide +kernel
theorem qd_X_mayBeBound_28 : decode qb_X_mayBeBound 28 = .ok (.ireturn, 1) := by decide +kernel
theorem qd_X_mayBeBound_29 : decode qb_X_mayBeBound 29 = .ok (.aload_n 0, 1) := by decide +kernel
theorem qd_X_mayBeBound_30 : decode qb_X_mayBeBound 30 = .ok (.getfield 10, 3) := by decide +kernel
theorem qd_X_mayBeBound_33 : decode qb_X_mayBeBound 33 = .ok (.iload_n 1, 1) := by decide +kernel
theorem qd_X_mayBeBound_34 : decode qb_X_mayBeBound 34 = .ok (.iload_n 2, 1) := by decide +kernel
theorem qd_X_mayBeBound_35 : decode qb_X_mayBeBound 35 = .ok (.invokevirtual 189, 3) := by decide +kernel
theorem qd_X_mayBeBound_38 : decode qb_X_mayBeBound 38 = .ok (.ifCond .ne 7, 3) := by decide +kernel
theorem qd_X_mayBeBound_41 : decode qb_X_mayBeBound 41 = .ok (.iconst 1, 1) := by decide +kernel
theorem qd_X_mayBeBound_42 : decode qb_X_mayBeBound 42 = .ok (.goto 4, 3) := by decide +kernel
theorem qd_X_mayBeBound_45 : decode qb_X_mayBeBound 45 = .ok (.iconst 0, 1) := by decide +kernel
theorem qd_X_mayBeBound_46 : decode qb_X_mayBeBound 46 = .ok (.istore 4, 2) := by decide +kernel
theorem qd_X_mayBeBound_48 : decode qb_X_mayBeBound 48 = .ok (.aload_n 0, 1) := by decide +kernel
theorem qd_X_mayBeBound_49 : decode qb_X_mayBeBound 49 = .ok (.getfield 19, 3) := by decide +kernel
theorem qd_X_mayBeBound_52 : decode qb_X_mayBeBound 52 = .ok (.iload_n 3, 1) := by decide +kernel
theorem qd_X_mayBeBound_53 : decode qb_X_mayBeBound 53 = .ok (.invokevirtual 118, 3) := by decide +kernel
theorem qd_X_mayBeBound_56 : decode qb_X_mayBeBound 56 = .ok (.iconst 3, 1) := by decide +kernel
theorem qd_X_mayBeBound_57 : decode qb_X_mayBeBound 57 = .ok (.if_icmp .ne 26, 3) := by decide +kernel
theorem qd_X_mayBeBound_60 : decode qb_X_mayBeBound 60 = .ok (.iload 4, 2) := by decide +kernel
theorem qd_X_mayBeBound_62 : decode qb_X_mayBeBound 62 = .ok (.ifCond .eq 19, 3) := by decide +kernel
theorem qd_X_mayBeBound_65 : decode qb_X_mayBeBound 65 = .ok (.aload_n 0, 1) := by decide +kernel
theorem qd_X_mayBeBound_66 : decode qb_X_mayBeBound 66 = .ok (.getfield 19, 3) := by decide +kernel
theorem qd_X_mayBeBound_69 : decode qb_X_mayBeBound 69 = .ok (.iload_n 3, 1) := by decide +kernel
theorem qd_X_mayBeBound_70 : decode qb_X_mayBeBound 70 = .ok (.invokevirtual 128, 3) := by decide +kernel
theorem qd_X_mayBeBound_73 : decode qb_X_mayBeBound 73 = .ok (.iload_n 2, 1) := by decide +kernel
theorem qd_X_mayBeBound_74 : decode qb_X_mayBeBound 74 = .ok (.if_icmp .ge 7, 3) := by decide +kernel
theorem qd_X_mayBeBound_77 : decode qb_X_mayBeBound 77 = .ok (.iconst 1, 1) := by decide +kernel
theorem qd_X_mayBeBound_78 : decode qb_X_mayBeBound 78 = .ok (.goto 4, 3) := by decide +kernel
theorem qd_X_mayBeBound_81 : decode qb_X_mayBeBound 81 = .ok (.iconst 0, 1) := by decide +kernel
theorem qd_X_mayBeBound_82 : decode qb_X_mayBeBound 82 = .ok (.ireturn, 1) := by decide +kernel
theorem qd_X_mayBeBound_83 : decode qb_X_mayBeBound 83 = .ok (.aload_n 0, 1) := by decide +kernel
theorem qd_X_mayBeBound_84 : decode qb_X_mayBeBound 84 = .ok (.getfield 19, 3) := by decide +kernel
theorem qd_X_mayBeBound_87 : decode qb_X_mayBeBound 87 = .ok (.iload_n 3, 1) := by decide +kernel
theorem qd_X_mayBeBound_88 : decode qb_X_mayBeBound 88 = .ok (.invokevirtual 168, 3) := by decide +kernel
theorem qd_X_mayBeBound_91 : decode qb_X_mayBeBound 91 = .ok (.ifCond .eq 30, 3) := by decide +kernel
theorem qd_X_mayBeBound_94 : decode qb_X_mayBeBound 94 = .ok (.iload 4, 2) := by decide +kernel
theorem qd_X_mayBeBound_96 : decode qb_X_mayBeBound 96 = .ok (.ifCond .ne 21, 3) := by decide +kernel
theorem qd_X_mayBeBound_99 : decode qb_X_mayBeBound 99 = .ok (.aload_n 0, 1) := by decide +kernel
theorem qd_X_mayBeBound_100 : decode qb_X_mayBeBound 100 = .ok (.getfield 10, 3) := by decide +kernel
theorem qd_X_mayBeBound_103 : decode qb_X_mayBeBound 103 = .ok (.aload_n 0, 1) := by decide +kernel
theorem qd_X_mayBeBound_104 : decode qb_X_mayBeBound 104 = .ok (.getfield 19, 3) := by decide +kernel
theorem qd_X_mayBeBound_107 : decode qb_X_mayBeBound 107 = .ok (.iload_n 3, 1) := by decide +kernel
theorem qd_X_mayBeBound_108 : decode qb_X_mayBeBound 108 = .ok (.invokevirtual 66, 3) := by decide +kernel
theorem qd_X_mayBeBound_111 : decode qb_X_mayBeBound 111 = .ok (.invokevirtual 186, 3) := by decide +kernel
theorem qd_X_mayBeBound_114 : decode qb_X_mayBeBound 114 = .ok (.ifCond .eq 7, 3) := by decide +kernel
theorem qd_X_mayBeBound_117 : decode qb_X_mayBeBound 117 = .ok (.iconst 1, 1) := by decide +kernel
theorem qd_X_mayBeBound_118 : decode qb_X_mayBeBound 118 = .ok (.goto 4, 3) := by decide +kernel
theorem qd_X_mayBeBound_121 : decode qb_X_mayBeBound 121 = .ok (.iconst 0, 1) := by decide +kernel
theorem qd_X_mayBeBound_122 : decode qb_X_mayBeBound 122 = .ok (.ireturn, 1) := by decide +kernel
theorem qd_X_plain_0 : decode qb_X_plain 0 = .ok (.aload_n 0, 1) := by decide +kernel
theorem qd_X_plain_1 : decode qb_X_plain 1 = .ok (.getfield 10, 3) := by decide +kernel
theorem qd_X_plain_4 : decode qb_X_plain 4 = .ok (.iload_n 1, 1) := by decide +kernel
theorem qd_X_plain_5 : decode qb_X_plain 5 = .ok (.invokevirtual 101, 3) := by decide +kernel
theorem qd_X_plain_8 : decode qb_X_plain 8 = .ok (.ifCond .ne 6, 3) := by decide +kernel
theorem qd_X_plain_11 : decode qb_X_plain 11 = .ok (.bipush (-2), 2) := by decide +kernel
theorem qd_X_plain_13 : decode qb_X_plain 13 = .ok (.ireturn, 1) := by decide +kernel
theorem qd_X_plain_14 : decode qb_X_plain 14 = .ok (.aload_n 0, 1) := by decide +kernel
theorem qd_X_plain_15 : decode qb_X_plain 15 = .ok (.getfield 19, 3) := by decide +kernel
theorem qd_X_plain_18 : decode qb_X_plain 18 = .ok (.aload_n 0, 1) := by decide +kernel
theorem qd_X_plain_19 : decode qb_X_plain 19 = .ok (.getfield 10, 3) := by decide +kernel
theorem qd_X_plain_22 : decode qb_X_plain 22 = .ok (.iload_n 1, 1) := by decide +kernel
theorem qd_X_plain_23 : decode qb_X_plain 23 = .ok (.invokevirtual 105, 3) := by decide +kernel
theorem qd_X_plain_26 : decode qb_X_plain 26 = .ok (.iload_n 1, 1) := by decide +kernel
theorem qd_X_plain_27 : decode qb_X_plain 27 = .ok (.iconst (-1), 1) := by decide +kernel
theorem qd_X_plain_28 : decode qb_X_plain 28 = .ok (.iconst (-1), 1) := by decide +kernel
theorem qd_X_plain_29 : decode qb_X_plain 29 = .ok (.invokevirtual 108, 3) := by decide +kernel
theorem qd_X_plain_32 : decode qb_X_plain 32 = .ok (.ireturn, 1) := by decide +kernel
theorem qd_X_of_0 : decode qb_X_of 0 = .ok (.aload_n 0, 1) := by decide +kernel
theorem qd_X_of_1 : decode qb_X_of 1 = .ok (.getfield 10, 3) := by decide +kernel
theorem qd_X_of_4 : decode qb_X_of 4 = .ok (.iload_n 1, 1) := by decide +kernel
theorem qd_X_of_5 : decode qb_X_of 5 = .ok (.invokevirtual 112, 3) := by decide +kernel
theorem qd_X_of_8 : decode qb_X_of 8 = .ok (.istore 4, 2) := by decide +kernel
theorem qd_X_of_10 : decode qb_X_of 10 = .ok (.iload 4, 2) := by decide +kernel
theorem qd_X_of_12 : decode qb_X_of 12 = .ok (.ifCond .eq 14, 3) := by decide +kernel
theorem qd_X_of_15 : decode qb_X_of 15 = .ok (.aload_n 0, 1) := by decide +kernel
theorem qd_X_of_16 : decode qb_X_of 16 = .ok (.getfield 19, 3) := by decide +kernel
theorem qd_X_of_19 : decode qb_X_of 19 = .ok (.iload_n 2, 1) := by decide +kernel
theorem qd_X_of_20 : decode qb_X_of 20 = .ok (.invokevirtual 115, 3) := by decide +kernel
theorem qd_X_of_23 : decode qb_X_of 23 = .ok (.ifCond .ne 6, 3) := by decide +kernel
theorem qd_X_of_26 : decode qb_X_of 26 = .ok (.bipush (-2), 2) := by decide +kernel
theorem qd_X_of_28 : decode qb_X_of 28 = .ok (.ireturn, 1) := by decide +kernel
theorem qd_X_of_29 : decode qb_X_of 29 = .ok (.iload 4, 2) := by decide +kernel
theorem qd_X_of_31 : decode qb_X_of 31 = .ok (.iconst 1, 1) := by decide +kernel
theorem qd_X_of_32 : decode qb_X_of 32 = .ok (.if_icmp .ne 15, 3) := by decide +kernel
theorem qd_X_of_35 : decode qb_X_of 35 = .ok (.aload_n 0, 1) := by decide +kernel
theorem qd_X_of_36 : decode qb_X_of 36 = .ok (.getfield 19, 3) := by decide +kernel
theorem qd_X_of_39 : decode qb_X_of 39 = .ok (.iconst 2, 1) := by decide +kernel
theorem qd_X_of_40 : decode qb_X_of 40 = .ok (.iload_n 1, 1) := by decide +kernel
theorem qd_X_of_41 : decode qb_X_of 41 = .ok (.iload_n 2, 1) := by decide +kernel
theorem qd_X_of_42 : decode qb_X_of 42 = .ok (.iconst (-1), 1) := by decide +kernel
theorem qd_X_of_43 : decode qb_X_of 43 = .ok (.invokevirtual 108, 3) := by decide +kernel
theorem qd_X_of_46 : decode qb_X_of 46 = .ok (.ireturn, 1) := by decide +kernel
theorem qd_X_of_47 : decode qb_X_of 47 = .ok (.aload_n 0, 1) := by decide +kernel
theorem qd_X_of_48 : decode qb_X_of 48 = .ok (.getfield 19, 3) := by decide +kernel
theorem qd_X_of_51 : decode qb_X_of 51 = .ok (.iload_n 3, 1) := by decide +kernel
theorem qd_X_of_52 : decode qb_X_of 52 = .ok (.invokevirtual 115, 3) := by decide +kernel
theorem qd_X_of_55 : decode qb_X_of 55 = .ok (.ifCond .eq 17, 3) := by decide +kernel
theorem qd_X_of_58 : decode qb_X_of 58 = .ok (.aload_n 0, 1) := by decide +kernel
theorem qd_X_of_59 : decode qb_X_of 59 = .ok (.getfield 19, 3) := by decide +kernel
theorem qd_X_of_62 : decode qb_X_of 62 = .ok (.iconst 2, 1) := by decide +kernel
theorem qd_X_of_63 : decode qb_X_of 63 = .ok (.iload_n 1, 1) := by decide +kernel
theorem qd_X_of_64 : decode qb_X_of 64 = .ok (.iload_n 2, 1) := by decide +kernel
theorem qd_X_of_65 : decode qb_X_of 65 = .ok (.iload_n 3, 1) := by decide +kernel
theorem qd_X_of_66 : decode qb_X_of 66 = .ok (.invokevirtual 108, 3) := by decide +kernel
theorem qd_X_of_69 : decode qb_X_of 69 = .ok (.goto 5, 3) := by decide +kernel
theorem qd_X_of_72 : decode qb_X_of 72 = .ok (.bipush (-2), 2) := by decide +kernel
theorem qd_X_of_74 : decode qb_X_of 74 = .ok (.ireturn, 1) := by decide +kernel
theorem qd_X_wild_0 : decode qb_X_wild 0 = .ok (.iload_n 1, 1) := by decide +kernel
theorem qd_X_wild_1 : decode qb_X_wild 1 = .ok (.ifCond .ne 15, 3) := by decide +kernel
theorem qd_X_wild_4 : decode qb_X_wild 4 = .ok (.aload_n 0, 1) := by decide +kernel
theorem qd_X_wild_5 : decode qb_X_wild 5 = .ok (.getfield 19, 3) := by decide +kernel
theorem qd_X_wild_8 : decode qb_X_wild 8 = .ok (.iconst 5, 1) := by decide +kernel
theorem qd_X_wild_9 : decode qb_X_wild 9 = .ok (.iconst 0, 1) := by decide +kernel
theorem qd_X_wild_10 : decode qb_X_wild 10 = .ok (.iconst (-1), 1) := by decide +kernel
theorem qd_X_wild_11 : decode qb_X_wild 11 = .ok (.iconst (-1), 1) := by decide +kernel
theorem qd_X_wild_12 : decode qb_X_wild 12 = .ok (.invokevirtual 108, 3) := by decide +kernel
theorem qd_X_wild_15 : decode qb_X_wild 15 = .ok (.ireturn, 1) := by decide +kernel
theorem qd_X_wild_16 : decode qb_X_wild 16 = .ok (.iload_n 1, 1) := by decide +kernel
theorem qd_X_wild_17 : decode qb_X_wild 17 = .ok (.iconst 1, 1) := by decide +kernel
theorem qd_X_wild_18 : decode qb_X_wild 18 = .ok (.if_icmp .eq 11, 3) := by decide +kernel
theorem qd_X_wild_21 : decode qb_X_wild 21 = .ok (.iload_n 1, 1) := by decide +kernel
theorem qd_X_wild_22 : decode qb_X_wild 22 = .ok (.iconst 2, 1) := by decide +kernel
theorem qd_X_wild_23 : decode qb_X_wild 23 = .ok (.if_icmp .eq 6, 3) := by decide +kernel
theorem qd_X_wild_26 : decode qb_X_wild 26 = .ok (.bipush (-2), 2) := by decide +kernel
theorem qd_X_wild_28 : decode qb_X_wild 28 = .ok (.ireturn, 1) := by decide +kernel
theorem qd_X_wild_29 : decode qb_X_wild 29 = .ok (.aload_n 0, 1) := by decide +kernel
theorem qd_X_wild_30 : decode qb_X_wild 30 = .ok (.getfield 19, 3) := by decide +kernel
theorem qd_X_wild_33 : decode qb_X_wild 33 = .ok (.iload_n 2, 1) := by decide +kernel
theorem qd_X_wild_34 : decode qb_X_wild 34 = .ok (.invokevirtual 115, 3) := by decide +kernel
theorem qd_X_wild_37 : decode qb_X_wild 37 = .ok (.ifCond .eq 15, 3) := by decide +kernel
theorem qd_X_wild_40 : decode qb_X_wild 40 = .ok (.aload_n 0, 1) := by decide +kernel
theorem qd_X_wild_41 : decode qb_X_wild 41 = .ok (.getfield 19, 3) := by decide +kernel
theorem qd_X_wild_44 : decode qb_X_wild 44 = .ok (.iload_n 2, 1) := by decide +kernel
theorem qd_X_wild_45 : decode qb_X_wild 45 = .ok (.invokevirtual 118, 3) := by decide +kernel
theorem qd_X_wild_48 : decode qb_X_wild 48 = .ok (.iconst 5, 1) := by decide +kernel
theorem qd_X_wild_49 : decode qb_X_wild 49 = .ok (.if_icmp .ne 6, 3) := by decide +kernel
theorem qd_X_wild_52 : decode qb_X_wild 52 = .ok (.bipush (-2), 2) := by decide +kernel
theorem qd_X_wild_54 : decode qb_X_wild 54 = .ok (.ireturn, 1) := by decide +kernel
theorem qd_X_wild_55 : decode qb_X_wild 55 = .ok (.aload_n 0, 1) := by decide +kernel
theorem qd_X_wild_56 : decode qb_X_wild 56 = .ok (.getfield 19, 3) := by decide +kernel
theorem qd_X_wild_59 : decode qb_X_wild 59 = .ok (.iconst 5, 1) := by decide +kernel
theorem qd_X_wild_60 : decode qb_X_wild 60 = .ok (.iload_n 1, 1) := by decide +kernel
theorem qd_X_wild_61 : decode qb_X_wild 61 = .ok (.iload_n 2, 1) := by decide +kernel
theorem qd_X_wild_62 : decode qb_X_wild 62 = .ok (.iconst (-1), 1) := by decide +kernel
theorem qd_X_wild_63 : decode qb_X_wild 63 = .ok (.invokevirtual 108, 3) := by decide +kernel
theorem qd_X_wild_66 : decode qb_X_wild 66 = .ok (.ireturn, 1) := by decide +kernel
theorem qd_X_variable_0 : decode qb_X_variable 0 = .ok (.aload_n 0, 1) := by decide +kernel
theorem qd_X_variable_1 : decode qb_X_variable 1 = .ok (.getfield 10, 3) := by decide +kernel
theorem qd_X_variable_4 : decode qb_X_variable 4 = .ok (.iload_n 1, 1) := by decide +kernel
theorem qd_X_variable_5 : decode qb_X_variable 5 = .ok (.iload_n 2, 1) := by decide +kernel
theorem qd_X_variable_6 : decode qb_X_variable 6 = .ok (.invokevirtual 90, 3) := by decide +kernel
theorem qd_X_variable_9 : decode qb_X_variable 9 = .ok (.ifCond .ne 6, 3) := by decide +kernel
theorem qd_X_variable_12 : decode qb_X_variable 12 = .ok (.bipush (-2), 2) := by decide +kernel
theorem qd_X_variable_14 : decode qb_X_variable 14 = .ok (.ireturn, 1) := by decide +kernel
theorem qd_X_variable_15 : decode qb_X_variable 15 = .ok (.aload_n 0, 1) := by decide +kernel
theorem qd_X_variable_16 : decode qb_X_variable 16 = .ok (.getfield 19, 3) := by decide +kernel
theorem qd_X_variable_19 : decode qb_X_variable 19 = .ok (.iconst 3, 1) := by decide +kernel
theorem qd_X_variable_20 : decode qb_X_variable 20 = .ok (.iload_n 1, 1) := by decide +kernel
theorem qd_X_variable_21 : decode qb_X_variable 21 = .ok (.iload_n 2, 1) := by decide +kernel
theorem qd_X_variable_22 : decode qb_X_variable 22 = .ok (.iconst (-1), 1) := by decide +kernel
theorem qd_X_variable_23 : decode qb_X_variable 23 = .ok (.invokevirtual 108, 3) := by decide +kernel
theorem qd_X_variable_26 : decode qb_X_variable 26 = .ok (.ireturn, 1) := by decide +kernel
theorem qd_X_row_0 : decode qb_X_row 0 = .ok (.aload_n 0, 1) := by decide +kernel
theorem qd_X_row_1 : decode qb_X_row 1 = .ok (.getfield 19, 3) := by decide +kernel
theorem qd_X_row_4 : decode qb_X_row 4 = .ok (.iload_n 1, 1) := by decide +kernel
theorem qd_X_row_5 : decode qb_X_row 5 = .ok (.invokevirtual 121, 3) := by decide +kernel
theorem qd_X_row_8 : decode qb_X_row 8 = .ok (.ifCond .eq 8, 3) := by decide +kernel
theorem qd_X_row_11 : decode qb_X_row 11 = .ok (.iload_n 1, 1) := by decide +kernel
theorem qd_X_row_12 : decode qb_X_row 12 = .ok (.iconst 2, 1) := by decide +kernel
theorem qd_X_row_13 : decode qb_X_row 13 = .ok (.if_icmp .ne 6, 3) := by decide +kernel
theorem qd_X_row_16 : decode qb_X_row 16 = .ok (.bipush (-2), 2) := by decide +kernel
theorem qd_X_row_18 : decode qb_X_row 18 = .ok (.ireturn, 1) := by decide +kernel
theorem qd_X_row_19 : decode qb_X_row 19 = .ok (.aload_n 0, 1) := by decide +kernel
theorem qd_X_row_20 : decode qb_X_row 20 = .ok (.getfield 19, 3) := by decide +kernel
theorem qd_X_row_23 : decode qb_X_row 23 = .ok (.iconst 4, 1) := by decide +kernel
theorem qd_X_row_24 : decode qb_X_row 24 = .ok (.iconst (-1), 1) := by decide +kernel
theorem qd_X_row_25 : decode qb_X_row 25 = .ok (.iload_n 1, 1) := by decide +kernel
theorem qd_X_row_26 : decode qb_X_row 26 = .ok (.iconst (-1), 1) := by decide +kernel
theorem qd_X_row_27 : decode qb_X_row 27 = .ok (.invokevirtual 108, 3) := by decide +kernel
theorem qd_X_row_30 : decode qb_X_row 30 = .ok (.ireturn, 1) := by decide +kernel
theorem qd_X_count_0 : decode qb_X_count 0 = .ok (.iload_n 1, 1) := by decide +kernel
theorem qd_X_count_1 : decode qb_X_count 1 = .ok (.ifCond .ne 11, 3) := by decide +kernel
theorem qd_X_count_4 : decode qb_X_count 4 = .ok (.aload_n 0, 1) := by decide +kernel
theorem qd_X_count_5 : decode qb_X_count 5 = .ok (.getfield 10, 3) := by decide +kernel
theorem qd_X_count_8 : decode qb_X_count 8 = .ok (.getfield 50, 3) := by decide +kernel
theorem qd_X_count_11 : decode qb_X_count 11 = .ok (.ireturn, 1) := by decide +kernel
theorem qd_X_count_12 : decode qb_X_count 12 = .ok (.iload_n 1, 1) := by decide +kernel
theorem qd_X_count_13 : decode qb_X_count 13 = .ok (.iconst 1, 1) := by decide +kernel
theorem qd_X_count_14 : decode qb_X_count 14 = .ok (.if_icmp .ne 13, 3) := by decide +kernel
theorem qd_X_count_17 : decode qb_X_count 17 = .ok (.aload_n 0, 1) := by decide +kernel
theorem qd_X_count_18 : decode qb_X_count 18 = .ok (.getfield 19, 3) := by decide +kernel
theorem qd_X_count_21 : decode qb_X_count 21 = .ok (.getfield 124, 3) := by decide +kernel
theorem qd_X_count_24 : decode qb_X_count 24 = .ok (.goto 5, 3) := by decide +kernel
theorem qd_X_count_27 : decode qb_X_count 27 = .ok (.bipush (-2), 2) := by decide +kernel
theorem qd_X_count_29 : decode qb_X_count 29 = .ok (.ireturn, 1) := by decide +kernel
theorem qd_X_told_0 : decode qb_X_told 0 = .ok (.aload_n 0, 1) := by decide +kernel
theorem qd_X_told_1 : decode qb_X_told 1 = .ok (.getfield 19, 3) := by decide +kernel
theorem qd_X_told_4 : decode qb_X_told 4 = .ok (.iload_n 1, 1) := by decide +kernel
theorem qd_X_told_5 : decode qb_X_told 5 = .ok (.invokevirtual 127, 3) := by decide +kernel
theorem qd_X_told_8 : decode qb_X_told 8 = .ok (.ifCond .ne 6, 3) := by decide +kernel
theorem qd_X_told_11 : decode qb_X_told 11 = .ok (.bipush (-2), 2) := by decide +kernel
theorem qd_X_told_13 : decode qb_X_told 13 = .ok (.ireturn, 1) := by decide +kernel
theorem qd_X_told_14 : decode qb_X_told 14 = .ok (.iload_n 2, 1) := by decide +kernel
theorem qd_X_told_15 : decode qb_X_told 15 = .ok (.tableswitch 78 0 4 #[33, 42, 51, 60, 69], 33) := by decide +kernel
theorem qd_X_told_48 : decode qb_X_told 48 = .ok (.aload_n 0, 1) := by decide +kernel
theorem qd_X_told_49 : decode qb_X_told 49 = .ok (.getfield 19, 3) := by decide +kernel
theorem qd_X_told_52 : decode qb_X_told 52 = .ok (.iload_n 1, 1) := by decide +kernel
theorem qd_X_told_53 : decode qb_X_told 53 = .ok (.invokevirtual 118, 3) := by decide +kernel
theorem qd_X_told_56 : decode qb_X_told 56 = .ok (.ireturn, 1) := by decide +kernel
theorem qd_X_told_57 : decode qb_X_told 57 = .ok (.aload_n 0, 1) := by decide +kernel
theorem qd_X_told_58 : decode qb_X_told 58 = .ok (.getfield 19, 3) := by decide +kernel
theorem qd_X_told_61 : decode qb_X_told 61 = .ok (.iload_n 1, 1) := by decide +kernel
theorem qd_X_told_62 : decode qb_X_told 62 = .ok (.invokevirtual 66, 3) := by decide +kernel
theorem qd_X_told_65 : decode qb_X_told 65 = .ok (.ireturn, 1) := by decide +kernel
theorem qd_X_told_66 : decode qb_X_told 66 = .ok (.aload_n 0, 1) := by decide +kernel
theorem qd_X_told_67 : decode qb_X_told 67 = .ok (.getfield 19, 3) := by decide +kernel
theorem qd_X_told_70 : decode qb_X_told 70 = .ok (.iload_n 1, 1) := by decide +kernel
theorem qd_X_told_71 : decode qb_X_told 71 = .ok (.invokevirtual 128, 3) := by decide +kernel
theorem qd_X_told_74 : decode qb_X_told 74 = .ok (.ireturn, 1) := by decide +kernel
theorem qd_X_told_75 : decode qb_X_told 75 = .ok (.aload_n 0, 1) := by decide +kernel
theorem qd_X_told_76 : decode qb_X_told 76 = .ok (.getfield 19, 3) := by decide +kernel
theorem qd_X_told_79 : decode qb_X_told 79 = .ok (.iload_n 1, 1) := by decide +kernel
theorem qd_X_told_80 : decode qb_X_told 80 = .ok (.invokevirtual 131, 3) := by decide +kernel
theorem qd_X_told_83 : decode qb_X_told 83 = .ok (.ireturn, 1) := by decide +kernel
theorem qd_X_told_84 : decode qb_X_told 84 = .ok (.aload_n 0, 1) := by decide +kernel
theorem qd_X_told_85 : decode qb_X_told 85 = .ok (.getfield 19, 3) := by decide +kernel
theorem qd_X_told_88 : decode qb_X_told 88 = .ok (.iload_n 1, 1) := by decide +kernel
theorem qd_X_told_89 : decode qb_X_told 89 = .ok (.invokevirtual 134, 3) := by decide +kernel
theorem qd_X_told_92 : decode qb_X_told 92 = .ok (.ireturn, 1) := by decide +kernel
theorem qd_X_told_93 : decode qb_X_told 93 = .ok (.bipush (-2), 2) := by decide +kernel
theorem qd_X_told_95 : decode qb_X_told 95 = .ok (.ireturn, 1) := by decide +kernel
theorem qd_X_known_0 : decode qb_X_known 0 = .ok (.aload_n 0, 1) := by decide +kernel
theorem qd_X_known_1 : decode qb_X_known 1 = .ok (.getfield 10, 3) := by decide +kernel
theorem qd_X_known_4 : decode qb_X_known 4 = .ok (.iload_n 1, 1) := by decide +kernel
theorem qd_X_known_5 : decode qb_X_known 5 = .ok (.invokevirtual 101, 3) := by decide +kernel
theorem qd_X_known_8 : decode qb_X_known 8 = .ok (.ifCond .ne 6, 3) := by decide +kernel
theorem qd_X_known_11 : decode qb_X_known 11 = .ok (.bipush (-2), 2) := by decide +kernel
theorem qd_X_known_13 : decode qb_X_known 13 = .ok (.ireturn, 1) := by decide +kernel
theorem qd_X_known_14 : decode qb_X_known 14 = .ok (.iload_n 2, 1) := by decide +kernel
theorem qd_X_known_15 : decode qb_X_known 15 = .ok (.tableswitch 65 0 3 #[29, 38, 47, 56], 29) := by decide +kernel
theorem qd_X_known_44 : decode qb_X_known 44 = .ok (.aload_n 0, 1) := by decide +kernel
theorem qd_X_known_45 : decode qb_X_known 45 = .ok (.getfield 10, 3) := by decide +kernel
theorem qd_X_known_48 : decode qb_X_known 48 = .ok (.iload_n 1, 1) := by decide +kernel
theorem qd_X_known_49 : decode qb_X_known 49 = .ok (.invokevirtual 137, 3) := by decide +kernel
theorem qd_X_known_52 : decode qb_X_known 52 = .ok (.ireturn, 1) := by decide +kernel
theorem qd_X_known_53 : decode qb_X_known 53 = .ok (.aload_n 0, 1) := by decide +kernel
theorem qd_X_known_54 : decode qb_X_known 54 = .ok (.getfield 10, 3) := by decide +kernel
theorem qd_X_known_57 : decode qb_X_known 57 = .ok (.iload_n 1, 1) := by decide +kernel
theorem qd_X_known_58 : decode qb_X_known 58 = .ok (.invokevirtual 112, 3) := by decide +kernel
theorem qd_X_known_61 : decode qb_X_known 61 = .ok (.ireturn, 1) := by decide +kernel
theorem qd_X_known_62 : decode qb_X_known 62 = .ok (.aload_n 0, 1) := by decide +kernel
theorem qd_X_known_63 : decode qb_X_known 63 = .ok (.getfield 10, 3) := by decide +kernel
theorem qd_X_known_66 : decode qb_X_known 66 = .ok (.iload_n 1, 1) := by decide +kernel
theorem qd_X_known_67 : decode qb_X_known 67 = .ok (.invokevirtual 140, 3) := by decide +kernel
theorem qd_X_known_70 : decode qb_X_known 70 = .ok (.ireturn, 1) := by decide +kernel
theorem qd_X_known_71 : decode qb_X_known 71 = .ok (.aload_n 0, 1) := by decide +kernel
theorem qd_X_known_72 : decode qb_X_known 72 = .ok (.getfield 10, 3) := by decide +kernel
theorem qd_X_known_75 : decode qb_X_known 75 = .ok (.iload_n 1, 1) := by decide +kernel
theorem qd_X_known_76 : decode qb_X_known 76 = .ok (.invokevirtual 143, 3) := by decide +kernel
theorem qd_X_known_79 : decode qb_X_known 79 = .ok (.ireturn, 1) := by decide +kernel
theorem qd_X_known_80 : decode qb_X_known 80 = .ok (.bipush (-2), 2) := by decide +kernel
theorem qd_X_known_82 : decode qb_X_known 82 = .ok (.ireturn, 1) := by decide +kernel
theorem qd_X_below_0 : decode qb_X_below 0 = .ok (.aload_n 0, 1) := by decide +kernel
theorem qd_X_below_1 : decode qb_X_below 1 = .ok (.getfield 10, 3) := by decide +kernel
theorem qd_X_below_4 : decode qb_X_below 4 = .ok (.iload_n 1, 1) := by decide +kernel
theorem qd_X_below_5 : decode qb_X_below 5 = .ok (.invokevirtual 101, 3) := by decide +kernel
theorem qd_X_below_8 : decode qb_X_below 8 = .ok (.ifCond .eq 14, 3) := by decide +kernel
theorem qd_X_below_11 : decode qb_X_below 11 = .ok (.aload_n 0, 1) := by decide +kernel
theorem qd_X_below_12 : decode qb_X_below 12 = .ok (.getfield 10, 3) := by decide +kernel
theorem qd_X_below_15 : decode qb_X_below 15 = .ok (.iload_n 2, 1) := by decide +kernel
theorem qd_X_below_16 : decode qb_X_below 16 = .ok (.invokevirtual 101, 3) := by decide +kernel
theorem qd_X_below_19 : decode qb_X_below 19 = .ok (.ifCond .ne 6, 3) := by decide +kernel
theorem qd_X_below_22 : decode qb_X_below 22 = .ok (.bipush (-2), 2) := by decide +kernel
theorem qd_X_below_24 : decode qb_X_below 24 = .ok (.ireturn, 1) := by decide +kernel
theorem qd_X_below_25 : decode qb_X_below 25 = .ok (.aload_n 0, 1) := by decide +kernel
theorem qd_X_below_26 : decode qb_X_below 26 = .ok (.getfield 10, 3) := by decide +kernel
theorem qd_X_below_29 : decode qb_X_below 29 = .ok (.iload_n 1, 1) := by decide +kernel
theorem qd_X_below_30 : decode qb_X_below 30 = .ok (.iload_n 2, 1) := by decide +kernel
theorem qd_X_below_31 : decode qb_X_below 31 = .ok (.invokevirtual 146, 3) := by decide +kernel
theorem qd_X_below_34 : decode qb_X_below 34 = .ok (.ifCond .eq 7, 3) := by decide +kernel
theorem qd_X_below_37 : decode qb_X_below 37 = .ok (.iconst 1, 1) := by decide +kernel
theorem qd_X_below_38 : decode qb_X_below 38 = .ok (.goto 4, 3) := by decide +kernel
theorem qd_X_below_41 : decode qb_X_below 41 = .ok (.iconst 0, 1) := by decide +kernel
theorem qd_X_below_42 : decode qb_X_below 42 = .ok (.ireturn, 1) := by decide +kernel
theorem qd_X_apart_0 : decode qb_X_apart 0 = .ok (.aload_n 0, 1) := by decide +kernel
theorem qd_X_apart_1 : decode qb_X_apart 1 = .ok (.getfield 10, 3) := by decide +kernel
theorem qd_X_apart_4 : decode qb_X_apart 4 = .ok (.iload_n 1, 1) := by decide +kernel
theorem qd_X_apart_5 : decode qb_X_apart 5 = .ok (.invokevirtual 101, 3) := by decide +kernel
theorem qd_X_apart_8 : decode qb_X_apart 8 = .ok (.ifCond .eq 14, 3) := by decide +kernel
theorem qd_X_apart_11 : decode qb_X_apart 11 = .ok (.aload_n 0, 1) := by decide +kernel
theorem qd_X_apart_12 : decode qb_X_apart 12 = .ok (.getfield 10, 3) := by decide +kernel
theorem qd_X_apart_15 : decode qb_X_apart 15 = .ok (.iload_n 2, 1) := by decide +kernel
theorem qd_X_apart_16 : decode qb_X_apart 16 = .ok (.invokevirtual 101, 3) := by decide +kernel
theorem qd_X_apart_19 : decode qb_X_apart 19 = .ok (.ifCond .ne 6, 3) := by decide +kernel
theorem qd_X_apart_22 : decode qb_X_apart 22 = .ok (.bipush (-2), 2) := by decide +kernel
theorem qd_X_apart_24 : decode qb_X_apart 24 = .ok (.ireturn, 1) := by decide +kernel
theorem qd_X_apart_25 : decode qb_X_apart 25 = .ok (.aload_n 0, 1) := by decide +kernel
theorem qd_X_apart_26 : decode qb_X_apart 26 = .ok (.getfield 10, 3) := by decide +kernel
theorem qd_X_apart_29 : decode qb_X_apart 29 = .ok (.iload_n 1, 1) := by decide +kernel
theorem qd_X_apart_30 : decode qb_X_apart 30 = .ok (.iload_n 2, 1) := by decide +kernel
theorem qd_X_apart_31 : decode qb_X_apart 31 = .ok (.invokevirtual 149, 3) := by decide +kernel
theorem qd_X_apart_34 : decode qb_X_apart 34 = .ok (.ifCond .eq 7, 3) := by decide +kernel
theorem qd_X_apart_37 : decode qb_X_apart 37 = .ok (.iconst 1, 1) := by decide +kernel
theorem qd_X_apart_38 : decode qb_X_apart 38 = .ok (.goto 4, 3) := by decide +kernel
theorem qd_X_apart_41 : decode qb_X_apart 41 = .ok (.iconst 0, 1) := by decide +kernel
theorem qd_X_apart_42 : decode qb_X_apart 42 = .ok (.ireturn, 1) := by decide +kernel
theorem qd_X_is_0 : decode qb_X_is 0 = .ok (.aload_n 0, 1) := by decide +kernel
theorem qd_X_is_1 : decode qb_X_is 1 = .ok (.getfield 19, 3) := by decide +kernel
theorem qd_X_is_4 : decode qb_X_is 4 = .ok (.iload_n 1, 1) := by decide +kernel
theorem qd_X_is_5 : decode qb_X_is 5 = .ok (.invokevirtual 121, 3) := by decide +kernel
theorem qd_X_is_8 : decode qb_X_is 8 = .ok (.ifCond .eq 14, 3) := by decide +kernel
theorem qd_X_is_11 : decode qb_X_is 11 = .ok (.aload_n 0, 1) := by decide +kernel
theorem qd_X_is_12 : decode qb_X_is 12 = .ok (.getfield 19, 3) := by decide +kernel
theorem qd_X_is_15 : decode qb_X_is 15 = .ok (.iload_n 2, 1) := by decide +kernel
theorem qd_X_is_16 : decode qb_X_is 16 = .ok (.invokevirtual 121, 3) := by decide +kernel
theorem qd_X_is_19 : decode qb_X_is 19 = .ok (.ifCond .ne 6, 3) := by decide +kernel
theorem qd_X_is_22 : decode qb_X_is 22 = .ok (.bipush (-2), 2) := by decide +kernel
theorem qd_X_is_24 : decode qb_X_is 24 = .ok (.ireturn, 1) := by decide +kernel
theorem qd_X_is_25 : decode qb_X_is 25 = .ok (.iconst 0, 1) := by decide +kernel
theorem qd_X_is_26 : decode qb_X_is 26 = .ok (.istore_n 3, 1) := by decide +kernel
theorem qd_X_is_27 : decode qb_X_is 27 = .ok (.aload_n 0, 1) := by decide +kernel
theorem qd_X_is_28 : decode qb_X_is 28 = .ok (.getfield 37, 3) := by decide +kernel
theorem qd_X_is_31 : decode qb_X_is 31 = .ok (.iload_n 1, 1) := by decide +kernel
theorem qd_X_is_32 : decode qb_X_is 32 = .ok (.iload_n 2, 1) := by decide +kernel
theorem qd_X_is_33 : decode qb_X_is 33 = .ok (.bipush 40, 2) := by decide +kernel
theorem qd_X_is_35 : decode qb_X_is 35 = .ok (.invokevirtual 152, 3) := by decide +kernel
theorem qd_X_is_38 : decode qb_X_is 38 = .ok (.ifCond .eq 8, 3) := by decide +kernel
theorem qd_X_is_41 : decode qb_X_is 41 = .ok (.iconst 1, 1) := by decide +kernel
theorem qd_X_is_42 : decode qb_X_is 42 = .ok (.istore_n 3, 1) := by decide +kernel
theorem qd_X_is_43 : decode qb_X_is 43 = .ok (.goto 19, 3) := by decide +kernel
theorem qd_X_is_46 : decode qb_X_is 46 = .ok (.aload_n 0, 1) := by decide +kernel
theorem qd_X_is_47 : decode qb_X_is 47 = .ok (.getfield 37, 3) := by decide +kernel
theorem qd_X_is_50 : decode qb_X_is 50 = .ok (.iload_n 1, 1) := by decide +kernel
theorem qd_X_is_51 : decode qb_X_is 51 = .ok (.iload_n 2, 1) := by decide +kernel
theorem qd_X_is_52 : decode qb_X_is 52 = .ok (.bipush 40, 2) := by decide +kernel
theorem qd_X_is_54 : decode qb_X_is 54 = .ok (.invokevirtual 155, 3) := by decide +kernel
theorem qd_X_is_57 : decode qb_X_is 57 = .ok (.ifCond .eq 5, 3) := by decide +kernel
theorem qd_X_is_60 : decode qb_X_is 60 = .ok (.iconst 2, 1) := by decide +kernel
theorem qd_X_is_61 : decode qb_X_is 61 = .ok (.istore_n 3, 1) := by decide +kernel
theorem qd_X_is_62 : decode qb_X_is 62 = .ok (.aload_n 0, 1) := by decide +kernel
theorem qd_X_is_63 : decode qb_X_is 63 = .ok (.getfield 19, 3) := by decide +kernel
theorem qd_X_is_66 : decode qb_X_is 66 = .ok (.aload_n 0, 1) := by decide +kernel
theorem qd_X_is_67 : decode qb_X_is 67 = .ok (.getfield 19, 3) := by decide +kernel
theorem qd_X_is_70 : decode qb_X_is 70 = .ok (.getfield 124, 3) := by decide +kernel
theorem qd_X_is_73 : decode qb_X_is 73 = .ok (.invokevirtual 158, 3) := by decide +kernel
theorem qd_X_is_76 : decode qb_X_is 76 = .ok (.iload_n 3, 1) := by decide +kernel
theorem qd_X_is_77 : decode qb_X_is 77 = .ok (.ireturn, 1) := by decide +kernel
theorem qd_X_may_0 : decode qb_X_may 0 = .ok (.aload_n 0, 1) := by decide +kernel
theorem qd_X_may_1 : decode qb_X_may 1 = .ok (.getfield 19, 3) := by decide +kernel
theorem qd_X_may_4 : decode qb_X_may 4 = .ok (.iload_n 1, 1) := by decide +kernel
theorem qd_X_may_5 : decode qb_X_may 5 = .ok (.invokevirtual 121, 3) := by decide +kernel
theorem qd_X_may_8 : decode qb_X_may 8 = .ok (.ifCond .eq 19, 3) := by decide +kernel
theorem qd_X_may_11 : decode qb_X_may 11 = .ok (.aload_n 0, 1) := by decide +kernel
theorem qd_X_may_12 : decode qb_X_may 12 = .ok (.getfield 19, 3) := by decide +kernel
theorem qd_X_may_15 : decode qb_X_may 15 = .ok (.iload_n 2, 1) := by decide +kernel
theorem qd_X_may_16 : decode qb_X_may 16 = .ok (.invokevirtual 121, 3) := by decide +kernel
theorem qd_X_may_19 : decode qb_X_may 19 = .ok (.ifCond .eq 8, 3) := by decide +kernel
theorem qd_X_may_22 : decode qb_X_may 22 = .ok (.iload_n 2, 1) := by decide +kernel
theorem qd_X_may_23 : decode qb_X_may 23 = .ok (.iconst 2, 1) := by decide +kernel
theorem qd_X_may_24 : decode qb_X_may 24 = .ok (.if_icmp .ne 6, 3) := by decide +kernel
theorem qd_X_may_27 : decode qb_X_may 27 = .ok (.bipush (-2), 2) := by decide +kernel
theorem qd_X_may_29 : decode qb_X_may 29 = .ok (.ireturn, 1) := by decide +kernel
theorem qd_X_may_30 : decode qb_X_may 30 = .ok (.aload_n 0, 1) := by decide +kernel
theorem qd_X_may_31 : decode qb_X_may 31 = .ok (.getfield 46, 3) := by decide +kernel
theorem qd_X_may_34 : decode qb_X_may 34 = .ok (.iload_n 1, 1) := by decide +kernel
theorem qd_X_may_35 : decode qb_X_may 35 = .ok (.iload_n 2, 1) := by decide +kernel
theorem qd_X_may_36 : decode qb_X_may 36 = .ok (.bipush 40, 2) := by decide +kernel
theorem qd_X_may_38 : decode qb_X_may 38 = .ok (.invokevirtual 162, 3) := by decide +kernel
theorem qd_X_may_41 : decode qb_X_may 41 = .ok (.istore_n 3, 1) := by decide +kernel
theorem qd_X_may_42 : decode qb_X_may 42 = .ok (.aload_n 0, 1) := by decide +kernel
theorem qd_X_may_43 : decode qb_X_may 43 = .ok (.getfield 19, 3) := by decide +kernel
theorem qd_X_may_46 : decode qb_X_may 46 = .ok (.aload_n 0, 1) := by decide +kernel
theorem qd_X_may_47 : decode qb_X_may 47 = .ok (.getfield 19, 3) := by decide +kernel
theorem qd_X_may_50 : decode qb_X_may 50 = .ok (.getfield 124, 3) := by decide +kernel
theorem qd_X_may_53 : decode qb_X_may 53 = .ok (.invokevirtual 158, 3) := by decide +kernel
theorem qd_X_may_56 : decode qb_X_may 56 = .ok (.iload_n 3, 1) := by decide +kernel
theorem qd_X_may_57 : decode qb_X_may 57 = .ok (.ifCond .eq 7, 3) := by decide +kernel
theorem qd_X_may_60 : decode qb_X_may 60 = .ok (.iconst 1, 1) := by decide +kernel
theorem qd_X_may_61 : decode qb_X_may 61 = .ok (.goto 4, 3) := by decide +kernel
theorem qd_X_may_64 : decode qb_X_may 64 = .ok (.iconst 0, 1) := by decide +kernel
theorem qd_X_may_65 : decode qb_X_may 65 = .ok (.ireturn, 1) := by decide +kernel
theorem qd_X_as_0 : decode qb_X_as 0 = .ok (.aload_n 0, 1) := by decide +kernel
theorem qd_X_as_1 : decode qb_X_as 1 = .ok (.getfield 19, 3) := by decide +kernel
theorem qd_X_as_4 : decode qb_X_as 4 = .ok (.iload_n 1, 1) := by decide +kernel
theorem qd_X_as_5 : decode qb_X_as 5 = .ok (.invokevirtual 121, 3) := by decide +kernel
theorem qd_X_as_8 : decode qb_X_as 8 = .ok (.ifCond .eq 25, 3) := by decide +kernel
theorem qd_X_as_11 : decode qb_X_as 11 = .ok (.aload_n 0, 1) := by decide +kernel
theorem qd_X_as_12 : decode qb_X_as 12 = .ok (.getfield 19, 3) := by decide +kernel
theorem qd_X_as_15 : decode qb_X_as 15 = .ok (.iload_n 1, 1) := by decide +kernel
theorem qd_X_as_16 : decode qb_X_as 16 = .ok (.invokevirtual 165, 3) := by decide +kernel
theorem qd_X_as_19 : decode qb_X_as 19 = .ok (.ifCond .ne 14, 3) := by decide +kernel
theorem qd_X_as_22 : decode qb_X_as 22 = .ok (.aload_n 0, 1) := by decide +kernel
theorem qd_X_as_23 : decode qb_X_as 23 = .ok (.getfield 10, 3) := by decide +kernel
theorem qd_X_as_26 : decode qb_X_as 26 = .ok (.iload_n 2, 1) := by decide +kernel
theorem qd_X_as_27 : decode qb_X_as 27 = .ok (.invokevirtual 101, 3) := by decide +kernel
theorem qd_X_as_30 : decode qb_X_as 30 = .ok (.ifCond .ne 6, 3) := by decide +kernel
theorem qd_X_as_33 : decode qb_X_as 33 = .ok (.bipush (-2), 2) := by decide +kernel
theorem qd_X_as_35 : decode qb_X_as 35 = .ok (.ireturn, 1) := by decide +kernel
theorem qd_X_as_36 : decode qb_X_as 36 = .ok (.aload_n 0, 1) := by decide +kernel
theorem qd_X_as_37 : decode qb_X_as 37 = .ok (.getfield 19, 3) := by decide +kernel
theorem qd_X_as_40 : decode qb_X_as 40 = .ok (.iload_n 1, 1) := by decide +kernel
theorem qd_X_as_41 : decode qb_X_as 41 = .ok (.invokevirtual 168, 3) := by decide +kernel
theorem qd_X_as_44 : decode qb_X_as 44 = .ok (.ifCond .eq 22, 3) := by decide +kernel
theorem qd_X_as_47 : decode qb_X_as 47 = .ok (.aload_n 0, 1) := by decide +kernel
theorem qd_X_as_48 : decode qb_X_as 48 = .ok (.getfield 10, 3) := by decide +kernel
theorem qd_X_as_51 : decode qb_X_as 51 = .ok (.aload_n 0, 1) := by decide +kernel
theorem qd_X_as_52 : decode qb_X_as 52 = .ok (.getfield 19, 3) := by decide +kernel
theorem qd_X_as_55 : decode qb_X_as 55 = .ok (.iload_n 1, 1) := by decide +kernel
theorem qd_X_as_56 : decode qb_X_as 56 = .ok (.invokevirtual 66, 3) := by decide +kernel
theorem qd_X_as_59 : decode qb_X_as 59 = .ok (.iload_n 2, 1) := by decide +kernel
theorem qd_X_as_60 : decode qb_X_as 60 = .ok (.invokevirtual 146, 3) := by decide +kernel
theorem qd_X_as_63 : decode qb_X_as 63 = .ok (.ifCond .ne 5, 3) := by decide +kernel
theorem qd_X_as_66 : decode qb_X_as 66 = .ok (.iconst (-1), 1) := by decide +kernel
theorem qd_X_as_67 : decode qb_X_as 67 = .ok (.ireturn, 1) := by decide +kernel
theorem qd_X_as_68 : decode qb_X_as 68 = .ok (.aload_n 0, 1) := by decide +kernel
theorem qd_X_as_69 : decode qb_X_as 69 = .ok (.aload_n 0, 1) := by decide +kernel
theorem qd_X_as_70 : decode qb_X_as 70 = .ok (.getfield 28, 3) := by decide +kernel
theorem qd_X_as_73 : decode qb_X_as 73 = .ok (.iload_n 1, 1) := by decide +kernel
theorem qd_X_as_74 : decode qb_X_as 74 = .ok (.iload_n 2, 1) := by decide +kernel
theorem qd_X_as_75 : decode qb_X_as 75 = .ok (.invokevirtual 171, 3) := by decide +kernel
theorem qd_X_as_78 : decode qb_X_as 78 = .ok (.invokevirtual 174, 3) := by decide +kernel
theorem qd_X_as_81 : decode qb_X_as 81 = .ok (.ireturn, 1) := by decide +kernel
theorem qd_X_settle_0 : decode qb_X_settle 0 = .ok (.aload_n 0, 1) := by decide +kernel
theorem qd_X_settle_1 : decode qb_X_settle 1 = .ok (.getfield 19, 3) := by decide +kernel
theorem qd_X_settle_4 : decode qb_X_settle 4 = .ok (.iload_n 1, 1) := by decide +kernel
theorem qd_X_settle_5 : decode qb_X_settle 5 = .ok (.invokevirtual 127, 3) := by decide +kernel
theorem qd_X_settle_8 : decode qb_X_settle 8 = .ok (.ifCond .eq 7, 3) := by decide +kernel
theorem qd_X_settle_11 : decode qb_X_settle 11 = .ok (.iload_n 1, 1) := by decide +kernel
theorem qd_X_settle_12 : decode qb_X_settle 12 = .ok (.goto 5, 3) := by decide +kernel
theorem qd_X_settle_15 : decode qb_X_settle 15 = .ok (.bipush (-3), 2) := by decide +kernel
theorem qd_X_settle_17 : decode qb_X_settle 17 = .ok (.istore_n 2, 1) := by decide +kernel
theorem qd_X_settle_18 : decode qb_X_settle 18 = .ok (.aload_n 0, 1) := by decide +kernel
theorem qd_X_settle_19 : decode qb_X_settle 19 = .ok (.getfield 19, 3) := by decide +kernel
theorem qd_X_settle_22 : decode qb_X_settle 22 = .ok (.aload_n 0, 1) := by decide +kernel
theorem qd_X_settle_23 : decode qb_X_settle 23 = .ok (.getfield 19, 3) := by decide +kernel
theorem qd_X_settle_26 : decode qb_X_settle 26 = .ok (.getfield 124, 3) := by decide +kernel
theorem qd_X_settle_29 : decode qb_X_settle 29 = .ok (.invokevirtual 158, 3) := by decide +kernel
theorem qd_X_settle_32 : decode qb_X_settle 32 = .ok (.iload_n 2, 1) := by decide +kernel
theorem qd_X_settle_33 : decode qb_X_settle 33 = .ok (.ireturn, 1) := by decide +kernel
theorem qd_X_erased_0 : decode qb_X_erased 0 = .ok (.aload_n 0, 1) := by decide +kernel
theorem qd_X_erased_1 : decode qb_X_erased 1 = .ok (.getfield 19, 3) := by decide +kernel
theorem qd_X_erased_4 : decode qb_X_erased 4 = .ok (.iload_n 1, 1) := by decide +kernel
theorem qd_X_erased_5 : decode qb_X_erased 5 = .ok (.invokevirtual 121, 3) := by decide +kernel
theorem qd_X_erased_8 : decode qb_X_erased 8 = .ok (.ifCond .eq 13, 3) := by decide +kernel
theorem qd_X_erased_11 : decode qb_X_erased 11 = .ok (.iload_n 1, 1) := by decide +kernel
theorem qd_X_erased_12 : decode qb_X_erased 12 = .ok (.iconst 1, 1) := by decide +kernel
theorem qd_X_erased_13 : decode qb_X_erased 13 = .ok (.if_icmp .eq 8, 3) := by decide +kernel
theorem qd_X_erased_16 : decode qb_X_erased 16 = .ok (.iload_n 1, 1) := by decide +kernel
theorem qd_X_erased_17 : decode qb_X_erased 17 = .ok (.iconst 2, 1) := by decide +kernel
theorem qd_X_erased_18 : decode qb_X_erased 18 = .ok (.if_icmp .ne 6, 3) := by decide +kernel
theorem qd_X_erased_21 : decode qb_X_erased 21 = .ok (.bipush (-2), 2) := by decide +kernel
theorem qd_X_erased_23 : decode qb_X_erased 23 = .ok (.ireturn, 1) := by decide +kernel
theorem qd_X_erased_24 : decode qb_X_erased 24 = .ok (.aload_n 0, 1) := by decide +kernel
theorem qd_X_erased_25 : decode qb_X_erased 25 = .ok (.aload_n 0, 1) := by decide +kernel
theorem qd_X_erased_26 : decode qb_X_erased 26 = .ok (.getfield 28, 3) := by decide +kernel
theorem qd_X_erased_29 : decode qb_X_erased 29 = .ok (.iload_n 1, 1) := by decide +kernel
theorem qd_X_erased_30 : decode qb_X_erased 30 = .ok (.invokevirtual 177, 3) := by decide +kernel
theorem qd_X_erased_33 : decode qb_X_erased 33 = .ok (.invokevirtual 174, 3) := by decide +kernel
theorem qd_X_erased_36 : decode qb_X_erased 36 = .ok (.ireturn, 1) := by decide +kernel
theorem qd_X_good_0 : decode qb_X_good 0 = .ok (.aload_n 0, 1) := by decide +kernel
theorem qd_X_good_1 : decode qb_X_good 1 = .ok (.getfield 19, 3) := by decide +kernel
theorem qd_X_good_4 : decode qb_X_good 4 = .ok (.iload_n 1, 1) := by decide +kernel
theorem qd_X_good_5 : decode qb_X_good 5 = .ok (.invokevirtual 127, 3) := by decide +kernel
theorem qd_X_good_8 : decode qb_X_good 8 = .ok (.ifCond .eq 15, 3) := by decide +kernel
theorem qd_X_good_11 : decode qb_X_good 11 = .ok (.aload_n 0, 1) := by decide +kernel
theorem qd_X_good_12 : decode qb_X_good 12 = .ok (.getfield 19, 3) := by decide +kernel
theorem qd_X_good_15 : decode qb_X_good 15 = .ok (.iload_n 1, 1) := by decide +kernel
theorem qd_X_good_16 : decode qb_X_good 16 = .ok (.invokevirtual 118, 3) := by decide +kernel
theorem qd_X_good_19 : decode qb_X_good 19 = .ok (.iconst 2, 1) := by decide +kernel
theorem qd_X_good_20 : decode qb_X_good 20 = .ok (.if_icmp .eq 6, 3) := by decide +kernel
theorem qd_X_good_23 : decode qb_X_good 23 = .ok (.bipush (-2), 2) := by decide +kernel
theorem qd_X_good_25 : decode qb_X_good 25 = .ok (.ireturn, 1) := by decide +kernel
theorem qd_X_good_26 : decode qb_X_good 26 = .ok (.aload_n 0, 1) := by decide +kernel
theorem qd_X_good_27 : decode qb_X_good 27 = .ok (.getfield 37, 3) := by decide +kernel
theorem qd_X_good_30 : decode qb_X_good 30 = .ok (.iload_n 1, 1) := by decide +kernel
theorem qd_X_good_31 : decode qb_X_good 31 = .ok (.invokevirtual 180, 3) := by decide +kernel
theorem qd_X_good_34 : decode qb_X_good 34 = .ok (.istore_n 2, 1) := by decide +kernel
theorem qd_X_good_35 : decode qb_X_good 35 = .ok (.aload_n 0, 1) := by decide +kernel
theorem qd_X_good_36 : decode qb_X_good 36 = .ok (.getfield 19, 3) := by decide +kernel
theorem qd_X_good_39 : decode qb_X_good 39 = .ok (.aload_n 0, 1) := by decide +kernel
theorem qd_X_good_40 : decode qb_X_good 40 = .ok (.getfield 19, 3) := by decide +kernel
theorem qd_X_good_43 : decode qb_X_good 43 = .ok (.getfield 124, 3) := by decide +kernel
theorem qd_X_good_46 : decode qb_X_good 46 = .ok (.invokevirtual 158, 3) := by decide +kernel
theorem qd_X_good_49 : decode qb_X_good 49 = .ok (.iload_n 2, 1) := by decide +kernel
theorem qd_X_good_50 : decode qb_X_good 50 = .ok (.ifCond .eq 7, 3) := by decide +kernel
theorem qd_X_good_53 : decode qb_X_good 53 = .ok (.iconst 1, 1) := by decide +kernel
theorem qd_X_good_54 : decode qb_X_good 54 = .ok (.goto 4, 3) := by decide +kernel
theorem qd_X_good_57 : decode qb_X_good 57 = .ok (.iconst 0, 1) := by decide +kernel
theorem qd_X_good_58 : decode qb_X_good 58 = .ok (.ireturn, 1) := by decide +kernel
