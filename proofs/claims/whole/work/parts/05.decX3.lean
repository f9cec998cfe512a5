theorem dX3_init_0 : decode cX3_init 0 = .ok (.aload_n 0, 1) := by decide +kernel
theorem dX3_init_1 : decode cX3_init 1 = .ok (.invokespecial 3, 3) := by decide +kernel
theorem dX3_init_4 : decode cX3_init 4 = .ok (.aload_n 0, 1) := by decide +kernel
theorem dX3_init_5 : decode cX3_init 5 = .ok (.aload_n 1, 1) := by decide +kernel
theorem dX3_init_6 : decode cX3_init 6 = .ok (.putfield 9, 3) := by decide +kernel
theorem dX3_init_9 : decode cX3_init 9 = .ok (.aload_n 0, 1) := by decide +kernel
theorem dX3_init_10 : decode cX3_init 10 = .ok (.aload_n 2, 1) := by decide +kernel
theorem dX3_init_11 : decode cX3_init 11 = .ok (.putfield 15, 3) := by decide +kernel
theorem dX3_init_14 : decode cX3_init 14 = .ok (.aload_n 0, 1) := by decide +kernel
theorem dX3_init_15 : decode cX3_init 15 = .ok (.aload_n 3, 1) := by decide +kernel
theorem dX3_init_16 : decode cX3_init 16 = .ok (.putfield 18, 3) := by decide +kernel
theorem dX3_init_19 : decode cX3_init 19 = .ok (.aload_n 0, 1) := by decide +kernel
theorem dX3_init_20 : decode cX3_init 20 = .ok (.aload 4, 2) := by decide +kernel
theorem dX3_init_22 : decode cX3_init 22 = .ok (.putfield 22, 3) := by decide +kernel
theorem dX3_init_25 : decode cX3_init 25 = .ok (.aload_n 0, 1) := by decide +kernel
theorem dX3_init_26 : decode cX3_init 26 = .ok (.invokevirtual 26, 3) := by decide +kernel
theorem dX3_init_29 : decode cX3_init 29 = .ok (.return_, 1) := by decide +kernel
theorem dX3_references_0 : decode cX3_references 0 = .ok (.aload_n 0, 1) := by decide +kernel
theorem dX3_references_1 : decode cX3_references 1 = .ok (.getfield 29, 3) := by decide +kernel
theorem dX3_references_4 : decode cX3_references 4 = .ok (.ireturn, 1) := by decide +kernel
theorem dX3_literals_0 : decode cX3_literals 0 = .ok (.aload_n 0, 1) := by decide +kernel
theorem dX3_literals_1 : decode cX3_literals 1 = .ok (.getfield 33, 3) := by decide +kernel
theorem dX3_literals_4 : decode cX3_literals 4 = .ok (.ireturn, 1) := by decide +kernel
theorem dX3_rows_0 : decode cX3_rows 0 = .ok (.aload_n 0, 1) := by decide +kernel
theorem dX3_rows_1 : decode cX3_rows 1 = .ok (.getfield 36, 3) := by decide +kernel
theorem dX3_rows_4 : decode cX3_rows 4 = .ok (.ireturn, 1) := by decide +kernel
theorem dX3_alarms_0 : decode cX3_alarms 0 = .ok (.aload_n 0, 1) := by decide +kernel
theorem dX3_alarms_1 : decode cX3_alarms 1 = .ok (.getfield 39, 3) := by decide +kernel
theorem dX3_alarms_4 : decode cX3_alarms 4 = .ok (.ireturn, 1) := by decide +kernel
theorem dX3_tell_0 : decode cX3_tell 0 = .ok (.aload_n 0, 1) := by decide +kernel
theorem dX3_tell_1 : decode cX3_tell 1 = .ok (.getfield 15, 3) := by decide +kernel
theorem dX3_tell_4 : decode cX3_tell 4 = .ok (.invokevirtual 42, 3) := by decide +kernel
theorem dX3_tell_7 : decode cX3_tell 7 = .ok (.aload_n 0, 1) := by decide +kernel
theorem dX3_tell_8 : decode cX3_tell 8 = .ok (.invokevirtual 26, 3) := by decide +kernel
theorem dX3_tell_11 : decode cX3_tell 11 = .ok (.aload_n 0, 1) := by decide +kernel
theorem dX3_tell_12 : decode cX3_tell 12 = .ok (.getfield 18, 3) := by decide +kernel
theorem dX3_tell_15 : decode cX3_tell 15 = .ok (.invokevirtual 47, 3) := by decide +kernel
theorem dX3_tell_18 : decode cX3_tell 18 = .ok (.istore_n 1, 1) := by decide +kernel
theorem dX3_tell_19 : decode cX3_tell 19 = .ok (.aload_n 0, 1) := by decide +kernel
theorem dX3_tell_20 : decode cX3_tell 20 = .ok (.getfield 9, 3) := by decide +kernel
theorem dX3_tell_23 : decode cX3_tell 23 = .ok (.invokevirtual 53, 3) := by decide +kernel
theorem dX3_tell_26 : decode cX3_tell 26 = .ok (.istore_n 2, 1) := by decide +kernel
theorem dX3_tell_27 : decode cX3_tell 27 = .ok (.iconst 0, 1) := by decide +kernel
theorem dX3_tell_28 : decode cX3_tell 28 = .ok (.istore_n 3, 1) := by decide +kernel
theorem dX3_tell_29 : decode cX3_tell 29 = .ok (.aload_n 0, 1) := by decide +kernel
theorem dX3_tell_30 : decode cX3_tell 30 = .ok (.getfield 9, 3) := by decide +kernel
theorem dX3_tell_33 : decode cX3_tell 33 = .ok (.iconst 0, 1) := by decide +kernel
theorem dX3_tell_34 : decode cX3_tell 34 = .ok (.iload_n 1, 1) := by decide +kernel
theorem dX3_tell_35 : decode cX3_tell 35 = .ok (.invokevirtual 56, 3) := by decide +kernel
theorem dX3_tell_38 : decode cX3_tell 38 = .ok (.istore 4, 2) := by decide +kernel
theorem dX3_tell_40 : decode cX3_tell 40 = .ok (.iconst 0, 1) := by decide +kernel
theorem dX3_tell_41 : decode cX3_tell 41 = .ok (.istore 5, 2) := by decide +kernel
theorem dX3_tell_43 : decode cX3_tell 43 = .ok (.iload 5, 2) := by decide +kernel
theorem dX3_tell_45 : decode cX3_tell 45 = .ok (.iload_n 2, 1) := by decide +kernel
theorem dX3_tell_46 : decode cX3_tell 46 = .ok (.if_icmp .ge 95, 3) := by decide +kernel
theorem dX3_tell_49 : decode cX3_tell 49 = .ok (.iload_n 3, 1) := by decide +kernel
theorem dX3_tell_50 : decode cX3_tell 50 = .ok (.iload_n 2, 1) := by decide +kernel
theorem dX3_tell_51 : decode cX3_tell 51 = .ok (.if_icmp .ge 90, 3) := by decide +kernel
theorem dX3_tell_54 : decode cX3_tell 54 = .ok (.aload_n 0, 1) := by decide +kernel
theorem dX3_tell_55 : decode cX3_tell 55 = .ok (.getfield 9, 3) := by decide +kernel
theorem dX3_tell_58 : decode cX3_tell 58 = .ok (.iload_n 3, 1) := by decide +kernel
theorem dX3_tell_59 : decode cX3_tell 59 = .ok (.iload_n 1, 1) := by decide +kernel
theorem dX3_tell_60 : decode cX3_tell 60 = .ok (.invokevirtual 60, 3) := by decide +kernel
theorem dX3_tell_63 : decode cX3_tell 63 = .ok (.ifCond .eq 14, 3) := by decide +kernel
theorem dX3_tell_66 : decode cX3_tell 66 = .ok (.aload_n 0, 1) := by decide +kernel
theorem dX3_tell_67 : decode cX3_tell 67 = .ok (.iload_n 3, 1) := by decide +kernel
theorem dX3_tell_68 : decode cX3_tell 68 = .ok (.iload_n 1, 1) := by decide +kernel
theorem dX3_tell_69 : decode cX3_tell 69 = .ok (.iload 4, 2) := by decide +kernel
theorem dX3_tell_71 : decode cX3_tell 71 = .ok (.invokevirtual 64, 3) := by decide +kernel
theorem dX3_tell_74 : decode cX3_tell 74 = .ok (.goto 4, 3) := by decide +kernel
theorem dX3_tell_77 : decode cX3_tell 77 = .ok (.iconst (-1), 1) := by decide +kernel
theorem dX3_tell_78 : decode cX3_tell 78 = .ok (.istore 6, 2) := by decide +kernel
theorem dX3_tell_80 : decode cX3_tell 80 = .ok (.iload 6, 2) := by decide +kernel
theorem dX3_tell_82 : decode cX3_tell 82 = .ok (.iconst (-1), 1) := by decide +kernel
theorem dX3_tell_83 : decode cX3_tell 83 = .ok (.if_icmp .ne 31, 3) := by decide +kernel
theorem dX3_tell_86 : decode cX3_tell 86 = .ok (.aload_n 0, 1) := by decide +kernel
theorem dX3_tell_87 : decode cX3_tell 87 = .ok (.aload_n 0, 1) := by decide +kernel
theorem dX3_tell_88 : decode cX3_tell 88 = .ok (.getfield 9, 3) := by decide +kernel
theorem dX3_tell_91 : decode cX3_tell 91 = .ok (.iload_n 3, 1) := by decide +kernel
theorem dX3_tell_92 : decode cX3_tell 92 = .ok (.invokevirtual 68, 3) := by decide +kernel
theorem dX3_tell_95 : decode cX3_tell 95 = .ok (.invokevirtual 72, 3) := by decide +kernel
theorem dX3_tell_98 : decode cX3_tell 98 = .ok (.aload_n 0, 1) := by decide +kernel
theorem dX3_tell_99 : decode cX3_tell 99 = .ok (.iload 4, 2) := by decide +kernel
theorem dX3_tell_101 : decode cX3_tell 101 = .ok (.iload_n 3, 1) := by decide +kernel
theorem dX3_tell_102 : decode cX3_tell 102 = .ok (.iload_n 1, 1) := by decide +kernel
theorem dX3_tell_103 : decode cX3_tell 103 = .ok (.invokevirtual 76, 3) := by decide +kernel
theorem dX3_tell_106 : decode cX3_tell 106 = .ok (.istore 4, 2) := by decide +kernel
theorem dX3_tell_108 : decode cX3_tell 108 = .ok (.iinc 3 1, 3) := by decide +kernel
theorem dX3_tell_111 : decode cX3_tell 111 = .ok (.goto 24, 3) := by decide +kernel
theorem dX3_tell_114 : decode cX3_tell 114 = .ok (.aload_n 0, 1) := by decide +kernel
theorem dX3_tell_115 : decode cX3_tell 115 = .ok (.iload 6, 2) := by decide +kernel
theorem dX3_tell_117 : decode cX3_tell 117 = .ok (.invokevirtual 79, 3) := by decide +kernel
theorem dX3_tell_120 : decode cX3_tell 120 = .ok (.iload_n 3, 1) := by decide +kernel
theorem dX3_tell_121 : decode cX3_tell 121 = .ok (.iload_n 1, 1) := by decide +kernel
theorem dX3_tell_122 : decode cX3_tell 122 = .ok (.iadd, 1) := by decide +kernel
theorem dX3_tell_123 : decode cX3_tell 123 = .ok (.istore_n 3, 1) := by decide +kernel
theorem dX3_tell_124 : decode cX3_tell 124 = .ok (.aload_n 0, 1) := by decide +kernel
theorem dX3_tell_125 : decode cX3_tell 125 = .ok (.getfield 9, 3) := by decide +kernel
theorem dX3_tell_128 : decode cX3_tell 128 = .ok (.iload_n 3, 1) := by decide +kernel
theorem dX3_tell_129 : decode cX3_tell 129 = .ok (.iload_n 1, 1) := by decide +kernel
theorem dX3_tell_130 : decode cX3_tell 130 = .ok (.invokevirtual 56, 3) := by decide +kernel
theorem dX3_tell_133 : decode cX3_tell 133 = .ok (.istore 4, 2) := by decide +kernel
theorem dX3_tell_135 : decode cX3_tell 135 = .ok (.iinc 5 1, 3) := by decide +kernel
theorem dX3_tell_138 : decode cX3_tell 138 = .ok (.goto (-95), 3) := by decide +kernel
theorem dX3_tell_141 : decode cX3_tell 141 = .ok (.return_, 1) := by decide +kernel
theorem dX3_startAnew_0 : decode cX3_startAnew 0 = .ok (.aload_n 0, 1) := by decide +kernel
theorem dX3_startAnew_1 : decode cX3_startAnew 1 = .ok (.iconst 0, 1) := by decide +kernel
theorem dX3_startAnew_2 : decode cX3_startAnew 2 = .ok (.putfield 29, 3) := by decide +kernel
theorem dX3_startAnew_5 : decode cX3_startAnew 5 = .ok (.aload_n 0, 1) := by decide +kernel
theorem dX3_startAnew_6 : decode cX3_startAnew 6 = .ok (.iconst 0, 1) := by decide +kernel
theorem dX3_startAnew_7 : decode cX3_startAnew 7 = .ok (.putfield 33, 3) := by decide +kernel
theorem dX3_startAnew_10 : decode cX3_startAnew 10 = .ok (.aload_n 0, 1) := by decide +kernel
theorem dX3_startAnew_11 : decode cX3_startAnew 11 = .ok (.iconst 0, 1) := by decide +kernel
theorem dX3_startAnew_12 : decode cX3_startAnew 12 = .ok (.putfield 36, 3) := by decide +kernel
theorem dX3_startAnew_15 : decode cX3_startAnew 15 = .ok (.aload_n 0, 1) := by decide +kernel
theorem dX3_startAnew_16 : decode cX3_startAnew 16 = .ok (.iconst 0, 1) := by decide +kernel
theorem dX3_startAnew_17 : decode cX3_startAnew 17 = .ok (.putfield 39, 3) := by decide +kernel
theorem dX3_startAnew_20 : decode cX3_startAnew 20 = .ok (.aload_n 0, 1) := by decide +kernel
theorem dX3_startAnew_21 : decode cX3_startAnew 21 = .ok (.iconst 0, 1) := by decide +kernel
theorem dX3_startAnew_22 : decode cX3_startAnew 22 = .ok (.putfield 82, 3) := by decide +kernel
theorem dX3_startAnew_25 : decode cX3_startAnew 25 = .ok (.aload_n 0, 1) := by decide +kernel
theorem dX3_startAnew_26 : decode cX3_startAnew 26 = .ok (.iconst 0, 1) := by decide +kernel
theorem dX3_startAnew_27 : decode cX3_startAnew 27 = .ok (.putfield 85, 3) := by decide +kernel
theorem dX3_startAnew_30 : decode cX3_startAnew 30 = .ok (.aload_n 0, 1) := by decide +kernel
theorem dX3_startAnew_31 : decode cX3_startAnew 31 = .ok (.iconst (-1), 1) := by decide +kernel
theorem dX3_startAnew_32 : decode cX3_startAnew 32 = .ok (.putfield 88, 3) := by decide +kernel
theorem dX3_startAnew_35 : decode cX3_startAnew 35 = .ok (.return_, 1) := by decide +kernel
theorem dX3_blockFor_0 : decode cX3_blockFor 0 = .ok (.aload_n 0, 1) := by decide +kernel
theorem dX3_blockFor_1 : decode cX3_blockFor 1 = .ok (.getfield 18, 3) := by decide +kernel
theorem dX3_blockFor_4 : decode cX3_blockFor 4 = .ok (.iload_n 3, 1) := by decide +kernel
theorem dX3_blockFor_5 : decode cX3_blockFor 5 = .ok (.invokevirtual 91, 3) := by decide +kernel
theorem dX3_blockFor_8 : decode cX3_blockFor 8 = .ok (.ifCond .ne 5, 3) := by decide +kernel
theorem dX3_blockFor_11 : decode cX3_blockFor 11 = .ok (.iconst (-1), 1) := by decide +kernel
theorem dX3_blockFor_12 : decode cX3_blockFor 12 = .ok (.ireturn, 1) := by decide +kernel
theorem dX3_blockFor_13 : decode cX3_blockFor 13 = .ok (.aload_n 0, 1) := by decide +kernel
theorem dX3_blockFor_14 : decode cX3_blockFor 14 = .ok (.getfield 22, 3) := by decide +kernel
theorem dX3_blockFor_17 : decode cX3_blockFor 17 = .ok (.aload_n 0, 1) := by decide +kernel
theorem dX3_blockFor_18 : decode cX3_blockFor 18 = .ok (.getfield 9, 3) := by decide +kernel
theorem dX3_blockFor_21 : decode cX3_blockFor 21 = .ok (.iload_n 1, 1) := by decide +kernel
theorem dX3_blockFor_22 : decode cX3_blockFor 22 = .ok (.iload_n 2, 1) := by decide +kernel
theorem dX3_blockFor_23 : decode cX3_blockFor 23 = .ok (.invokevirtual 95, 3) := by decide +kernel
theorem dX3_blockFor_26 : decode cX3_blockFor 26 = .ok (.aload_n 0, 1) := by decide +kernel
theorem dX3_blockFor_27 : decode cX3_blockFor 27 = .ok (.getfield 88, 3) := by decide +kernel
theorem dX3_blockFor_30 : decode cX3_blockFor 30 = .ok (.iconst (-1), 1) := by decide +kernel
theorem dX3_blockFor_31 : decode cX3_blockFor 31 = .ok (.if_icmp .ne 7, 3) := by decide +kernel
theorem dX3_blockFor_34 : decode cX3_blockFor 34 = .ok (.iconst (-1), 1) := by decide +kernel
theorem dX3_blockFor_35 : decode cX3_blockFor 35 = .ok (.goto 9, 3) := by decide +kernel
theorem dX3_blockFor_38 : decode cX3_blockFor 38 = .ok (.aload_n 0, 1) := by decide +kernel
theorem dX3_blockFor_39 : decode cX3_blockFor 39 = .ok (.getfield 88, 3) := by decide +kernel
theorem dX3_blockFor_42 : decode cX3_blockFor 42 = .ok (.iconst 1, 1) := by decide +kernel
theorem dX3_blockFor_43 : decode cX3_blockFor 43 = .ok (.iadd, 1) := by decide +kernel
theorem dX3_blockFor_44 : decode cX3_blockFor 44 = .ok (.istore 4, 2) := by decide +kernel
theorem dX3_blockFor_46 : decode cX3_blockFor 46 = .ok (.aload_n 0, 1) := by decide +kernel
theorem dX3_blockFor_47 : decode cX3_blockFor 47 = .ok (.getfield 18, 3) := by decide +kernel
theorem dX3_blockFor_50 : decode cX3_blockFor 50 = .ok (.iload_n 3, 1) := by decide +kernel
theorem dX3_blockFor_51 : decode cX3_blockFor 51 = .ok (.aload_n 0, 1) := by decide +kernel
theorem dX3_blockFor_52 : decode cX3_blockFor 52 = .ok (.getfield 22, 3) := by decide +kernel
theorem dX3_blockFor_55 : decode cX3_blockFor 55 = .ok (.iload 4, 2) := by decide +kernel
theorem dX3_blockFor_57 : decode cX3_blockFor 57 = .ok (.invokevirtual 101, 3) := by decide +kernel
theorem dX3_blockFor_60 : decode cX3_blockFor 60 = .ok (.istore 5, 2) := by decide +kernel
theorem dX3_blockFor_62 : decode cX3_blockFor 62 = .ok (.iload 5, 2) := by decide +kernel
theorem dX3_blockFor_64 : decode cX3_blockFor 64 = .ok (.iconst (-1), 1) := by decide +kernel
theorem dX3_blockFor_65 : decode cX3_blockFor 65 = .ok (.if_icmp .ne 13, 3) := by decide +kernel
theorem dX3_blockFor_68 : decode cX3_blockFor 68 = .ok (.aload_n 0, 1) := by decide +kernel
theorem dX3_blockFor_69 : decode cX3_blockFor 69 = .ok (.dup, 1) := by decide +kernel
theorem dX3_blockFor_70 : decode cX3_blockFor 70 = .ok (.getfield 39, 3) := by decide +kernel
theorem dX3_blockFor_73 : decode cX3_blockFor 73 = .ok (.iconst 1, 1) := by decide +kernel
theorem dX3_blockFor_74 : decode cX3_blockFor 74 = .ok (.iadd, 1) := by decide +kernel
theorem dX3_blockFor_75 : decode cX3_blockFor 75 = .ok (.putfield 39, 3) := by decide +kernel
theorem dX3_blockFor_78 : decode cX3_blockFor 78 = .ok (.iload 5, 2) := by decide +kernel
theorem dX3_blockFor_80 : decode cX3_blockFor 80 = .ok (.ireturn, 1) := by decide +kernel
theorem dX3_rolled_0 : decode cX3_rolled 0 = .ok (.aload_n 0, 1) := by decide +kernel
theorem dX3_rolled_1 : decode cX3_rolled 1 = .ok (.getfield 9, 3) := by decide +kernel
theorem dX3_rolled_4 : decode cX3_rolled 4 = .ok (.iload_n 2, 1) := by decide +kernel
theorem dX3_rolled_5 : decode cX3_rolled 5 = .ok (.iload_n 3, 1) := by decide +kernel
theorem dX3_rolled_6 : decode cX3_rolled 6 = .ok (.iconst 1, 1) := by decide +kernel
theorem dX3_rolled_7 : decode cX3_rolled 7 = .ok (.iadd, 1) := by decide +kernel
theorem dX3_rolled_8 : decode cX3_rolled 8 = .ok (.invokevirtual 60, 3) := by decide +kernel
theorem dX3_rolled_11 : decode cX3_rolled 11 = .ok (.ifCond .ne 5, 3) := by decide +kernel
theorem dX3_rolled_14 : decode cX3_rolled 14 = .ok (.iconst 0, 1) := by decide +kernel
theorem dX3_rolled_15 : decode cX3_rolled 15 = .ok (.ireturn, 1) := by decide +kernel
theorem dX3_rolled_16 : decode cX3_rolled 16 = .ok (.aload_n 0, 1) := by decide +kernel
theorem dX3_rolled_17 : decode cX3_rolled 17 = .ok (.getfield 9, 3) := by decide +kernel
theorem dX3_rolled_20 : decode cX3_rolled 20 = .ok (.iload_n 2, 1) := by decide +kernel
theorem dX3_rolled_21 : decode cX3_rolled 21 = .ok (.invokevirtual 68, 3) := by decide +kernel
theorem dX3_rolled_24 : decode cX3_rolled 24 = .ok (.istore 4, 2) := by decide +kernel
theorem dX3_rolled_26 : decode cX3_rolled 26 = .ok (.iload_n 1, 1) := by decide +kernel
theorem dX3_rolled_27 : decode cX3_rolled 27 = .ok (.ldc 105, 2) := by decide +kernel
theorem dX3_rolled_29 : decode cX3_rolled 29 = .ok (.iand, 1) := by decide +kernel
theorem dX3_rolled_30 : decode cX3_rolled 30 = .ok (.iload 4, 2) := by decide +kernel
theorem dX3_rolled_32 : decode cX3_rolled 32 = .ok (.isub, 1) := by decide +kernel
theorem dX3_rolled_33 : decode cX3_rolled 33 = .ok (.aload_n 0, 1) := by decide +kernel
theorem dX3_rolled_34 : decode cX3_rolled 34 = .ok (.getfield 9, 3) := by decide +kernel
theorem dX3_rolled_37 : decode cX3_rolled 37 = .ok (.iload_n 2, 1) := by decide +kernel
theorem dX3_rolled_38 : decode cX3_rolled 38 = .ok (.iload_n 3, 1) := by decide +kernel
theorem dX3_rolled_39 : decode cX3_rolled 39 = .ok (.iadd, 1) := by decide +kernel
theorem dX3_rolled_40 : decode cX3_rolled 40 = .ok (.invokevirtual 68, 3) := by decide +kernel
theorem dX3_rolled_43 : decode cX3_rolled 43 = .ok (.iadd, 1) := by decide +kernel
theorem dX3_rolled_44 : decode cX3_rolled 44 = .ok (.istore 5, 2) := by decide +kernel
theorem dX3_rolled_46 : decode cX3_rolled 46 = .ok (.iload_n 1, 1) := by decide +kernel
theorem dX3_rolled_47 : decode cX3_rolled 47 = .ok (.bipush 16, 2) := by decide +kernel
theorem dX3_rolled_49 : decode cX3_rolled 49 = .ok (.iushr, 1) := by decide +kernel
theorem dX3_rolled_50 : decode cX3_rolled 50 = .ok (.iload_n 3, 1) := by decide +kernel
theorem dX3_rolled_51 : decode cX3_rolled 51 = .ok (.iload 4, 2) := by decide +kernel
theorem dX3_rolled_53 : decode cX3_rolled 53 = .ok (.imul, 1) := by decide +kernel
theorem dX3_rolled_54 : decode cX3_rolled 54 = .ok (.isub, 1) := by decide +kernel
theorem dX3_rolled_55 : decode cX3_rolled 55 = .ok (.iload 5, 2) := by decide +kernel
theorem dX3_rolled_57 : decode cX3_rolled 57 = .ok (.iadd, 1) := by decide +kernel
theorem dX3_rolled_58 : decode cX3_rolled 58 = .ok (.istore 6, 2) := by decide +kernel
theorem dX3_rolled_60 : decode cX3_rolled 60 = .ok (.iload 5, 2) := by decide +kernel
theorem dX3_rolled_62 : decode cX3_rolled 62 = .ok (.iload 6, 2) := by decide +kernel
theorem dX3_rolled_64 : decode cX3_rolled 64 = .ok (.invokestatic 106, 3) := by decide +kernel
theorem dX3_rolled_67 : decode cX3_rolled 67 = .ok (.ireturn, 1) := by decide +kernel
theorem dX3_writeLiteral_0 : decode cX3_writeLiteral 0 = .ok (.aload_n 0, 1) := by decide +kernel
theorem dX3_writeLiteral_1 : decode cX3_writeLiteral 1 = .ok (.getfield 88, 3) := by decide +kernel
theorem dX3_writeLiteral_4 : decode cX3_writeLiteral 4 = .ok (.iconst (-1), 1) := by decide +kernel
theorem dX3_writeLiteral_5 : decode cX3_writeLiteral 5 = .ok (.if_icmp .ne 24, 3) := by decide +kernel
theorem dX3_writeLiteral_8 : decode cX3_writeLiteral 8 = .ok (.aload_n 0, 1) := by decide +kernel
theorem dX3_writeLiteral_9 : decode cX3_writeLiteral 9 = .ok (.getfield 82, 3) := by decide +kernel
theorem dX3_writeLiteral_12 : decode cX3_writeLiteral 12 = .ok (.ifCond .le 17, 3) := by decide +kernel
theorem dX3_writeLiteral_15 : decode cX3_writeLiteral 15 = .ok (.aload_n 0, 1) := by decide +kernel
theorem dX3_writeLiteral_16 : decode cX3_writeLiteral 16 = .ok (.getfield 82, 3) := by decide +kernel
theorem dX3_writeLiteral_19 : decode cX3_writeLiteral 19 = .ok (.sipush 255, 3) := by decide +kernel
theorem dX3_writeLiteral_22 : decode cX3_writeLiteral 22 = .ok (.if_icmp .ge 7, 3) := by decide +kernel
theorem dX3_writeLiteral_25 : decode cX3_writeLiteral 25 = .ok (.iconst 1, 1) := by decide +kernel
theorem dX3_writeLiteral_26 : decode cX3_writeLiteral 26 = .ok (.goto 4, 3) := by decide +kernel
theorem dX3_writeLiteral_29 : decode cX3_writeLiteral 29 = .ok (.iconst 0, 1) := by decide +kernel
theorem dX3_writeLiteral_30 : decode cX3_writeLiteral 30 = .ok (.istore_n 2, 1) := by decide +kernel
theorem dX3_writeLiteral_31 : decode cX3_writeLiteral 31 = .ok (.iload_n 2, 1) := by decide +kernel
theorem dX3_writeLiteral_32 : decode cX3_writeLiteral 32 = .ok (.ifCond .eq 10, 3) := by decide +kernel
theorem dX3_writeLiteral_35 : decode cX3_writeLiteral 35 = .ok (.aload_n 0, 1) := by decide +kernel
theorem dX3_writeLiteral_36 : decode cX3_writeLiteral 36 = .ok (.invokevirtual 109, 3) := by decide +kernel
theorem dX3_writeLiteral_39 : decode cX3_writeLiteral 39 = .ok (.goto 16, 3) := by decide +kernel
theorem dX3_writeLiteral_42 : decode cX3_writeLiteral 42 = .ok (.aload_n 0, 1) := by decide +kernel
theorem dX3_writeLiteral_43 : decode cX3_writeLiteral 43 = .ok (.getfield 15, 3) := by decide +kernel
theorem dX3_writeLiteral_46 : decode cX3_writeLiteral 46 = .ok (.iconst 0, 1) := by decide +kernel
theorem dX3_writeLiteral_47 : decode cX3_writeLiteral 47 = .ok (.invokevirtual 112, 3) := by decide +kernel
theorem dX3_writeLiteral_50 : decode cX3_writeLiteral 50 = .ok (.pop, 1) := by decide +kernel
theorem dX3_writeLiteral_51 : decode cX3_writeLiteral 51 = .ok (.aload_n 0, 1) := by decide +kernel
theorem dX3_writeLiteral_52 : decode cX3_writeLiteral 52 = .ok (.invokevirtual 115, 3) := by decide +kernel
theorem dX3_writeLiteral_55 : decode cX3_writeLiteral 55 = .ok (.aload_n 0, 1) := by decide +kernel
theorem dX3_writeLiteral_56 : decode cX3_writeLiteral 56 = .ok (.getfield 15, 3) := by decide +kernel
theorem dX3_writeLiteral_59 : decode cX3_writeLiteral 59 = .ok (.iload_n 1, 1) := by decide +kernel
theorem dX3_writeLiteral_60 : decode cX3_writeLiteral 60 = .ok (.invokevirtual 112, 3) := by decide +kernel
theorem dX3_writeLiteral_63 : decode cX3_writeLiteral 63 = .ok (.pop, 1) := by decide +kernel
theorem dX3_writeLiteral_64 : decode cX3_writeLiteral 64 = .ok (.aload_n 0, 1) := by decide +kernel
theorem dX3_writeLiteral_65 : decode cX3_writeLiteral 65 = .ok (.dup, 1) := by decide +kernel
theorem dX3_writeLiteral_66 : decode cX3_writeLiteral 66 = .ok (.getfield 33, 3) := by decide +kernel
theorem dX3_writeLiteral_69 : decode cX3_writeLiteral 69 = .ok (.iconst 1, 1) := by decide +kernel
theorem dX3_writeLiteral_70 : decode cX3_writeLiteral 70 = .ok (.iadd, 1) := by decide +kernel
theorem dX3_writeLiteral_71 : decode cX3_writeLiteral 71 = .ok (.putfield 33, 3) := by decide +kernel
theorem dX3_writeLiteral_74 : decode cX3_writeLiteral 74 = .ok (.aload_n 0, 1) := by decide +kernel
theorem dX3_writeLiteral_75 : decode cX3_writeLiteral 75 = .ok (.iconst (-1), 1) := by decide +kernel
theorem dX3_writeLiteral_76 : decode cX3_writeLiteral 76 = .ok (.putfield 88, 3) := by decide +kernel
theorem dX3_writeLiteral_79 : decode cX3_writeLiteral 79 = .ok (.return_, 1) := by decide +kernel
theorem dX3_writeReference_0 : decode cX3_writeReference 0 = .ok (.aload_n 0, 1) := by decide +kernel
theorem dX3_writeReference_1 : decode cX3_writeReference 1 = .ok (.getfield 88, 3) := by decide +kernel
theorem dX3_writeReference_4 : decode cX3_writeReference 4 = .ok (.iconst (-1), 1) := by decide +kernel
theorem dX3_writeReference_5 : decode cX3_writeReference 5 = .ok (.if_icmp .eq 27, 3) := by decide +kernel
theorem dX3_writeReference_8 : decode cX3_writeReference 8 = .ok (.iload_n 1, 1) := by decide +kernel
theorem dX3_writeReference_9 : decode cX3_writeReference 9 = .ok (.aload_n 0, 1) := by decide +kernel
theorem dX3_writeReference_10 : decode cX3_writeReference 10 = .ok (.getfield 88, 3) := by decide +kernel
theorem dX3_writeReference_13 : decode cX3_writeReference 13 = .ok (.iconst 1, 1) := by decide +kernel
theorem dX3_writeReference_14 : decode cX3_writeReference 14 = .ok (.iadd, 1) := by decide +kernel
theorem dX3_writeReference_15 : decode cX3_writeReference 15 = .ok (.if_icmp .ne 17, 3) := by decide +kernel
theorem dX3_writeReference_18 : decode cX3_writeReference 18 = .ok (.aload_n 0, 1) := by decide +kernel
theorem dX3_writeReference_19 : decode cX3_writeReference 19 = .ok (.getfield 82, 3) := by decide +kernel
theorem dX3_writeReference_22 : decode cX3_writeReference 22 = .ok (.sipush 255, 3) := by decide +kernel
theorem dX3_writeReference_25 : decode cX3_writeReference 25 = .ok (.if_icmp .ge 7, 3) := by decide +kernel
theorem dX3_writeReference_28 : decode cX3_writeReference 28 = .ok (.iconst 1, 1) := by decide +kernel
theorem dX3_writeReference_29 : decode cX3_writeReference 29 = .ok (.goto 4, 3) := by decide +kernel
theorem dX3_writeReference_32 : decode cX3_writeReference 32 = .ok (.iconst 0, 1) := by decide +kernel
theorem dX3_writeReference_33 : decode cX3_writeReference 33 = .ok (.istore_n 2, 1) := by decide +kernel
theorem dX3_writeReference_34 : decode cX3_writeReference 34 = .ok (.iload_n 2, 1) := by decide +kernel
theorem dX3_writeReference_35 : decode cX3_writeReference 35 = .ok (.ifCond .eq 10, 3) := by decide +kernel
theorem dX3_writeReference_38 : decode cX3_writeReference 38 = .ok (.aload_n 0, 1) := by decide +kernel
theorem dX3_writeReference_39 : decode cX3_writeReference 39 = .ok (.invokevirtual 109, 3) := by decide +kernel
theorem dX3_writeReference_42 : decode cX3_writeReference 42 = .ok (.goto 41, 3) := by decide +kernel
theorem dX3_writeReference_45 : decode cX3_writeReference 45 = .ok (.aload_n 0, 1) := by decide +kernel
theorem dX3_writeReference_46 : decode cX3_writeReference 46 = .ok (.getfield 15, 3) := by decide +kernel
theorem dX3_writeReference_49 : decode cX3_writeReference 49 = .ok (.iconst 1, 1) := by decide +kernel
theorem dX3_writeReference_50 : decode cX3_writeReference 50 = .ok (.invokevirtual 112, 3) := by decide +kernel
theorem dX3_writeReference_53 : decode cX3_writeReference 53 = .ok (.pop, 1) := by decide +kernel
theorem dX3_writeReference_54 : decode cX3_writeReference 54 = .ok (.aload_n 0, 1) := by decide +kernel
theorem dX3_writeReference_55 : decode cX3_writeReference 55 = .ok (.getfield 15, 3) := by decide +kernel
theorem dX3_writeReference_58 : decode cX3_writeReference 58 = .ok (.iload_n 1, 1) := by decide +kernel
theorem dX3_writeReference_59 : decode cX3_writeReference 59 = .ok (.bipush 8, 2) := by decide +kernel
theorem dX3_writeReference_61 : decode cX3_writeReference 61 = .ok (.ishr, 1) := by decide +kernel
theorem dX3_writeReference_62 : decode cX3_writeReference 62 = .ok (.invokevirtual 112, 3) := by decide +kernel
theorem dX3_writeReference_65 : decode cX3_writeReference 65 = .ok (.pop, 1) := by decide +kernel
theorem dX3_writeReference_66 : decode cX3_writeReference 66 = .ok (.aload_n 0, 1) := by decide +kernel
theorem dX3_writeReference_67 : decode cX3_writeReference 67 = .ok (.getfield 15, 3) := by decide +kernel
theorem dX3_writeReference_70 : decode cX3_writeReference 70 = .ok (.iload_n 1, 1) := by decide +kernel
theorem dX3_writeReference_71 : decode cX3_writeReference 71 = .ok (.sipush 255, 3) := by decide +kernel
theorem dX3_writeReference_74 : decode cX3_writeReference 74 = .ok (.iand, 1) := by decide +kernel
theorem dX3_writeReference_75 : decode cX3_writeReference 75 = .ok (.invokevirtual 112, 3) := by decide +kernel
theorem dX3_writeReference_78 : decode cX3_writeReference 78 = .ok (.pop, 1) := by decide +kernel
theorem dX3_writeReference_79 : decode cX3_writeReference 79 = .ok (.aload_n 0, 1) := by decide +kernel
theorem dX3_writeReference_80 : decode cX3_writeReference 80 = .ok (.invokevirtual 115, 3) := by decide +kernel
theorem dX3_writeReference_83 : decode cX3_writeReference 83 = .ok (.aload_n 0, 1) := by decide +kernel
theorem dX3_writeReference_84 : decode cX3_writeReference 84 = .ok (.dup, 1) := by decide +kernel
theorem dX3_writeReference_85 : decode cX3_writeReference 85 = .ok (.getfield 29, 3) := by decide +kernel
theorem dX3_writeReference_88 : decode cX3_writeReference 88 = .ok (.iconst 1, 1) := by decide +kernel
theorem dX3_writeReference_89 : decode cX3_writeReference 89 = .ok (.iadd, 1) := by decide +kernel
theorem dX3_writeReference_90 : decode cX3_writeReference 90 = .ok (.putfield 29, 3) := by decide +kernel
theorem dX3_writeReference_93 : decode cX3_writeReference 93 = .ok (.aload_n 0, 1) := by decide +kernel
theorem dX3_writeReference_94 : decode cX3_writeReference 94 = .ok (.iload_n 1, 1) := by decide +kernel
theorem dX3_writeReference_95 : decode cX3_writeReference 95 = .ok (.putfield 88, 3) := by decide +kernel
theorem dX3_writeReference_98 : decode cX3_writeReference 98 = .ok (.return_, 1) := by decide +kernel
theorem dX3_openRow_0 : decode cX3_openRow 0 = .ok (.aload_n 0, 1) := by decide +kernel
theorem dX3_openRow_1 : decode cX3_openRow 1 = .ok (.iconst 1, 1) := by decide +kernel
theorem dX3_openRow_2 : decode cX3_openRow 2 = .ok (.putfield 82, 3) := by decide +kernel
theorem dX3_openRow_5 : decode cX3_openRow 5 = .ok (.aload_n 0, 1) := by decide +kernel
theorem dX3_openRow_6 : decode cX3_openRow 6 = .ok (.aload_n 0, 1) := by decide +kernel
theorem dX3_openRow_7 : decode cX3_openRow 7 = .ok (.getfield 15, 3) := by decide +kernel
theorem dX3_openRow_10 : decode cX3_openRow 10 = .ok (.invokevirtual 53, 3) := by decide +kernel
theorem dX3_openRow_13 : decode cX3_openRow 13 = .ok (.putfield 85, 3) := by decide +kernel
theorem dX3_openRow_16 : decode cX3_openRow 16 = .ok (.aload_n 0, 1) := by decide +kernel
theorem dX3_openRow_17 : decode cX3_openRow 17 = .ok (.getfield 15, 3) := by decide +kernel
theorem dX3_openRow_20 : decode cX3_openRow 20 = .ok (.aload_n 0, 1) := by decide +kernel
theorem dX3_openRow_21 : decode cX3_openRow 21 = .ok (.getfield 82, 3) := by decide +kernel
theorem dX3_openRow_24 : decode cX3_openRow 24 = .ok (.invokevirtual 112, 3) := by decide +kernel
theorem dX3_openRow_27 : decode cX3_openRow 27 = .ok (.pop, 1) := by decide +kernel
theorem dX3_openRow_28 : decode cX3_openRow 28 = .ok (.aload_n 0, 1) := by decide +kernel
theorem dX3_openRow_29 : decode cX3_openRow 29 = .ok (.dup, 1) := by decide +kernel
theorem dX3_openRow_30 : decode cX3_openRow 30 = .ok (.getfield 36, 3) := by decide +kernel
theorem dX3_openRow_33 : decode cX3_openRow 33 = .ok (.iconst 1, 1) := by decide +kernel
theorem dX3_openRow_34 : decode cX3_openRow 34 = .ok (.iadd, 1) := by decide +kernel
theorem dX3_openRow_35 : decode cX3_openRow 35 = .ok (.putfield 36, 3) := by decide +kernel
theorem dX3_openRow_38 : decode cX3_openRow 38 = .ok (.return_, 1) := by decide +kernel
theorem dX3_growRow_0 : decode cX3_growRow 0 = .ok (.aload_n 0, 1) := by decide +kernel
theorem dX3_growRow_1 : decode cX3_growRow 1 = .ok (.dup, 1) := by decide +kernel
theorem dX3_growRow_2 : decode cX3_growRow 2 = .ok (.getfield 82, 3) := by decide +kernel
theorem dX3_growRow_5 : decode cX3_growRow 5 = .ok (.iconst 1, 1) := by decide +kernel
theorem dX3_growRow_6 : decode cX3_growRow 6 = .ok (.iadd, 1) := by decide +kernel
theorem dX3_growRow_7 : decode cX3_growRow 7 = .ok (.putfield 82, 3) := by decide +kernel
theorem dX3_growRow_10 : decode cX3_growRow 10 = .ok (.aload_n 0, 1) := by decide +kernel
theorem dX3_growRow_11 : decode cX3_growRow 11 = .ok (.getfield 15, 3) := by decide +kernel
theorem dX3_growRow_14 : decode cX3_growRow 14 = .ok (.aload_n 0, 1) := by decide +kernel
theorem dX3_growRow_15 : decode cX3_growRow 15 = .ok (.getfield 85, 3) := by decide +kernel
theorem dX3_growRow_18 : decode cX3_growRow 18 = .ok (.aload_n 0, 1) := by decide +kernel
theorem dX3_growRow_19 : decode cX3_growRow 19 = .ok (.getfield 82, 3) := by decide +kernel
theorem dX3_growRow_22 : decode cX3_growRow 22 = .ok (.invokevirtual 118, 3) := by decide +kernel
theorem dX3_growRow_25 : decode cX3_growRow 25 = .ok (.pop, 1) := by decide +kernel
theorem dX3_growRow_26 : decode cX3_growRow 26 = .ok (.return_, 1) := by decide +kernel
