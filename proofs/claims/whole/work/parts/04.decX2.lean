theorem dX2_init_0 : decode cX2_init 0 = .ok (.aload_n 0, 1) := by decide +kernel
theorem dX2_init_1 : decode cX2_init 1 = .ok (.invokespecial 3, 3) := by decide +kernel
theorem dX2_init_4 : decode cX2_init 4 = .ok (.aload_n 0, 1) := by decide +kernel
theorem dX2_init_5 : decode cX2_init 5 = .ok (.bipush 16, 2) := by decide +kernel
theorem dX2_init_7 : decode cX2_init 7 = .ok (.putfield 9, 3) := by decide +kernel
theorem dX2_init_10 : decode cX2_init 10 = .ok (.aload_n 0, 1) := by decide +kernel
theorem dX2_init_11 : decode cX2_init 11 = .ok (.bipush 8, 2) := by decide +kernel
theorem dX2_init_13 : decode cX2_init 13 = .ok (.putfield 15, 3) := by decide +kernel
theorem dX2_init_16 : decode cX2_init 16 = .ok (.aload_n 0, 1) := by decide +kernel
theorem dX2_init_17 : decode cX2_init 17 = .ok (.iconst 0, 1) := by decide +kernel
theorem dX2_init_18 : decode cX2_init 18 = .ok (.putfield 18, 3) := by decide +kernel
theorem dX2_init_21 : decode cX2_init 21 = .ok (.aload_n 0, 1) := by decide +kernel
theorem dX2_init_22 : decode cX2_init 22 = .ok (.bipush 16, 2) := by decide +kernel
theorem dX2_init_24 : decode cX2_init 24 = .ok (.newarray .int, 2) := by decide +kernel
theorem dX2_init_26 : decode cX2_init 26 = .ok (.putfield 21, 3) := by decide +kernel
theorem dX2_init_29 : decode cX2_init 29 = .ok (.aload_n 0, 1) := by decide +kernel
theorem dX2_init_30 : decode cX2_init 30 = .ok (.sipush 256, 3) := by decide +kernel
theorem dX2_init_33 : decode cX2_init 33 = .ok (.newarray .byte, 2) := by decide +kernel
theorem dX2_init_35 : decode cX2_init 35 = .ok (.putfield 25, 3) := by decide +kernel
theorem dX2_init_38 : decode cX2_init 38 = .ok (.aload_n 0, 1) := by decide +kernel
theorem dX2_init_39 : decode cX2_init 39 = .ok (.bipush 16, 2) := by decide +kernel
theorem dX2_init_41 : decode cX2_init 41 = .ok (.newarray .int, 2) := by decide +kernel
theorem dX2_init_43 : decode cX2_init 43 = .ok (.putfield 29, 3) := by decide +kernel
theorem dX2_init_46 : decode cX2_init 46 = .ok (.aload_n 0, 1) := by decide +kernel
theorem dX2_init_47 : decode cX2_init 47 = .ok (.sipush 256, 3) := by decide +kernel
theorem dX2_init_50 : decode cX2_init 50 = .ok (.newarray .int, 2) := by decide +kernel
theorem dX2_init_52 : decode cX2_init 52 = .ok (.putfield 32, 3) := by decide +kernel
theorem dX2_init_55 : decode cX2_init 55 = .ok (.aload_n 0, 1) := by decide +kernel
theorem dX2_init_56 : decode cX2_init 56 = .ok (.getfield 32, 3) := by decide +kernel
theorem dX2_init_59 : decode cX2_init 59 = .ok (.iconst (-1), 1) := by decide +kernel
theorem dX2_init_60 : decode cX2_init 60 = .ok (.invokestatic 35, 3) := by decide +kernel
theorem dX2_init_63 : decode cX2_init 63 = .ok (.return_, 1) := by decide +kernel
theorem dX2_blocks_0 : decode cX2_blocks 0 = .ok (.aload_n 0, 1) := by decide +kernel
theorem dX2_blocks_1 : decode cX2_blocks 1 = .ok (.getfield 18, 3) := by decide +kernel
theorem dX2_blocks_4 : decode cX2_blocks 4 = .ok (.ireturn, 1) := by decide +kernel
theorem dX2_blockSize_0 : decode cX2_blockSize 0 = .ok (.aload_n 0, 1) := by decide +kernel
theorem dX2_blockSize_1 : decode cX2_blockSize 1 = .ok (.getfield 9, 3) := by decide +kernel
theorem dX2_blockSize_4 : decode cX2_blockSize 4 = .ok (.ireturn, 1) := by decide +kernel
theorem dX2_width_0 : decode cX2_width 0 = .ok (.aload_n 0, 1) := by decide +kernel
theorem dX2_width_1 : decode cX2_width 1 = .ok (.getfield 15, 3) := by decide +kernel
theorem dX2_width_4 : decode cX2_width 4 = .ok (.ireturn, 1) := by decide +kernel
theorem dX2_sumOf_0 : decode cX2_sumOf 0 = .ok (.aload_n 0, 1) := by decide +kernel
theorem dX2_sumOf_1 : decode cX2_sumOf 1 = .ok (.iload_n 1, 1) := by decide +kernel
theorem dX2_sumOf_2 : decode cX2_sumOf 2 = .ok (.invokevirtual 41, 3) := by decide +kernel
theorem dX2_sumOf_5 : decode cX2_sumOf 5 = .ok (.ifCond .eq 12, 3) := by decide +kernel
theorem dX2_sumOf_8 : decode cX2_sumOf 8 = .ok (.aload_n 0, 1) := by decide +kernel
theorem dX2_sumOf_9 : decode cX2_sumOf 9 = .ok (.getfield 21, 3) := by decide +kernel
theorem dX2_sumOf_12 : decode cX2_sumOf 12 = .ok (.iload_n 1, 1) := by decide +kernel
theorem dX2_sumOf_13 : decode cX2_sumOf 13 = .ok (.iaload, 1) := by decide +kernel
theorem dX2_sumOf_14 : decode cX2_sumOf 14 = .ok (.goto 4, 3) := by decide +kernel
theorem dX2_sumOf_17 : decode cX2_sumOf 17 = .ok (.iconst 0, 1) := by decide +kernel
theorem dX2_sumOf_18 : decode cX2_sumOf 18 = .ok (.ireturn, 1) := by decide +kernel
theorem dX2_digestByte_0 : decode cX2_digestByte 0 = .ok (.aload_n 0, 1) := by decide +kernel
theorem dX2_digestByte_1 : decode cX2_digestByte 1 = .ok (.iload_n 1, 1) := by decide +kernel
theorem dX2_digestByte_2 : decode cX2_digestByte 2 = .ok (.invokevirtual 41, 3) := by decide +kernel
theorem dX2_digestByte_5 : decode cX2_digestByte 5 = .ok (.ifCond .eq 33, 3) := by decide +kernel
theorem dX2_digestByte_8 : decode cX2_digestByte 8 = .ok (.iload_n 2, 1) := by decide +kernel
theorem dX2_digestByte_9 : decode cX2_digestByte 9 = .ok (.ifCond .lt 29, 3) := by decide +kernel
theorem dX2_digestByte_12 : decode cX2_digestByte 12 = .ok (.iload_n 2, 1) := by decide +kernel
theorem dX2_digestByte_13 : decode cX2_digestByte 13 = .ok (.aload_n 0, 1) := by decide +kernel
theorem dX2_digestByte_14 : decode cX2_digestByte 14 = .ok (.getfield 15, 3) := by decide +kernel
theorem dX2_digestByte_17 : decode cX2_digestByte 17 = .ok (.if_icmp .ge 21, 3) := by decide +kernel
theorem dX2_digestByte_20 : decode cX2_digestByte 20 = .ok (.aload_n 0, 1) := by decide +kernel
theorem dX2_digestByte_21 : decode cX2_digestByte 21 = .ok (.getfield 25, 3) := by decide +kernel
theorem dX2_digestByte_24 : decode cX2_digestByte 24 = .ok (.iload_n 1, 1) := by decide +kernel
theorem dX2_digestByte_25 : decode cX2_digestByte 25 = .ok (.bipush 16, 2) := by decide +kernel
theorem dX2_digestByte_27 : decode cX2_digestByte 27 = .ok (.imul, 1) := by decide +kernel
theorem dX2_digestByte_28 : decode cX2_digestByte 28 = .ok (.iload_n 2, 1) := by decide +kernel
theorem dX2_digestByte_29 : decode cX2_digestByte 29 = .ok (.iadd, 1) := by decide +kernel
theorem dX2_digestByte_30 : decode cX2_digestByte 30 = .ok (.baload, 1) := by decide +kernel
theorem dX2_digestByte_31 : decode cX2_digestByte 31 = .ok (.sipush 255, 3) := by decide +kernel
theorem dX2_digestByte_34 : decode cX2_digestByte 34 = .ok (.iand, 1) := by decide +kernel
theorem dX2_digestByte_35 : decode cX2_digestByte 35 = .ok (.goto 4, 3) := by decide +kernel
theorem dX2_digestByte_38 : decode cX2_digestByte 38 = .ok (.iconst (-1), 1) := by decide +kernel
theorem dX2_digestByte_39 : decode cX2_digestByte 39 = .ok (.ireturn, 1) := by decide +kernel
theorem dX2_make_0 : decode cX2_make 0 = .ok (.iload_n 2, 1) := by decide +kernel
theorem dX2_make_1 : decode cX2_make 1 = .ok (.iconst 1, 1) := by decide +kernel
theorem dX2_make_2 : decode cX2_make 2 = .ok (.if_icmp .ge 4, 3) := by decide +kernel
theorem dX2_make_5 : decode cX2_make 5 = .ok (.return_, 1) := by decide +kernel
theorem dX2_make_6 : decode cX2_make 6 = .ok (.aload_n 0, 1) := by decide +kernel
theorem dX2_make_7 : decode cX2_make 7 = .ok (.iload_n 2, 1) := by decide +kernel
theorem dX2_make_8 : decode cX2_make 8 = .ok (.putfield 9, 3) := by decide +kernel
theorem dX2_make_11 : decode cX2_make 11 = .ok (.aload_n 0, 1) := by decide +kernel
theorem dX2_make_12 : decode cX2_make 12 = .ok (.iload_n 3, 1) := by decide +kernel
theorem dX2_make_13 : decode cX2_make 13 = .ok (.putfield 15, 3) := by decide +kernel
theorem dX2_make_16 : decode cX2_make 16 = .ok (.aload_n 0, 1) := by decide +kernel
theorem dX2_make_17 : decode cX2_make 17 = .ok (.aload_n 1, 1) := by decide +kernel
theorem dX2_make_18 : decode cX2_make 18 = .ok (.invokevirtual 45, 3) := by decide +kernel
theorem dX2_make_21 : decode cX2_make 21 = .ok (.iload_n 2, 1) := by decide +kernel
theorem dX2_make_22 : decode cX2_make 22 = .ok (.idiv, 1) := by decide +kernel
theorem dX2_make_23 : decode cX2_make 23 = .ok (.putfield 18, 3) := by decide +kernel
theorem dX2_make_26 : decode cX2_make 26 = .ok (.aload_n 0, 1) := by decide +kernel
theorem dX2_make_27 : decode cX2_make 27 = .ok (.invokevirtual 51, 3) := by decide +kernel
theorem dX2_make_30 : decode cX2_make 30 = .ok (.iconst 0, 1) := by decide +kernel
theorem dX2_make_31 : decode cX2_make 31 = .ok (.istore 5, 2) := by decide +kernel
theorem dX2_make_33 : decode cX2_make 33 = .ok (.iload 5, 2) := by decide +kernel
theorem dX2_make_35 : decode cX2_make 35 = .ok (.aload_n 0, 1) := by decide +kernel
theorem dX2_make_36 : decode cX2_make 36 = .ok (.getfield 18, 3) := by decide +kernel
theorem dX2_make_39 : decode cX2_make 39 = .ok (.if_icmp .ge 84, 3) := by decide +kernel
theorem dX2_make_42 : decode cX2_make 42 = .ok (.iload 5, 2) := by decide +kernel
theorem dX2_make_44 : decode cX2_make 44 = .ok (.aload_n 0, 1) := by decide +kernel
theorem dX2_make_45 : decode cX2_make 45 = .ok (.getfield 9, 3) := by decide +kernel
theorem dX2_make_48 : decode cX2_make 48 = .ok (.imul, 1) := by decide +kernel
theorem dX2_make_49 : decode cX2_make 49 = .ok (.istore 6, 2) := by decide +kernel
theorem dX2_make_51 : decode cX2_make 51 = .ok (.aload_n 0, 1) := by decide +kernel
theorem dX2_make_52 : decode cX2_make 52 = .ok (.getfield 21, 3) := by decide +kernel
theorem dX2_make_55 : decode cX2_make 55 = .ok (.iload 5, 2) := by decide +kernel
theorem dX2_make_57 : decode cX2_make 57 = .ok (.aload_n 1, 1) := by decide +kernel
theorem dX2_make_58 : decode cX2_make 58 = .ok (.iload 6, 2) := by decide +kernel
theorem dX2_make_60 : decode cX2_make 60 = .ok (.aload_n 0, 1) := by decide +kernel
theorem dX2_make_61 : decode cX2_make 61 = .ok (.getfield 9, 3) := by decide +kernel
theorem dX2_make_64 : decode cX2_make 64 = .ok (.invokevirtual 54, 3) := by decide +kernel
theorem dX2_make_67 : decode cX2_make 67 = .ok (.iastore, 1) := by decide +kernel
theorem dX2_make_68 : decode cX2_make 68 = .ok (.aload 4, 2) := by decide +kernel
theorem dX2_make_70 : decode cX2_make 70 = .ok (.aload_n 1, 1) := by decide +kernel
theorem dX2_make_71 : decode cX2_make 71 = .ok (.iload 6, 2) := by decide +kernel
theorem dX2_make_73 : decode cX2_make 73 = .ok (.aload_n 0, 1) := by decide +kernel
theorem dX2_make_74 : decode cX2_make 74 = .ok (.getfield 9, 3) := by decide +kernel
theorem dX2_make_77 : decode cX2_make 77 = .ok (.invokevirtual 58, 3) := by decide +kernel
theorem dX2_make_80 : decode cX2_make 80 = .ok (.iconst 0, 1) := by decide +kernel
theorem dX2_make_81 : decode cX2_make 81 = .ok (.istore 7, 2) := by decide +kernel
theorem dX2_make_83 : decode cX2_make 83 = .ok (.iload 7, 2) := by decide +kernel
theorem dX2_make_85 : decode cX2_make 85 = .ok (.bipush 16, 2) := by decide +kernel
theorem dX2_make_87 : decode cX2_make 87 = .ok (.if_icmp .ge 30, 3) := by decide +kernel
theorem dX2_make_90 : decode cX2_make 90 = .ok (.aload_n 0, 1) := by decide +kernel
theorem dX2_make_91 : decode cX2_make 91 = .ok (.getfield 25, 3) := by decide +kernel
theorem dX2_make_94 : decode cX2_make 94 = .ok (.iload 5, 2) := by decide +kernel
theorem dX2_make_96 : decode cX2_make 96 = .ok (.bipush 16, 2) := by decide +kernel
theorem dX2_make_98 : decode cX2_make 98 = .ok (.imul, 1) := by decide +kernel
theorem dX2_make_99 : decode cX2_make 99 = .ok (.iload 7, 2) := by decide +kernel
theorem dX2_make_101 : decode cX2_make 101 = .ok (.iadd, 1) := by decide +kernel
theorem dX2_make_102 : decode cX2_make 102 = .ok (.aload 4, 2) := by decide +kernel
theorem dX2_make_104 : decode cX2_make 104 = .ok (.iload 7, 2) := by decide +kernel
theorem dX2_make_106 : decode cX2_make 106 = .ok (.invokevirtual 64, 3) := by decide +kernel
theorem dX2_make_109 : decode cX2_make 109 = .ok (.i2b, 1) := by decide +kernel
theorem dX2_make_110 : decode cX2_make 110 = .ok (.bastore, 1) := by decide +kernel
theorem dX2_make_111 : decode cX2_make 111 = .ok (.iinc 7 1, 3) := by decide +kernel
theorem dX2_make_114 : decode cX2_make 114 = .ok (.goto (-31), 3) := by decide +kernel
theorem dX2_make_117 : decode cX2_make 117 = .ok (.iinc 5 1, 3) := by decide +kernel
theorem dX2_make_120 : decode cX2_make 120 = .ok (.goto (-87), 3) := by decide +kernel
theorem dX2_make_123 : decode cX2_make 123 = .ok (.aload_n 0, 1) := by decide +kernel
theorem dX2_make_124 : decode cX2_make 124 = .ok (.invokevirtual 68, 3) := by decide +kernel
theorem dX2_make_127 : decode cX2_make 127 = .ok (.return_, 1) := by decide +kernel
theorem dX2_hasSum_0 : decode cX2_hasSum 0 = .ok (.aload_n 0, 1) := by decide +kernel
theorem dX2_hasSum_1 : decode cX2_hasSum 1 = .ok (.aload_n 0, 1) := by decide +kernel
theorem dX2_hasSum_2 : decode cX2_hasSum 2 = .ok (.aload_n 0, 1) := by decide +kernel
theorem dX2_hasSum_3 : decode cX2_hasSum 3 = .ok (.getfield 32, 3) := by decide +kernel
theorem dX2_hasSum_6 : decode cX2_hasSum 6 = .ok (.iload_n 1, 1) := by decide +kernel
theorem dX2_hasSum_7 : decode cX2_hasSum 7 = .ok (.invokestatic 71, 3) := by decide +kernel
theorem dX2_hasSum_10 : decode cX2_hasSum 10 = .ok (.iaload, 1) := by decide +kernel
theorem dX2_hasSum_11 : decode cX2_hasSum 11 = .ok (.iload_n 1, 1) := by decide +kernel
theorem dX2_hasSum_12 : decode cX2_hasSum 12 = .ok (.invokevirtual 74, 3) := by decide +kernel
theorem dX2_hasSum_15 : decode cX2_hasSum 15 = .ok (.invokevirtual 41, 3) := by decide +kernel
theorem dX2_hasSum_18 : decode cX2_hasSum 18 = .ok (.ireturn, 1) := by decide +kernel
theorem dX2_find_0 : decode cX2_find 0 = .ok (.aload_n 0, 1) := by decide +kernel
theorem dX2_find_1 : decode cX2_find 1 = .ok (.iload_n 3, 1) := by decide +kernel
theorem dX2_find_2 : decode cX2_find 2 = .ok (.invokevirtual 41, 3) := by decide +kernel
theorem dX2_find_5 : decode cX2_find 5 = .ok (.ifCond .eq 24, 3) := by decide +kernel
theorem dX2_find_8 : decode cX2_find 8 = .ok (.aload_n 0, 1) := by decide +kernel
theorem dX2_find_9 : decode cX2_find 9 = .ok (.getfield 21, 3) := by decide +kernel
theorem dX2_find_12 : decode cX2_find 12 = .ok (.iload_n 3, 1) := by decide +kernel
theorem dX2_find_13 : decode cX2_find 13 = .ok (.iaload, 1) := by decide +kernel
theorem dX2_find_14 : decode cX2_find 14 = .ok (.iload_n 1, 1) := by decide +kernel
theorem dX2_find_15 : decode cX2_find 15 = .ok (.if_icmp .ne 14, 3) := by decide +kernel
theorem dX2_find_18 : decode cX2_find 18 = .ok (.aload_n 0, 1) := by decide +kernel
theorem dX2_find_19 : decode cX2_find 19 = .ok (.iload_n 3, 1) := by decide +kernel
theorem dX2_find_20 : decode cX2_find 20 = .ok (.aload_n 2, 1) := by decide +kernel
theorem dX2_find_21 : decode cX2_find 21 = .ok (.invokevirtual 77, 3) := by decide +kernel
theorem dX2_find_24 : decode cX2_find 24 = .ok (.ifCond .eq 5, 3) := by decide +kernel
theorem dX2_find_27 : decode cX2_find 27 = .ok (.iload_n 3, 1) := by decide +kernel
theorem dX2_find_28 : decode cX2_find 28 = .ok (.ireturn, 1) := by decide +kernel
theorem dX2_find_29 : decode cX2_find 29 = .ok (.aload_n 0, 1) := by decide +kernel
theorem dX2_find_30 : decode cX2_find 30 = .ok (.aload_n 0, 1) := by decide +kernel
theorem dX2_find_31 : decode cX2_find 31 = .ok (.getfield 32, 3) := by decide +kernel
theorem dX2_find_34 : decode cX2_find 34 = .ok (.iload_n 1, 1) := by decide +kernel
theorem dX2_find_35 : decode cX2_find 35 = .ok (.invokestatic 71, 3) := by decide +kernel
theorem dX2_find_38 : decode cX2_find 38 = .ok (.iaload, 1) := by decide +kernel
theorem dX2_find_39 : decode cX2_find 39 = .ok (.iload_n 1, 1) := by decide +kernel
theorem dX2_find_40 : decode cX2_find 40 = .ok (.invokevirtual 74, 3) := by decide +kernel
theorem dX2_find_43 : decode cX2_find 43 = .ok (.istore 4, 2) := by decide +kernel
theorem dX2_find_45 : decode cX2_find 45 = .ok (.iconst 0, 1) := by decide +kernel
theorem dX2_find_46 : decode cX2_find 46 = .ok (.istore 5, 2) := by decide +kernel
theorem dX2_find_48 : decode cX2_find 48 = .ok (.iload 5, 2) := by decide +kernel
theorem dX2_find_50 : decode cX2_find 50 = .ok (.aload_n 0, 1) := by decide +kernel
theorem dX2_find_51 : decode cX2_find 51 = .ok (.getfield 18, 3) := by decide +kernel
theorem dX2_find_54 : decode cX2_find 54 = .ok (.if_icmp .ge 45, 3) := by decide +kernel
theorem dX2_find_57 : decode cX2_find 57 = .ok (.aload_n 0, 1) := by decide +kernel
theorem dX2_find_58 : decode cX2_find 58 = .ok (.iload 4, 2) := by decide +kernel
theorem dX2_find_60 : decode cX2_find 60 = .ok (.invokevirtual 41, 3) := by decide +kernel
theorem dX2_find_63 : decode cX2_find 63 = .ok (.ifCond .eq 36, 3) := by decide +kernel
theorem dX2_find_66 : decode cX2_find 66 = .ok (.aload_n 0, 1) := by decide +kernel
theorem dX2_find_67 : decode cX2_find 67 = .ok (.iload 4, 2) := by decide +kernel
theorem dX2_find_69 : decode cX2_find 69 = .ok (.aload_n 2, 1) := by decide +kernel
theorem dX2_find_70 : decode cX2_find 70 = .ok (.invokevirtual 77, 3) := by decide +kernel
theorem dX2_find_73 : decode cX2_find 73 = .ok (.ifCond .eq 6, 3) := by decide +kernel
theorem dX2_find_76 : decode cX2_find 76 = .ok (.iload 4, 2) := by decide +kernel
theorem dX2_find_78 : decode cX2_find 78 = .ok (.ireturn, 1) := by decide +kernel
theorem dX2_find_79 : decode cX2_find 79 = .ok (.aload_n 0, 1) := by decide +kernel
theorem dX2_find_80 : decode cX2_find 80 = .ok (.aload_n 0, 1) := by decide +kernel
theorem dX2_find_81 : decode cX2_find 81 = .ok (.getfield 29, 3) := by decide +kernel
theorem dX2_find_84 : decode cX2_find 84 = .ok (.iload 4, 2) := by decide +kernel
theorem dX2_find_86 : decode cX2_find 86 = .ok (.iaload, 1) := by decide +kernel
theorem dX2_find_87 : decode cX2_find 87 = .ok (.iload_n 1, 1) := by decide +kernel
theorem dX2_find_88 : decode cX2_find 88 = .ok (.invokevirtual 74, 3) := by decide +kernel
theorem dX2_find_91 : decode cX2_find 91 = .ok (.istore 4, 2) := by decide +kernel
theorem dX2_find_93 : decode cX2_find 93 = .ok (.iinc 5 1, 3) := by decide +kernel
theorem dX2_find_96 : decode cX2_find 96 = .ok (.goto (-48), 3) := by decide +kernel
theorem dX2_find_99 : decode cX2_find 99 = .ok (.iconst (-1), 1) := by decide +kernel
theorem dX2_find_100 : decode cX2_find 100 = .ok (.ireturn, 1) := by decide +kernel
theorem dX2_has_0 : decode cX2_has 0 = .ok (.iload_n 1, 1) := by decide +kernel
theorem dX2_has_1 : decode cX2_has 1 = .ok (.ifCond .lt 15, 3) := by decide +kernel
theorem dX2_has_4 : decode cX2_has 4 = .ok (.iload_n 1, 1) := by decide +kernel
theorem dX2_has_5 : decode cX2_has 5 = .ok (.aload_n 0, 1) := by decide +kernel
theorem dX2_has_6 : decode cX2_has 6 = .ok (.getfield 18, 3) := by decide +kernel
theorem dX2_has_9 : decode cX2_has 9 = .ok (.if_icmp .ge 7, 3) := by decide +kernel
theorem dX2_has_12 : decode cX2_has 12 = .ok (.iconst 1, 1) := by decide +kernel
theorem dX2_has_13 : decode cX2_has 13 = .ok (.goto 4, 3) := by decide +kernel
theorem dX2_has_16 : decode cX2_has 16 = .ok (.iconst 0, 1) := by decide +kernel
theorem dX2_has_17 : decode cX2_has 17 = .ok (.ireturn, 1) := by decide +kernel
theorem dX2_firstInChain_0 : decode cX2_firstInChain 0 = .ok (.iload_n 1, 1) := by decide +kernel
theorem dX2_firstInChain_1 : decode cX2_firstInChain 1 = .ok (.istore_n 3, 1) := by decide +kernel
theorem dX2_firstInChain_2 : decode cX2_firstInChain 2 = .ok (.iconst 0, 1) := by decide +kernel
theorem dX2_firstInChain_3 : decode cX2_firstInChain 3 = .ok (.istore 4, 2) := by decide +kernel
theorem dX2_firstInChain_5 : decode cX2_firstInChain 5 = .ok (.iload 4, 2) := by decide +kernel
theorem dX2_firstInChain_7 : decode cX2_firstInChain 7 = .ok (.aload_n 0, 1) := by decide +kernel
theorem dX2_firstInChain_8 : decode cX2_firstInChain 8 = .ok (.getfield 18, 3) := by decide +kernel
theorem dX2_firstInChain_11 : decode cX2_firstInChain 11 = .ok (.if_icmp .ge 36, 3) := by decide +kernel
theorem dX2_firstInChain_14 : decode cX2_firstInChain 14 = .ok (.aload_n 0, 1) := by decide +kernel
theorem dX2_firstInChain_15 : decode cX2_firstInChain 15 = .ok (.iload_n 3, 1) := by decide +kernel
theorem dX2_firstInChain_16 : decode cX2_firstInChain 16 = .ok (.invokevirtual 41, 3) := by decide +kernel
theorem dX2_firstInChain_19 : decode cX2_firstInChain 19 = .ok (.ifCond .eq 28, 3) := by decide +kernel
theorem dX2_firstInChain_22 : decode cX2_firstInChain 22 = .ok (.aload_n 0, 1) := by decide +kernel
theorem dX2_firstInChain_23 : decode cX2_firstInChain 23 = .ok (.getfield 21, 3) := by decide +kernel
theorem dX2_firstInChain_26 : decode cX2_firstInChain 26 = .ok (.iload_n 3, 1) := by decide +kernel
theorem dX2_firstInChain_27 : decode cX2_firstInChain 27 = .ok (.iaload, 1) := by decide +kernel
theorem dX2_firstInChain_28 : decode cX2_firstInChain 28 = .ok (.iload_n 2, 1) := by decide +kernel
theorem dX2_firstInChain_29 : decode cX2_firstInChain 29 = .ok (.if_icmp .ne 5, 3) := by decide +kernel
theorem dX2_firstInChain_32 : decode cX2_firstInChain 32 = .ok (.iload_n 3, 1) := by decide +kernel
theorem dX2_firstInChain_33 : decode cX2_firstInChain 33 = .ok (.ireturn, 1) := by decide +kernel
theorem dX2_firstInChain_34 : decode cX2_firstInChain 34 = .ok (.aload_n 0, 1) := by decide +kernel
theorem dX2_firstInChain_35 : decode cX2_firstInChain 35 = .ok (.getfield 29, 3) := by decide +kernel
theorem dX2_firstInChain_38 : decode cX2_firstInChain 38 = .ok (.iload_n 3, 1) := by decide +kernel
theorem dX2_firstInChain_39 : decode cX2_firstInChain 39 = .ok (.iaload, 1) := by decide +kernel
theorem dX2_firstInChain_40 : decode cX2_firstInChain 40 = .ok (.istore_n 3, 1) := by decide +kernel
theorem dX2_firstInChain_41 : decode cX2_firstInChain 41 = .ok (.iinc 4 1, 3) := by decide +kernel
theorem dX2_firstInChain_44 : decode cX2_firstInChain 44 = .ok (.goto (-39), 3) := by decide +kernel
theorem dX2_firstInChain_47 : decode cX2_firstInChain 47 = .ok (.iconst (-1), 1) := by decide +kernel
theorem dX2_firstInChain_48 : decode cX2_firstInChain 48 = .ok (.ireturn, 1) := by decide +kernel
theorem dX2_hasDigest_0 : decode cX2_hasDigest 0 = .ok (.iconst 0, 1) := by decide +kernel
theorem dX2_hasDigest_1 : decode cX2_hasDigest 1 = .ok (.istore_n 3, 1) := by decide +kernel
theorem dX2_hasDigest_2 : decode cX2_hasDigest 2 = .ok (.iload_n 3, 1) := by decide +kernel
theorem dX2_hasDigest_3 : decode cX2_hasDigest 3 = .ok (.aload_n 0, 1) := by decide +kernel
theorem dX2_hasDigest_4 : decode cX2_hasDigest 4 = .ok (.getfield 15, 3) := by decide +kernel
theorem dX2_hasDigest_7 : decode cX2_hasDigest 7 = .ok (.if_icmp .ge 25, 3) := by decide +kernel
theorem dX2_hasDigest_10 : decode cX2_hasDigest 10 = .ok (.aload_n 0, 1) := by decide +kernel
theorem dX2_hasDigest_11 : decode cX2_hasDigest 11 = .ok (.iload_n 1, 1) := by decide +kernel
theorem dX2_hasDigest_12 : decode cX2_hasDigest 12 = .ok (.iload_n 3, 1) := by decide +kernel
theorem dX2_hasDigest_13 : decode cX2_hasDigest 13 = .ok (.invokevirtual 81, 3) := by decide +kernel
theorem dX2_hasDigest_16 : decode cX2_hasDigest 16 = .ok (.aload_n 2, 1) := by decide +kernel
theorem dX2_hasDigest_17 : decode cX2_hasDigest 17 = .ok (.iload_n 3, 1) := by decide +kernel
theorem dX2_hasDigest_18 : decode cX2_hasDigest 18 = .ok (.invokevirtual 64, 3) := by decide +kernel
theorem dX2_hasDigest_21 : decode cX2_hasDigest 21 = .ok (.if_icmp .eq 5, 3) := by decide +kernel
theorem dX2_hasDigest_24 : decode cX2_hasDigest 24 = .ok (.iconst 0, 1) := by decide +kernel
theorem dX2_hasDigest_25 : decode cX2_hasDigest 25 = .ok (.ireturn, 1) := by decide +kernel
theorem dX2_hasDigest_26 : decode cX2_hasDigest 26 = .ok (.iinc 3 1, 3) := by decide +kernel
theorem dX2_hasDigest_29 : decode cX2_hasDigest 29 = .ok (.goto (-27), 3) := by decide +kernel
theorem dX2_hasDigest_32 : decode cX2_hasDigest 32 = .ok (.iconst 1, 1) := by decide +kernel
theorem dX2_hasDigest_33 : decode cX2_hasDigest 33 = .ok (.ireturn, 1) := by decide +kernel
theorem dX2_makeRoom_0 : decode cX2_makeRoom 0 = .ok (.aload_n 0, 1) := by decide +kernel
theorem dX2_makeRoom_1 : decode cX2_makeRoom 1 = .ok (.getfield 18, 3) := by decide +kernel
theorem dX2_makeRoom_4 : decode cX2_makeRoom 4 = .ok (.aload_n 0, 1) := by decide +kernel
theorem dX2_makeRoom_5 : decode cX2_makeRoom 5 = .ok (.getfield 21, 3) := by decide +kernel
theorem dX2_makeRoom_8 : decode cX2_makeRoom 8 = .ok (.arraylength, 1) := by decide +kernel
theorem dX2_makeRoom_9 : decode cX2_makeRoom 9 = .ok (.if_icmp .le 48, 3) := by decide +kernel
theorem dX2_makeRoom_12 : decode cX2_makeRoom 12 = .ok (.aload_n 0, 1) := by decide +kernel
theorem dX2_makeRoom_13 : decode cX2_makeRoom 13 = .ok (.getfield 18, 3) := by decide +kernel
theorem dX2_makeRoom_16 : decode cX2_makeRoom 16 = .ok (.sipush 2000, 3) := by decide +kernel
theorem dX2_makeRoom_19 : decode cX2_makeRoom 19 = .ok (.iconst 2, 1) := by decide +kernel
theorem dX2_makeRoom_20 : decode cX2_makeRoom 20 = .ok (.aload_n 0, 1) := by decide +kernel
theorem dX2_makeRoom_21 : decode cX2_makeRoom 21 = .ok (.getfield 21, 3) := by decide +kernel
theorem dX2_makeRoom_24 : decode cX2_makeRoom 24 = .ok (.arraylength, 1) := by decide +kernel
theorem dX2_makeRoom_25 : decode cX2_makeRoom 25 = .ok (.imul, 1) := by decide +kernel
theorem dX2_makeRoom_26 : decode cX2_makeRoom 26 = .ok (.invokestatic 83, 3) := by decide +kernel
theorem dX2_makeRoom_29 : decode cX2_makeRoom 29 = .ok (.invokestatic 88, 3) := by decide +kernel
theorem dX2_makeRoom_32 : decode cX2_makeRoom 32 = .ok (.istore_n 1, 1) := by decide +kernel
theorem dX2_makeRoom_33 : decode cX2_makeRoom 33 = .ok (.aload_n 0, 1) := by decide +kernel
theorem dX2_makeRoom_34 : decode cX2_makeRoom 34 = .ok (.iload_n 1, 1) := by decide +kernel
theorem dX2_makeRoom_35 : decode cX2_makeRoom 35 = .ok (.newarray .int, 2) := by decide +kernel
theorem dX2_makeRoom_37 : decode cX2_makeRoom 37 = .ok (.putfield 21, 3) := by decide +kernel
theorem dX2_makeRoom_40 : decode cX2_makeRoom 40 = .ok (.aload_n 0, 1) := by decide +kernel
theorem dX2_makeRoom_41 : decode cX2_makeRoom 41 = .ok (.iload_n 1, 1) := by decide +kernel
theorem dX2_makeRoom_42 : decode cX2_makeRoom 42 = .ok (.bipush 16, 2) := by decide +kernel
theorem dX2_makeRoom_44 : decode cX2_makeRoom 44 = .ok (.imul, 1) := by decide +kernel
theorem dX2_makeRoom_45 : decode cX2_makeRoom 45 = .ok (.newarray .byte, 2) := by decide +kernel
theorem dX2_makeRoom_47 : decode cX2_makeRoom 47 = .ok (.putfield 25, 3) := by decide +kernel
theorem dX2_makeRoom_50 : decode cX2_makeRoom 50 = .ok (.aload_n 0, 1) := by decide +kernel
theorem dX2_makeRoom_51 : decode cX2_makeRoom 51 = .ok (.iload_n 1, 1) := by decide +kernel
theorem dX2_makeRoom_52 : decode cX2_makeRoom 52 = .ok (.newarray .int, 2) := by decide +kernel
theorem dX2_makeRoom_54 : decode cX2_makeRoom 54 = .ok (.putfield 29, 3) := by decide +kernel
theorem dX2_makeRoom_57 : decode cX2_makeRoom 57 = .ok (.return_, 1) := by decide +kernel
theorem dX2_chainBlocks_0 : decode cX2_chainBlocks 0 = .ok (.aload_n 0, 1) := by decide +kernel
theorem dX2_chainBlocks_1 : decode cX2_chainBlocks 1 = .ok (.getfield 32, 3) := by decide +kernel
theorem dX2_chainBlocks_4 : decode cX2_chainBlocks 4 = .ok (.iconst (-1), 1) := by decide +kernel
theorem dX2_chainBlocks_5 : decode cX2_chainBlocks 5 = .ok (.invokestatic 35, 3) := by decide +kernel
theorem dX2_chainBlocks_8 : decode cX2_chainBlocks 8 = .ok (.aload_n 0, 1) := by decide +kernel
theorem dX2_chainBlocks_9 : decode cX2_chainBlocks 9 = .ok (.getfield 18, 3) := by decide +kernel
theorem dX2_chainBlocks_12 : decode cX2_chainBlocks 12 = .ok (.iconst 1, 1) := by decide +kernel
theorem dX2_chainBlocks_13 : decode cX2_chainBlocks 13 = .ok (.isub, 1) := by decide +kernel
theorem dX2_chainBlocks_14 : decode cX2_chainBlocks 14 = .ok (.istore_n 1, 1) := by decide +kernel
theorem dX2_chainBlocks_15 : decode cX2_chainBlocks 15 = .ok (.iload_n 1, 1) := by decide +kernel
theorem dX2_chainBlocks_16 : decode cX2_chainBlocks 16 = .ok (.ifCond .lt 38, 3) := by decide +kernel
theorem dX2_chainBlocks_19 : decode cX2_chainBlocks 19 = .ok (.aload_n 0, 1) := by decide +kernel
theorem dX2_chainBlocks_20 : decode cX2_chainBlocks 20 = .ok (.getfield 21, 3) := by decide +kernel
theorem dX2_chainBlocks_23 : decode cX2_chainBlocks 23 = .ok (.iload_n 1, 1) := by decide +kernel
theorem dX2_chainBlocks_24 : decode cX2_chainBlocks 24 = .ok (.iaload, 1) := by decide +kernel
theorem dX2_chainBlocks_25 : decode cX2_chainBlocks 25 = .ok (.invokestatic 71, 3) := by decide +kernel
theorem dX2_chainBlocks_28 : decode cX2_chainBlocks 28 = .ok (.istore_n 2, 1) := by decide +kernel
theorem dX2_chainBlocks_29 : decode cX2_chainBlocks 29 = .ok (.aload_n 0, 1) := by decide +kernel
theorem dX2_chainBlocks_30 : decode cX2_chainBlocks 30 = .ok (.getfield 29, 3) := by decide +kernel
theorem dX2_chainBlocks_33 : decode cX2_chainBlocks 33 = .ok (.iload_n 1, 1) := by decide +kernel
theorem dX2_chainBlocks_34 : decode cX2_chainBlocks 34 = .ok (.aload_n 0, 1) := by decide +kernel
theorem dX2_chainBlocks_35 : decode cX2_chainBlocks 35 = .ok (.getfield 32, 3) := by decide +kernel
theorem dX2_chainBlocks_38 : decode cX2_chainBlocks 38 = .ok (.iload_n 2, 1) := by decide +kernel
theorem dX2_chainBlocks_39 : decode cX2_chainBlocks 39 = .ok (.iaload, 1) := by decide +kernel
theorem dX2_chainBlocks_40 : decode cX2_chainBlocks 40 = .ok (.iastore, 1) := by decide +kernel
theorem dX2_chainBlocks_41 : decode cX2_chainBlocks 41 = .ok (.aload_n 0, 1) := by decide +kernel
theorem dX2_chainBlocks_42 : decode cX2_chainBlocks 42 = .ok (.getfield 32, 3) := by decide +kernel
theorem dX2_chainBlocks_45 : decode cX2_chainBlocks 45 = .ok (.iload_n 2, 1) := by decide +kernel
theorem dX2_chainBlocks_46 : decode cX2_chainBlocks 46 = .ok (.iload_n 1, 1) := by decide +kernel
theorem dX2_chainBlocks_47 : decode cX2_chainBlocks 47 = .ok (.iastore, 1) := by decide +kernel
theorem dX2_chainBlocks_48 : decode cX2_chainBlocks 48 = .ok (.iinc 1 (-1), 3) := by decide +kernel
theorem dX2_chainBlocks_51 : decode cX2_chainBlocks 51 = .ok (.goto (-36), 3) := by decide +kernel
theorem dX2_chainBlocks_54 : decode cX2_chainBlocks 54 = .ok (.return_, 1) := by decide +kernel
theorem dX2_chainOf_0 : decode cX2_chainOf 0 = .ok (.iload_n 0, 1) := by decide +kernel
theorem dX2_chainOf_1 : decode cX2_chainOf 1 = .ok (.ldc 91, 2) := by decide +kernel
theorem dX2_chainOf_3 : decode cX2_chainOf 3 = .ok (.imul, 1) := by decide +kernel
theorem dX2_chainOf_4 : decode cX2_chainOf 4 = .ok (.bipush 24, 2) := by decide +kernel
theorem dX2_chainOf_6 : decode cX2_chainOf 6 = .ok (.iushr, 1) := by decide +kernel
theorem dX2_chainOf_7 : decode cX2_chainOf 7 = .ok (.ireturn, 1) := by decide +kernel
