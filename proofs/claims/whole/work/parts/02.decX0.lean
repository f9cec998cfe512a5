theorem dX0_init_0 : decode cX0_init 0 = .ok (.aload_n 0, 1) := by decide +kernel
theorem dX0_init_1 : decode cX0_init 1 = .ok (.invokespecial 3, 3) := by decide +kernel
theorem dX0_init_4 : decode cX0_init 4 = .ok (.aload_n 0, 1) := by decide +kernel
theorem dX0_init_5 : decode cX0_init 5 = .ok (.bipush 16, 2) := by decide +kernel
theorem dX0_init_7 : decode cX0_init 7 = .ok (.newarray .int, 2) := by decide +kernel
theorem dX0_init_9 : decode cX0_init 9 = .ok (.putfield 9, 3) := by decide +kernel
theorem dX0_init_12 : decode cX0_init 12 = .ok (.aload_n 0, 1) := by decide +kernel
theorem dX0_init_13 : decode cX0_init 13 = .ok (.iconst 4, 1) := by decide +kernel
theorem dX0_init_14 : decode cX0_init 14 = .ok (.newarray .int, 2) := by decide +kernel
theorem dX0_init_16 : decode cX0_init 16 = .ok (.putfield 15, 3) := by decide +kernel
theorem dX0_init_19 : decode cX0_init 19 = .ok (.return_, 1) := by decide +kernel
theorem dX0_take_0 : decode cX0_take 0 = .ok (.aload_n 0, 1) := by decide +kernel
theorem dX0_take_1 : decode cX0_take 1 = .ok (.getfield 15, 3) := by decide +kernel
theorem dX0_take_4 : decode cX0_take 4 = .ok (.iconst 0, 1) := by decide +kernel
theorem dX0_take_5 : decode cX0_take 5 = .ok (.ldc 18, 2) := by decide +kernel
theorem dX0_take_7 : decode cX0_take 7 = .ok (.iastore, 1) := by decide +kernel
theorem dX0_take_8 : decode cX0_take 8 = .ok (.aload_n 0, 1) := by decide +kernel
theorem dX0_take_9 : decode cX0_take 9 = .ok (.getfield 15, 3) := by decide +kernel
theorem dX0_take_12 : decode cX0_take 12 = .ok (.iconst 1, 1) := by decide +kernel
theorem dX0_take_13 : decode cX0_take 13 = .ok (.ldc 19, 2) := by decide +kernel
theorem dX0_take_15 : decode cX0_take 15 = .ok (.iastore, 1) := by decide +kernel
theorem dX0_take_16 : decode cX0_take 16 = .ok (.aload_n 0, 1) := by decide +kernel
theorem dX0_take_17 : decode cX0_take 17 = .ok (.getfield 15, 3) := by decide +kernel
theorem dX0_take_20 : decode cX0_take 20 = .ok (.iconst 2, 1) := by decide +kernel
theorem dX0_take_21 : decode cX0_take 21 = .ok (.ldc 20, 2) := by decide +kernel
theorem dX0_take_23 : decode cX0_take 23 = .ok (.iastore, 1) := by decide +kernel
theorem dX0_take_24 : decode cX0_take 24 = .ok (.aload_n 0, 1) := by decide +kernel
theorem dX0_take_25 : decode cX0_take 25 = .ok (.getfield 15, 3) := by decide +kernel
theorem dX0_take_28 : decode cX0_take 28 = .ok (.iconst 3, 1) := by decide +kernel
theorem dX0_take_29 : decode cX0_take 29 = .ok (.ldc 21, 2) := by decide +kernel
theorem dX0_take_31 : decode cX0_take 31 = .ok (.iastore, 1) := by decide +kernel
theorem dX0_take_32 : decode cX0_take 32 = .ok (.aload_n 1, 1) := by decide +kernel
theorem dX0_take_33 : decode cX0_take 33 = .ok (.iload_n 2, 1) := by decide +kernel
theorem dX0_take_34 : decode cX0_take 34 = .ok (.iload_n 3, 1) := by decide +kernel
theorem dX0_take_35 : decode cX0_take 35 = .ok (.invokevirtual 22, 3) := by decide +kernel
theorem dX0_take_38 : decode cX0_take 38 = .ok (.ifCond .ne 4, 3) := by decide +kernel
theorem dX0_take_41 : decode cX0_take 41 = .ok (.return_, 1) := by decide +kernel
theorem dX0_take_42 : decode cX0_take 42 = .ok (.iload_n 3, 1) := by decide +kernel
theorem dX0_take_43 : decode cX0_take 43 = .ok (.bipush 8, 2) := by decide +kernel
theorem dX0_take_45 : decode cX0_take 45 = .ok (.iadd, 1) := by decide +kernel
theorem dX0_take_46 : decode cX0_take 46 = .ok (.bipush 64, 2) := by decide +kernel
theorem dX0_take_48 : decode cX0_take 48 = .ok (.idiv, 1) := by decide +kernel
theorem dX0_take_49 : decode cX0_take 49 = .ok (.iconst 1, 1) := by decide +kernel
theorem dX0_take_50 : decode cX0_take 50 = .ok (.iadd, 1) := by decide +kernel
theorem dX0_take_51 : decode cX0_take 51 = .ok (.istore 4, 2) := by decide +kernel
theorem dX0_take_53 : decode cX0_take 53 = .ok (.iconst 0, 1) := by decide +kernel
theorem dX0_take_54 : decode cX0_take 54 = .ok (.istore 5, 2) := by decide +kernel
theorem dX0_take_56 : decode cX0_take 56 = .ok (.iload 5, 2) := by decide +kernel
theorem dX0_take_58 : decode cX0_take 58 = .ok (.iload 4, 2) := by decide +kernel
theorem dX0_take_60 : decode cX0_take 60 = .ok (.if_icmp .ge 55, 3) := by decide +kernel
theorem dX0_take_63 : decode cX0_take 63 = .ok (.aload_n 0, 1) := by decide +kernel
theorem dX0_take_64 : decode cX0_take 64 = .ok (.aload_n 1, 1) := by decide +kernel
theorem dX0_take_65 : decode cX0_take 65 = .ok (.iload_n 2, 1) := by decide +kernel
theorem dX0_take_66 : decode cX0_take 66 = .ok (.iload_n 3, 1) := by decide +kernel
theorem dX0_take_67 : decode cX0_take 67 = .ok (.iload 5, 2) := by decide +kernel
theorem dX0_take_69 : decode cX0_take 69 = .ok (.bipush 64, 2) := by decide +kernel
theorem dX0_take_71 : decode cX0_take 71 = .ok (.imul, 1) := by decide +kernel
theorem dX0_take_72 : decode cX0_take 72 = .ok (.invokevirtual 28, 3) := by decide +kernel
theorem dX0_take_75 : decode cX0_take 75 = .ok (.iload 5, 2) := by decide +kernel
theorem dX0_take_77 : decode cX0_take 77 = .ok (.iload 4, 2) := by decide +kernel
theorem dX0_take_79 : decode cX0_take 79 = .ok (.iconst 1, 1) := by decide +kernel
theorem dX0_take_80 : decode cX0_take 80 = .ok (.isub, 1) := by decide +kernel
theorem dX0_take_81 : decode cX0_take 81 = .ok (.if_icmp .ne 24, 3) := by decide +kernel
theorem dX0_take_84 : decode cX0_take 84 = .ok (.aload_n 0, 1) := by decide +kernel
theorem dX0_take_85 : decode cX0_take 85 = .ok (.getfield 9, 3) := by decide +kernel
theorem dX0_take_88 : decode cX0_take 88 = .ok (.bipush 14, 2) := by decide +kernel
theorem dX0_take_90 : decode cX0_take 90 = .ok (.iload_n 3, 1) := by decide +kernel
theorem dX0_take_91 : decode cX0_take 91 = .ok (.iconst 3, 1) := by decide +kernel
theorem dX0_take_92 : decode cX0_take 92 = .ok (.ishl, 1) := by decide +kernel
theorem dX0_take_93 : decode cX0_take 93 = .ok (.iastore, 1) := by decide +kernel
theorem dX0_take_94 : decode cX0_take 94 = .ok (.aload_n 0, 1) := by decide +kernel
theorem dX0_take_95 : decode cX0_take 95 = .ok (.getfield 9, 3) := by decide +kernel
theorem dX0_take_98 : decode cX0_take 98 = .ok (.bipush 15, 2) := by decide +kernel
theorem dX0_take_100 : decode cX0_take 100 = .ok (.iload_n 3, 1) := by decide +kernel
theorem dX0_take_101 : decode cX0_take 101 = .ok (.bipush 29, 2) := by decide +kernel
theorem dX0_take_103 : decode cX0_take 103 = .ok (.iushr, 1) := by decide +kernel
theorem dX0_take_104 : decode cX0_take 104 = .ok (.iastore, 1) := by decide +kernel
theorem dX0_take_105 : decode cX0_take 105 = .ok (.aload_n 0, 1) := by decide +kernel
theorem dX0_take_106 : decode cX0_take 106 = .ok (.invokevirtual 32, 3) := by decide +kernel
theorem dX0_take_109 : decode cX0_take 109 = .ok (.iinc 5 1, 3) := by decide +kernel
theorem dX0_take_112 : decode cX0_take 112 = .ok (.goto (-56), 3) := by decide +kernel
theorem dX0_take_115 : decode cX0_take 115 = .ok (.return_, 1) := by decide +kernel
theorem dX0_digestByte_0 : decode cX0_digestByte 0 = .ok (.iload_n 1, 1) := by decide +kernel
theorem dX0_digestByte_1 : decode cX0_digestByte 1 = .ok (.ifCond .lt 31, 3) := by decide +kernel
theorem dX0_digestByte_4 : decode cX0_digestByte 4 = .ok (.iload_n 1, 1) := by decide +kernel
theorem dX0_digestByte_5 : decode cX0_digestByte 5 = .ok (.bipush 16, 2) := by decide +kernel
theorem dX0_digestByte_7 : decode cX0_digestByte 7 = .ok (.if_icmp .ge 25, 3) := by decide +kernel
theorem dX0_digestByte_10 : decode cX0_digestByte 10 = .ok (.aload_n 0, 1) := by decide +kernel
theorem dX0_digestByte_11 : decode cX0_digestByte 11 = .ok (.getfield 15, 3) := by decide +kernel
theorem dX0_digestByte_14 : decode cX0_digestByte 14 = .ok (.iload_n 1, 1) := by decide +kernel
theorem dX0_digestByte_15 : decode cX0_digestByte 15 = .ok (.iconst 2, 1) := by decide +kernel
theorem dX0_digestByte_16 : decode cX0_digestByte 16 = .ok (.ishr, 1) := by decide +kernel
theorem dX0_digestByte_17 : decode cX0_digestByte 17 = .ok (.iaload, 1) := by decide +kernel
theorem dX0_digestByte_18 : decode cX0_digestByte 18 = .ok (.bipush 8, 2) := by decide +kernel
theorem dX0_digestByte_20 : decode cX0_digestByte 20 = .ok (.iload_n 1, 1) := by decide +kernel
theorem dX0_digestByte_21 : decode cX0_digestByte 21 = .ok (.iconst 3, 1) := by decide +kernel
theorem dX0_digestByte_22 : decode cX0_digestByte 22 = .ok (.iand, 1) := by decide +kernel
theorem dX0_digestByte_23 : decode cX0_digestByte 23 = .ok (.imul, 1) := by decide +kernel
theorem dX0_digestByte_24 : decode cX0_digestByte 24 = .ok (.iushr, 1) := by decide +kernel
theorem dX0_digestByte_25 : decode cX0_digestByte 25 = .ok (.sipush 255, 3) := by decide +kernel
theorem dX0_digestByte_28 : decode cX0_digestByte 28 = .ok (.iand, 1) := by decide +kernel
theorem dX0_digestByte_29 : decode cX0_digestByte 29 = .ok (.goto 4, 3) := by decide +kernel
theorem dX0_digestByte_32 : decode cX0_digestByte 32 = .ok (.iconst (-1), 1) := by decide +kernel
theorem dX0_digestByte_33 : decode cX0_digestByte 33 = .ok (.ireturn, 1) := by decide +kernel
theorem dX0_fillWords_0 : decode cX0_fillWords 0 = .ok (.aload_n 0, 1) := by decide +kernel
theorem dX0_fillWords_1 : decode cX0_fillWords 1 = .ok (.getfield 9, 3) := by decide +kernel
theorem dX0_fillWords_4 : decode cX0_fillWords 4 = .ok (.iconst 0, 1) := by decide +kernel
theorem dX0_fillWords_5 : decode cX0_fillWords 5 = .ok (.invokestatic 35, 3) := by decide +kernel
theorem dX0_fillWords_8 : decode cX0_fillWords 8 = .ok (.iload_n 3, 1) := by decide +kernel
theorem dX0_fillWords_9 : decode cX0_fillWords 9 = .ok (.iload 4, 2) := by decide +kernel
theorem dX0_fillWords_11 : decode cX0_fillWords 11 = .ok (.isub, 1) := by decide +kernel
theorem dX0_fillWords_12 : decode cX0_fillWords 12 = .ok (.bipush 64, 2) := by decide +kernel
theorem dX0_fillWords_14 : decode cX0_fillWords 14 = .ok (.invokestatic 41, 3) := by decide +kernel
theorem dX0_fillWords_17 : decode cX0_fillWords 17 = .ok (.istore 5, 2) := by decide +kernel
theorem dX0_fillWords_19 : decode cX0_fillWords 19 = .ok (.iconst 0, 1) := by decide +kernel
theorem dX0_fillWords_20 : decode cX0_fillWords 20 = .ok (.istore 6, 2) := by decide +kernel
theorem dX0_fillWords_22 : decode cX0_fillWords 22 = .ok (.iload 6, 2) := by decide +kernel
theorem dX0_fillWords_24 : decode cX0_fillWords 24 = .ok (.iload 5, 2) := by decide +kernel
theorem dX0_fillWords_26 : decode cX0_fillWords 26 = .ok (.if_icmp .ge 40, 3) := by decide +kernel
theorem dX0_fillWords_29 : decode cX0_fillWords 29 = .ok (.aload_n 0, 1) := by decide +kernel
theorem dX0_fillWords_30 : decode cX0_fillWords 30 = .ok (.getfield 9, 3) := by decide +kernel
theorem dX0_fillWords_33 : decode cX0_fillWords 33 = .ok (.iload 6, 2) := by decide +kernel
theorem dX0_fillWords_35 : decode cX0_fillWords 35 = .ok (.iconst 2, 1) := by decide +kernel
theorem dX0_fillWords_36 : decode cX0_fillWords 36 = .ok (.ishr, 1) := by decide +kernel
theorem dX0_fillWords_37 : decode cX0_fillWords 37 = .ok (.dup2, 1) := by decide +kernel
theorem dX0_fillWords_38 : decode cX0_fillWords 38 = .ok (.iaload, 1) := by decide +kernel
theorem dX0_fillWords_39 : decode cX0_fillWords 39 = .ok (.aload_n 1, 1) := by decide +kernel
theorem dX0_fillWords_40 : decode cX0_fillWords 40 = .ok (.iload_n 2, 1) := by decide +kernel
theorem dX0_fillWords_41 : decode cX0_fillWords 41 = .ok (.iload 4, 2) := by decide +kernel
theorem dX0_fillWords_43 : decode cX0_fillWords 43 = .ok (.iadd, 1) := by decide +kernel
theorem dX0_fillWords_44 : decode cX0_fillWords 44 = .ok (.iload 6, 2) := by decide +kernel
theorem dX0_fillWords_46 : decode cX0_fillWords 46 = .ok (.iadd, 1) := by decide +kernel
theorem dX0_fillWords_47 : decode cX0_fillWords 47 = .ok (.invokevirtual 47, 3) := by decide +kernel
theorem dX0_fillWords_50 : decode cX0_fillWords 50 = .ok (.bipush 8, 2) := by decide +kernel
theorem dX0_fillWords_52 : decode cX0_fillWords 52 = .ok (.iload 6, 2) := by decide +kernel
theorem dX0_fillWords_54 : decode cX0_fillWords 54 = .ok (.iconst 3, 1) := by decide +kernel
theorem dX0_fillWords_55 : decode cX0_fillWords 55 = .ok (.iand, 1) := by decide +kernel
theorem dX0_fillWords_56 : decode cX0_fillWords 56 = .ok (.imul, 1) := by decide +kernel
theorem dX0_fillWords_57 : decode cX0_fillWords 57 = .ok (.ishl, 1) := by decide +kernel
theorem dX0_fillWords_58 : decode cX0_fillWords 58 = .ok (.ior, 1) := by decide +kernel
theorem dX0_fillWords_59 : decode cX0_fillWords 59 = .ok (.iastore, 1) := by decide +kernel
theorem dX0_fillWords_60 : decode cX0_fillWords 60 = .ok (.iinc 6 1, 3) := by decide +kernel
theorem dX0_fillWords_63 : decode cX0_fillWords 63 = .ok (.goto (-41), 3) := by decide +kernel
theorem dX0_fillWords_66 : decode cX0_fillWords 66 = .ok (.iload 5, 2) := by decide +kernel
theorem dX0_fillWords_68 : decode cX0_fillWords 68 = .ok (.ifCond .lt 33, 3) := by decide +kernel
theorem dX0_fillWords_71 : decode cX0_fillWords 71 = .ok (.iload 5, 2) := by decide +kernel
theorem dX0_fillWords_73 : decode cX0_fillWords 73 = .ok (.bipush 64, 2) := by decide +kernel
theorem dX0_fillWords_75 : decode cX0_fillWords 75 = .ok (.if_icmp .ge 26, 3) := by decide +kernel
theorem dX0_fillWords_78 : decode cX0_fillWords 78 = .ok (.aload_n 0, 1) := by decide +kernel
theorem dX0_fillWords_79 : decode cX0_fillWords 79 = .ok (.getfield 9, 3) := by decide +kernel
theorem dX0_fillWords_82 : decode cX0_fillWords 82 = .ok (.iload 5, 2) := by decide +kernel
theorem dX0_fillWords_84 : decode cX0_fillWords 84 = .ok (.iconst 2, 1) := by decide +kernel
theorem dX0_fillWords_85 : decode cX0_fillWords 85 = .ok (.ishr, 1) := by decide +kernel
theorem dX0_fillWords_86 : decode cX0_fillWords 86 = .ok (.dup2, 1) := by decide +kernel
theorem dX0_fillWords_87 : decode cX0_fillWords 87 = .ok (.iaload, 1) := by decide +kernel
theorem dX0_fillWords_88 : decode cX0_fillWords 88 = .ok (.sipush 128, 3) := by decide +kernel
theorem dX0_fillWords_91 : decode cX0_fillWords 91 = .ok (.bipush 8, 2) := by decide +kernel
theorem dX0_fillWords_93 : decode cX0_fillWords 93 = .ok (.iload 5, 2) := by decide +kernel
theorem dX0_fillWords_95 : decode cX0_fillWords 95 = .ok (.iconst 3, 1) := by decide +kernel
theorem dX0_fillWords_96 : decode cX0_fillWords 96 = .ok (.iand, 1) := by decide +kernel
theorem dX0_fillWords_97 : decode cX0_fillWords 97 = .ok (.imul, 1) := by decide +kernel
theorem dX0_fillWords_98 : decode cX0_fillWords 98 = .ok (.ishl, 1) := by decide +kernel
theorem dX0_fillWords_99 : decode cX0_fillWords 99 = .ok (.ior, 1) := by decide +kernel
theorem dX0_fillWords_100 : decode cX0_fillWords 100 = .ok (.iastore, 1) := by decide +kernel
theorem dX0_fillWords_101 : decode cX0_fillWords 101 = .ok (.return_, 1) := by decide +kernel
theorem dX0_mixWords_0 : decode cX0_mixWords 0 = .ok (.aload_n 0, 1) := by decide +kernel
theorem dX0_mixWords_1 : decode cX0_mixWords 1 = .ok (.getfield 15, 3) := by decide +kernel
theorem dX0_mixWords_4 : decode cX0_mixWords 4 = .ok (.iconst 0, 1) := by decide +kernel
theorem dX0_mixWords_5 : decode cX0_mixWords 5 = .ok (.iaload, 1) := by decide +kernel
theorem dX0_mixWords_6 : decode cX0_mixWords 6 = .ok (.istore_n 1, 1) := by decide +kernel
theorem dX0_mixWords_7 : decode cX0_mixWords 7 = .ok (.aload_n 0, 1) := by decide +kernel
theorem dX0_mixWords_8 : decode cX0_mixWords 8 = .ok (.getfield 15, 3) := by decide +kernel
theorem dX0_mixWords_11 : decode cX0_mixWords 11 = .ok (.iconst 1, 1) := by decide +kernel
theorem dX0_mixWords_12 : decode cX0_mixWords 12 = .ok (.iaload, 1) := by decide +kernel
theorem dX0_mixWords_13 : decode cX0_mixWords 13 = .ok (.istore_n 2, 1) := by decide +kernel
theorem dX0_mixWords_14 : decode cX0_mixWords 14 = .ok (.aload_n 0, 1) := by decide +kernel
theorem dX0_mixWords_15 : decode cX0_mixWords 15 = .ok (.getfield 15, 3) := by decide +kernel
theorem dX0_mixWords_18 : decode cX0_mixWords 18 = .ok (.iconst 2, 1) := by decide +kernel
theorem dX0_mixWords_19 : decode cX0_mixWords 19 = .ok (.iaload, 1) := by decide +kernel
theorem dX0_mixWords_20 : decode cX0_mixWords 20 = .ok (.istore_n 3, 1) := by decide +kernel
theorem dX0_mixWords_21 : decode cX0_mixWords 21 = .ok (.aload_n 0, 1) := by decide +kernel
theorem dX0_mixWords_22 : decode cX0_mixWords 22 = .ok (.getfield 15, 3) := by decide +kernel
theorem dX0_mixWords_25 : decode cX0_mixWords 25 = .ok (.iconst 3, 1) := by decide +kernel
theorem dX0_mixWords_26 : decode cX0_mixWords 26 = .ok (.iaload, 1) := by decide +kernel
theorem dX0_mixWords_27 : decode cX0_mixWords 27 = .ok (.istore 4, 2) := by decide +kernel
theorem dX0_mixWords_29 : decode cX0_mixWords 29 = .ok (.iconst 0, 1) := by decide +kernel
theorem dX0_mixWords_30 : decode cX0_mixWords 30 = .ok (.istore 5, 2) := by decide +kernel
theorem dX0_mixWords_32 : decode cX0_mixWords 32 = .ok (.iload 5, 2) := by decide +kernel
theorem dX0_mixWords_34 : decode cX0_mixWords 34 = .ok (.bipush 64, 2) := by decide +kernel
theorem dX0_mixWords_36 : decode cX0_mixWords 36 = .ok (.if_icmp .ge 88, 3) := by decide +kernel
theorem dX0_mixWords_39 : decode cX0_mixWords 39 = .ok (.iload 5, 2) := by decide +kernel
theorem dX0_mixWords_41 : decode cX0_mixWords 41 = .ok (.iconst 4, 1) := by decide +kernel
theorem dX0_mixWords_42 : decode cX0_mixWords 42 = .ok (.ishr, 1) := by decide +kernel
theorem dX0_mixWords_43 : decode cX0_mixWords 43 = .ok (.istore 6, 2) := by decide +kernel
theorem dX0_mixWords_45 : decode cX0_mixWords 45 = .ok (.iload_n 1, 1) := by decide +kernel
theorem dX0_mixWords_46 : decode cX0_mixWords 46 = .ok (.iload 6, 2) := by decide +kernel
theorem dX0_mixWords_48 : decode cX0_mixWords 48 = .ok (.iload_n 2, 1) := by decide +kernel
theorem dX0_mixWords_49 : decode cX0_mixWords 49 = .ok (.iload_n 3, 1) := by decide +kernel
theorem dX0_mixWords_50 : decode cX0_mixWords 50 = .ok (.iload 4, 2) := by decide +kernel
theorem dX0_mixWords_52 : decode cX0_mixWords 52 = .ok (.invokestatic 51, 3) := by decide +kernel
theorem dX0_mixWords_55 : decode cX0_mixWords 55 = .ok (.iadd, 1) := by decide +kernel
theorem dX0_mixWords_56 : decode cX0_mixWords 56 = .ok (.getstatic 55, 3) := by decide +kernel
theorem dX0_mixWords_59 : decode cX0_mixWords 59 = .ok (.iload 5, 2) := by decide +kernel
theorem dX0_mixWords_61 : decode cX0_mixWords 61 = .ok (.iaload, 1) := by decide +kernel
theorem dX0_mixWords_62 : decode cX0_mixWords 62 = .ok (.iadd, 1) := by decide +kernel
theorem dX0_mixWords_63 : decode cX0_mixWords 63 = .ok (.aload_n 0, 1) := by decide +kernel
theorem dX0_mixWords_64 : decode cX0_mixWords 64 = .ok (.getfield 9, 3) := by decide +kernel
theorem dX0_mixWords_67 : decode cX0_mixWords 67 = .ok (.iload 6, 2) := by decide +kernel
theorem dX0_mixWords_69 : decode cX0_mixWords 69 = .ok (.iload 5, 2) := by decide +kernel
theorem dX0_mixWords_71 : decode cX0_mixWords 71 = .ok (.invokestatic 58, 3) := by decide +kernel
theorem dX0_mixWords_74 : decode cX0_mixWords 74 = .ok (.iaload, 1) := by decide +kernel
theorem dX0_mixWords_75 : decode cX0_mixWords 75 = .ok (.iadd, 1) := by decide +kernel
theorem dX0_mixWords_76 : decode cX0_mixWords 76 = .ok (.istore 7, 2) := by decide +kernel
theorem dX0_mixWords_78 : decode cX0_mixWords 78 = .ok (.getstatic 61, 3) := by decide +kernel
theorem dX0_mixWords_81 : decode cX0_mixWords 81 = .ok (.iconst 4, 1) := by decide +kernel
theorem dX0_mixWords_82 : decode cX0_mixWords 82 = .ok (.iload 6, 2) := by decide +kernel
theorem dX0_mixWords_84 : decode cX0_mixWords 84 = .ok (.imul, 1) := by decide +kernel
theorem dX0_mixWords_85 : decode cX0_mixWords 85 = .ok (.iload 5, 2) := by decide +kernel
theorem dX0_mixWords_87 : decode cX0_mixWords 87 = .ok (.iconst 3, 1) := by decide +kernel
theorem dX0_mixWords_88 : decode cX0_mixWords 88 = .ok (.iand, 1) := by decide +kernel
theorem dX0_mixWords_89 : decode cX0_mixWords 89 = .ok (.iadd, 1) := by decide +kernel
theorem dX0_mixWords_90 : decode cX0_mixWords 90 = .ok (.iaload, 1) := by decide +kernel
theorem dX0_mixWords_91 : decode cX0_mixWords 91 = .ok (.istore 8, 2) := by decide +kernel
theorem dX0_mixWords_93 : decode cX0_mixWords 93 = .ok (.iload 4, 2) := by decide +kernel
theorem dX0_mixWords_95 : decode cX0_mixWords 95 = .ok (.istore_n 1, 1) := by decide +kernel
theorem dX0_mixWords_96 : decode cX0_mixWords 96 = .ok (.iload_n 3, 1) := by decide +kernel
theorem dX0_mixWords_97 : decode cX0_mixWords 97 = .ok (.istore 4, 2) := by decide +kernel
theorem dX0_mixWords_99 : decode cX0_mixWords 99 = .ok (.iload_n 2, 1) := by decide +kernel
theorem dX0_mixWords_100 : decode cX0_mixWords 100 = .ok (.istore_n 3, 1) := by decide +kernel
theorem dX0_mixWords_101 : decode cX0_mixWords 101 = .ok (.iload_n 2, 1) := by decide +kernel
theorem dX0_mixWords_102 : decode cX0_mixWords 102 = .ok (.iload 7, 2) := by decide +kernel
theorem dX0_mixWords_104 : decode cX0_mixWords 104 = .ok (.iload 8, 2) := by decide +kernel
theorem dX0_mixWords_106 : decode cX0_mixWords 106 = .ok (.ishl, 1) := by decide +kernel
theorem dX0_mixWords_107 : decode cX0_mixWords 107 = .ok (.iload 7, 2) := by decide +kernel
theorem dX0_mixWords_109 : decode cX0_mixWords 109 = .ok (.bipush 32, 2) := by decide +kernel
theorem dX0_mixWords_111 : decode cX0_mixWords 111 = .ok (.iload 8, 2) := by decide +kernel
theorem dX0_mixWords_113 : decode cX0_mixWords 113 = .ok (.isub, 1) := by decide +kernel
theorem dX0_mixWords_114 : decode cX0_mixWords 114 = .ok (.iushr, 1) := by decide +kernel
theorem dX0_mixWords_115 : decode cX0_mixWords 115 = .ok (.ior, 1) := by decide +kernel
theorem dX0_mixWords_116 : decode cX0_mixWords 116 = .ok (.iadd, 1) := by decide +kernel
theorem dX0_mixWords_117 : decode cX0_mixWords 117 = .ok (.istore_n 2, 1) := by decide +kernel
theorem dX0_mixWords_118 : decode cX0_mixWords 118 = .ok (.iinc 5 1, 3) := by decide +kernel
theorem dX0_mixWords_121 : decode cX0_mixWords 121 = .ok (.goto (-89), 3) := by decide +kernel
theorem dX0_mixWords_124 : decode cX0_mixWords 124 = .ok (.aload_n 0, 1) := by decide +kernel
theorem dX0_mixWords_125 : decode cX0_mixWords 125 = .ok (.getfield 15, 3) := by decide +kernel
theorem dX0_mixWords_128 : decode cX0_mixWords 128 = .ok (.iconst 0, 1) := by decide +kernel
theorem dX0_mixWords_129 : decode cX0_mixWords 129 = .ok (.dup2, 1) := by decide +kernel
theorem dX0_mixWords_130 : decode cX0_mixWords 130 = .ok (.iaload, 1) := by decide +kernel
theorem dX0_mixWords_131 : decode cX0_mixWords 131 = .ok (.iload_n 1, 1) := by decide +kernel
theorem dX0_mixWords_132 : decode cX0_mixWords 132 = .ok (.iadd, 1) := by decide +kernel
theorem dX0_mixWords_133 : decode cX0_mixWords 133 = .ok (.iastore, 1) := by decide +kernel
theorem dX0_mixWords_134 : decode cX0_mixWords 134 = .ok (.aload_n 0, 1) := by decide +kernel
theorem dX0_mixWords_135 : decode cX0_mixWords 135 = .ok (.getfield 15, 3) := by decide +kernel
theorem dX0_mixWords_138 : decode cX0_mixWords 138 = .ok (.iconst 1, 1) := by decide +kernel
theorem dX0_mixWords_139 : decode cX0_mixWords 139 = .ok (.dup2, 1) := by decide +kernel
theorem dX0_mixWords_140 : decode cX0_mixWords 140 = .ok (.iaload, 1) := by decide +kernel
theorem dX0_mixWords_141 : decode cX0_mixWords 141 = .ok (.iload_n 2, 1) := by decide +kernel
theorem dX0_mixWords_142 : decode cX0_mixWords 142 = .ok (.iadd, 1) := by decide +kernel
theorem dX0_mixWords_143 : decode cX0_mixWords 143 = .ok (.iastore, 1) := by decide +kernel
theorem dX0_mixWords_144 : decode cX0_mixWords 144 = .ok (.aload_n 0, 1) := by decide +kernel
theorem dX0_mixWords_145 : decode cX0_mixWords 145 = .ok (.getfield 15, 3) := by decide +kernel
theorem dX0_mixWords_148 : decode cX0_mixWords 148 = .ok (.iconst 2, 1) := by decide +kernel
theorem dX0_mixWords_149 : decode cX0_mixWords 149 = .ok (.dup2, 1) := by decide +kernel
theorem dX0_mixWords_150 : decode cX0_mixWords 150 = .ok (.iaload, 1) := by decide +kernel
theorem dX0_mixWords_151 : decode cX0_mixWords 151 = .ok (.iload_n 3, 1) := by decide +kernel
theorem dX0_mixWords_152 : decode cX0_mixWords 152 = .ok (.iadd, 1) := by decide +kernel
theorem dX0_mixWords_153 : decode cX0_mixWords 153 = .ok (.iastore, 1) := by decide +kernel
theorem dX0_mixWords_154 : decode cX0_mixWords 154 = .ok (.aload_n 0, 1) := by decide +kernel
theorem dX0_mixWords_155 : decode cX0_mixWords 155 = .ok (.getfield 15, 3) := by decide +kernel
theorem dX0_mixWords_158 : decode cX0_mixWords 158 = .ok (.iconst 3, 1) := by decide +kernel
theorem dX0_mixWords_159 : decode cX0_mixWords 159 = .ok (.dup2, 1) := by decide +kernel
theorem dX0_mixWords_160 : decode cX0_mixWords 160 = .ok (.iaload, 1) := by decide +kernel
theorem dX0_mixWords_161 : decode cX0_mixWords 161 = .ok (.iload 4, 2) := by decide +kernel
theorem dX0_mixWords_163 : decode cX0_mixWords 163 = .ok (.iadd, 1) := by decide +kernel
theorem dX0_mixWords_164 : decode cX0_mixWords 164 = .ok (.iastore, 1) := by decide +kernel
theorem dX0_mixWords_165 : decode cX0_mixWords 165 = .ok (.return_, 1) := by decide +kernel
theorem dX0_mixed_0 : decode cX0_mixed 0 = .ok (.iload_n 0, 1) := by decide +kernel
theorem dX0_mixed_1 : decode cX0_mixed 1 = .ok (.tableswitch 53 0 2 #[27, 37, 47], 27) := by decide +kernel
theorem dX0_mixed_28 : decode cX0_mixed 28 = .ok (.iload_n 1, 1) := by decide +kernel
theorem dX0_mixed_29 : decode cX0_mixed 29 = .ok (.iload_n 2, 1) := by decide +kernel
theorem dX0_mixed_30 : decode cX0_mixed 30 = .ok (.iand, 1) := by decide +kernel
theorem dX0_mixed_31 : decode cX0_mixed 31 = .ok (.iload_n 1, 1) := by decide +kernel
theorem dX0_mixed_32 : decode cX0_mixed 32 = .ok (.iconst (-1), 1) := by decide +kernel
theorem dX0_mixed_33 : decode cX0_mixed 33 = .ok (.ixor, 1) := by decide +kernel
theorem dX0_mixed_34 : decode cX0_mixed 34 = .ok (.iload_n 3, 1) := by decide +kernel
theorem dX0_mixed_35 : decode cX0_mixed 35 = .ok (.iand, 1) := by decide +kernel
theorem dX0_mixed_36 : decode cX0_mixed 36 = .ok (.ior, 1) := by decide +kernel
theorem dX0_mixed_37 : decode cX0_mixed 37 = .ok (.ireturn, 1) := by decide +kernel
theorem dX0_mixed_38 : decode cX0_mixed 38 = .ok (.iload_n 1, 1) := by decide +kernel
theorem dX0_mixed_39 : decode cX0_mixed 39 = .ok (.iload_n 3, 1) := by decide +kernel
theorem dX0_mixed_40 : decode cX0_mixed 40 = .ok (.iand, 1) := by decide +kernel
theorem dX0_mixed_41 : decode cX0_mixed 41 = .ok (.iload_n 2, 1) := by decide +kernel
theorem dX0_mixed_42 : decode cX0_mixed 42 = .ok (.iload_n 3, 1) := by decide +kernel
theorem dX0_mixed_43 : decode cX0_mixed 43 = .ok (.iconst (-1), 1) := by decide +kernel
theorem dX0_mixed_44 : decode cX0_mixed 44 = .ok (.ixor, 1) := by decide +kernel
theorem dX0_mixed_45 : decode cX0_mixed 45 = .ok (.iand, 1) := by decide +kernel
theorem dX0_mixed_46 : decode cX0_mixed 46 = .ok (.ior, 1) := by decide +kernel
theorem dX0_mixed_47 : decode cX0_mixed 47 = .ok (.ireturn, 1) := by decide +kernel
theorem dX0_mixed_48 : decode cX0_mixed 48 = .ok (.iload_n 1, 1) := by decide +kernel
theorem dX0_mixed_49 : decode cX0_mixed 49 = .ok (.iload_n 2, 1) := by decide +kernel
theorem dX0_mixed_50 : decode cX0_mixed 50 = .ok (.ixor, 1) := by decide +kernel
theorem dX0_mixed_51 : decode cX0_mixed 51 = .ok (.iload_n 3, 1) := by decide +kernel
theorem dX0_mixed_52 : decode cX0_mixed 52 = .ok (.ixor, 1) := by decide +kernel
theorem dX0_mixed_53 : decode cX0_mixed 53 = .ok (.ireturn, 1) := by decide +kernel
theorem dX0_mixed_54 : decode cX0_mixed 54 = .ok (.iload_n 2, 1) := by decide +kernel
theorem dX0_mixed_55 : decode cX0_mixed 55 = .ok (.iload_n 1, 1) := by decide +kernel
theorem dX0_mixed_56 : decode cX0_mixed 56 = .ok (.iload_n 3, 1) := by decide +kernel
theorem dX0_mixed_57 : decode cX0_mixed 57 = .ok (.iconst (-1), 1) := by decide +kernel
theorem dX0_mixed_58 : decode cX0_mixed 58 = .ok (.ixor, 1) := by decide +kernel
theorem dX0_mixed_59 : decode cX0_mixed 59 = .ok (.ior, 1) := by decide +kernel
theorem dX0_mixed_60 : decode cX0_mixed 60 = .ok (.ixor, 1) := by decide +kernel
theorem dX0_mixed_61 : decode cX0_mixed 61 = .ok (.ireturn, 1) := by decide +kernel
theorem dX0_wordFor_0 : decode cX0_wordFor 0 = .ok (.iload_n 0, 1) := by decide +kernel
theorem dX0_wordFor_1 : decode cX0_wordFor 1 = .ok (.tableswitch 50 0 2 #[27, 32, 41], 27) := by decide +kernel
theorem dX0_wordFor_28 : decode cX0_wordFor 28 = .ok (.iload_n 1, 1) := by decide +kernel
theorem dX0_wordFor_29 : decode cX0_wordFor 29 = .ok (.bipush 15, 2) := by decide +kernel
theorem dX0_wordFor_31 : decode cX0_wordFor 31 = .ok (.iand, 1) := by decide +kernel
theorem dX0_wordFor_32 : decode cX0_wordFor 32 = .ok (.ireturn, 1) := by decide +kernel
theorem dX0_wordFor_33 : decode cX0_wordFor 33 = .ok (.iconst 5, 1) := by decide +kernel
theorem dX0_wordFor_34 : decode cX0_wordFor 34 = .ok (.iload_n 1, 1) := by decide +kernel
theorem dX0_wordFor_35 : decode cX0_wordFor 35 = .ok (.imul, 1) := by decide +kernel
theorem dX0_wordFor_36 : decode cX0_wordFor 36 = .ok (.iconst 1, 1) := by decide +kernel
theorem dX0_wordFor_37 : decode cX0_wordFor 37 = .ok (.iadd, 1) := by decide +kernel
theorem dX0_wordFor_38 : decode cX0_wordFor 38 = .ok (.bipush 15, 2) := by decide +kernel
theorem dX0_wordFor_40 : decode cX0_wordFor 40 = .ok (.iand, 1) := by decide +kernel
theorem dX0_wordFor_41 : decode cX0_wordFor 41 = .ok (.ireturn, 1) := by decide +kernel
theorem dX0_wordFor_42 : decode cX0_wordFor 42 = .ok (.iconst 3, 1) := by decide +kernel
theorem dX0_wordFor_43 : decode cX0_wordFor 43 = .ok (.iload_n 1, 1) := by decide +kernel
theorem dX0_wordFor_44 : decode cX0_wordFor 44 = .ok (.imul, 1) := by decide +kernel
theorem dX0_wordFor_45 : decode cX0_wordFor 45 = .ok (.iconst 5, 1) := by decide +kernel
theorem dX0_wordFor_46 : decode cX0_wordFor 46 = .ok (.iadd, 1) := by decide +kernel
theorem dX0_wordFor_47 : decode cX0_wordFor 47 = .ok (.bipush 15, 2) := by decide +kernel
theorem dX0_wordFor_49 : decode cX0_wordFor 49 = .ok (.iand, 1) := by decide +kernel
theorem dX0_wordFor_50 : decode cX0_wordFor 50 = .ok (.ireturn, 1) := by decide +kernel
theorem dX0_wordFor_51 : decode cX0_wordFor 51 = .ok (.bipush 7, 2) := by decide +kernel
theorem dX0_wordFor_53 : decode cX0_wordFor 53 = .ok (.iload_n 1, 1) := by decide +kernel
theorem dX0_wordFor_54 : decode cX0_wordFor 54 = .ok (.imul, 1) := by decide +kernel
theorem dX0_wordFor_55 : decode cX0_wordFor 55 = .ok (.bipush 15, 2) := by decide +kernel
theorem dX0_wordFor_57 : decode cX0_wordFor 57 = .ok (.iand, 1) := by decide +kernel
theorem dX0_wordFor_58 : decode cX0_wordFor 58 = .ok (.ireturn, 1) := by decide +kernel
