theorem dX4_init_0 : decode cX4_init 0 = .ok (.aload_n 0, 1) := by decide +kernel
theorem dX4_init_1 : decode cX4_init 1 = .ok (.invokespecial 3, 3) := by decide +kernel
theorem dX4_init_4 : decode cX4_init 4 = .ok (.aload_n 0, 1) := by decide +kernel
theorem dX4_init_5 : decode cX4_init 5 = .ok (.new 9, 3) := by decide +kernel
theorem dX4_init_8 : decode cX4_init 8 = .ok (.dup, 1) := by decide +kernel
theorem dX4_init_9 : decode cX4_init 9 = .ok (.sipush 2000, 3) := by decide +kernel
theorem dX4_init_12 : decode cX4_init 12 = .ok (.invokespecial 11, 3) := by decide +kernel
theorem dX4_init_15 : decode cX4_init 15 = .ok (.putfield 14, 3) := by decide +kernel
theorem dX4_init_18 : decode cX4_init 18 = .ok (.aload_n 0, 1) := by decide +kernel
theorem dX4_init_19 : decode cX4_init 19 = .ok (.new 9, 3) := by decide +kernel
theorem dX4_init_22 : decode cX4_init 22 = .ok (.dup, 1) := by decide +kernel
theorem dX4_init_23 : decode cX4_init 23 = .ok (.sipush 2000, 3) := by decide +kernel
theorem dX4_init_26 : decode cX4_init 26 = .ok (.invokespecial 11, 3) := by decide +kernel
theorem dX4_init_29 : decode cX4_init 29 = .ok (.putfield 18, 3) := by decide +kernel
theorem dX4_init_32 : decode cX4_init 32 = .ok (.aload_n 0, 1) := by decide +kernel
theorem dX4_init_33 : decode cX4_init 33 = .ok (.new 9, 3) := by decide +kernel
theorem dX4_init_36 : decode cX4_init 36 = .ok (.dup, 1) := by decide +kernel
theorem dX4_init_37 : decode cX4_init 37 = .ok (.sipush 8000, 3) := by decide +kernel
theorem dX4_init_40 : decode cX4_init 40 = .ok (.invokespecial 11, 3) := by decide +kernel
theorem dX4_init_43 : decode cX4_init 43 = .ok (.putfield 21, 3) := by decide +kernel
theorem dX4_init_46 : decode cX4_init 46 = .ok (.aload_n 0, 1) := by decide +kernel
theorem dX4_init_47 : decode cX4_init 47 = .ok (.new 9, 3) := by decide +kernel
theorem dX4_init_50 : decode cX4_init 50 = .ok (.dup, 1) := by decide +kernel
theorem dX4_init_51 : decode cX4_init 51 = .ok (.sipush 2000, 3) := by decide +kernel
theorem dX4_init_54 : decode cX4_init 54 = .ok (.invokespecial 11, 3) := by decide +kernel
theorem dX4_init_57 : decode cX4_init 57 = .ok (.putfield 24, 3) := by decide +kernel
theorem dX4_init_60 : decode cX4_init 60 = .ok (.aload_n 0, 1) := by decide +kernel
theorem dX4_init_61 : decode cX4_init 61 = .ok (.new 27, 3) := by decide +kernel
theorem dX4_init_64 : decode cX4_init 64 = .ok (.dup, 1) := by decide +kernel
theorem dX4_init_65 : decode cX4_init 65 = .ok (.invokespecial 29, 3) := by decide +kernel
theorem dX4_init_68 : decode cX4_init 68 = .ok (.putfield 30, 3) := by decide +kernel
theorem dX4_init_71 : decode cX4_init 71 = .ok (.aload_n 0, 1) := by decide +kernel
theorem dX4_init_72 : decode cX4_init 72 = .ok (.new 34, 3) := by decide +kernel
theorem dX4_init_75 : decode cX4_init 75 = .ok (.dup, 1) := by decide +kernel
theorem dX4_init_76 : decode cX4_init 76 = .ok (.invokespecial 36, 3) := by decide +kernel
theorem dX4_init_79 : decode cX4_init 79 = .ok (.putfield 37, 3) := by decide +kernel
theorem dX4_init_82 : decode cX4_init 82 = .ok (.aload_n 0, 1) := by decide +kernel
theorem dX4_init_83 : decode cX4_init 83 = .ok (.new 41, 3) := by decide +kernel
theorem dX4_init_86 : decode cX4_init 86 = .ok (.dup, 1) := by decide +kernel
theorem dX4_init_87 : decode cX4_init 87 = .ok (.aload_n 0, 1) := by decide +kernel
theorem dX4_init_88 : decode cX4_init 88 = .ok (.getfield 18, 3) := by decide +kernel
theorem dX4_init_91 : decode cX4_init 91 = .ok (.aload_n 0, 1) := by decide +kernel
theorem dX4_init_92 : decode cX4_init 92 = .ok (.getfield 21, 3) := by decide +kernel
theorem dX4_init_95 : decode cX4_init 95 = .ok (.aload_n 0, 1) := by decide +kernel
theorem dX4_init_96 : decode cX4_init 96 = .ok (.getfield 37, 3) := by decide +kernel
theorem dX4_init_99 : decode cX4_init 99 = .ok (.aload_n 0, 1) := by decide +kernel
theorem dX4_init_100 : decode cX4_init 100 = .ok (.getfield 30, 3) := by decide +kernel
theorem dX4_init_103 : decode cX4_init 103 = .ok (.invokespecial 43, 3) := by decide +kernel
theorem dX4_init_106 : decode cX4_init 106 = .ok (.putfield 46, 3) := by decide +kernel
theorem dX4_init_109 : decode cX4_init 109 = .ok (.aload_n 0, 1) := by decide +kernel
theorem dX4_init_110 : decode cX4_init 110 = .ok (.bipush 16, 2) := by decide +kernel
theorem dX4_init_112 : decode cX4_init 112 = .ok (.putfield 50, 3) := by decide +kernel
theorem dX4_init_115 : decode cX4_init 115 = .ok (.aload_n 0, 1) := by decide +kernel
theorem dX4_init_116 : decode cX4_init 116 = .ok (.bipush 8, 2) := by decide +kernel
theorem dX4_init_118 : decode cX4_init 118 = .ok (.putfield 54, 3) := by decide +kernel
theorem dX4_init_121 : decode cX4_init 121 = .ok (.return_, 1) := by decide +kernel
theorem dX4_feed_0 : decode cX4_feed 0 = .ok (.aload_n 0, 1) := by decide +kernel
theorem dX4_feed_1 : decode cX4_feed 1 = .ok (.iload_n 1, 1) := by decide +kernel
theorem dX4_feed_2 : decode cX4_feed 2 = .ok (.invokevirtual 57, 3) := by decide +kernel
theorem dX4_feed_5 : decode cX4_feed 5 = .ok (.astore_n 3, 1) := by decide +kernel
theorem dX4_feed_6 : decode cX4_feed 6 = .ok (.aload_n 3, 1) := by decide +kernel
theorem dX4_feed_7 : decode cX4_feed 7 = .ok (.ifnull 11, 3) := by decide +kernel
theorem dX4_feed_10 : decode cX4_feed 10 = .ok (.aload_n 3, 1) := by decide +kernel
theorem dX4_feed_11 : decode cX4_feed 11 = .ok (.invokevirtual 61, 3) := by decide +kernel
theorem dX4_feed_14 : decode cX4_feed 14 = .ok (.iconst 4, 1) := by decide +kernel
theorem dX4_feed_15 : decode cX4_feed 15 = .ok (.if_icmp .ge 5, 3) := by decide +kernel
theorem dX4_feed_18 : decode cX4_feed 18 = .ok (.iconst (-1), 1) := by decide +kernel
theorem dX4_feed_19 : decode cX4_feed 19 = .ok (.ireturn, 1) := by decide +kernel
theorem dX4_feed_20 : decode cX4_feed 20 = .ok (.bipush 24, 2) := by decide +kernel
theorem dX4_feed_22 : decode cX4_feed 22 = .ok (.istore 4, 2) := by decide +kernel
theorem dX4_feed_24 : decode cX4_feed 24 = .ok (.iload 4, 2) := by decide +kernel
theorem dX4_feed_26 : decode cX4_feed 26 = .ok (.ifCond .lt 22, 3) := by decide +kernel
theorem dX4_feed_29 : decode cX4_feed 29 = .ok (.aload_n 3, 1) := by decide +kernel
theorem dX4_feed_30 : decode cX4_feed 30 = .ok (.iload_n 2, 1) := by decide +kernel
theorem dX4_feed_31 : decode cX4_feed 31 = .ok (.iload 4, 2) := by decide +kernel
theorem dX4_feed_33 : decode cX4_feed 33 = .ok (.iushr, 1) := by decide +kernel
theorem dX4_feed_34 : decode cX4_feed 34 = .ok (.sipush 255, 3) := by decide +kernel
theorem dX4_feed_37 : decode cX4_feed 37 = .ok (.iand, 1) := by decide +kernel
theorem dX4_feed_38 : decode cX4_feed 38 = .ok (.invokevirtual 65, 3) := by decide +kernel
theorem dX4_feed_41 : decode cX4_feed 41 = .ok (.pop, 1) := by decide +kernel
theorem dX4_feed_42 : decode cX4_feed 42 = .ok (.iinc 4 (-8), 3) := by decide +kernel
theorem dX4_feed_45 : decode cX4_feed 45 = .ok (.goto (-21), 3) := by decide +kernel
theorem dX4_feed_48 : decode cX4_feed 48 = .ok (.aload_n 3, 1) := by decide +kernel
theorem dX4_feed_49 : decode cX4_feed 49 = .ok (.invokevirtual 69, 3) := by decide +kernel
theorem dX4_feed_52 : decode cX4_feed 52 = .ok (.ireturn, 1) := by decide +kernel
theorem dX4_cut_0 : decode cX4_cut 0 = .ok (.aload_n 0, 1) := by decide +kernel
theorem dX4_cut_1 : decode cX4_cut 1 = .ok (.iload_n 1, 1) := by decide +kernel
theorem dX4_cut_2 : decode cX4_cut 2 = .ok (.invokevirtual 57, 3) := by decide +kernel
theorem dX4_cut_5 : decode cX4_cut 5 = .ok (.astore_n 3, 1) := by decide +kernel
theorem dX4_cut_6 : decode cX4_cut 6 = .ok (.aload_n 3, 1) := by decide +kernel
theorem dX4_cut_7 : decode cX4_cut 7 = .ok (.ifnull 15, 3) := by decide +kernel
theorem dX4_cut_10 : decode cX4_cut 10 = .ok (.aload_n 3, 1) := by decide +kernel
theorem dX4_cut_11 : decode cX4_cut 11 = .ok (.iload_n 2, 1) := by decide +kernel
theorem dX4_cut_12 : decode cX4_cut 12 = .ok (.invokevirtual 72, 3) := by decide +kernel
theorem dX4_cut_15 : decode cX4_cut 15 = .ok (.ifCond .eq 7, 3) := by decide +kernel
theorem dX4_cut_18 : decode cX4_cut 18 = .ok (.iconst 1, 1) := by decide +kernel
theorem dX4_cut_19 : decode cX4_cut 19 = .ok (.goto 4, 3) := by decide +kernel
theorem dX4_cut_22 : decode cX4_cut 22 = .ok (.iconst 0, 1) := by decide +kernel
theorem dX4_cut_23 : decode cX4_cut 23 = .ok (.ireturn, 1) := by decide +kernel
theorem dX4_put_0 : decode cX4_put 0 = .ok (.aload_n 0, 1) := by decide +kernel
theorem dX4_put_1 : decode cX4_put 1 = .ok (.iload_n 1, 1) := by decide +kernel
theorem dX4_put_2 : decode cX4_put 2 = .ok (.invokevirtual 57, 3) := by decide +kernel
theorem dX4_put_5 : decode cX4_put 5 = .ok (.astore 4, 2) := by decide +kernel
theorem dX4_put_7 : decode cX4_put 7 = .ok (.aload 4, 2) := by decide +kernel
theorem dX4_put_9 : decode cX4_put 9 = .ok (.ifnull 17, 3) := by decide +kernel
theorem dX4_put_12 : decode cX4_put 12 = .ok (.aload 4, 2) := by decide +kernel
theorem dX4_put_14 : decode cX4_put 14 = .ok (.iload_n 2, 1) := by decide +kernel
theorem dX4_put_15 : decode cX4_put 15 = .ok (.iload_n 3, 1) := by decide +kernel
theorem dX4_put_16 : decode cX4_put 16 = .ok (.invokevirtual 75, 3) := by decide +kernel
theorem dX4_put_19 : decode cX4_put 19 = .ok (.ifCond .eq 7, 3) := by decide +kernel
theorem dX4_put_22 : decode cX4_put 22 = .ok (.iconst 1, 1) := by decide +kernel
theorem dX4_put_23 : decode cX4_put 23 = .ok (.goto 4, 3) := by decide +kernel
theorem dX4_put_26 : decode cX4_put 26 = .ok (.iconst 0, 1) := by decide +kernel
theorem dX4_put_27 : decode cX4_put 27 = .ok (.ireturn, 1) := by decide +kernel
theorem dX4_shape_0 : decode cX4_shape 0 = .ok (.iload_n 1, 1) := by decide +kernel
theorem dX4_shape_1 : decode cX4_shape 1 = .ok (.iconst 1, 1) := by decide +kernel
theorem dX4_shape_2 : decode cX4_shape 2 = .ok (.if_icmp .lt 21, 3) := by decide +kernel
theorem dX4_shape_5 : decode cX4_shape 5 = .ok (.iload_n 1, 1) := by decide +kernel
theorem dX4_shape_6 : decode cX4_shape 6 = .ok (.sipush 256, 3) := by decide +kernel
theorem dX4_shape_9 : decode cX4_shape 9 = .ok (.if_icmp .gt 14, 3) := by decide +kernel
theorem dX4_shape_12 : decode cX4_shape 12 = .ok (.iload_n 2, 1) := by decide +kernel
theorem dX4_shape_13 : decode cX4_shape 13 = .ok (.iconst 1, 1) := by decide +kernel
theorem dX4_shape_14 : decode cX4_shape 14 = .ok (.if_icmp .lt 9, 3) := by decide +kernel
theorem dX4_shape_17 : decode cX4_shape 17 = .ok (.iload_n 2, 1) := by decide +kernel
theorem dX4_shape_18 : decode cX4_shape 18 = .ok (.bipush 16, 2) := by decide +kernel
theorem dX4_shape_20 : decode cX4_shape 20 = .ok (.if_icmp .le 5, 3) := by decide +kernel
theorem dX4_shape_23 : decode cX4_shape 23 = .ok (.iconst 0, 1) := by decide +kernel
theorem dX4_shape_24 : decode cX4_shape 24 = .ok (.ireturn, 1) := by decide +kernel
theorem dX4_shape_25 : decode cX4_shape 25 = .ok (.aload_n 0, 1) := by decide +kernel
theorem dX4_shape_26 : decode cX4_shape 26 = .ok (.iload_n 1, 1) := by decide +kernel
theorem dX4_shape_27 : decode cX4_shape 27 = .ok (.putfield 50, 3) := by decide +kernel
theorem dX4_shape_30 : decode cX4_shape 30 = .ok (.aload_n 0, 1) := by decide +kernel
theorem dX4_shape_31 : decode cX4_shape 31 = .ok (.iload_n 2, 1) := by decide +kernel
theorem dX4_shape_32 : decode cX4_shape 32 = .ok (.putfield 54, 3) := by decide +kernel
theorem dX4_shape_35 : decode cX4_shape 35 = .ok (.iconst 1, 1) := by decide +kernel
theorem dX4_shape_36 : decode cX4_shape 36 = .ok (.ireturn, 1) := by decide +kernel
theorem dX4_sign_0 : decode cX4_sign 0 = .ok (.aload_n 0, 1) := by decide +kernel
theorem dX4_sign_1 : decode cX4_sign 1 = .ok (.getfield 37, 3) := by decide +kernel
theorem dX4_sign_4 : decode cX4_sign 4 = .ok (.aload_n 0, 1) := by decide +kernel
theorem dX4_sign_5 : decode cX4_sign 5 = .ok (.getfield 14, 3) := by decide +kernel
theorem dX4_sign_8 : decode cX4_sign 8 = .ok (.aload_n 0, 1) := by decide +kernel
theorem dX4_sign_9 : decode cX4_sign 9 = .ok (.getfield 50, 3) := by decide +kernel
theorem dX4_sign_12 : decode cX4_sign 12 = .ok (.aload_n 0, 1) := by decide +kernel
theorem dX4_sign_13 : decode cX4_sign 13 = .ok (.getfield 54, 3) := by decide +kernel
theorem dX4_sign_16 : decode cX4_sign 16 = .ok (.aload_n 0, 1) := by decide +kernel
theorem dX4_sign_17 : decode cX4_sign 17 = .ok (.getfield 30, 3) := by decide +kernel
theorem dX4_sign_20 : decode cX4_sign 20 = .ok (.invokevirtual 79, 3) := by decide +kernel
theorem dX4_sign_23 : decode cX4_sign 23 = .ok (.aload_n 0, 1) := by decide +kernel
theorem dX4_sign_24 : decode cX4_sign 24 = .ok (.getfield 37, 3) := by decide +kernel
theorem dX4_sign_27 : decode cX4_sign 27 = .ok (.invokevirtual 83, 3) := by decide +kernel
theorem dX4_sign_30 : decode cX4_sign 30 = .ok (.ireturn, 1) := by decide +kernel
theorem dX4_sum_0 : decode cX4_sum 0 = .ok (.aload_n 0, 1) := by decide +kernel
theorem dX4_sum_1 : decode cX4_sum 1 = .ok (.getfield 37, 3) := by decide +kernel
theorem dX4_sum_4 : decode cX4_sum 4 = .ok (.iload_n 1, 1) := by decide +kernel
theorem dX4_sum_5 : decode cX4_sum 5 = .ok (.invokevirtual 86, 3) := by decide +kernel
theorem dX4_sum_8 : decode cX4_sum 8 = .ok (.ireturn, 1) := by decide +kernel
theorem dX4_digest_0 : decode cX4_digest 0 = .ok (.aload_n 0, 1) := by decide +kernel
theorem dX4_digest_1 : decode cX4_digest 1 = .ok (.getfield 37, 3) := by decide +kernel
theorem dX4_digest_4 : decode cX4_digest 4 = .ok (.iload_n 1, 1) := by decide +kernel
theorem dX4_digest_5 : decode cX4_digest 5 = .ok (.iload_n 2, 1) := by decide +kernel
theorem dX4_digest_6 : decode cX4_digest 6 = .ok (.invokevirtual 90, 3) := by decide +kernel
theorem dX4_digest_9 : decode cX4_digest 9 = .ok (.ireturn, 1) := by decide +kernel
theorem dX4_delta_0 : decode cX4_delta 0 = .ok (.aload_n 0, 1) := by decide +kernel
theorem dX4_delta_1 : decode cX4_delta 1 = .ok (.getfield 46, 3) := by decide +kernel
theorem dX4_delta_4 : decode cX4_delta 4 = .ok (.invokevirtual 94, 3) := by decide +kernel
theorem dX4_delta_7 : decode cX4_delta 7 = .ok (.aload_n 0, 1) := by decide +kernel
theorem dX4_delta_8 : decode cX4_delta 8 = .ok (.getfield 21, 3) := by decide +kernel
theorem dX4_delta_11 : decode cX4_delta 11 = .ok (.invokevirtual 69, 3) := by decide +kernel
theorem dX4_delta_14 : decode cX4_delta 14 = .ok (.ireturn, 1) := by decide +kernel
theorem dX4_apply_0 : decode cX4_apply 0 = .ok (.aload_n 0, 1) := by decide +kernel
theorem dX4_apply_1 : decode cX4_apply 1 = .ok (.getfield 24, 3) := by decide +kernel
theorem dX4_apply_4 : decode cX4_apply 4 = .ok (.invokevirtual 97, 3) := by decide +kernel
theorem dX4_apply_7 : decode cX4_apply 7 = .ok (.aload_n 0, 1) := by decide +kernel
theorem dX4_apply_8 : decode cX4_apply 8 = .ok (.invokevirtual 100, 3) := by decide +kernel
theorem dX4_apply_11 : decode cX4_apply 11 = .ok (.ifCond .ne 13, 3) := by decide +kernel
theorem dX4_apply_14 : decode cX4_apply 14 = .ok (.aload_n 0, 1) := by decide +kernel
theorem dX4_apply_15 : decode cX4_apply 15 = .ok (.getfield 24, 3) := by decide +kernel
theorem dX4_apply_18 : decode cX4_apply 18 = .ok (.invokevirtual 97, 3) := by decide +kernel
theorem dX4_apply_21 : decode cX4_apply 21 = .ok (.bipush (-2), 2) := by decide +kernel
theorem dX4_apply_23 : decode cX4_apply 23 = .ok (.ireturn, 1) := by decide +kernel
theorem dX4_apply_24 : decode cX4_apply 24 = .ok (.aload_n 0, 1) := by decide +kernel
theorem dX4_apply_25 : decode cX4_apply 25 = .ok (.getfield 24, 3) := by decide +kernel
theorem dX4_apply_28 : decode cX4_apply 28 = .ok (.invokevirtual 69, 3) := by decide +kernel
theorem dX4_apply_31 : decode cX4_apply 31 = .ok (.ireturn, 1) := by decide +kernel
theorem dX4_at_0 : decode cX4_at 0 = .ok (.aload_n 0, 1) := by decide +kernel
theorem dX4_at_1 : decode cX4_at 1 = .ok (.iload_n 1, 1) := by decide +kernel
theorem dX4_at_2 : decode cX4_at 2 = .ok (.invokevirtual 104, 3) := by decide +kernel
theorem dX4_at_5 : decode cX4_at 5 = .ok (.astore_n 3, 1) := by decide +kernel
theorem dX4_at_6 : decode cX4_at 6 = .ok (.aload_n 3, 1) := by decide +kernel
theorem dX4_at_7 : decode cX4_at 7 = .ok (.ifnonnull 7, 3) := by decide +kernel
theorem dX4_at_10 : decode cX4_at 10 = .ok (.iconst (-1), 1) := by decide +kernel
theorem dX4_at_11 : decode cX4_at 11 = .ok (.goto 8, 3) := by decide +kernel
theorem dX4_at_14 : decode cX4_at 14 = .ok (.aload_n 3, 1) := by decide +kernel
theorem dX4_at_15 : decode cX4_at 15 = .ok (.iload_n 2, 1) := by decide +kernel
theorem dX4_at_16 : decode cX4_at 16 = .ok (.invokevirtual 107, 3) := by decide +kernel
theorem dX4_at_19 : decode cX4_at 19 = .ok (.ireturn, 1) := by decide +kernel
theorem dX4_size_0 : decode cX4_size 0 = .ok (.aload_n 0, 1) := by decide +kernel
theorem dX4_size_1 : decode cX4_size 1 = .ok (.iload_n 1, 1) := by decide +kernel
theorem dX4_size_2 : decode cX4_size 2 = .ok (.invokevirtual 104, 3) := by decide +kernel
theorem dX4_size_5 : decode cX4_size 5 = .ok (.astore_n 2, 1) := by decide +kernel
theorem dX4_size_6 : decode cX4_size 6 = .ok (.aload_n 2, 1) := by decide +kernel
theorem dX4_size_7 : decode cX4_size 7 = .ok (.ifnonnull 7, 3) := by decide +kernel
theorem dX4_size_10 : decode cX4_size 10 = .ok (.iconst (-1), 1) := by decide +kernel
theorem dX4_size_11 : decode cX4_size 11 = .ok (.goto 7, 3) := by decide +kernel
theorem dX4_size_14 : decode cX4_size 14 = .ok (.aload_n 2, 1) := by decide +kernel
theorem dX4_size_15 : decode cX4_size 15 = .ok (.invokevirtual 69, 3) := by decide +kernel
theorem dX4_size_18 : decode cX4_size 18 = .ok (.ireturn, 1) := by decide +kernel
theorem dX4_change_0 : decode cX4_change 0 = .ok (.aload_n 0, 1) := by decide +kernel
theorem dX4_change_1 : decode cX4_change 1 = .ok (.getfield 21, 3) := by decide +kernel
theorem dX4_change_4 : decode cX4_change 4 = .ok (.iload_n 1, 1) := by decide +kernel
theorem dX4_change_5 : decode cX4_change 5 = .ok (.iload_n 2, 1) := by decide +kernel
theorem dX4_change_6 : decode cX4_change 6 = .ok (.invokevirtual 75, 3) := by decide +kernel
theorem dX4_change_9 : decode cX4_change 9 = .ok (.ireturn, 1) := by decide +kernel
theorem dX4_push_0 : decode cX4_push 0 = .ok (.aload_n 0, 1) := by decide +kernel
theorem dX4_push_1 : decode cX4_push 1 = .ok (.getfield 21, 3) := by decide +kernel
theorem dX4_push_4 : decode cX4_push 4 = .ok (.invokevirtual 69, 3) := by decide +kernel
theorem dX4_push_7 : decode cX4_push 7 = .ok (.sipush 6000, 3) := by decide +kernel
theorem dX4_push_10 : decode cX4_push 10 = .ok (.if_icmp .ge 18, 3) := by decide +kernel
theorem dX4_push_13 : decode cX4_push 13 = .ok (.aload_n 0, 1) := by decide +kernel
theorem dX4_push_14 : decode cX4_push 14 = .ok (.getfield 21, 3) := by decide +kernel
theorem dX4_push_17 : decode cX4_push 17 = .ok (.iload_n 1, 1) := by decide +kernel
theorem dX4_push_18 : decode cX4_push 18 = .ok (.invokevirtual 65, 3) := by decide +kernel
theorem dX4_push_21 : decode cX4_push 21 = .ok (.ifCond .eq 7, 3) := by decide +kernel
theorem dX4_push_24 : decode cX4_push 24 = .ok (.iconst 1, 1) := by decide +kernel
theorem dX4_push_25 : decode cX4_push 25 = .ok (.goto 4, 3) := by decide +kernel
theorem dX4_push_28 : decode cX4_push 28 = .ok (.iconst 0, 1) := by decide +kernel
theorem dX4_push_29 : decode cX4_push 29 = .ok (.ireturn, 1) := by decide +kernel
theorem dX4_keep_0 : decode cX4_keep 0 = .ok (.aload_n 0, 1) := by decide +kernel
theorem dX4_keep_1 : decode cX4_keep 1 = .ok (.getfield 21, 3) := by decide +kernel
theorem dX4_keep_4 : decode cX4_keep 4 = .ok (.iload_n 1, 1) := by decide +kernel
theorem dX4_keep_5 : decode cX4_keep 5 = .ok (.invokevirtual 72, 3) := by decide +kernel
theorem dX4_keep_8 : decode cX4_keep 8 = .ok (.ireturn, 1) := by decide +kernel
theorem dX4_sumAt_0 : decode cX4_sumAt 0 = .ok (.aload_n 0, 1) := by decide +kernel
theorem dX4_sumAt_1 : decode cX4_sumAt 1 = .ok (.iload_n 1, 1) := by decide +kernel
theorem dX4_sumAt_2 : decode cX4_sumAt 2 = .ok (.invokevirtual 57, 3) := by decide +kernel
theorem dX4_sumAt_5 : decode cX4_sumAt 5 = .ok (.astore 4, 2) := by decide +kernel
theorem dX4_sumAt_7 : decode cX4_sumAt 7 = .ok (.aload 4, 2) := by decide +kernel
theorem dX4_sumAt_9 : decode cX4_sumAt 9 = .ok (.ifnonnull 7, 3) := by decide +kernel
theorem dX4_sumAt_12 : decode cX4_sumAt 12 = .ok (.iconst 0, 1) := by decide +kernel
theorem dX4_sumAt_13 : decode cX4_sumAt 13 = .ok (.goto 10, 3) := by decide +kernel
theorem dX4_sumAt_16 : decode cX4_sumAt 16 = .ok (.aload 4, 2) := by decide +kernel
theorem dX4_sumAt_18 : decode cX4_sumAt 18 = .ok (.iload_n 2, 1) := by decide +kernel
theorem dX4_sumAt_19 : decode cX4_sumAt 19 = .ok (.iload_n 3, 1) := by decide +kernel
theorem dX4_sumAt_20 : decode cX4_sumAt 20 = .ok (.invokevirtual 110, 3) := by decide +kernel
theorem dX4_sumAt_23 : decode cX4_sumAt 23 = .ok (.ireturn, 1) := by decide +kernel
theorem dX4_md5_0 : decode cX4_md5 0 = .ok (.aload_n 0, 1) := by decide +kernel
theorem dX4_md5_1 : decode cX4_md5 1 = .ok (.iload_n 1, 1) := by decide +kernel
theorem dX4_md5_2 : decode cX4_md5 2 = .ok (.invokevirtual 57, 3) := by decide +kernel
theorem dX4_md5_5 : decode cX4_md5 5 = .ok (.astore_n 3, 1) := by decide +kernel
theorem dX4_md5_6 : decode cX4_md5 6 = .ok (.aload_n 3, 1) := by decide +kernel
theorem dX4_md5_7 : decode cX4_md5 7 = .ok (.ifnull 13, 3) := by decide +kernel
theorem dX4_md5_10 : decode cX4_md5 10 = .ok (.iload_n 2, 1) := by decide +kernel
theorem dX4_md5_11 : decode cX4_md5 11 = .ok (.ifCond .lt 9, 3) := by decide +kernel
theorem dX4_md5_14 : decode cX4_md5 14 = .ok (.iload_n 2, 1) := by decide +kernel
theorem dX4_md5_15 : decode cX4_md5 15 = .ok (.bipush 16, 2) := by decide +kernel
theorem dX4_md5_17 : decode cX4_md5 17 = .ok (.if_icmp .lt 5, 3) := by decide +kernel
theorem dX4_md5_20 : decode cX4_md5 20 = .ok (.iconst (-1), 1) := by decide +kernel
theorem dX4_md5_21 : decode cX4_md5 21 = .ok (.ireturn, 1) := by decide +kernel
theorem dX4_md5_22 : decode cX4_md5 22 = .ok (.aload_n 0, 1) := by decide +kernel
theorem dX4_md5_23 : decode cX4_md5 23 = .ok (.getfield 30, 3) := by decide +kernel
theorem dX4_md5_26 : decode cX4_md5 26 = .ok (.aload_n 3, 1) := by decide +kernel
theorem dX4_md5_27 : decode cX4_md5 27 = .ok (.iconst 0, 1) := by decide +kernel
theorem dX4_md5_28 : decode cX4_md5 28 = .ok (.aload_n 3, 1) := by decide +kernel
theorem dX4_md5_29 : decode cX4_md5 29 = .ok (.invokevirtual 69, 3) := by decide +kernel
theorem dX4_md5_32 : decode cX4_md5 32 = .ok (.invokevirtual 113, 3) := by decide +kernel
theorem dX4_md5_35 : decode cX4_md5 35 = .ok (.aload_n 0, 1) := by decide +kernel
theorem dX4_md5_36 : decode cX4_md5 36 = .ok (.getfield 30, 3) := by decide +kernel
theorem dX4_md5_39 : decode cX4_md5 39 = .ok (.iload_n 2, 1) := by decide +kernel
theorem dX4_md5_40 : decode cX4_md5 40 = .ok (.invokevirtual 117, 3) := by decide +kernel
theorem dX4_md5_43 : decode cX4_md5 43 = .ok (.ireturn, 1) := by decide +kernel
theorem dX4_same_0 : decode cX4_same 0 = .ok (.aload_n 0, 1) := by decide +kernel
theorem dX4_same_1 : decode cX4_same 1 = .ok (.getfield 24, 3) := by decide +kernel
theorem dX4_same_4 : decode cX4_same 4 = .ok (.aload_n 0, 1) := by decide +kernel
theorem dX4_same_5 : decode cX4_same 5 = .ok (.getfield 18, 3) := by decide +kernel
theorem dX4_same_8 : decode cX4_same 8 = .ok (.invokevirtual 119, 3) := by decide +kernel
theorem dX4_same_11 : decode cX4_same 11 = .ok (.ireturn, 1) := by decide +kernel
theorem dX4_count_0 : decode cX4_count 0 = .ok (.iload_n 1, 1) := by decide +kernel
theorem dX4_count_1 : decode cX4_count 1 = .ok (.tableswitch 99 0 6 #[43, 51, 59, 67, 75, 83, 91], 43) := by decide +kernel
theorem dX4_count_44 : decode cX4_count 44 = .ok (.aload_n 0, 1) := by decide +kernel
theorem dX4_count_45 : decode cX4_count 45 = .ok (.getfield 46, 3) := by decide +kernel
theorem dX4_count_48 : decode cX4_count 48 = .ok (.invokevirtual 123, 3) := by decide +kernel
theorem dX4_count_51 : decode cX4_count 51 = .ok (.ireturn, 1) := by decide +kernel
theorem dX4_count_52 : decode cX4_count 52 = .ok (.aload_n 0, 1) := by decide +kernel
theorem dX4_count_53 : decode cX4_count 53 = .ok (.getfield 46, 3) := by decide +kernel
theorem dX4_count_56 : decode cX4_count 56 = .ok (.invokevirtual 126, 3) := by decide +kernel
theorem dX4_count_59 : decode cX4_count 59 = .ok (.ireturn, 1) := by decide +kernel
theorem dX4_count_60 : decode cX4_count 60 = .ok (.aload_n 0, 1) := by decide +kernel
theorem dX4_count_61 : decode cX4_count 61 = .ok (.getfield 46, 3) := by decide +kernel
theorem dX4_count_64 : decode cX4_count 64 = .ok (.invokevirtual 129, 3) := by decide +kernel
theorem dX4_count_67 : decode cX4_count 67 = .ok (.ireturn, 1) := by decide +kernel
theorem dX4_count_68 : decode cX4_count 68 = .ok (.aload_n 0, 1) := by decide +kernel
theorem dX4_count_69 : decode cX4_count 69 = .ok (.getfield 46, 3) := by decide +kernel
theorem dX4_count_72 : decode cX4_count 72 = .ok (.invokevirtual 132, 3) := by decide +kernel
theorem dX4_count_75 : decode cX4_count 75 = .ok (.ireturn, 1) := by decide +kernel
theorem dX4_count_76 : decode cX4_count 76 = .ok (.aload_n 0, 1) := by decide +kernel
theorem dX4_count_77 : decode cX4_count 77 = .ok (.getfield 37, 3) := by decide +kernel
theorem dX4_count_80 : decode cX4_count 80 = .ok (.invokevirtual 83, 3) := by decide +kernel
theorem dX4_count_83 : decode cX4_count 83 = .ok (.ireturn, 1) := by decide +kernel
theorem dX4_count_84 : decode cX4_count 84 = .ok (.aload_n 0, 1) := by decide +kernel
theorem dX4_count_85 : decode cX4_count 85 = .ok (.getfield 37, 3) := by decide +kernel
theorem dX4_count_88 : decode cX4_count 88 = .ok (.invokevirtual 135, 3) := by decide +kernel
theorem dX4_count_91 : decode cX4_count 91 = .ok (.ireturn, 1) := by decide +kernel
theorem dX4_count_92 : decode cX4_count 92 = .ok (.aload_n 0, 1) := by decide +kernel
theorem dX4_count_93 : decode cX4_count 93 = .ok (.getfield 37, 3) := by decide +kernel
theorem dX4_count_96 : decode cX4_count 96 = .ok (.invokevirtual 138, 3) := by decide +kernel
theorem dX4_count_99 : decode cX4_count 99 = .ok (.ireturn, 1) := by decide +kernel
theorem dX4_count_100 : decode cX4_count 100 = .ok (.iconst (-1), 1) := by decide +kernel
theorem dX4_count_101 : decode cX4_count 101 = .ok (.ireturn, 1) := by decide +kernel
theorem dX4_fileOf_0 : decode cX4_fileOf 0 = .ok (.iload_n 1, 1) := by decide +kernel
theorem dX4_fileOf_1 : decode cX4_fileOf 1 = .ok (.ifCond .eq 8, 3) := by decide +kernel
theorem dX4_fileOf_4 : decode cX4_fileOf 4 = .ok (.iload_n 1, 1) := by decide +kernel
theorem dX4_fileOf_5 : decode cX4_fileOf 5 = .ok (.iconst 1, 1) := by decide +kernel
theorem dX4_fileOf_6 : decode cX4_fileOf 6 = .ok (.if_icmp .ne 11, 3) := by decide +kernel
theorem dX4_fileOf_9 : decode cX4_fileOf 9 = .ok (.aload_n 0, 1) := by decide +kernel
theorem dX4_fileOf_10 : decode cX4_fileOf 10 = .ok (.iload_n 1, 1) := by decide +kernel
theorem dX4_fileOf_11 : decode cX4_fileOf 11 = .ok (.invokevirtual 104, 3) := by decide +kernel
theorem dX4_fileOf_14 : decode cX4_fileOf 14 = .ok (.goto 4, 3) := by decide +kernel
theorem dX4_fileOf_17 : decode cX4_fileOf 17 = .ok (.aconst_null, 1) := by decide +kernel
theorem dX4_fileOf_18 : decode cX4_fileOf 18 = .ok (.areturn, 1) := by decide +kernel
theorem dX4_rowOf_0 : decode cX4_rowOf 0 = .ok (.iload_n 1, 1) := by decide +kernel
theorem dX4_rowOf_1 : decode cX4_rowOf 1 = .ok (.tableswitch 51 0 3 #[31, 36, 41, 46], 31) := by decide +kernel
theorem dX4_rowOf_32 : decode cX4_rowOf 32 = .ok (.aload_n 0, 1) := by decide +kernel
theorem dX4_rowOf_33 : decode cX4_rowOf 33 = .ok (.getfield 14, 3) := by decide +kernel
theorem dX4_rowOf_36 : decode cX4_rowOf 36 = .ok (.areturn, 1) := by decide +kernel
theorem dX4_rowOf_37 : decode cX4_rowOf 37 = .ok (.aload_n 0, 1) := by decide +kernel
theorem dX4_rowOf_38 : decode cX4_rowOf 38 = .ok (.getfield 18, 3) := by decide +kernel
theorem dX4_rowOf_41 : decode cX4_rowOf 41 = .ok (.areturn, 1) := by decide +kernel
theorem dX4_rowOf_42 : decode cX4_rowOf 42 = .ok (.aload_n 0, 1) := by decide +kernel
theorem dX4_rowOf_43 : decode cX4_rowOf 43 = .ok (.getfield 21, 3) := by decide +kernel
theorem dX4_rowOf_46 : decode cX4_rowOf 46 = .ok (.areturn, 1) := by decide +kernel
theorem dX4_rowOf_47 : decode cX4_rowOf 47 = .ok (.aload_n 0, 1) := by decide +kernel
theorem dX4_rowOf_48 : decode cX4_rowOf 48 = .ok (.getfield 24, 3) := by decide +kernel
theorem dX4_rowOf_51 : decode cX4_rowOf 51 = .ok (.areturn, 1) := by decide +kernel
theorem dX4_rowOf_52 : decode cX4_rowOf 52 = .ok (.aconst_null, 1) := by decide +kernel
theorem dX4_rowOf_53 : decode cX4_rowOf 53 = .ok (.areturn, 1) := by decide +kernel
theorem dX4_allRowsApplied_0 : decode cX4_allRowsApplied 0 = .ok (.aload_n 0, 1) := by decide +kernel
theorem dX4_allRowsApplied_1 : decode cX4_allRowsApplied 1 = .ok (.getfield 21, 3) := by decide +kernel
theorem dX4_allRowsApplied_4 : decode cX4_allRowsApplied 4 = .ok (.invokevirtual 69, 3) := by decide +kernel
theorem dX4_allRowsApplied_7 : decode cX4_allRowsApplied 7 = .ok (.istore_n 1, 1) := by decide +kernel
theorem dX4_allRowsApplied_8 : decode cX4_allRowsApplied 8 = .ok (.iconst 0, 1) := by decide +kernel
theorem dX4_allRowsApplied_9 : decode cX4_allRowsApplied 9 = .ok (.istore_n 2, 1) := by decide +kernel
theorem dX4_allRowsApplied_10 : decode cX4_allRowsApplied 10 = .ok (.iconst 0, 1) := by decide +kernel
theorem dX4_allRowsApplied_11 : decode cX4_allRowsApplied 11 = .ok (.istore_n 3, 1) := by decide +kernel
theorem dX4_allRowsApplied_12 : decode cX4_allRowsApplied 12 = .ok (.iload_n 3, 1) := by decide +kernel
theorem dX4_allRowsApplied_13 : decode cX4_allRowsApplied 13 = .ok (.iload_n 1, 1) := by decide +kernel
theorem dX4_allRowsApplied_14 : decode cX4_allRowsApplied 14 = .ok (.if_icmp .ge 35, 3) := by decide +kernel
theorem dX4_allRowsApplied_17 : decode cX4_allRowsApplied 17 = .ok (.iload_n 2, 1) := by decide +kernel
theorem dX4_allRowsApplied_18 : decode cX4_allRowsApplied 18 = .ok (.iload_n 1, 1) := by decide +kernel
theorem dX4_allRowsApplied_19 : decode cX4_allRowsApplied 19 = .ok (.if_icmp .ge 30, 3) := by decide +kernel
theorem dX4_allRowsApplied_22 : decode cX4_allRowsApplied 22 = .ok (.aload_n 0, 1) := by decide +kernel
theorem dX4_allRowsApplied_23 : decode cX4_allRowsApplied 23 = .ok (.iload_n 2, 1) := by decide +kernel
theorem dX4_allRowsApplied_24 : decode cX4_allRowsApplied 24 = .ok (.invokevirtual 141, 3) := by decide +kernel
theorem dX4_allRowsApplied_27 : decode cX4_allRowsApplied 27 = .ok (.istore 4, 2) := by decide +kernel
theorem dX4_allRowsApplied_29 : decode cX4_allRowsApplied 29 = .ok (.iload 4, 2) := by decide +kernel
theorem dX4_allRowsApplied_31 : decode cX4_allRowsApplied 31 = .ok (.bipush (-2), 2) := by decide +kernel
theorem dX4_allRowsApplied_33 : decode cX4_allRowsApplied 33 = .ok (.if_icmp .ne 5, 3) := by decide +kernel
theorem dX4_allRowsApplied_36 : decode cX4_allRowsApplied 36 = .ok (.iconst 0, 1) := by decide +kernel
theorem dX4_allRowsApplied_37 : decode cX4_allRowsApplied 37 = .ok (.ireturn, 1) := by decide +kernel
theorem dX4_allRowsApplied_38 : decode cX4_allRowsApplied 38 = .ok (.iload_n 2, 1) := by decide +kernel
theorem dX4_allRowsApplied_39 : decode cX4_allRowsApplied 39 = .ok (.iload 4, 2) := by decide +kernel
theorem dX4_allRowsApplied_41 : decode cX4_allRowsApplied 41 = .ok (.iadd, 1) := by decide +kernel
theorem dX4_allRowsApplied_42 : decode cX4_allRowsApplied 42 = .ok (.istore_n 2, 1) := by decide +kernel
theorem dX4_allRowsApplied_43 : decode cX4_allRowsApplied 43 = .ok (.iinc 3 1, 3) := by decide +kernel
theorem dX4_allRowsApplied_46 : decode cX4_allRowsApplied 46 = .ok (.goto (-34), 3) := by decide +kernel
theorem dX4_allRowsApplied_49 : decode cX4_allRowsApplied 49 = .ok (.iconst 1, 1) := by decide +kernel
theorem dX4_allRowsApplied_50 : decode cX4_allRowsApplied 50 = .ok (.ireturn, 1) := by decide +kernel
theorem dX4_applyRow_0 : decode cX4_applyRow 0 = .ok (.aload_n 0, 1) := by decide +kernel
theorem dX4_applyRow_1 : decode cX4_applyRow 1 = .ok (.getfield 21, 3) := by decide +kernel
theorem dX4_applyRow_4 : decode cX4_applyRow 4 = .ok (.iload_n 1, 1) := by decide +kernel
theorem dX4_applyRow_5 : decode cX4_applyRow 5 = .ok (.invokevirtual 107, 3) := by decide +kernel
theorem dX4_applyRow_8 : decode cX4_applyRow 8 = .ok (.lookupswitch 40 #[(0, 28), (1, 34)], 28) := by decide +kernel
theorem dX4_applyRow_36 : decode cX4_applyRow 36 = .ok (.aload_n 0, 1) := by decide +kernel
theorem dX4_applyRow_37 : decode cX4_applyRow 37 = .ok (.iload_n 1, 1) := by decide +kernel
theorem dX4_applyRow_38 : decode cX4_applyRow 38 = .ok (.invokevirtual 144, 3) := by decide +kernel
theorem dX4_applyRow_41 : decode cX4_applyRow 41 = .ok (.ireturn, 1) := by decide +kernel
theorem dX4_applyRow_42 : decode cX4_applyRow 42 = .ok (.aload_n 0, 1) := by decide +kernel
theorem dX4_applyRow_43 : decode cX4_applyRow 43 = .ok (.iload_n 1, 1) := by decide +kernel
theorem dX4_applyRow_44 : decode cX4_applyRow 44 = .ok (.invokevirtual 147, 3) := by decide +kernel
theorem dX4_applyRow_47 : decode cX4_applyRow 47 = .ok (.ireturn, 1) := by decide +kernel
theorem dX4_applyRow_48 : decode cX4_applyRow 48 = .ok (.bipush (-2), 2) := by decide +kernel
theorem dX4_applyRow_50 : decode cX4_applyRow 50 = .ok (.ireturn, 1) := by decide +kernel
theorem dX4_applyLiterals_0 : decode cX4_applyLiterals 0 = .ok (.aload_n 0, 1) := by decide +kernel
theorem dX4_applyLiterals_1 : decode cX4_applyLiterals 1 = .ok (.getfield 21, 3) := by decide +kernel
theorem dX4_applyLiterals_4 : decode cX4_applyLiterals 4 = .ok (.iload_n 1, 1) := by decide +kernel
theorem dX4_applyLiterals_5 : decode cX4_applyLiterals 5 = .ok (.iconst 1, 1) := by decide +kernel
theorem dX4_applyLiterals_6 : decode cX4_applyLiterals 6 = .ok (.iadd, 1) := by decide +kernel
theorem dX4_applyLiterals_7 : decode cX4_applyLiterals 7 = .ok (.invokevirtual 107, 3) := by decide +kernel
theorem dX4_applyLiterals_10 : decode cX4_applyLiterals 10 = .ok (.istore_n 2, 1) := by decide +kernel
theorem dX4_applyLiterals_11 : decode cX4_applyLiterals 11 = .ok (.iload_n 2, 1) := by decide +kernel
theorem dX4_applyLiterals_12 : decode cX4_applyLiterals 12 = .ok (.iconst 1, 1) := by decide +kernel
theorem dX4_applyLiterals_13 : decode cX4_applyLiterals 13 = .ok (.if_icmp .lt 21, 3) := by decide +kernel
theorem dX4_applyLiterals_16 : decode cX4_applyLiterals 16 = .ok (.aload_n 0, 1) := by decide +kernel
theorem dX4_applyLiterals_17 : decode cX4_applyLiterals 17 = .ok (.getfield 24, 3) := by decide +kernel
theorem dX4_applyLiterals_20 : decode cX4_applyLiterals 20 = .ok (.aload_n 0, 1) := by decide +kernel
theorem dX4_applyLiterals_21 : decode cX4_applyLiterals 21 = .ok (.getfield 21, 3) := by decide +kernel
theorem dX4_applyLiterals_24 : decode cX4_applyLiterals 24 = .ok (.iload_n 1, 1) := by decide +kernel
theorem dX4_applyLiterals_25 : decode cX4_applyLiterals 25 = .ok (.iconst 2, 1) := by decide +kernel
theorem dX4_applyLiterals_26 : decode cX4_applyLiterals 26 = .ok (.iadd, 1) := by decide +kernel
theorem dX4_applyLiterals_27 : decode cX4_applyLiterals 27 = .ok (.iload_n 2, 1) := by decide +kernel
theorem dX4_applyLiterals_28 : decode cX4_applyLiterals 28 = .ok (.invokevirtual 150, 3) := by decide +kernel
theorem dX4_applyLiterals_31 : decode cX4_applyLiterals 31 = .ok (.ifCond .ne 6, 3) := by decide +kernel
theorem dX4_applyLiterals_34 : decode cX4_applyLiterals 34 = .ok (.bipush (-2), 2) := by decide +kernel
theorem dX4_applyLiterals_36 : decode cX4_applyLiterals 36 = .ok (.ireturn, 1) := by decide +kernel
theorem dX4_applyLiterals_37 : decode cX4_applyLiterals 37 = .ok (.iconst 2, 1) := by decide +kernel
theorem dX4_applyLiterals_38 : decode cX4_applyLiterals 38 = .ok (.iload_n 2, 1) := by decide +kernel
theorem dX4_applyLiterals_39 : decode cX4_applyLiterals 39 = .ok (.iadd, 1) := by decide +kernel
theorem dX4_applyLiterals_40 : decode cX4_applyLiterals 40 = .ok (.ireturn, 1) := by decide +kernel
theorem dX4_applyReferences_0 : decode cX4_applyReferences 0 = .ok (.aload_n 0, 1) := by decide +kernel
theorem dX4_applyReferences_1 : decode cX4_applyReferences 1 = .ok (.getfield 21, 3) := by decide +kernel
theorem dX4_applyReferences_4 : decode cX4_applyReferences 4 = .ok (.iload_n 1, 1) := by decide +kernel
theorem dX4_applyReferences_5 : decode cX4_applyReferences 5 = .ok (.iconst 4, 1) := by decide +kernel
theorem dX4_applyReferences_6 : decode cX4_applyReferences 6 = .ok (.invokevirtual 154, 3) := by decide +kernel
theorem dX4_applyReferences_9 : decode cX4_applyReferences 9 = .ok (.ifCond .ne 6, 3) := by decide +kernel
theorem dX4_applyReferences_12 : decode cX4_applyReferences 12 = .ok (.bipush (-2), 2) := by decide +kernel
theorem dX4_applyReferences_14 : decode cX4_applyReferences 14 = .ok (.ireturn, 1) := by decide +kernel
theorem dX4_applyReferences_15 : decode cX4_applyReferences 15 = .ok (.aload_n 0, 1) := by decide +kernel
theorem dX4_applyReferences_16 : decode cX4_applyReferences 16 = .ok (.getfield 21, 3) := by decide +kernel
theorem dX4_applyReferences_19 : decode cX4_applyReferences 19 = .ok (.iload_n 1, 1) := by decide +kernel
theorem dX4_applyReferences_20 : decode cX4_applyReferences 20 = .ok (.iconst 1, 1) := by decide +kernel
theorem dX4_applyReferences_21 : decode cX4_applyReferences 21 = .ok (.iadd, 1) := by decide +kernel
theorem dX4_applyReferences_22 : decode cX4_applyReferences 22 = .ok (.invokevirtual 107, 3) := by decide +kernel
theorem dX4_applyReferences_25 : decode cX4_applyReferences 25 = .ok (.sipush 256, 3) := by decide +kernel
theorem dX4_applyReferences_28 : decode cX4_applyReferences 28 = .ok (.imul, 1) := by decide +kernel
theorem dX4_applyReferences_29 : decode cX4_applyReferences 29 = .ok (.aload_n 0, 1) := by decide +kernel
theorem dX4_applyReferences_30 : decode cX4_applyReferences 30 = .ok (.getfield 21, 3) := by decide +kernel
theorem dX4_applyReferences_33 : decode cX4_applyReferences 33 = .ok (.iload_n 1, 1) := by decide +kernel
theorem dX4_applyReferences_34 : decode cX4_applyReferences 34 = .ok (.iconst 2, 1) := by decide +kernel
theorem dX4_applyReferences_35 : decode cX4_applyReferences 35 = .ok (.iadd, 1) := by decide +kernel
theorem dX4_applyReferences_36 : decode cX4_applyReferences 36 = .ok (.invokevirtual 107, 3) := by decide +kernel
theorem dX4_applyReferences_39 : decode cX4_applyReferences 39 = .ok (.iadd, 1) := by decide +kernel
theorem dX4_applyReferences_40 : decode cX4_applyReferences 40 = .ok (.istore_n 2, 1) := by decide +kernel
theorem dX4_applyReferences_41 : decode cX4_applyReferences 41 = .ok (.aload_n 0, 1) := by decide +kernel
theorem dX4_applyReferences_42 : decode cX4_applyReferences 42 = .ok (.getfield 21, 3) := by decide +kernel
theorem dX4_applyReferences_45 : decode cX4_applyReferences 45 = .ok (.iload_n 1, 1) := by decide +kernel
theorem dX4_applyReferences_46 : decode cX4_applyReferences 46 = .ok (.iconst 3, 1) := by decide +kernel
theorem dX4_applyReferences_47 : decode cX4_applyReferences 47 = .ok (.iadd, 1) := by decide +kernel
theorem dX4_applyReferences_48 : decode cX4_applyReferences 48 = .ok (.invokevirtual 107, 3) := by decide +kernel
theorem dX4_applyReferences_51 : decode cX4_applyReferences 51 = .ok (.istore_n 3, 1) := by decide +kernel
theorem dX4_applyReferences_52 : decode cX4_applyReferences 52 = .ok (.aload_n 0, 1) := by decide +kernel
theorem dX4_applyReferences_53 : decode cX4_applyReferences 53 = .ok (.getfield 37, 3) := by decide +kernel
theorem dX4_applyReferences_56 : decode cX4_applyReferences 56 = .ok (.invokevirtual 135, 3) := by decide +kernel
theorem dX4_applyReferences_59 : decode cX4_applyReferences 59 = .ok (.istore 4, 2) := by decide +kernel
theorem dX4_applyReferences_61 : decode cX4_applyReferences 61 = .ok (.iload_n 3, 1) := by decide +kernel
theorem dX4_applyReferences_62 : decode cX4_applyReferences 62 = .ok (.iconst 1, 1) := by decide +kernel
theorem dX4_applyReferences_63 : decode cX4_applyReferences 63 = .ok (.if_icmp .lt 25, 3) := by decide +kernel
theorem dX4_applyReferences_66 : decode cX4_applyReferences 66 = .ok (.aload_n 0, 1) := by decide +kernel
theorem dX4_applyReferences_67 : decode cX4_applyReferences 67 = .ok (.getfield 24, 3) := by decide +kernel
theorem dX4_applyReferences_70 : decode cX4_applyReferences 70 = .ok (.aload_n 0, 1) := by decide +kernel
theorem dX4_applyReferences_71 : decode cX4_applyReferences 71 = .ok (.getfield 14, 3) := by decide +kernel
theorem dX4_applyReferences_74 : decode cX4_applyReferences 74 = .ok (.iload_n 2, 1) := by decide +kernel
theorem dX4_applyReferences_75 : decode cX4_applyReferences 75 = .ok (.iload 4, 2) := by decide +kernel
theorem dX4_applyReferences_77 : decode cX4_applyReferences 77 = .ok (.imul, 1) := by decide +kernel
theorem dX4_applyReferences_78 : decode cX4_applyReferences 78 = .ok (.iload_n 3, 1) := by decide +kernel
theorem dX4_applyReferences_79 : decode cX4_applyReferences 79 = .ok (.iload 4, 2) := by decide +kernel
theorem dX4_applyReferences_81 : decode cX4_applyReferences 81 = .ok (.imul, 1) := by decide +kernel
theorem dX4_applyReferences_82 : decode cX4_applyReferences 82 = .ok (.invokevirtual 150, 3) := by decide +kernel
theorem dX4_applyReferences_85 : decode cX4_applyReferences 85 = .ok (.ifCond .ne 6, 3) := by decide +kernel
theorem dX4_applyReferences_88 : decode cX4_applyReferences 88 = .ok (.bipush (-2), 2) := by decide +kernel
theorem dX4_applyReferences_90 : decode cX4_applyReferences 90 = .ok (.ireturn, 1) := by decide +kernel
theorem dX4_applyReferences_91 : decode cX4_applyReferences 91 = .ok (.iconst 4, 1) := by decide +kernel
theorem dX4_applyReferences_92 : decode cX4_applyReferences 92 = .ok (.ireturn, 1) := by decide +kernel
