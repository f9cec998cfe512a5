theorem dX1_init_0 : decode cX1_init 0 = .ok (.aload_n 0, 1) := by decide +kernel
theorem dX1_init_1 : decode cX1_init 1 = .ok (.invokespecial 3, 3) := by decide +kernel
theorem dX1_init_4 : decode cX1_init 4 = .ok (.aload_n 0, 1) := by decide +kernel
theorem dX1_init_5 : decode cX1_init 5 = .ok (.iload_n 1, 1) := by decide +kernel
theorem dX1_init_6 : decode cX1_init 6 = .ok (.putfield 9, 3) := by decide +kernel
theorem dX1_init_9 : decode cX1_init 9 = .ok (.aload_n 0, 1) := by decide +kernel
theorem dX1_init_10 : decode cX1_init 10 = .ok (.bipush 64, 2) := by decide +kernel
theorem dX1_init_12 : decode cX1_init 12 = .ok (.newarray .int, 2) := by decide +kernel
theorem dX1_init_14 : decode cX1_init 14 = .ok (.putfield 15, 3) := by decide +kernel
theorem dX1_init_17 : decode cX1_init 17 = .ok (.aload_n 0, 1) := by decide +kernel
theorem dX1_init_18 : decode cX1_init 18 = .ok (.iconst 0, 1) := by decide +kernel
theorem dX1_init_19 : decode cX1_init 19 = .ok (.putfield 19, 3) := by decide +kernel
theorem dX1_init_22 : decode cX1_init 22 = .ok (.return_, 1) := by decide +kernel
theorem dX1_length_0 : decode cX1_length 0 = .ok (.aload_n 0, 1) := by decide +kernel
theorem dX1_length_1 : decode cX1_length 1 = .ok (.getfield 19, 3) := by decide +kernel
theorem dX1_length_4 : decode cX1_length 4 = .ok (.ireturn, 1) := by decide +kernel
theorem dX1_room_0 : decode cX1_room 0 = .ok (.aload_n 0, 1) := by decide +kernel
theorem dX1_room_1 : decode cX1_room 1 = .ok (.getfield 9, 3) := by decide +kernel
theorem dX1_room_4 : decode cX1_room 4 = .ok (.aload_n 0, 1) := by decide +kernel
theorem dX1_room_5 : decode cX1_room 5 = .ok (.getfield 19, 3) := by decide +kernel
theorem dX1_room_8 : decode cX1_room 8 = .ok (.isub, 1) := by decide +kernel
theorem dX1_room_9 : decode cX1_room 9 = .ok (.ireturn, 1) := by decide +kernel
theorem dX1_clear_0 : decode cX1_clear 0 = .ok (.aload_n 0, 1) := by decide +kernel
theorem dX1_clear_1 : decode cX1_clear 1 = .ok (.iconst 0, 1) := by decide +kernel
theorem dX1_clear_2 : decode cX1_clear 2 = .ok (.putfield 19, 3) := by decide +kernel
theorem dX1_clear_5 : decode cX1_clear 5 = .ok (.return_, 1) := by decide +kernel
theorem dX1_holds_0 : decode cX1_holds 0 = .ok (.iload_n 1, 1) := by decide +kernel
theorem dX1_holds_1 : decode cX1_holds 1 = .ok (.ifCond .lt 29, 3) := by decide +kernel
theorem dX1_holds_4 : decode cX1_holds 4 = .ok (.iload_n 2, 1) := by decide +kernel
theorem dX1_holds_5 : decode cX1_holds 5 = .ok (.ifCond .lt 25, 3) := by decide +kernel
theorem dX1_holds_8 : decode cX1_holds 8 = .ok (.iload_n 1, 1) := by decide +kernel
theorem dX1_holds_9 : decode cX1_holds 9 = .ok (.aload_n 0, 1) := by decide +kernel
theorem dX1_holds_10 : decode cX1_holds 10 = .ok (.getfield 19, 3) := by decide +kernel
theorem dX1_holds_13 : decode cX1_holds 13 = .ok (.if_icmp .gt 17, 3) := by decide +kernel
theorem dX1_holds_16 : decode cX1_holds 16 = .ok (.iload_n 2, 1) := by decide +kernel
theorem dX1_holds_17 : decode cX1_holds 17 = .ok (.aload_n 0, 1) := by decide +kernel
theorem dX1_holds_18 : decode cX1_holds 18 = .ok (.getfield 19, 3) := by decide +kernel
theorem dX1_holds_21 : decode cX1_holds 21 = .ok (.iload_n 1, 1) := by decide +kernel
theorem dX1_holds_22 : decode cX1_holds 22 = .ok (.isub, 1) := by decide +kernel
theorem dX1_holds_23 : decode cX1_holds 23 = .ok (.if_icmp .gt 7, 3) := by decide +kernel
theorem dX1_holds_26 : decode cX1_holds 26 = .ok (.iconst 1, 1) := by decide +kernel
theorem dX1_holds_27 : decode cX1_holds 27 = .ok (.goto 4, 3) := by decide +kernel
theorem dX1_holds_30 : decode cX1_holds 30 = .ok (.iconst 0, 1) := by decide +kernel
theorem dX1_holds_31 : decode cX1_holds 31 = .ok (.ireturn, 1) := by decide +kernel
theorem dX1_get_0 : decode cX1_get 0 = .ok (.iload_n 1, 1) := by decide +kernel
theorem dX1_get_1 : decode cX1_get 1 = .ok (.ifCond .lt 20, 3) := by decide +kernel
theorem dX1_get_4 : decode cX1_get 4 = .ok (.iload_n 1, 1) := by decide +kernel
theorem dX1_get_5 : decode cX1_get 5 = .ok (.aload_n 0, 1) := by decide +kernel
theorem dX1_get_6 : decode cX1_get 6 = .ok (.getfield 19, 3) := by decide +kernel
theorem dX1_get_9 : decode cX1_get 9 = .ok (.if_icmp .ge 12, 3) := by decide +kernel
theorem dX1_get_12 : decode cX1_get 12 = .ok (.aload_n 0, 1) := by decide +kernel
theorem dX1_get_13 : decode cX1_get 13 = .ok (.getfield 15, 3) := by decide +kernel
theorem dX1_get_16 : decode cX1_get 16 = .ok (.iload_n 1, 1) := by decide +kernel
theorem dX1_get_17 : decode cX1_get 17 = .ok (.iaload, 1) := by decide +kernel
theorem dX1_get_18 : decode cX1_get 18 = .ok (.goto 4, 3) := by decide +kernel
theorem dX1_get_21 : decode cX1_get 21 = .ok (.iconst (-1), 1) := by decide +kernel
theorem dX1_get_22 : decode cX1_get 22 = .ok (.ireturn, 1) := by decide +kernel
theorem dX1_set_0 : decode cX1_set 0 = .ok (.iload_n 1, 1) := by decide +kernel
theorem dX1_set_1 : decode cX1_set 1 = .ok (.ifCond .lt 18, 3) := by decide +kernel
theorem dX1_set_4 : decode cX1_set 4 = .ok (.iload_n 1, 1) := by decide +kernel
theorem dX1_set_5 : decode cX1_set 5 = .ok (.aload_n 0, 1) := by decide +kernel
theorem dX1_set_6 : decode cX1_set 6 = .ok (.getfield 19, 3) := by decide +kernel
theorem dX1_set_9 : decode cX1_set 9 = .ok (.if_icmp .ge 10, 3) := by decide +kernel
theorem dX1_set_12 : decode cX1_set 12 = .ok (.iload_n 2, 1) := by decide +kernel
theorem dX1_set_13 : decode cX1_set 13 = .ok (.invokestatic 22, 3) := by decide +kernel
theorem dX1_set_16 : decode cX1_set 16 = .ok (.ifCond .ne 5, 3) := by decide +kernel
theorem dX1_set_19 : decode cX1_set 19 = .ok (.iconst 0, 1) := by decide +kernel
theorem dX1_set_20 : decode cX1_set 20 = .ok (.ireturn, 1) := by decide +kernel
theorem dX1_set_21 : decode cX1_set 21 = .ok (.aload_n 0, 1) := by decide +kernel
theorem dX1_set_22 : decode cX1_set 22 = .ok (.getfield 15, 3) := by decide +kernel
theorem dX1_set_25 : decode cX1_set 25 = .ok (.iload_n 1, 1) := by decide +kernel
theorem dX1_set_26 : decode cX1_set 26 = .ok (.iload_n 2, 1) := by decide +kernel
theorem dX1_set_27 : decode cX1_set 27 = .ok (.iastore, 1) := by decide +kernel
theorem dX1_set_28 : decode cX1_set 28 = .ok (.iconst 1, 1) := by decide +kernel
theorem dX1_set_29 : decode cX1_set 29 = .ok (.ireturn, 1) := by decide +kernel
theorem dX1_add_0 : decode cX1_add 0 = .ok (.aload_n 0, 1) := by decide +kernel
theorem dX1_add_1 : decode cX1_add 1 = .ok (.getfield 19, 3) := by decide +kernel
theorem dX1_add_4 : decode cX1_add 4 = .ok (.aload_n 0, 1) := by decide +kernel
theorem dX1_add_5 : decode cX1_add 5 = .ok (.getfield 9, 3) := by decide +kernel
theorem dX1_add_8 : decode cX1_add 8 = .ok (.if_icmp .ge 10, 3) := by decide +kernel
theorem dX1_add_11 : decode cX1_add 11 = .ok (.iload_n 1, 1) := by decide +kernel
theorem dX1_add_12 : decode cX1_add 12 = .ok (.invokestatic 22, 3) := by decide +kernel
theorem dX1_add_15 : decode cX1_add 15 = .ok (.ifCond .ne 5, 3) := by decide +kernel
theorem dX1_add_18 : decode cX1_add 18 = .ok (.iconst 0, 1) := by decide +kernel
theorem dX1_add_19 : decode cX1_add 19 = .ok (.ireturn, 1) := by decide +kernel
theorem dX1_add_20 : decode cX1_add 20 = .ok (.aload_n 0, 1) := by decide +kernel
theorem dX1_add_21 : decode cX1_add 21 = .ok (.aload_n 0, 1) := by decide +kernel
theorem dX1_add_22 : decode cX1_add 22 = .ok (.getfield 19, 3) := by decide +kernel
theorem dX1_add_25 : decode cX1_add 25 = .ok (.iconst 1, 1) := by decide +kernel
theorem dX1_add_26 : decode cX1_add 26 = .ok (.iadd, 1) := by decide +kernel
theorem dX1_add_27 : decode cX1_add 27 = .ok (.invokevirtual 26, 3) := by decide +kernel
theorem dX1_add_30 : decode cX1_add 30 = .ok (.aload_n 0, 1) := by decide +kernel
theorem dX1_add_31 : decode cX1_add 31 = .ok (.getfield 15, 3) := by decide +kernel
theorem dX1_add_34 : decode cX1_add 34 = .ok (.aload_n 0, 1) := by decide +kernel
theorem dX1_add_35 : decode cX1_add 35 = .ok (.getfield 19, 3) := by decide +kernel
theorem dX1_add_38 : decode cX1_add 38 = .ok (.iload_n 1, 1) := by decide +kernel
theorem dX1_add_39 : decode cX1_add 39 = .ok (.iastore, 1) := by decide +kernel
theorem dX1_add_40 : decode cX1_add 40 = .ok (.aload_n 0, 1) := by decide +kernel
theorem dX1_add_41 : decode cX1_add 41 = .ok (.dup, 1) := by decide +kernel
theorem dX1_add_42 : decode cX1_add 42 = .ok (.getfield 19, 3) := by decide +kernel
theorem dX1_add_45 : decode cX1_add 45 = .ok (.iconst 1, 1) := by decide +kernel
theorem dX1_add_46 : decode cX1_add 46 = .ok (.iadd, 1) := by decide +kernel
theorem dX1_add_47 : decode cX1_add 47 = .ok (.putfield 19, 3) := by decide +kernel
theorem dX1_add_50 : decode cX1_add 50 = .ok (.iconst 1, 1) := by decide +kernel
theorem dX1_add_51 : decode cX1_add 51 = .ok (.ireturn, 1) := by decide +kernel
theorem dX1_addFrom_0 : decode cX1_addFrom 0 = .ok (.aload_n 1, 1) := by decide +kernel
theorem dX1_addFrom_1 : decode cX1_addFrom 1 = .ok (.iload_n 2, 1) := by decide +kernel
theorem dX1_addFrom_2 : decode cX1_addFrom 2 = .ok (.iload_n 3, 1) := by decide +kernel
theorem dX1_addFrom_3 : decode cX1_addFrom 3 = .ok (.invokevirtual 30, 3) := by decide +kernel
theorem dX1_addFrom_6 : decode cX1_addFrom 6 = .ok (.ifCond .eq 11, 3) := by decide +kernel
theorem dX1_addFrom_9 : decode cX1_addFrom 9 = .ok (.iload_n 3, 1) := by decide +kernel
theorem dX1_addFrom_10 : decode cX1_addFrom 10 = .ok (.aload_n 0, 1) := by decide +kernel
theorem dX1_addFrom_11 : decode cX1_addFrom 11 = .ok (.invokevirtual 34, 3) := by decide +kernel
theorem dX1_addFrom_14 : decode cX1_addFrom 14 = .ok (.if_icmp .le 5, 3) := by decide +kernel
theorem dX1_addFrom_17 : decode cX1_addFrom 17 = .ok (.iconst 0, 1) := by decide +kernel
theorem dX1_addFrom_18 : decode cX1_addFrom 18 = .ok (.ireturn, 1) := by decide +kernel
theorem dX1_addFrom_19 : decode cX1_addFrom 19 = .ok (.aload_n 0, 1) := by decide +kernel
theorem dX1_addFrom_20 : decode cX1_addFrom 20 = .ok (.aload_n 0, 1) := by decide +kernel
theorem dX1_addFrom_21 : decode cX1_addFrom 21 = .ok (.getfield 19, 3) := by decide +kernel
theorem dX1_addFrom_24 : decode cX1_addFrom 24 = .ok (.iload_n 3, 1) := by decide +kernel
theorem dX1_addFrom_25 : decode cX1_addFrom 25 = .ok (.iadd, 1) := by decide +kernel
theorem dX1_addFrom_26 : decode cX1_addFrom 26 = .ok (.invokevirtual 26, 3) := by decide +kernel
theorem dX1_addFrom_29 : decode cX1_addFrom 29 = .ok (.aload_n 1, 1) := by decide +kernel
theorem dX1_addFrom_30 : decode cX1_addFrom 30 = .ok (.getfield 15, 3) := by decide +kernel
theorem dX1_addFrom_33 : decode cX1_addFrom 33 = .ok (.iload_n 2, 1) := by decide +kernel
theorem dX1_addFrom_34 : decode cX1_addFrom 34 = .ok (.aload_n 0, 1) := by decide +kernel
theorem dX1_addFrom_35 : decode cX1_addFrom 35 = .ok (.getfield 15, 3) := by decide +kernel
theorem dX1_addFrom_38 : decode cX1_addFrom 38 = .ok (.aload_n 0, 1) := by decide +kernel
theorem dX1_addFrom_39 : decode cX1_addFrom 39 = .ok (.getfield 19, 3) := by decide +kernel
theorem dX1_addFrom_42 : decode cX1_addFrom 42 = .ok (.iload_n 3, 1) := by decide +kernel
theorem dX1_addFrom_43 : decode cX1_addFrom 43 = .ok (.invokestatic 38, 3) := by decide +kernel
theorem dX1_addFrom_46 : decode cX1_addFrom 46 = .ok (.aload_n 0, 1) := by decide +kernel
theorem dX1_addFrom_47 : decode cX1_addFrom 47 = .ok (.dup, 1) := by decide +kernel
theorem dX1_addFrom_48 : decode cX1_addFrom 48 = .ok (.getfield 19, 3) := by decide +kernel
theorem dX1_addFrom_51 : decode cX1_addFrom 51 = .ok (.iload_n 3, 1) := by decide +kernel
theorem dX1_addFrom_52 : decode cX1_addFrom 52 = .ok (.iadd, 1) := by decide +kernel
theorem dX1_addFrom_53 : decode cX1_addFrom 53 = .ok (.putfield 19, 3) := by decide +kernel
theorem dX1_addFrom_56 : decode cX1_addFrom 56 = .ok (.iconst 1, 1) := by decide +kernel
theorem dX1_addFrom_57 : decode cX1_addFrom 57 = .ok (.ireturn, 1) := by decide +kernel
theorem dX1_shorten_0 : decode cX1_shorten 0 = .ok (.iload_n 1, 1) := by decide +kernel
theorem dX1_shorten_1 : decode cX1_shorten 1 = .ok (.ifCond .lt 11, 3) := by decide +kernel
theorem dX1_shorten_4 : decode cX1_shorten 4 = .ok (.iload_n 1, 1) := by decide +kernel
theorem dX1_shorten_5 : decode cX1_shorten 5 = .ok (.aload_n 0, 1) := by decide +kernel
theorem dX1_shorten_6 : decode cX1_shorten 6 = .ok (.getfield 19, 3) := by decide +kernel
theorem dX1_shorten_9 : decode cX1_shorten 9 = .ok (.if_icmp .le 5, 3) := by decide +kernel
theorem dX1_shorten_12 : decode cX1_shorten 12 = .ok (.iconst 0, 1) := by decide +kernel
theorem dX1_shorten_13 : decode cX1_shorten 13 = .ok (.ireturn, 1) := by decide +kernel
theorem dX1_shorten_14 : decode cX1_shorten 14 = .ok (.aload_n 0, 1) := by decide +kernel
theorem dX1_shorten_15 : decode cX1_shorten 15 = .ok (.iload_n 1, 1) := by decide +kernel
theorem dX1_shorten_16 : decode cX1_shorten 16 = .ok (.putfield 19, 3) := by decide +kernel
theorem dX1_shorten_19 : decode cX1_shorten 19 = .ok (.iconst 1, 1) := by decide +kernel
theorem dX1_shorten_20 : decode cX1_shorten 20 = .ok (.ireturn, 1) := by decide +kernel
theorem dX1_equalTo_0 : decode cX1_equalTo 0 = .ok (.aload_n 0, 1) := by decide +kernel
theorem dX1_equalTo_1 : decode cX1_equalTo 1 = .ok (.getfield 19, 3) := by decide +kernel
theorem dX1_equalTo_4 : decode cX1_equalTo 4 = .ok (.aload_n 1, 1) := by decide +kernel
theorem dX1_equalTo_5 : decode cX1_equalTo 5 = .ok (.getfield 19, 3) := by decide +kernel
theorem dX1_equalTo_8 : decode cX1_equalTo 8 = .ok (.if_icmp .eq 5, 3) := by decide +kernel
theorem dX1_equalTo_11 : decode cX1_equalTo 11 = .ok (.iconst 0, 1) := by decide +kernel
theorem dX1_equalTo_12 : decode cX1_equalTo 12 = .ok (.ireturn, 1) := by decide +kernel
theorem dX1_equalTo_13 : decode cX1_equalTo 13 = .ok (.iconst 0, 1) := by decide +kernel
theorem dX1_equalTo_14 : decode cX1_equalTo 14 = .ok (.istore_n 2, 1) := by decide +kernel
theorem dX1_equalTo_15 : decode cX1_equalTo 15 = .ok (.iload_n 2, 1) := by decide +kernel
theorem dX1_equalTo_16 : decode cX1_equalTo 16 = .ok (.aload_n 0, 1) := by decide +kernel
theorem dX1_equalTo_17 : decode cX1_equalTo 17 = .ok (.getfield 19, 3) := by decide +kernel
theorem dX1_equalTo_20 : decode cX1_equalTo 20 = .ok (.if_icmp .ge 26, 3) := by decide +kernel
theorem dX1_equalTo_23 : decode cX1_equalTo 23 = .ok (.aload_n 0, 1) := by decide +kernel
theorem dX1_equalTo_24 : decode cX1_equalTo 24 = .ok (.getfield 15, 3) := by decide +kernel
theorem dX1_equalTo_27 : decode cX1_equalTo 27 = .ok (.iload_n 2, 1) := by decide +kernel
theorem dX1_equalTo_28 : decode cX1_equalTo 28 = .ok (.iaload, 1) := by decide +kernel
theorem dX1_equalTo_29 : decode cX1_equalTo 29 = .ok (.aload_n 1, 1) := by decide +kernel
theorem dX1_equalTo_30 : decode cX1_equalTo 30 = .ok (.getfield 15, 3) := by decide +kernel
theorem dX1_equalTo_33 : decode cX1_equalTo 33 = .ok (.iload_n 2, 1) := by decide +kernel
theorem dX1_equalTo_34 : decode cX1_equalTo 34 = .ok (.iaload, 1) := by decide +kernel
theorem dX1_equalTo_35 : decode cX1_equalTo 35 = .ok (.if_icmp .eq 5, 3) := by decide +kernel
theorem dX1_equalTo_38 : decode cX1_equalTo 38 = .ok (.iconst 0, 1) := by decide +kernel
theorem dX1_equalTo_39 : decode cX1_equalTo 39 = .ok (.ireturn, 1) := by decide +kernel
theorem dX1_equalTo_40 : decode cX1_equalTo 40 = .ok (.iinc 2 1, 3) := by decide +kernel
theorem dX1_equalTo_43 : decode cX1_equalTo 43 = .ok (.goto (-28), 3) := by decide +kernel
theorem dX1_equalTo_46 : decode cX1_equalTo 46 = .ok (.iconst 1, 1) := by decide +kernel
theorem dX1_equalTo_47 : decode cX1_equalTo 47 = .ok (.ireturn, 1) := by decide +kernel
theorem dX1_sumFrom_0 : decode cX1_sumFrom 0 = .ok (.aload_n 0, 1) := by decide +kernel
theorem dX1_sumFrom_1 : decode cX1_sumFrom 1 = .ok (.iload_n 1, 1) := by decide +kernel
theorem dX1_sumFrom_2 : decode cX1_sumFrom 2 = .ok (.iload_n 2, 1) := by decide +kernel
theorem dX1_sumFrom_3 : decode cX1_sumFrom 3 = .ok (.invokevirtual 30, 3) := by decide +kernel
theorem dX1_sumFrom_6 : decode cX1_sumFrom 6 = .ok (.ifCond .ne 5, 3) := by decide +kernel
theorem dX1_sumFrom_9 : decode cX1_sumFrom 9 = .ok (.iconst 0, 1) := by decide +kernel
theorem dX1_sumFrom_10 : decode cX1_sumFrom 10 = .ok (.ireturn, 1) := by decide +kernel
theorem dX1_sumFrom_11 : decode cX1_sumFrom 11 = .ok (.iconst 0, 1) := by decide +kernel
theorem dX1_sumFrom_12 : decode cX1_sumFrom 12 = .ok (.istore_n 3, 1) := by decide +kernel
theorem dX1_sumFrom_13 : decode cX1_sumFrom 13 = .ok (.iconst 0, 1) := by decide +kernel
theorem dX1_sumFrom_14 : decode cX1_sumFrom 14 = .ok (.istore 4, 2) := by decide +kernel
theorem dX1_sumFrom_16 : decode cX1_sumFrom 16 = .ok (.iconst 0, 1) := by decide +kernel
theorem dX1_sumFrom_17 : decode cX1_sumFrom 17 = .ok (.istore 5, 2) := by decide +kernel
theorem dX1_sumFrom_19 : decode cX1_sumFrom 19 = .ok (.iload 5, 2) := by decide +kernel
theorem dX1_sumFrom_21 : decode cX1_sumFrom 21 = .ok (.iload_n 2, 1) := by decide +kernel
theorem dX1_sumFrom_22 : decode cX1_sumFrom 22 = .ok (.if_icmp .ge 27, 3) := by decide +kernel
theorem dX1_sumFrom_25 : decode cX1_sumFrom 25 = .ok (.iload_n 3, 1) := by decide +kernel
theorem dX1_sumFrom_26 : decode cX1_sumFrom 26 = .ok (.aload_n 0, 1) := by decide +kernel
theorem dX1_sumFrom_27 : decode cX1_sumFrom 27 = .ok (.getfield 15, 3) := by decide +kernel
theorem dX1_sumFrom_30 : decode cX1_sumFrom 30 = .ok (.iload_n 1, 1) := by decide +kernel
theorem dX1_sumFrom_31 : decode cX1_sumFrom 31 = .ok (.iload 5, 2) := by decide +kernel
theorem dX1_sumFrom_33 : decode cX1_sumFrom 33 = .ok (.iadd, 1) := by decide +kernel
theorem dX1_sumFrom_34 : decode cX1_sumFrom 34 = .ok (.iaload, 1) := by decide +kernel
theorem dX1_sumFrom_35 : decode cX1_sumFrom 35 = .ok (.iadd, 1) := by decide +kernel
theorem dX1_sumFrom_36 : decode cX1_sumFrom 36 = .ok (.istore_n 3, 1) := by decide +kernel
theorem dX1_sumFrom_37 : decode cX1_sumFrom 37 = .ok (.iload 4, 2) := by decide +kernel
theorem dX1_sumFrom_39 : decode cX1_sumFrom 39 = .ok (.iload_n 3, 1) := by decide +kernel
theorem dX1_sumFrom_40 : decode cX1_sumFrom 40 = .ok (.iadd, 1) := by decide +kernel
theorem dX1_sumFrom_41 : decode cX1_sumFrom 41 = .ok (.istore 4, 2) := by decide +kernel
theorem dX1_sumFrom_43 : decode cX1_sumFrom 43 = .ok (.iinc 5 1, 3) := by decide +kernel
theorem dX1_sumFrom_46 : decode cX1_sumFrom 46 = .ok (.goto (-27), 3) := by decide +kernel
theorem dX1_sumFrom_49 : decode cX1_sumFrom 49 = .ok (.iload_n 3, 1) := by decide +kernel
theorem dX1_sumFrom_50 : decode cX1_sumFrom 50 = .ok (.iload 4, 2) := by decide +kernel
theorem dX1_sumFrom_52 : decode cX1_sumFrom 52 = .ok (.invokestatic 44, 3) := by decide +kernel
theorem dX1_sumFrom_55 : decode cX1_sumFrom 55 = .ok (.ireturn, 1) := by decide +kernel
theorem dX1_joined_0 : decode cX1_joined 0 = .ok (.iload_n 1, 1) := by decide +kernel
theorem dX1_joined_1 : decode cX1_joined 1 = .ok (.bipush 16, 2) := by decide +kernel
theorem dX1_joined_3 : decode cX1_joined 3 = .ok (.ishl, 1) := by decide +kernel
theorem dX1_joined_4 : decode cX1_joined 4 = .ok (.iload_n 0, 1) := by decide +kernel
theorem dX1_joined_5 : decode cX1_joined 5 = .ok (.ldc 48, 2) := by decide +kernel
theorem dX1_joined_7 : decode cX1_joined 7 = .ok (.iand, 1) := by decide +kernel
theorem dX1_joined_8 : decode cX1_joined 8 = .ok (.ior, 1) := by decide +kernel
theorem dX1_joined_9 : decode cX1_joined 9 = .ok (.ireturn, 1) := by decide +kernel
theorem dX1_isByte_0 : decode cX1_isByte 0 = .ok (.iload_n 0, 1) := by decide +kernel
theorem dX1_isByte_1 : decode cX1_isByte 1 = .ok (.ifCond .lt 14, 3) := by decide +kernel
theorem dX1_isByte_4 : decode cX1_isByte 4 = .ok (.iload_n 0, 1) := by decide +kernel
theorem dX1_isByte_5 : decode cX1_isByte 5 = .ok (.sipush 255, 3) := by decide +kernel
theorem dX1_isByte_8 : decode cX1_isByte 8 = .ok (.if_icmp .gt 7, 3) := by decide +kernel
theorem dX1_isByte_11 : decode cX1_isByte 11 = .ok (.iconst 1, 1) := by decide +kernel
theorem dX1_isByte_12 : decode cX1_isByte 12 = .ok (.goto 4, 3) := by decide +kernel
theorem dX1_isByte_15 : decode cX1_isByte 15 = .ok (.iconst 0, 1) := by decide +kernel
theorem dX1_isByte_16 : decode cX1_isByte 16 = .ok (.ireturn, 1) := by decide +kernel
theorem dX1_makeCells_0 : decode cX1_makeCells 0 = .ok (.iload_n 1, 1) := by decide +kernel
theorem dX1_makeCells_1 : decode cX1_makeCells 1 = .ok (.aload_n 0, 1) := by decide +kernel
theorem dX1_makeCells_2 : decode cX1_makeCells 2 = .ok (.getfield 15, 3) := by decide +kernel
theorem dX1_makeCells_5 : decode cX1_makeCells 5 = .ok (.arraylength, 1) := by decide +kernel
theorem dX1_makeCells_6 : decode cX1_makeCells 6 = .ok (.if_icmp .le 32, 3) := by decide +kernel
theorem dX1_makeCells_9 : decode cX1_makeCells 9 = .ok (.aload_n 0, 1) := by decide +kernel
theorem dX1_makeCells_10 : decode cX1_makeCells 10 = .ok (.aload_n 0, 1) := by decide +kernel
theorem dX1_makeCells_11 : decode cX1_makeCells 11 = .ok (.getfield 15, 3) := by decide +kernel
theorem dX1_makeCells_14 : decode cX1_makeCells 14 = .ok (.iload_n 1, 1) := by decide +kernel
theorem dX1_makeCells_15 : decode cX1_makeCells 15 = .ok (.aload_n 0, 1) := by decide +kernel
theorem dX1_makeCells_16 : decode cX1_makeCells 16 = .ok (.getfield 9, 3) := by decide +kernel
theorem dX1_makeCells_19 : decode cX1_makeCells 19 = .ok (.iconst 2, 1) := by decide +kernel
theorem dX1_makeCells_20 : decode cX1_makeCells 20 = .ok (.aload_n 0, 1) := by decide +kernel
theorem dX1_makeCells_21 : decode cX1_makeCells 21 = .ok (.getfield 15, 3) := by decide +kernel
theorem dX1_makeCells_24 : decode cX1_makeCells 24 = .ok (.arraylength, 1) := by decide +kernel
theorem dX1_makeCells_25 : decode cX1_makeCells 25 = .ok (.imul, 1) := by decide +kernel
theorem dX1_makeCells_26 : decode cX1_makeCells 26 = .ok (.invokestatic 49, 3) := by decide +kernel
theorem dX1_makeCells_29 : decode cX1_makeCells 29 = .ok (.invokestatic 54, 3) := by decide +kernel
theorem dX1_makeCells_32 : decode cX1_makeCells 32 = .ok (.invokestatic 57, 3) := by decide +kernel
theorem dX1_makeCells_35 : decode cX1_makeCells 35 = .ok (.putfield 15, 3) := by decide +kernel
theorem dX1_makeCells_38 : decode cX1_makeCells 38 = .ok (.return_, 1) := by decide +kernel
