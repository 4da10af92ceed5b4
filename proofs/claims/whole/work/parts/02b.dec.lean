theorem dX0_init_0 : decode cX0_init 0 = .ok (.aload_n 0, 1) := by decide +kernel
theorem dX0_init_1 : decode cX0_init 1 = .ok (.invokespecial 1, 3) := by decide +kernel
theorem dX0_init_4 : decode cX0_init 4 = .ok (.aload_n 0, 1) := by decide +kernel
theorem dX0_init_5 : decode cX0_init 5 = .ok (.lconst 0, 1) := by decide +kernel
theorem dX0_init_6 : decode cX0_init 6 = .ok (.putfield 7, 3) := by decide +kernel
theorem dX0_init_9 : decode cX0_init 9 = .ok (.return_, 1) := by decide +kernel
theorem dX0_next_0 : decode cX0_next 0 = .ok (.aload_n 0, 1) := by decide +kernel
theorem dX0_next_1 : decode cX0_next 1 = .ok (.ldc2_w 13, 3) := by decide +kernel
theorem dX0_next_4 : decode cX0_next 4 = .ok (.aload_n 0, 1) := by decide +kernel
theorem dX0_next_5 : decode cX0_next 5 = .ok (.getfield 7, 3) := by decide +kernel
theorem dX0_next_8 : decode cX0_next 8 = .ok (.lmul, 1) := by decide +kernel
theorem dX0_next_9 : decode cX0_next 9 = .ok (.ldc2_w 15, 3) := by decide +kernel
theorem dX0_next_12 : decode cX0_next 12 = .ok (.ladd, 1) := by decide +kernel
theorem dX0_next_13 : decode cX0_next 13 = .ok (.ldc2_w 17, 3) := by decide +kernel
theorem dX0_next_16 : decode cX0_next 16 = .ok (.lrem, 1) := by decide +kernel
theorem dX0_next_17 : decode cX0_next 17 = .ok (.putfield 7, 3) := by decide +kernel
theorem dX0_next_20 : decode cX0_next 20 = .ok (.iload_n 1, 1) := by decide +kernel
theorem dX0_next_21 : decode cX0_next 21 = .ok (.iconst 1, 1) := by decide +kernel
theorem dX0_next_22 : decode cX0_next 22 = .ok (.if_icmp .ge 7, 3) := by decide +kernel
theorem dX0_next_25 : decode cX0_next 25 = .ok (.iconst 0, 1) := by decide +kernel
theorem dX0_next_26 : decode cX0_next 26 = .ok (.goto 15, 3) := by decide +kernel
theorem dX0_next_29 : decode cX0_next 29 = .ok (.aload_n 0, 1) := by decide +kernel
theorem dX0_next_30 : decode cX0_next 30 = .ok (.getfield 7, 3) := by decide +kernel
theorem dX0_next_33 : decode cX0_next 33 = .ok (.ldc2_w 19, 3) := by decide +kernel
theorem dX0_next_36 : decode cX0_next 36 = .ok (.ldiv, 1) := by decide +kernel
theorem dX0_next_37 : decode cX0_next 37 = .ok (.iload_n 1, 1) := by decide +kernel
theorem dX0_next_38 : decode cX0_next 38 = .ok (.i2l, 1) := by decide +kernel
theorem dX0_next_39 : decode cX0_next 39 = .ok (.lrem, 1) := by decide +kernel
theorem dX0_next_40 : decode cX0_next 40 = .ok (.l2i, 1) := by decide +kernel
theorem dX0_next_41 : decode cX0_next 41 = .ok (.ireturn, 1) := by decide +kernel
theorem dX1_init_0 : decode cX1_init 0 = .ok (.aload_n 0, 1) := by decide +kernel
theorem dX1_init_1 : decode cX1_init 1 = .ok (.invokespecial 3, 3) := by decide +kernel
theorem dX1_init_4 : decode cX1_init 4 = .ok (.aload_n 0, 1) := by decide +kernel
theorem dX1_init_5 : decode cX1_init 5 = .ok (.new 9, 3) := by decide +kernel
theorem dX1_init_8 : decode cX1_init 8 = .ok (.dup, 1) := by decide +kernel
theorem dX1_init_9 : decode cX1_init 9 = .ok (.bipush 6, 2) := by decide +kernel
theorem dX1_init_11 : decode cX1_init 11 = .ok (.invokespecial 11, 3) := by decide +kernel
theorem dX1_init_14 : decode cX1_init 14 = .ok (.putfield 14, 3) := by decide +kernel
theorem dX1_init_17 : decode cX1_init 17 = .ok (.aload_n 0, 1) := by decide +kernel
theorem dX1_init_18 : decode cX1_init 18 = .ok (.new 9, 3) := by decide +kernel
theorem dX1_init_21 : decode cX1_init 21 = .ok (.dup, 1) := by decide +kernel
theorem dX1_init_22 : decode cX1_init 22 = .ok (.bipush 6, 2) := by decide +kernel
theorem dX1_init_24 : decode cX1_init 24 = .ok (.invokespecial 11, 3) := by decide +kernel
theorem dX1_init_27 : decode cX1_init 27 = .ok (.putfield 20, 3) := by decide +kernel
theorem dX1_init_30 : decode cX1_init 30 = .ok (.aload_n 0, 1) := by decide +kernel
theorem dX1_init_31 : decode cX1_init 31 = .ok (.new 9, 3) := by decide +kernel
theorem dX1_init_34 : decode cX1_init 34 = .ok (.dup, 1) := by decide +kernel
theorem dX1_init_35 : decode cX1_init 35 = .ok (.bipush 6, 2) := by decide +kernel
theorem dX1_init_37 : decode cX1_init 37 = .ok (.invokespecial 11, 3) := by decide +kernel
theorem dX1_init_40 : decode cX1_init 40 = .ok (.putfield 23, 3) := by decide +kernel
theorem dX1_init_43 : decode cX1_init 43 = .ok (.aload_n 0, 1) := by decide +kernel
theorem dX1_init_44 : decode cX1_init 44 = .ok (.new 9, 3) := by decide +kernel
theorem dX1_init_47 : decode cX1_init 47 = .ok (.dup, 1) := by decide +kernel
theorem dX1_init_48 : decode cX1_init 48 = .ok (.bipush 6, 2) := by decide +kernel
theorem dX1_init_50 : decode cX1_init 50 = .ok (.invokespecial 11, 3) := by decide +kernel
theorem dX1_init_53 : decode cX1_init 53 = .ok (.putfield 26, 3) := by decide +kernel
theorem dX1_init_56 : decode cX1_init 56 = .ok (.aload_n 0, 1) := by decide +kernel
theorem dX1_init_57 : decode cX1_init 57 = .ok (.iconst 0, 1) := by decide +kernel
theorem dX1_init_58 : decode cX1_init 58 = .ok (.putfield 29, 3) := by decide +kernel
theorem dX1_init_61 : decode cX1_init 61 = .ok (.aload_n 0, 1) := by decide +kernel
theorem dX1_init_62 : decode cX1_init 62 = .ok (.iconst 0, 1) := by decide +kernel
theorem dX1_init_63 : decode cX1_init 63 = .ok (.putfield 33, 3) := by decide +kernel
theorem dX1_init_66 : decode cX1_init 66 = .ok (.aload_n 0, 1) := by decide +kernel
theorem dX1_init_67 : decode cX1_init 67 = .ok (.iconst 0, 1) := by decide +kernel
theorem dX1_init_68 : decode cX1_init 68 = .ok (.putfield 36, 3) := by decide +kernel
theorem dX1_init_71 : decode cX1_init 71 = .ok (.return_, 1) := by decide +kernel
theorem dX1_begin_0 : decode cX1_begin 0 = .ok (.aload_n 0, 1) := by decide +kernel
theorem dX1_begin_1 : decode cX1_begin 1 = .ok (.iconst 0, 1) := by decide +kernel
theorem dX1_begin_2 : decode cX1_begin 2 = .ok (.iload_n 1, 1) := by decide +kernel
theorem dX1_begin_3 : decode cX1_begin 3 = .ok (.bipush 6, 2) := by decide +kernel
theorem dX1_begin_5 : decode cX1_begin 5 = .ok (.invokestatic 39, 3) := by decide +kernel
theorem dX1_begin_8 : decode cX1_begin 8 = .ok (.invokestatic 45, 3) := by decide +kernel
theorem dX1_begin_11 : decode cX1_begin 11 = .ok (.putfield 29, 3) := by decide +kernel
theorem dX1_begin_14 : decode cX1_begin 14 = .ok (.aload_n 0, 1) := by decide +kernel
theorem dX1_begin_15 : decode cX1_begin 15 = .ok (.iconst 0, 1) := by decide +kernel
theorem dX1_begin_16 : decode cX1_begin 16 = .ok (.putfield 33, 3) := by decide +kernel
theorem dX1_begin_19 : decode cX1_begin 19 = .ok (.aload_n 0, 1) := by decide +kernel
theorem dX1_begin_20 : decode cX1_begin 20 = .ok (.iconst 0, 1) := by decide +kernel
theorem dX1_begin_21 : decode cX1_begin 21 = .ok (.putfield 36, 3) := by decide +kernel
theorem dX1_begin_24 : decode cX1_begin 24 = .ok (.return_, 1) := by decide +kernel
theorem dX1_settle_0 : decode cX1_settle 0 = .ok (.aload_n 0, 1) := by decide +kernel
theorem dX1_settle_1 : decode cX1_settle 1 = .ok (.getfield 14, 3) := by decide +kernel
theorem dX1_settle_4 : decode cX1_settle 4 = .ok (.iload_n 1, 1) := by decide +kernel
theorem dX1_settle_5 : decode cX1_settle 5 = .ok (.iload_n 2, 1) := by decide +kernel
theorem dX1_settle_6 : decode cX1_settle 6 = .ok (.invokevirtual 48, 3) := by decide +kernel
theorem dX1_settle_9 : decode cX1_settle 9 = .ok (.aload_n 0, 1) := by decide +kernel
theorem dX1_settle_10 : decode cX1_settle 10 = .ok (.getfield 20, 3) := by decide +kernel
theorem dX1_settle_13 : decode cX1_settle 13 = .ok (.iload_n 1, 1) := by decide +kernel
theorem dX1_settle_14 : decode cX1_settle 14 = .ok (.iload_n 3, 1) := by decide +kernel
theorem dX1_settle_15 : decode cX1_settle 15 = .ok (.invokevirtual 48, 3) := by decide +kernel
theorem dX1_settle_18 : decode cX1_settle 18 = .ok (.aload_n 0, 1) := by decide +kernel
theorem dX1_settle_19 : decode cX1_settle 19 = .ok (.getfield 23, 3) := by decide +kernel
theorem dX1_settle_22 : decode cX1_settle 22 = .ok (.iload_n 1, 1) := by decide +kernel
theorem dX1_settle_23 : decode cX1_settle 23 = .ok (.iload 4, 2) := by decide +kernel
theorem dX1_settle_25 : decode cX1_settle 25 = .ok (.invokevirtual 48, 3) := by decide +kernel
theorem dX1_settle_28 : decode cX1_settle 28 = .ok (.aload_n 0, 1) := by decide +kernel
theorem dX1_settle_29 : decode cX1_settle 29 = .ok (.getfield 26, 3) := by decide +kernel
theorem dX1_settle_32 : decode cX1_settle 32 = .ok (.iload_n 1, 1) := by decide +kernel
theorem dX1_settle_33 : decode cX1_settle 33 = .ok (.iconst 0, 1) := by decide +kernel
theorem dX1_settle_34 : decode cX1_settle 34 = .ok (.invokevirtual 48, 3) := by decide +kernel
theorem dX1_settle_37 : decode cX1_settle 37 = .ok (.return_, 1) := by decide +kernel
theorem dX1_take_0 : decode cX1_take 0 = .ok (.aload_n 0, 1) := by decide +kernel
theorem dX1_take_1 : decode cX1_take 1 = .ok (.getfield 14, 3) := by decide +kernel
theorem dX1_take_4 : decode cX1_take 4 = .ok (.aload_n 1, 1) := by decide +kernel
theorem dX1_take_5 : decode cX1_take 5 = .ok (.getfield 14, 3) := by decide +kernel
theorem dX1_take_8 : decode cX1_take 8 = .ok (.invokevirtual 52, 3) := by decide +kernel
theorem dX1_take_11 : decode cX1_take 11 = .ok (.aload_n 0, 1) := by decide +kernel
theorem dX1_take_12 : decode cX1_take 12 = .ok (.getfield 20, 3) := by decide +kernel
theorem dX1_take_15 : decode cX1_take 15 = .ok (.aload_n 1, 1) := by decide +kernel
theorem dX1_take_16 : decode cX1_take 16 = .ok (.getfield 20, 3) := by decide +kernel
theorem dX1_take_19 : decode cX1_take 19 = .ok (.invokevirtual 52, 3) := by decide +kernel
theorem dX1_take_22 : decode cX1_take 22 = .ok (.aload_n 0, 1) := by decide +kernel
theorem dX1_take_23 : decode cX1_take 23 = .ok (.getfield 23, 3) := by decide +kernel
theorem dX1_take_26 : decode cX1_take 26 = .ok (.aload_n 1, 1) := by decide +kernel
theorem dX1_take_27 : decode cX1_take 27 = .ok (.getfield 23, 3) := by decide +kernel
theorem dX1_take_30 : decode cX1_take 30 = .ok (.invokevirtual 52, 3) := by decide +kernel
theorem dX1_take_33 : decode cX1_take 33 = .ok (.aload_n 0, 1) := by decide +kernel
theorem dX1_take_34 : decode cX1_take 34 = .ok (.getfield 26, 3) := by decide +kernel
theorem dX1_take_37 : decode cX1_take 37 = .ok (.aload_n 1, 1) := by decide +kernel
theorem dX1_take_38 : decode cX1_take 38 = .ok (.getfield 26, 3) := by decide +kernel
theorem dX1_take_41 : decode cX1_take 41 = .ok (.invokevirtual 52, 3) := by decide +kernel
theorem dX1_take_44 : decode cX1_take 44 = .ok (.aload_n 0, 1) := by decide +kernel
theorem dX1_take_45 : decode cX1_take 45 = .ok (.aload_n 1, 1) := by decide +kernel
theorem dX1_take_46 : decode cX1_take 46 = .ok (.getfield 29, 3) := by decide +kernel
theorem dX1_take_49 : decode cX1_take 49 = .ok (.putfield 29, 3) := by decide +kernel
theorem dX1_take_52 : decode cX1_take 52 = .ok (.aload_n 0, 1) := by decide +kernel
theorem dX1_take_53 : decode cX1_take 53 = .ok (.aload_n 1, 1) := by decide +kernel
theorem dX1_take_54 : decode cX1_take 54 = .ok (.getfield 33, 3) := by decide +kernel
theorem dX1_take_57 : decode cX1_take 57 = .ok (.putfield 33, 3) := by decide +kernel
theorem dX1_take_60 : decode cX1_take 60 = .ok (.aload_n 0, 1) := by decide +kernel
theorem dX1_take_61 : decode cX1_take 61 = .ok (.aload_n 1, 1) := by decide +kernel
theorem dX1_take_62 : decode cX1_take 62 = .ok (.getfield 36, 3) := by decide +kernel
theorem dX1_take_65 : decode cX1_take 65 = .ok (.putfield 36, 3) := by decide +kernel
theorem dX1_take_68 : decode cX1_take 68 = .ok (.return_, 1) := by decide +kernel
theorem dX1_has_0 : decode cX1_has 0 = .ok (.iload_n 1, 1) := by decide +kernel
theorem dX1_has_1 : decode cX1_has 1 = .ok (.ifCond .lt 15, 3) := by decide +kernel
theorem dX1_has_4 : decode cX1_has 4 = .ok (.iload_n 1, 1) := by decide +kernel
theorem dX1_has_5 : decode cX1_has 5 = .ok (.aload_n 0, 1) := by decide +kernel
theorem dX1_has_6 : decode cX1_has 6 = .ok (.getfield 29, 3) := by decide +kernel
theorem dX1_has_9 : decode cX1_has 9 = .ok (.if_icmp .ge 7, 3) := by decide +kernel
theorem dX1_has_12 : decode cX1_has 12 = .ok (.iconst 1, 1) := by decide +kernel
theorem dX1_has_13 : decode cX1_has 13 = .ok (.goto 4, 3) := by decide +kernel
theorem dX1_has_16 : decode cX1_has 16 = .ok (.iconst 0, 1) := by decide +kernel
theorem dX1_has_17 : decode cX1_has 17 = .ok (.ireturn, 1) := by decide +kernel
theorem dX1_passYear_0 : decode cX1_passYear 0 = .ok (.aload_n 0, 1) := by decide +kernel
theorem dX1_passYear_1 : decode cX1_passYear 1 = .ok (.dup, 1) := by decide +kernel
theorem dX1_passYear_2 : decode cX1_passYear 2 = .ok (.getfield 33, 3) := by decide +kernel
theorem dX1_passYear_5 : decode cX1_passYear 5 = .ok (.iconst 1, 1) := by decide +kernel
theorem dX1_passYear_6 : decode cX1_passYear 6 = .ok (.iadd, 1) := by decide +kernel
theorem dX1_passYear_7 : decode cX1_passYear 7 = .ok (.putfield 33, 3) := by decide +kernel
theorem dX1_passYear_10 : decode cX1_passYear 10 = .ok (.iconst 0, 1) := by decide +kernel
theorem dX1_passYear_11 : decode cX1_passYear 11 = .ok (.istore_n 1, 1) := by decide +kernel
theorem dX1_passYear_12 : decode cX1_passYear 12 = .ok (.iload_n 1, 1) := by decide +kernel
theorem dX1_passYear_13 : decode cX1_passYear 13 = .ok (.aload_n 0, 1) := by decide +kernel
theorem dX1_passYear_14 : decode cX1_passYear 14 = .ok (.getfield 29, 3) := by decide +kernel
theorem dX1_passYear_17 : decode cX1_passYear 17 = .ok (.if_icmp .ge 65, 3) := by decide +kernel
theorem dX1_passYear_20 : decode cX1_passYear 20 = .ok (.aload_n 0, 1) := by decide +kernel
theorem dX1_passYear_21 : decode cX1_passYear 21 = .ok (.getfield 20, 3) := by decide +kernel
theorem dX1_passYear_24 : decode cX1_passYear 24 = .ok (.iload_n 1, 1) := by decide +kernel
theorem dX1_passYear_25 : decode cX1_passYear 25 = .ok (.aload_n 0, 1) := by decide +kernel
theorem dX1_passYear_26 : decode cX1_passYear 26 = .ok (.getfield 14, 3) := by decide +kernel
theorem dX1_passYear_29 : decode cX1_passYear 29 = .ok (.iload_n 1, 1) := by decide +kernel
theorem dX1_passYear_30 : decode cX1_passYear 30 = .ok (.invokevirtual 56, 3) := by decide +kernel
theorem dX1_passYear_33 : decode cX1_passYear 33 = .ok (.aload_n 0, 1) := by decide +kernel
theorem dX1_passYear_34 : decode cX1_passYear 34 = .ok (.getfield 20, 3) := by decide +kernel
theorem dX1_passYear_37 : decode cX1_passYear 37 = .ok (.iload_n 1, 1) := by decide +kernel
theorem dX1_passYear_38 : decode cX1_passYear 38 = .ok (.invokevirtual 56, 3) := by decide +kernel
theorem dX1_passYear_41 : decode cX1_passYear 41 = .ok (.aload_n 0, 1) := by decide +kernel
theorem dX1_passYear_42 : decode cX1_passYear 42 = .ok (.getfield 23, 3) := by decide +kernel
theorem dX1_passYear_45 : decode cX1_passYear 45 = .ok (.iload_n 1, 1) := by decide +kernel
theorem dX1_passYear_46 : decode cX1_passYear 46 = .ok (.invokevirtual 56, 3) := by decide +kernel
theorem dX1_passYear_49 : decode cX1_passYear 49 = .ok (.aload_n 0, 1) := by decide +kernel
theorem dX1_passYear_50 : decode cX1_passYear 50 = .ok (.getfield 26, 3) := by decide +kernel
theorem dX1_passYear_53 : decode cX1_passYear 53 = .ok (.iload_n 1, 1) := by decide +kernel
theorem dX1_passYear_54 : decode cX1_passYear 54 = .ok (.invokevirtual 56, 3) := by decide +kernel
theorem dX1_passYear_57 : decode cX1_passYear 57 = .ok (.aload_n 0, 1) := by decide +kernel
theorem dX1_passYear_58 : decode cX1_passYear 58 = .ok (.getfield 33, 3) := by decide +kernel
theorem dX1_passYear_61 : decode cX1_passYear 61 = .ok (.invokestatic 60, 3) := by decide +kernel
theorem dX1_passYear_64 : decode cX1_passYear 64 = .ok (.invokevirtual 48, 3) := by decide +kernel
theorem dX1_passYear_67 : decode cX1_passYear 67 = .ok (.aload_n 0, 1) := by decide +kernel
theorem dX1_passYear_68 : decode cX1_passYear 68 = .ok (.getfield 26, 3) := by decide +kernel
theorem dX1_passYear_71 : decode cX1_passYear 71 = .ok (.iload_n 1, 1) := by decide +kernel
theorem dX1_passYear_72 : decode cX1_passYear 72 = .ok (.iconst 0, 1) := by decide +kernel
theorem dX1_passYear_73 : decode cX1_passYear 73 = .ok (.invokevirtual 48, 3) := by decide +kernel
theorem dX1_passYear_76 : decode cX1_passYear 76 = .ok (.iinc 1 1, 3) := by decide +kernel
theorem dX1_passYear_79 : decode cX1_passYear 79 = .ok (.goto (-67), 3) := by decide +kernel
theorem dX1_passYear_82 : decode cX1_passYear 82 = .ok (.return_, 1) := by decide +kernel
theorem dX1_reedBehindYear_0 : decode cX1_reedBehindYear 0 = .ok (.aload_n 0, 1) := by decide +kernel
theorem dX1_reedBehindYear_1 : decode cX1_reedBehindYear 1 = .ok (.getfield 14, 3) := by decide +kernel
theorem dX1_reedBehindYear_4 : decode cX1_reedBehindYear 4 = .ok (.iload_n 1, 1) := by decide +kernel
theorem dX1_reedBehindYear_5 : decode cX1_reedBehindYear 5 = .ok (.invokevirtual 56, 3) := by decide +kernel
theorem dX1_reedBehindYear_8 : decode cX1_reedBehindYear 8 = .ok (.aload_n 0, 1) := by decide +kernel
theorem dX1_reedBehindYear_9 : decode cX1_reedBehindYear 9 = .ok (.getfield 20, 3) := by decide +kernel
theorem dX1_reedBehindYear_12 : decode cX1_reedBehindYear 12 = .ok (.iload_n 1, 1) := by decide +kernel
theorem dX1_reedBehindYear_13 : decode cX1_reedBehindYear 13 = .ok (.invokevirtual 56, 3) := by decide +kernel
theorem dX1_reedBehindYear_16 : decode cX1_reedBehindYear 16 = .ok (.aload_n 0, 1) := by decide +kernel
theorem dX1_reedBehindYear_17 : decode cX1_reedBehindYear 17 = .ok (.getfield 23, 3) := by decide +kernel
theorem dX1_reedBehindYear_20 : decode cX1_reedBehindYear 20 = .ok (.iload_n 1, 1) := by decide +kernel
theorem dX1_reedBehindYear_21 : decode cX1_reedBehindYear 21 = .ok (.invokevirtual 56, 3) := by decide +kernel
theorem dX1_reedBehindYear_24 : decode cX1_reedBehindYear 24 = .ok (.aload_n 0, 1) := by decide +kernel
theorem dX1_reedBehindYear_25 : decode cX1_reedBehindYear 25 = .ok (.getfield 26, 3) := by decide +kernel
theorem dX1_reedBehindYear_28 : decode cX1_reedBehindYear 28 = .ok (.iload_n 1, 1) := by decide +kernel
theorem dX1_reedBehindYear_29 : decode cX1_reedBehindYear 29 = .ok (.invokevirtual 56, 3) := by decide +kernel
theorem dX1_reedBehindYear_32 : decode cX1_reedBehindYear 32 = .ok (.aload_n 0, 1) := by decide +kernel
theorem dX1_reedBehindYear_33 : decode cX1_reedBehindYear 33 = .ok (.getfield 33, 3) := by decide +kernel
theorem dX1_reedBehindYear_36 : decode cX1_reedBehindYear 36 = .ok (.iconst 1, 1) := by decide +kernel
theorem dX1_reedBehindYear_37 : decode cX1_reedBehindYear 37 = .ok (.iadd, 1) := by decide +kernel
theorem dX1_reedBehindYear_38 : decode cX1_reedBehindYear 38 = .ok (.invokestatic 60, 3) := by decide +kernel
theorem dX1_reedBehindYear_41 : decode cX1_reedBehindYear 41 = .ok (.ireturn, 1) := by decide +kernel
theorem dX1_reachOf_0 : decode cX1_reachOf 0 = .ok (.iconst 0, 1) := by decide +kernel
theorem dX1_reachOf_1 : decode cX1_reachOf 1 = .ok (.istore_n 3, 1) := by decide +kernel
theorem dX1_reachOf_2 : decode cX1_reachOf 2 = .ok (.iconst 0, 1) := by decide +kernel
theorem dX1_reachOf_3 : decode cX1_reachOf 3 = .ok (.istore 4, 2) := by decide +kernel
theorem dX1_reachOf_5 : decode cX1_reachOf 5 = .ok (.iload 4, 2) := by decide +kernel
theorem dX1_reachOf_7 : decode cX1_reachOf 7 = .ok (.iload_n 1, 1) := by decide +kernel
theorem dX1_reachOf_8 : decode cX1_reachOf 8 = .ok (.if_icmp .ge 26, 3) := by decide +kernel
theorem dX1_reachOf_11 : decode cX1_reachOf 11 = .ok (.aload_n 0, 1) := by decide +kernel
theorem dX1_reachOf_12 : decode cX1_reachOf 12 = .ok (.getfield 20, 3) := by decide +kernel
theorem dX1_reachOf_15 : decode cX1_reachOf 15 = .ok (.iload 4, 2) := by decide +kernel
theorem dX1_reachOf_17 : decode cX1_reachOf 17 = .ok (.invokevirtual 56, 3) := by decide +kernel
theorem dX1_reachOf_20 : decode cX1_reachOf 20 = .ok (.bipush 10, 2) := by decide +kernel
theorem dX1_reachOf_22 : decode cX1_reachOf 22 = .ok (.if_icmp .lt 6, 3) := by decide +kernel
theorem dX1_reachOf_25 : decode cX1_reachOf 25 = .ok (.iinc 3 1, 3) := by decide +kernel
theorem dX1_reachOf_28 : decode cX1_reachOf 28 = .ok (.iinc 4 1, 3) := by decide +kernel
theorem dX1_reachOf_31 : decode cX1_reachOf 31 = .ok (.goto (-26), 3) := by decide +kernel
theorem dX1_reachOf_34 : decode cX1_reachOf 34 = .ok (.iload_n 2, 1) := by decide +kernel
theorem dX1_reachOf_35 : decode cX1_reachOf 35 = .ok (.iload_n 3, 1) := by decide +kernel
theorem dX1_reachOf_36 : decode cX1_reachOf 36 = .ok (.invokestatic 64, 3) := by decide +kernel
theorem dX1_reachOf_39 : decode cX1_reachOf 39 = .ok (.ireturn, 1) := by decide +kernel
theorem dX1_isWet_0 : decode cX1_isWet 0 = .ok (.aload_n 0, 1) := by decide +kernel
theorem dX1_isWet_1 : decode cX1_isWet 1 = .ok (.getfield 20, 3) := by decide +kernel
theorem dX1_isWet_4 : decode cX1_isWet 4 = .ok (.iload_n 1, 1) := by decide +kernel
theorem dX1_isWet_5 : decode cX1_isWet 5 = .ok (.invokevirtual 56, 3) := by decide +kernel
theorem dX1_isWet_8 : decode cX1_isWet 8 = .ok (.aload_n 0, 1) := by decide +kernel
theorem dX1_isWet_9 : decode cX1_isWet 9 = .ok (.iload_n 1, 1) := by decide +kernel
theorem dX1_isWet_10 : decode cX1_isWet 10 = .ok (.iload_n 2, 1) := by decide +kernel
theorem dX1_isWet_11 : decode cX1_isWet 11 = .ok (.invokevirtual 67, 3) := by decide +kernel
theorem dX1_isWet_14 : decode cX1_isWet 14 = .ok (.if_icmp .ge 7, 3) := by decide +kernel
theorem dX1_isWet_17 : decode cX1_isWet 17 = .ok (.iconst 1, 1) := by decide +kernel
theorem dX1_isWet_18 : decode cX1_isWet 18 = .ok (.goto 4, 3) := by decide +kernel
theorem dX1_isWet_21 : decode cX1_isWet 21 = .ok (.iconst 0, 1) := by decide +kernel
theorem dX1_isWet_22 : decode cX1_isWet 22 = .ok (.ireturn, 1) := by decide +kernel
theorem dX1_wetBits_0 : decode cX1_wetBits 0 = .ok (.iconst 0, 1) := by decide +kernel
theorem dX1_wetBits_1 : decode cX1_wetBits 1 = .ok (.istore_n 2, 1) := by decide +kernel
theorem dX1_wetBits_2 : decode cX1_wetBits 2 = .ok (.iconst 0, 1) := by decide +kernel
theorem dX1_wetBits_3 : decode cX1_wetBits 3 = .ok (.istore_n 3, 1) := by decide +kernel
theorem dX1_wetBits_4 : decode cX1_wetBits 4 = .ok (.iconst 0, 1) := by decide +kernel
theorem dX1_wetBits_5 : decode cX1_wetBits 5 = .ok (.istore 4, 2) := by decide +kernel
theorem dX1_wetBits_7 : decode cX1_wetBits 7 = .ok (.iload 4, 2) := by decide +kernel
theorem dX1_wetBits_9 : decode cX1_wetBits 9 = .ok (.aload_n 0, 1) := by decide +kernel
theorem dX1_wetBits_10 : decode cX1_wetBits 10 = .ok (.getfield 29, 3) := by decide +kernel
theorem dX1_wetBits_13 : decode cX1_wetBits 13 = .ok (.if_icmp .ge 47, 3) := by decide +kernel
theorem dX1_wetBits_16 : decode cX1_wetBits 16 = .ok (.aload_n 0, 1) := by decide +kernel
theorem dX1_wetBits_17 : decode cX1_wetBits 17 = .ok (.getfield 20, 3) := by decide +kernel
theorem dX1_wetBits_20 : decode cX1_wetBits 20 = .ok (.iload 4, 2) := by decide +kernel
theorem dX1_wetBits_22 : decode cX1_wetBits 22 = .ok (.invokevirtual 56, 3) := by decide +kernel
theorem dX1_wetBits_25 : decode cX1_wetBits 25 = .ok (.istore 5, 2) := by decide +kernel
theorem dX1_wetBits_27 : decode cX1_wetBits 27 = .ok (.iload 5, 2) := by decide +kernel
theorem dX1_wetBits_29 : decode cX1_wetBits 29 = .ok (.iload_n 1, 1) := by decide +kernel
theorem dX1_wetBits_30 : decode cX1_wetBits 30 = .ok (.iload_n 3, 1) := by decide +kernel
theorem dX1_wetBits_31 : decode cX1_wetBits 31 = .ok (.invokestatic 64, 3) := by decide +kernel
theorem dX1_wetBits_34 : decode cX1_wetBits 34 = .ok (.if_icmp .ge 10, 3) := by decide +kernel
theorem dX1_wetBits_37 : decode cX1_wetBits 37 = .ok (.iload_n 2, 1) := by decide +kernel
theorem dX1_wetBits_38 : decode cX1_wetBits 38 = .ok (.iconst 1, 1) := by decide +kernel
theorem dX1_wetBits_39 : decode cX1_wetBits 39 = .ok (.iload 4, 2) := by decide +kernel
theorem dX1_wetBits_41 : decode cX1_wetBits 41 = .ok (.ishl, 1) := by decide +kernel
theorem dX1_wetBits_42 : decode cX1_wetBits 42 = .ok (.ior, 1) := by decide +kernel
theorem dX1_wetBits_43 : decode cX1_wetBits 43 = .ok (.istore_n 2, 1) := by decide +kernel
theorem dX1_wetBits_44 : decode cX1_wetBits 44 = .ok (.iload 5, 2) := by decide +kernel
theorem dX1_wetBits_46 : decode cX1_wetBits 46 = .ok (.bipush 10, 2) := by decide +kernel
theorem dX1_wetBits_48 : decode cX1_wetBits 48 = .ok (.if_icmp .lt 6, 3) := by decide +kernel
theorem dX1_wetBits_51 : decode cX1_wetBits 51 = .ok (.iinc 3 1, 3) := by decide +kernel
theorem dX1_wetBits_54 : decode cX1_wetBits 54 = .ok (.iinc 4 1, 3) := by decide +kernel
theorem dX1_wetBits_57 : decode cX1_wetBits 57 = .ok (.goto (-50), 3) := by decide +kernel
theorem dX1_wetBits_60 : decode cX1_wetBits 60 = .ok (.iload_n 2, 1) := by decide +kernel
theorem dX1_wetBits_61 : decode cX1_wetBits 61 = .ok (.ireturn, 1) := by decide +kernel
theorem dX1_rainOn_0 : decode cX1_rainOn 0 = .ok (.aload_n 0, 1) := by decide +kernel
theorem dX1_rainOn_1 : decode cX1_rainOn 1 = .ok (.iload_n 1, 1) := by decide +kernel
theorem dX1_rainOn_2 : decode cX1_rainOn 2 = .ok (.invokevirtual 70, 3) := by decide +kernel
theorem dX1_rainOn_5 : decode cX1_rainOn 5 = .ok (.istore_n 2, 1) := by decide +kernel
theorem dX1_rainOn_6 : decode cX1_rainOn 6 = .ok (.iconst 0, 1) := by decide +kernel
theorem dX1_rainOn_7 : decode cX1_rainOn 7 = .ok (.istore_n 3, 1) := by decide +kernel
theorem dX1_rainOn_8 : decode cX1_rainOn 8 = .ok (.iconst 0, 1) := by decide +kernel
theorem dX1_rainOn_9 : decode cX1_rainOn 9 = .ok (.istore 4, 2) := by decide +kernel
theorem dX1_rainOn_11 : decode cX1_rainOn 11 = .ok (.iload 4, 2) := by decide +kernel
theorem dX1_rainOn_13 : decode cX1_rainOn 13 = .ok (.aload_n 0, 1) := by decide +kernel
theorem dX1_rainOn_14 : decode cX1_rainOn 14 = .ok (.getfield 29, 3) := by decide +kernel
theorem dX1_rainOn_17 : decode cX1_rainOn 17 = .ok (.if_icmp .ge 47, 3) := by decide +kernel
theorem dX1_rainOn_20 : decode cX1_rainOn 20 = .ok (.iload_n 2, 1) := by decide +kernel
theorem dX1_rainOn_21 : decode cX1_rainOn 21 = .ok (.iload 4, 2) := by decide +kernel
theorem dX1_rainOn_23 : decode cX1_rainOn 23 = .ok (.ishr, 1) := by decide +kernel
theorem dX1_rainOn_24 : decode cX1_rainOn 24 = .ok (.iconst 1, 1) := by decide +kernel
theorem dX1_rainOn_25 : decode cX1_rainOn 25 = .ok (.iand, 1) := by decide +kernel
theorem dX1_rainOn_26 : decode cX1_rainOn 26 = .ok (.iconst 1, 1) := by decide +kernel
theorem dX1_rainOn_27 : decode cX1_rainOn 27 = .ok (.if_icmp .ne 31, 3) := by decide +kernel
theorem dX1_rainOn_30 : decode cX1_rainOn 30 = .ok (.iinc 3 1, 3) := by decide +kernel
theorem dX1_rainOn_33 : decode cX1_rainOn 33 = .ok (.aload_n 0, 1) := by decide +kernel
theorem dX1_rainOn_34 : decode cX1_rainOn 34 = .ok (.getfield 23, 3) := by decide +kernel
theorem dX1_rainOn_37 : decode cX1_rainOn 37 = .ok (.iload 4, 2) := by decide +kernel
theorem dX1_rainOn_39 : decode cX1_rainOn 39 = .ok (.aload_n 0, 1) := by decide +kernel
theorem dX1_rainOn_40 : decode cX1_rainOn 40 = .ok (.getfield 23, 3) := by decide +kernel
theorem dX1_rainOn_43 : decode cX1_rainOn 43 = .ok (.iload 4, 2) := by decide +kernel
theorem dX1_rainOn_45 : decode cX1_rainOn 45 = .ok (.invokevirtual 56, 3) := by decide +kernel
theorem dX1_rainOn_48 : decode cX1_rainOn 48 = .ok (.iconst 1, 1) := by decide +kernel
theorem dX1_rainOn_49 : decode cX1_rainOn 49 = .ok (.iadd, 1) := by decide +kernel
theorem dX1_rainOn_50 : decode cX1_rainOn 50 = .ok (.bipush 9, 2) := by decide +kernel
theorem dX1_rainOn_52 : decode cX1_rainOn 52 = .ok (.invokestatic 39, 3) := by decide +kernel
theorem dX1_rainOn_55 : decode cX1_rainOn 55 = .ok (.invokevirtual 48, 3) := by decide +kernel
theorem dX1_rainOn_58 : decode cX1_rainOn 58 = .ok (.iinc 4 1, 3) := by decide +kernel
theorem dX1_rainOn_61 : decode cX1_rainOn 61 = .ok (.goto (-50), 3) := by decide +kernel
theorem dX1_rainOn_64 : decode cX1_rainOn 64 = .ok (.aload_n 0, 1) := by decide +kernel
theorem dX1_rainOn_65 : decode cX1_rainOn 65 = .ok (.dup, 1) := by decide +kernel
theorem dX1_rainOn_66 : decode cX1_rainOn 66 = .ok (.getfield 36, 3) := by decide +kernel
theorem dX1_rainOn_69 : decode cX1_rainOn 69 = .ok (.iload_n 3, 1) := by decide +kernel
theorem dX1_rainOn_70 : decode cX1_rainOn 70 = .ok (.iadd, 1) := by decide +kernel
theorem dX1_rainOn_71 : decode cX1_rainOn 71 = .ok (.putfield 36, 3) := by decide +kernel
theorem dX1_rainOn_74 : decode cX1_rainOn 74 = .ok (.iload_n 3, 1) := by decide +kernel
theorem dX1_rainOn_75 : decode cX1_rainOn 75 = .ok (.ireturn, 1) := by decide +kernel
theorem dX1_rainsBorne_0 : decode cX1_rainsBorne 0 = .ok (.iconst 0, 1) := by decide +kernel
theorem dX1_rainsBorne_1 : decode cX1_rainsBorne 1 = .ok (.istore_n 2, 1) := by decide +kernel
theorem dX1_rainsBorne_2 : decode cX1_rainsBorne 2 = .ok (.iconst 0, 1) := by decide +kernel
theorem dX1_rainsBorne_3 : decode cX1_rainsBorne 3 = .ok (.istore_n 3, 1) := by decide +kernel
theorem dX1_rainsBorne_4 : decode cX1_rainsBorne 4 = .ok (.iload_n 3, 1) := by decide +kernel
theorem dX1_rainsBorne_5 : decode cX1_rainsBorne 5 = .ok (.bipush 9, 2) := by decide +kernel
theorem dX1_rainsBorne_7 : decode cX1_rainsBorne 7 = .ok (.if_icmp .gt 21, 3) := by decide +kernel
theorem dX1_rainsBorne_10 : decode cX1_rainsBorne 10 = .ok (.aload_n 0, 1) := by decide +kernel
theorem dX1_rainsBorne_11 : decode cX1_rainsBorne 11 = .ok (.iload_n 1, 1) := by decide +kernel
theorem dX1_rainsBorne_12 : decode cX1_rainsBorne 12 = .ok (.iload_n 3, 1) := by decide +kernel
theorem dX1_rainsBorne_13 : decode cX1_rainsBorne 13 = .ok (.invokevirtual 73, 3) := by decide +kernel
theorem dX1_rainsBorne_16 : decode cX1_rainsBorne 16 = .ok (.ifCond .ne 6, 3) := by decide +kernel
theorem dX1_rainsBorne_19 : decode cX1_rainsBorne 19 = .ok (.iinc 2 1, 3) := by decide +kernel
theorem dX1_rainsBorne_22 : decode cX1_rainsBorne 22 = .ok (.iinc 3 1, 3) := by decide +kernel
theorem dX1_rainsBorne_25 : decode cX1_rainsBorne 25 = .ok (.goto (-21), 3) := by decide +kernel
theorem dX1_rainsBorne_28 : decode cX1_rainsBorne 28 = .ok (.iload_n 2, 1) := by decide +kernel
theorem dX1_rainsBorne_29 : decode cX1_rainsBorne 29 = .ok (.ireturn, 1) := by decide +kernel
theorem dX1_cheerUp_0 : decode cX1_cheerUp 0 = .ok (.aload_n 0, 1) := by decide +kernel
theorem dX1_cheerUp_1 : decode cX1_cheerUp 1 = .ok (.getfield 23, 3) := by decide +kernel
theorem dX1_cheerUp_4 : decode cX1_cheerUp 4 = .ok (.iload_n 1, 1) := by decide +kernel
theorem dX1_cheerUp_5 : decode cX1_cheerUp 5 = .ok (.aload_n 0, 1) := by decide +kernel
theorem dX1_cheerUp_6 : decode cX1_cheerUp 6 = .ok (.getfield 23, 3) := by decide +kernel
theorem dX1_cheerUp_9 : decode cX1_cheerUp 9 = .ok (.iload_n 1, 1) := by decide +kernel
theorem dX1_cheerUp_10 : decode cX1_cheerUp 10 = .ok (.invokevirtual 56, 3) := by decide +kernel
theorem dX1_cheerUp_13 : decode cX1_cheerUp 13 = .ok (.iconst 2, 1) := by decide +kernel
theorem dX1_cheerUp_14 : decode cX1_cheerUp 14 = .ok (.isub, 1) := by decide +kernel
theorem dX1_cheerUp_15 : decode cX1_cheerUp 15 = .ok (.iconst 0, 1) := by decide +kernel
theorem dX1_cheerUp_16 : decode cX1_cheerUp 16 = .ok (.invokestatic 45, 3) := by decide +kernel
theorem dX1_cheerUp_19 : decode cX1_cheerUp 19 = .ok (.invokevirtual 48, 3) := by decide +kernel
theorem dX1_cheerUp_22 : decode cX1_cheerUp 22 = .ok (.return_, 1) := by decide +kernel
theorem dX1_canBeCombed_0 : decode cX1_canBeCombed 0 = .ok (.aload_n 0, 1) := by decide +kernel
theorem dX1_canBeCombed_1 : decode cX1_canBeCombed 1 = .ok (.getfield 26, 3) := by decide +kernel
theorem dX1_canBeCombed_4 : decode cX1_canBeCombed 4 = .ok (.iload_n 1, 1) := by decide +kernel
theorem dX1_canBeCombed_5 : decode cX1_canBeCombed 5 = .ok (.invokevirtual 56, 3) := by decide +kernel
theorem dX1_canBeCombed_8 : decode cX1_canBeCombed 8 = .ok (.ifCond .ne 19, 3) := by decide +kernel
theorem dX1_canBeCombed_11 : decode cX1_canBeCombed 11 = .ok (.aload_n 0, 1) := by decide +kernel
theorem dX1_canBeCombed_12 : decode cX1_canBeCombed 12 = .ok (.getfield 20, 3) := by decide +kernel
theorem dX1_canBeCombed_15 : decode cX1_canBeCombed 15 = .ok (.iload_n 1, 1) := by decide +kernel
theorem dX1_canBeCombed_16 : decode cX1_canBeCombed 16 = .ok (.invokevirtual 56, 3) := by decide +kernel
theorem dX1_canBeCombed_19 : decode cX1_canBeCombed 19 = .ok (.iconst 2, 1) := by decide +kernel
theorem dX1_canBeCombed_20 : decode cX1_canBeCombed 20 = .ok (.if_icmp .lt 7, 3) := by decide +kernel
theorem dX1_canBeCombed_23 : decode cX1_canBeCombed 23 = .ok (.iconst 1, 1) := by decide +kernel
theorem dX1_canBeCombed_24 : decode cX1_canBeCombed 24 = .ok (.goto 4, 3) := by decide +kernel
theorem dX1_canBeCombed_27 : decode cX1_canBeCombed 27 = .ok (.iconst 0, 1) := by decide +kernel
theorem dX1_canBeCombed_28 : decode cX1_canBeCombed 28 = .ok (.ireturn, 1) := by decide +kernel
theorem dX1_combOut_0 : decode cX1_combOut 0 = .ok (.aload_n 0, 1) := by decide +kernel
theorem dX1_combOut_1 : decode cX1_combOut 1 = .ok (.getfield 20, 3) := by decide +kernel
theorem dX1_combOut_4 : decode cX1_combOut 4 = .ok (.iload_n 1, 1) := by decide +kernel
theorem dX1_combOut_5 : decode cX1_combOut 5 = .ok (.aload_n 0, 1) := by decide +kernel
theorem dX1_combOut_6 : decode cX1_combOut 6 = .ok (.getfield 20, 3) := by decide +kernel
theorem dX1_combOut_9 : decode cX1_combOut 9 = .ok (.iload_n 1, 1) := by decide +kernel
theorem dX1_combOut_10 : decode cX1_combOut 10 = .ok (.invokevirtual 56, 3) := by decide +kernel
theorem dX1_combOut_13 : decode cX1_combOut 13 = .ok (.iconst 2, 1) := by decide +kernel
theorem dX1_combOut_14 : decode cX1_combOut 14 = .ok (.isub, 1) := by decide +kernel
theorem dX1_combOut_15 : decode cX1_combOut 15 = .ok (.invokevirtual 48, 3) := by decide +kernel
theorem dX1_combOut_18 : decode cX1_combOut 18 = .ok (.aload_n 0, 1) := by decide +kernel
theorem dX1_combOut_19 : decode cX1_combOut 19 = .ok (.getfield 26, 3) := by decide +kernel
theorem dX1_combOut_22 : decode cX1_combOut 22 = .ok (.iload_n 1, 1) := by decide +kernel
theorem dX1_combOut_23 : decode cX1_combOut 23 = .ok (.iconst 1, 1) := by decide +kernel
theorem dX1_combOut_24 : decode cX1_combOut 24 = .ok (.invokevirtual 48, 3) := by decide +kernel
theorem dX1_combOut_27 : decode cX1_combOut 27 = .ok (.return_, 1) := by decide +kernel
theorem dX1_reedOfAll_0 : decode cX1_reedOfAll 0 = .ok (.aload_n 0, 1) := by decide +kernel
theorem dX1_reedOfAll_1 : decode cX1_reedOfAll 1 = .ok (.getfield 20, 3) := by decide +kernel
theorem dX1_reedOfAll_4 : decode cX1_reedOfAll 4 = .ok (.aload_n 0, 1) := by decide +kernel
theorem dX1_reedOfAll_5 : decode cX1_reedOfAll 5 = .ok (.getfield 29, 3) := by decide +kernel
theorem dX1_reedOfAll_8 : decode cX1_reedOfAll 8 = .ok (.invokevirtual 77, 3) := by decide +kernel
theorem dX1_reedOfAll_11 : decode cX1_reedOfAll 11 = .ok (.ireturn, 1) := by decide +kernel
theorem dX1_worryOfAll_0 : decode cX1_worryOfAll 0 = .ok (.aload_n 0, 1) := by decide +kernel
theorem dX1_worryOfAll_1 : decode cX1_worryOfAll 1 = .ok (.getfield 23, 3) := by decide +kernel
theorem dX1_worryOfAll_4 : decode cX1_worryOfAll 4 = .ok (.aload_n 0, 1) := by decide +kernel
theorem dX1_worryOfAll_5 : decode cX1_worryOfAll 5 = .ok (.getfield 29, 3) := by decide +kernel
theorem dX1_worryOfAll_8 : decode cX1_worryOfAll 8 = .ok (.invokevirtual 77, 3) := by decide +kernel
theorem dX1_worryOfAll_11 : decode cX1_worryOfAll 11 = .ok (.ireturn, 1) := by decide +kernel
theorem dX1_howManyCombed_0 : decode cX1_howManyCombed 0 = .ok (.aload_n 0, 1) := by decide +kernel
theorem dX1_howManyCombed_1 : decode cX1_howManyCombed 1 = .ok (.getfield 26, 3) := by decide +kernel
theorem dX1_howManyCombed_4 : decode cX1_howManyCombed 4 = .ok (.aload_n 0, 1) := by decide +kernel
theorem dX1_howManyCombed_5 : decode cX1_howManyCombed 5 = .ok (.getfield 29, 3) := by decide +kernel
theorem dX1_howManyCombed_8 : decode cX1_howManyCombed 8 = .ok (.invokevirtual 77, 3) := by decide +kernel
theorem dX1_howManyCombed_11 : decode cX1_howManyCombed 11 = .ok (.ireturn, 1) := by decide +kernel
theorem dX1_howManyShelter_0 : decode cX1_howManyShelter 0 = .ok (.iconst 0, 1) := by decide +kernel
theorem dX1_howManyShelter_1 : decode cX1_howManyShelter 1 = .ok (.istore_n 1, 1) := by decide +kernel
theorem dX1_howManyShelter_2 : decode cX1_howManyShelter 2 = .ok (.iconst 0, 1) := by decide +kernel
theorem dX1_howManyShelter_3 : decode cX1_howManyShelter 3 = .ok (.istore_n 2, 1) := by decide +kernel
theorem dX1_howManyShelter_4 : decode cX1_howManyShelter 4 = .ok (.iload_n 2, 1) := by decide +kernel
theorem dX1_howManyShelter_5 : decode cX1_howManyShelter 5 = .ok (.aload_n 0, 1) := by decide +kernel
theorem dX1_howManyShelter_6 : decode cX1_howManyShelter 6 = .ok (.getfield 29, 3) := by decide +kernel
theorem dX1_howManyShelter_9 : decode cX1_howManyShelter 9 = .ok (.if_icmp .ge 25, 3) := by decide +kernel
theorem dX1_howManyShelter_12 : decode cX1_howManyShelter 12 = .ok (.aload_n 0, 1) := by decide +kernel
theorem dX1_howManyShelter_13 : decode cX1_howManyShelter 13 = .ok (.getfield 20, 3) := by decide +kernel
theorem dX1_howManyShelter_16 : decode cX1_howManyShelter 16 = .ok (.iload_n 2, 1) := by decide +kernel
theorem dX1_howManyShelter_17 : decode cX1_howManyShelter 17 = .ok (.invokevirtual 56, 3) := by decide +kernel
theorem dX1_howManyShelter_20 : decode cX1_howManyShelter 20 = .ok (.bipush 10, 2) := by decide +kernel
theorem dX1_howManyShelter_22 : decode cX1_howManyShelter 22 = .ok (.if_icmp .lt 6, 3) := by decide +kernel
theorem dX1_howManyShelter_25 : decode cX1_howManyShelter 25 = .ok (.iinc 1 1, 3) := by decide +kernel
theorem dX1_howManyShelter_28 : decode cX1_howManyShelter 28 = .ok (.iinc 2 1, 3) := by decide +kernel
theorem dX1_howManyShelter_31 : decode cX1_howManyShelter 31 = .ok (.goto (-27), 3) := by decide +kernel
theorem dX1_howManyShelter_34 : decode cX1_howManyShelter 34 = .ok (.iload_n 1, 1) := by decide +kernel
theorem dX1_howManyShelter_35 : decode cX1_howManyShelter 35 = .ok (.ireturn, 1) := by decide +kernel
theorem dX2_init_0 : decode cX2_init 0 = .ok (.aload_n 0, 1) := by decide +kernel
theorem dX2_init_1 : decode cX2_init 1 = .ok (.invokespecial 5, 3) := by decide +kernel
theorem dX2_init_4 : decode cX2_init 4 = .ok (.aload_n 0, 1) := by decide +kernel
theorem dX2_init_5 : decode cX2_init 5 = .ok (.new 11, 3) := by decide +kernel
theorem dX2_init_8 : decode cX2_init 8 = .ok (.dup, 1) := by decide +kernel
theorem dX2_init_9 : decode cX2_init 9 = .ok (.bipush 26, 2) := by decide +kernel
theorem dX2_init_11 : decode cX2_init 11 = .ok (.invokespecial 13, 3) := by decide +kernel
theorem dX2_init_14 : decode cX2_init 14 = .ok (.putfield 16, 3) := by decide +kernel
theorem dX2_init_17 : decode cX2_init 17 = .ok (.aload_n 0, 1) := by decide +kernel
theorem dX2_init_18 : decode cX2_init 18 = .ok (.iconst 0, 1) := by decide +kernel
theorem dX2_init_19 : decode cX2_init 19 = .ok (.putfield 20, 3) := by decide +kernel
theorem dX2_init_22 : decode cX2_init 22 = .ok (.return_, 1) := by decide +kernel
theorem dX2_add_0 : decode cX2_add 0 = .ok (.aload_n 0, 1) := by decide +kernel
theorem dX2_add_1 : decode cX2_add 1 = .ok (.getfield 16, 3) := by decide +kernel
theorem dX2_add_4 : decode cX2_add 4 = .ok (.aload_n 0, 1) := by decide +kernel
theorem dX2_add_5 : decode cX2_add 5 = .ok (.getfield 20, 3) := by decide +kernel
theorem dX2_add_8 : decode cX2_add 8 = .ok (.iload_n 1, 1) := by decide +kernel
theorem dX2_add_9 : decode cX2_add 9 = .ok (.invokevirtual 24, 3) := by decide +kernel
theorem dX2_add_12 : decode cX2_add 12 = .ok (.aload_n 0, 1) := by decide +kernel
theorem dX2_add_13 : decode cX2_add 13 = .ok (.dup, 1) := by decide +kernel
theorem dX2_add_14 : decode cX2_add 14 = .ok (.getfield 20, 3) := by decide +kernel
theorem dX2_add_17 : decode cX2_add 17 = .ok (.iconst 1, 1) := by decide +kernel
theorem dX2_add_18 : decode cX2_add 18 = .ok (.iadd, 1) := by decide +kernel
theorem dX2_add_19 : decode cX2_add 19 = .ok (.putfield 20, 3) := by decide +kernel
theorem dX2_add_22 : decode cX2_add 22 = .ok (.return_, 1) := by decide +kernel
theorem dX2_firstFault_0 : decode cX2_firstFault 0 = .ok (.iconst 0, 1) := by decide +kernel
theorem dX2_firstFault_1 : decode cX2_firstFault 1 = .ok (.istore_n 1, 1) := by decide +kernel
theorem dX2_firstFault_2 : decode cX2_firstFault 2 = .ok (.iload_n 1, 1) := by decide +kernel
theorem dX2_firstFault_3 : decode cX2_firstFault 3 = .ok (.aload_n 0, 1) := by decide +kernel
theorem dX2_firstFault_4 : decode cX2_firstFault 4 = .ok (.getfield 20, 3) := by decide +kernel
theorem dX2_firstFault_7 : decode cX2_firstFault 7 = .ok (.if_icmp .ge 26, 3) := by decide +kernel
theorem dX2_firstFault_10 : decode cX2_firstFault 10 = .ok (.iload_n 1, 1) := by decide +kernel
theorem dX2_firstFault_11 : decode cX2_firstFault 11 = .ok (.aload_n 0, 1) := by decide +kernel
theorem dX2_firstFault_12 : decode cX2_firstFault 12 = .ok (.getfield 16, 3) := by decide +kernel
theorem dX2_firstFault_15 : decode cX2_firstFault 15 = .ok (.iload_n 1, 1) := by decide +kernel
theorem dX2_firstFault_16 : decode cX2_firstFault 16 = .ok (.invokevirtual 28, 3) := by decide +kernel
theorem dX2_firstFault_19 : decode cX2_firstFault 19 = .ok (.invokestatic 32, 3) := by decide +kernel
theorem dX2_firstFault_22 : decode cX2_firstFault 22 = .ok (.ifCond .ne 5, 3) := by decide +kernel
theorem dX2_firstFault_25 : decode cX2_firstFault 25 = .ok (.iload_n 1, 1) := by decide +kernel
theorem dX2_firstFault_26 : decode cX2_firstFault 26 = .ok (.ireturn, 1) := by decide +kernel
theorem dX2_firstFault_27 : decode cX2_firstFault 27 = .ok (.iinc 1 1, 3) := by decide +kernel
theorem dX2_firstFault_30 : decode cX2_firstFault 30 = .ok (.goto (-28), 3) := by decide +kernel
theorem dX2_firstFault_33 : decode cX2_firstFault 33 = .ok (.aload_n 0, 1) := by decide +kernel
theorem dX2_firstFault_34 : decode cX2_firstFault 34 = .ok (.getfield 20, 3) := by decide +kernel
theorem dX2_firstFault_37 : decode cX2_firstFault 37 = .ok (.ireturn, 1) := by decide +kernel
theorem dX2_isLane_0 : decode cX2_isLane 0 = .ok (.aload_n 0, 1) := by decide +kernel
theorem dX2_isLane_1 : decode cX2_isLane 1 = .ok (.getfield 20, 3) := by decide +kernel
theorem dX2_isLane_4 : decode cX2_isLane 4 = .ok (.iconst 4, 1) := by decide +kernel
theorem dX2_isLane_5 : decode cX2_isLane 5 = .ok (.irem, 1) := by decide +kernel
theorem dX2_isLane_6 : decode cX2_isLane 6 = .ok (.iconst 3, 1) := by decide +kernel
theorem dX2_isLane_7 : decode cX2_isLane 7 = .ok (.if_icmp .ne 18, 3) := by decide +kernel
theorem dX2_isLane_10 : decode cX2_isLane 10 = .ok (.aload_n 0, 1) := by decide +kernel
theorem dX2_isLane_11 : decode cX2_isLane 11 = .ok (.invokevirtual 36, 3) := by decide +kernel
theorem dX2_isLane_14 : decode cX2_isLane 14 = .ok (.aload_n 0, 1) := by decide +kernel
theorem dX2_isLane_15 : decode cX2_isLane 15 = .ok (.getfield 20, 3) := by decide +kernel
theorem dX2_isLane_18 : decode cX2_isLane 18 = .ok (.if_icmp .ne 7, 3) := by decide +kernel
theorem dX2_isLane_21 : decode cX2_isLane 21 = .ok (.iconst 1, 1) := by decide +kernel
theorem dX2_isLane_22 : decode cX2_isLane 22 = .ok (.goto 4, 3) := by decide +kernel
theorem dX2_isLane_25 : decode cX2_isLane 25 = .ok (.iconst 0, 1) := by decide +kernel
theorem dX2_isLane_26 : decode cX2_isLane 26 = .ok (.ireturn, 1) := by decide +kernel
theorem dX2_housesTold_0 : decode cX2_housesTold 0 = .ok (.aload_n 0, 1) := by decide +kernel
theorem dX2_housesTold_1 : decode cX2_housesTold 1 = .ok (.getfield 20, 3) := by decide +kernel
theorem dX2_housesTold_4 : decode cX2_housesTold 4 = .ok (.iconst 1, 1) := by decide +kernel
theorem dX2_housesTold_5 : decode cX2_housesTold 5 = .ok (.iadd, 1) := by decide +kernel
theorem dX2_housesTold_6 : decode cX2_housesTold 6 = .ok (.iconst 4, 1) := by decide +kernel
theorem dX2_housesTold_7 : decode cX2_housesTold 7 = .ok (.idiv, 1) := by decide +kernel
theorem dX2_housesTold_8 : decode cX2_housesTold 8 = .ok (.ireturn, 1) := by decide +kernel
theorem dX2_kindTold_0 : decode cX2_kindTold 0 = .ok (.aload_n 0, 1) := by decide +kernel
theorem dX2_kindTold_1 : decode cX2_kindTold 1 = .ok (.getfield 16, 3) := by decide +kernel
theorem dX2_kindTold_4 : decode cX2_kindTold 4 = .ok (.iconst 4, 1) := by decide +kernel
theorem dX2_kindTold_5 : decode cX2_kindTold 5 = .ok (.iload_n 1, 1) := by decide +kernel
theorem dX2_kindTold_6 : decode cX2_kindTold 6 = .ok (.imul, 1) := by decide +kernel
theorem dX2_kindTold_7 : decode cX2_kindTold 7 = .ok (.invokevirtual 28, 3) := by decide +kernel
theorem dX2_kindTold_10 : decode cX2_kindTold 10 = .ok (.invokestatic 40, 3) := by decide +kernel
theorem dX2_kindTold_13 : decode cX2_kindTold 13 = .ok (.ireturn, 1) := by decide +kernel
theorem dX2_reedTold_0 : decode cX2_reedTold 0 = .ok (.aload_n 0, 1) := by decide +kernel
theorem dX2_reedTold_1 : decode cX2_reedTold 1 = .ok (.getfield 16, 3) := by decide +kernel
theorem dX2_reedTold_4 : decode cX2_reedTold 4 = .ok (.iconst 4, 1) := by decide +kernel
theorem dX2_reedTold_5 : decode cX2_reedTold 5 = .ok (.iload_n 1, 1) := by decide +kernel
theorem dX2_reedTold_6 : decode cX2_reedTold 6 = .ok (.imul, 1) := by decide +kernel
theorem dX2_reedTold_7 : decode cX2_reedTold 7 = .ok (.iconst 1, 1) := by decide +kernel
theorem dX2_reedTold_8 : decode cX2_reedTold 8 = .ok (.iadd, 1) := by decide +kernel
theorem dX2_reedTold_9 : decode cX2_reedTold 9 = .ok (.invokevirtual 28, 3) := by decide +kernel
theorem dX2_reedTold_12 : decode cX2_reedTold 12 = .ok (.bipush 48, 2) := by decide +kernel
theorem dX2_reedTold_14 : decode cX2_reedTold 14 = .ok (.isub, 1) := by decide +kernel
theorem dX2_reedTold_15 : decode cX2_reedTold 15 = .ok (.ireturn, 1) := by decide +kernel
theorem dX2_worryTold_0 : decode cX2_worryTold 0 = .ok (.aload_n 0, 1) := by decide +kernel
theorem dX2_worryTold_1 : decode cX2_worryTold 1 = .ok (.getfield 16, 3) := by decide +kernel
theorem dX2_worryTold_4 : decode cX2_worryTold 4 = .ok (.iconst 4, 1) := by decide +kernel
theorem dX2_worryTold_5 : decode cX2_worryTold 5 = .ok (.iload_n 1, 1) := by decide +kernel
theorem dX2_worryTold_6 : decode cX2_worryTold 6 = .ok (.imul, 1) := by decide +kernel
theorem dX2_worryTold_7 : decode cX2_worryTold 7 = .ok (.iconst 2, 1) := by decide +kernel
theorem dX2_worryTold_8 : decode cX2_worryTold 8 = .ok (.iadd, 1) := by decide +kernel
theorem dX2_worryTold_9 : decode cX2_worryTold 9 = .ok (.invokevirtual 28, 3) := by decide +kernel
theorem dX2_worryTold_12 : decode cX2_worryTold 12 = .ok (.bipush 48, 2) := by decide +kernel
theorem dX2_worryTold_14 : decode cX2_worryTold 14 = .ok (.isub, 1) := by decide +kernel
theorem dX2_worryTold_15 : decode cX2_worryTold 15 = .ok (.ireturn, 1) := by decide +kernel
theorem dX2_mayStand_0 : decode cX2_mayStand 0 = .ok (.iload_n 0, 1) := by decide +kernel
theorem dX2_mayStand_1 : decode cX2_mayStand 1 = .ok (.bipush 23, 2) := by decide +kernel
theorem dX2_mayStand_3 : decode cX2_mayStand 3 = .ok (.if_icmp .lt 5, 3) := by decide +kernel
theorem dX2_mayStand_6 : decode cX2_mayStand 6 = .ok (.iconst 0, 1) := by decide +kernel
theorem dX2_mayStand_7 : decode cX2_mayStand 7 = .ok (.ireturn, 1) := by decide +kernel
theorem dX2_mayStand_8 : decode cX2_mayStand 8 = .ok (.iload_n 0, 1) := by decide +kernel
theorem dX2_mayStand_9 : decode cX2_mayStand 9 = .ok (.iconst 4, 1) := by decide +kernel
theorem dX2_mayStand_10 : decode cX2_mayStand 10 = .ok (.irem, 1) := by decide +kernel
theorem dX2_mayStand_11 : decode cX2_mayStand 11 = .ok (.lookupswitch 51 #[(0, 25), (3, 39)], 25) := by decide +kernel
theorem dX2_mayStand_36 : decode cX2_mayStand 36 = .ok (.iload_n 1, 1) := by decide +kernel
theorem dX2_mayStand_37 : decode cX2_mayStand 37 = .ok (.invokestatic 40, 3) := by decide +kernel
theorem dX2_mayStand_40 : decode cX2_mayStand 40 = .ok (.iconst (-1), 1) := by decide +kernel
theorem dX2_mayStand_41 : decode cX2_mayStand 41 = .ok (.if_icmp .eq 7, 3) := by decide +kernel
theorem dX2_mayStand_44 : decode cX2_mayStand 44 = .ok (.iconst 1, 1) := by decide +kernel
theorem dX2_mayStand_45 : decode cX2_mayStand 45 = .ok (.goto 4, 3) := by decide +kernel
theorem dX2_mayStand_48 : decode cX2_mayStand 48 = .ok (.iconst 0, 1) := by decide +kernel
theorem dX2_mayStand_49 : decode cX2_mayStand 49 = .ok (.ireturn, 1) := by decide +kernel
theorem dX2_mayStand_50 : decode cX2_mayStand 50 = .ok (.iload_n 1, 1) := by decide +kernel
theorem dX2_mayStand_51 : decode cX2_mayStand 51 = .ok (.bipush 44, 2) := by decide +kernel
theorem dX2_mayStand_53 : decode cX2_mayStand 53 = .ok (.if_icmp .ne 7, 3) := by decide +kernel
theorem dX2_mayStand_56 : decode cX2_mayStand 56 = .ok (.iconst 1, 1) := by decide +kernel
theorem dX2_mayStand_57 : decode cX2_mayStand 57 = .ok (.goto 4, 3) := by decide +kernel
theorem dX2_mayStand_60 : decode cX2_mayStand 60 = .ok (.iconst 0, 1) := by decide +kernel
theorem dX2_mayStand_61 : decode cX2_mayStand 61 = .ok (.ireturn, 1) := by decide +kernel
theorem dX2_mayStand_62 : decode cX2_mayStand 62 = .ok (.iload_n 1, 1) := by decide +kernel
theorem dX2_mayStand_63 : decode cX2_mayStand 63 = .ok (.bipush 48, 2) := by decide +kernel
theorem dX2_mayStand_65 : decode cX2_mayStand 65 = .ok (.if_icmp .lt 13, 3) := by decide +kernel
theorem dX2_mayStand_68 : decode cX2_mayStand 68 = .ok (.iload_n 1, 1) := by decide +kernel
theorem dX2_mayStand_69 : decode cX2_mayStand 69 = .ok (.bipush 57, 2) := by decide +kernel
theorem dX2_mayStand_71 : decode cX2_mayStand 71 = .ok (.if_icmp .gt 7, 3) := by decide +kernel
theorem dX2_mayStand_74 : decode cX2_mayStand 74 = .ok (.iconst 1, 1) := by decide +kernel
theorem dX2_mayStand_75 : decode cX2_mayStand 75 = .ok (.goto 4, 3) := by decide +kernel
theorem dX2_mayStand_78 : decode cX2_mayStand 78 = .ok (.iconst 0, 1) := by decide +kernel
theorem dX2_mayStand_79 : decode cX2_mayStand 79 = .ok (.ireturn, 1) := by decide +kernel
theorem dX2_kindOf_0 : decode cX2_kindOf 0 = .ok (.iconst 0, 1) := by decide +kernel
theorem dX2_kindOf_1 : decode cX2_kindOf 1 = .ok (.istore_n 1, 1) := by decide +kernel
theorem dX2_kindOf_2 : decode cX2_kindOf 2 = .ok (.iload_n 1, 1) := by decide +kernel
theorem dX2_kindOf_3 : decode cX2_kindOf 3 = .ok (.ldc 43, 2) := by decide +kernel
theorem dX2_kindOf_5 : decode cX2_kindOf 5 = .ok (.invokevirtual 45, 3) := by decide +kernel
theorem dX2_kindOf_8 : decode cX2_kindOf 8 = .ok (.if_icmp .ge 21, 3) := by decide +kernel
theorem dX2_kindOf_11 : decode cX2_kindOf 11 = .ok (.ldc 43, 2) := by decide +kernel
theorem dX2_kindOf_13 : decode cX2_kindOf 13 = .ok (.iload_n 1, 1) := by decide +kernel
theorem dX2_kindOf_14 : decode cX2_kindOf 14 = .ok (.invokevirtual 50, 3) := by decide +kernel
theorem dX2_kindOf_17 : decode cX2_kindOf 17 = .ok (.iload_n 0, 1) := by decide +kernel
theorem dX2_kindOf_18 : decode cX2_kindOf 18 = .ok (.if_icmp .ne 5, 3) := by decide +kernel
theorem dX2_kindOf_21 : decode cX2_kindOf 21 = .ok (.iload_n 1, 1) := by decide +kernel
theorem dX2_kindOf_22 : decode cX2_kindOf 22 = .ok (.ireturn, 1) := by decide +kernel
theorem dX2_kindOf_23 : decode cX2_kindOf 23 = .ok (.iinc 1 1, 3) := by decide +kernel
theorem dX2_kindOf_26 : decode cX2_kindOf 26 = .ok (.goto (-24), 3) := by decide +kernel
theorem dX2_kindOf_29 : decode cX2_kindOf 29 = .ok (.iconst (-1), 1) := by decide +kernel
theorem dX2_kindOf_30 : decode cX2_kindOf 30 = .ok (.ireturn, 1) := by decide +kernel
theorem dX3_init_0 : decode cX3_init 0 = .ok (.aload_n 0, 1) := by decide +kernel
theorem dX3_init_1 : decode cX3_init 1 = .ok (.invokespecial 3, 3) := by decide +kernel
theorem dX3_init_4 : decode cX3_init 4 = .ok (.aload_n 0, 1) := by decide +kernel
theorem dX3_init_5 : decode cX3_init 5 = .ok (.new 9, 3) := by decide +kernel
theorem dX3_init_8 : decode cX3_init 8 = .ok (.dup, 1) := by decide +kernel
theorem dX3_init_9 : decode cX3_init 9 = .ok (.bipush 6, 2) := by decide +kernel
theorem dX3_init_11 : decode cX3_init 11 = .ok (.invokespecial 11, 3) := by decide +kernel
theorem dX3_init_14 : decode cX3_init 14 = .ok (.putfield 14, 3) := by decide +kernel
theorem dX3_init_17 : decode cX3_init 17 = .ok (.aload_n 0, 1) := by decide +kernel
theorem dX3_init_18 : decode cX3_init 18 = .ok (.new 9, 3) := by decide +kernel
theorem dX3_init_21 : decode cX3_init 21 = .ok (.dup, 1) := by decide +kernel
theorem dX3_init_22 : decode cX3_init 22 = .ok (.bipush 6, 2) := by decide +kernel
theorem dX3_init_24 : decode cX3_init 24 = .ok (.invokespecial 11, 3) := by decide +kernel
theorem dX3_init_27 : decode cX3_init 27 = .ok (.putfield 20, 3) := by decide +kernel
theorem dX3_init_30 : decode cX3_init 30 = .ok (.return_, 1) := by decide +kernel
theorem dX3_search_0 : decode cX3_search 0 = .ok (.aload_n 0, 1) := by decide +kernel
theorem dX3_search_1 : decode cX3_search 1 = .ok (.bipush 121, 2) := by decide +kernel
theorem dX3_search_3 : decode cX3_search 3 = .ok (.putfield 23, 3) := by decide +kernel
theorem dX3_search_6 : decode cX3_search 6 = .ok (.aload_n 0, 1) := by decide +kernel
theorem dX3_search_7 : decode cX3_search 7 = .ok (.getfield 14, 3) := by decide +kernel
theorem dX3_search_10 : decode cX3_search 10 = .ok (.iconst (-1), 1) := by decide +kernel
theorem dX3_search_11 : decode cX3_search 11 = .ok (.invokevirtual 27, 3) := by decide +kernel
theorem dX3_search_14 : decode cX3_search 14 = .ok (.iconst 0, 1) := by decide +kernel
theorem dX3_search_15 : decode cX3_search 15 = .ok (.istore_n 2, 1) := by decide +kernel
theorem dX3_search_16 : decode cX3_search 16 = .ok (.iload_n 2, 1) := by decide +kernel
theorem dX3_search_17 : decode cX3_search 17 = .ok (.aload_n 1, 1) := by decide +kernel
theorem dX3_search_18 : decode cX3_search 18 = .ok (.getfield 30, 3) := by decide +kernel
theorem dX3_search_21 : decode cX3_search 21 = .ok (.if_icmp .ge 19, 3) := by decide +kernel
theorem dX3_search_24 : decode cX3_search 24 = .ok (.aload_n 0, 1) := by decide +kernel
theorem dX3_search_25 : decode cX3_search 25 = .ok (.getfield 14, 3) := by decide +kernel
theorem dX3_search_28 : decode cX3_search 28 = .ok (.iload_n 2, 1) := by decide +kernel
theorem dX3_search_29 : decode cX3_search 29 = .ok (.bipush (-2), 2) := by decide +kernel
theorem dX3_search_31 : decode cX3_search 31 = .ok (.invokevirtual 35, 3) := by decide +kernel
theorem dX3_search_34 : decode cX3_search 34 = .ok (.iinc 2 1, 3) := by decide +kernel
theorem dX3_search_37 : decode cX3_search 37 = .ok (.goto (-21), 3) := by decide +kernel
theorem dX3_search_40 : decode cX3_search 40 = .ok (.aload_n 0, 1) := by decide +kernel
theorem dX3_search_41 : decode cX3_search 41 = .ok (.aload_n 1, 1) := by decide +kernel
theorem dX3_search_42 : decode cX3_search 42 = .ok (.iconst 0, 1) := by decide +kernel
theorem dX3_search_43 : decode cX3_search 43 = .ok (.iconst 0, 1) := by decide +kernel
theorem dX3_search_44 : decode cX3_search 44 = .ok (.aload_n 1, 1) := by decide +kernel
theorem dX3_search_45 : decode cX3_search 45 = .ok (.getfield 30, 3) := by decide +kernel
theorem dX3_search_48 : decode cX3_search 48 = .ok (.iconst 2, 1) := by decide +kernel
theorem dX3_search_49 : decode cX3_search 49 = .ok (.irem, 1) := by decide +kernel
theorem dX3_search_50 : decode cX3_search 50 = .ok (.iconst 1, 1) := by decide +kernel
theorem dX3_search_51 : decode cX3_search 51 = .ok (.if_icmp .ne 7, 3) := by decide +kernel
theorem dX3_search_54 : decode cX3_search 54 = .ok (.iconst 1, 1) := by decide +kernel
theorem dX3_search_55 : decode cX3_search 55 = .ok (.goto 4, 3) := by decide +kernel
theorem dX3_search_58 : decode cX3_search 58 = .ok (.iconst 0, 1) := by decide +kernel
theorem dX3_search_59 : decode cX3_search 59 = .ok (.invokevirtual 39, 3) := by decide +kernel
theorem dX3_search_62 : decode cX3_search 62 = .ok (.return_, 1) := by decide +kernel
theorem dX3_pairFrom_0 : decode cX3_pairFrom 0 = .ok (.aload_n 0, 1) := by decide +kernel
theorem dX3_pairFrom_1 : decode cX3_pairFrom 1 = .ok (.aload_n 1, 1) := by decide +kernel
theorem dX3_pairFrom_2 : decode cX3_pairFrom 2 = .ok (.iload_n 2, 1) := by decide +kernel
theorem dX3_pairFrom_3 : decode cX3_pairFrom 3 = .ok (.invokevirtual 43, 3) := by decide +kernel
theorem dX3_pairFrom_6 : decode cX3_pairFrom 6 = .ok (.istore 5, 2) := by decide +kernel
theorem dX3_pairFrom_8 : decode cX3_pairFrom 8 = .ok (.iload 5, 2) := by decide +kernel
theorem dX3_pairFrom_10 : decode cX3_pairFrom 10 = .ok (.aload_n 1, 1) := by decide +kernel
theorem dX3_pairFrom_11 : decode cX3_pairFrom 11 = .ok (.getfield 30, 3) := by decide +kernel
theorem dX3_pairFrom_14 : decode cX3_pairFrom 14 = .ok (.if_icmp .lt 9, 3) := by decide +kernel
theorem dX3_pairFrom_17 : decode cX3_pairFrom 17 = .ok (.aload_n 0, 1) := by decide +kernel
theorem dX3_pairFrom_18 : decode cX3_pairFrom 18 = .ok (.iload_n 3, 1) := by decide +kernel
theorem dX3_pairFrom_19 : decode cX3_pairFrom 19 = .ok (.invokevirtual 47, 3) := by decide +kernel
theorem dX3_pairFrom_22 : decode cX3_pairFrom 22 = .ok (.return_, 1) := by decide +kernel
theorem dX3_pairFrom_23 : decode cX3_pairFrom 23 = .ok (.iload 4, 2) := by decide +kernel
theorem dX3_pairFrom_25 : decode cX3_pairFrom 25 = .ok (.ifCond .eq 11, 3) := by decide +kernel
theorem dX3_pairFrom_28 : decode cX3_pairFrom 28 = .ok (.aload_n 0, 1) := by decide +kernel
theorem dX3_pairFrom_29 : decode cX3_pairFrom 29 = .ok (.aload_n 1, 1) := by decide +kernel
theorem dX3_pairFrom_30 : decode cX3_pairFrom 30 = .ok (.iload 5, 2) := by decide +kernel
theorem dX3_pairFrom_32 : decode cX3_pairFrom 32 = .ok (.iload_n 3, 1) := by decide +kernel
theorem dX3_pairFrom_33 : decode cX3_pairFrom 33 = .ok (.invokevirtual 50, 3) := by decide +kernel
theorem dX3_pairFrom_36 : decode cX3_pairFrom 36 = .ok (.iload 5, 2) := by decide +kernel
theorem dX3_pairFrom_38 : decode cX3_pairFrom 38 = .ok (.iconst 1, 1) := by decide +kernel
theorem dX3_pairFrom_39 : decode cX3_pairFrom 39 = .ok (.iadd, 1) := by decide +kernel
theorem dX3_pairFrom_40 : decode cX3_pairFrom 40 = .ok (.istore 6, 2) := by decide +kernel
theorem dX3_pairFrom_42 : decode cX3_pairFrom 42 = .ok (.iload 6, 2) := by decide +kernel
theorem dX3_pairFrom_44 : decode cX3_pairFrom 44 = .ok (.aload_n 1, 1) := by decide +kernel
theorem dX3_pairFrom_45 : decode cX3_pairFrom 45 = .ok (.getfield 30, 3) := by decide +kernel
theorem dX3_pairFrom_48 : decode cX3_pairFrom 48 = .ok (.if_icmp .ge 35, 3) := by decide +kernel
theorem dX3_pairFrom_51 : decode cX3_pairFrom 51 = .ok (.aload_n 0, 1) := by decide +kernel
theorem dX3_pairFrom_52 : decode cX3_pairFrom 52 = .ok (.getfield 14, 3) := by decide +kernel
theorem dX3_pairFrom_55 : decode cX3_pairFrom 55 = .ok (.iload 6, 2) := by decide +kernel
theorem dX3_pairFrom_57 : decode cX3_pairFrom 57 = .ok (.invokevirtual 54, 3) := by decide +kernel
theorem dX3_pairFrom_60 : decode cX3_pairFrom 60 = .ok (.bipush (-2), 2) := by decide +kernel
theorem dX3_pairFrom_62 : decode cX3_pairFrom 62 = .ok (.if_icmp .ne 15, 3) := by decide +kernel
theorem dX3_pairFrom_65 : decode cX3_pairFrom 65 = .ok (.aload_n 0, 1) := by decide +kernel
theorem dX3_pairFrom_66 : decode cX3_pairFrom 66 = .ok (.aload_n 1, 1) := by decide +kernel
theorem dX3_pairFrom_67 : decode cX3_pairFrom 67 = .ok (.iload 5, 2) := by decide +kernel
theorem dX3_pairFrom_69 : decode cX3_pairFrom 69 = .ok (.iload 6, 2) := by decide +kernel
theorem dX3_pairFrom_71 : decode cX3_pairFrom 71 = .ok (.iload_n 3, 1) := by decide +kernel
theorem dX3_pairFrom_72 : decode cX3_pairFrom 72 = .ok (.iload 4, 2) := by decide +kernel
theorem dX3_pairFrom_74 : decode cX3_pairFrom 74 = .ok (.invokevirtual 58, 3) := by decide +kernel
theorem dX3_pairFrom_77 : decode cX3_pairFrom 77 = .ok (.iinc 6 1, 3) := by decide +kernel
theorem dX3_pairFrom_80 : decode cX3_pairFrom 80 = .ok (.goto (-38), 3) := by decide +kernel
theorem dX3_pairFrom_83 : decode cX3_pairFrom 83 = .ok (.return_, 1) := by decide +kernel
theorem dX3_leave_0 : decode cX3_leave 0 = .ok (.aload_n 0, 1) := by decide +kernel
theorem dX3_leave_1 : decode cX3_leave 1 = .ok (.getfield 14, 3) := by decide +kernel
theorem dX3_leave_4 : decode cX3_leave 4 = .ok (.iload_n 2, 1) := by decide +kernel
theorem dX3_leave_5 : decode cX3_leave 5 = .ok (.iconst (-1), 1) := by decide +kernel
theorem dX3_leave_6 : decode cX3_leave 6 = .ok (.invokevirtual 35, 3) := by decide +kernel
theorem dX3_leave_9 : decode cX3_leave 9 = .ok (.aload_n 0, 1) := by decide +kernel
theorem dX3_leave_10 : decode cX3_leave 10 = .ok (.aload_n 1, 1) := by decide +kernel
theorem dX3_leave_11 : decode cX3_leave 11 = .ok (.iload_n 2, 1) := by decide +kernel
theorem dX3_leave_12 : decode cX3_leave 12 = .ok (.iconst 1, 1) := by decide +kernel
theorem dX3_leave_13 : decode cX3_leave 13 = .ok (.iadd, 1) := by decide +kernel
theorem dX3_leave_14 : decode cX3_leave 14 = .ok (.iload_n 3, 1) := by decide +kernel
theorem dX3_leave_15 : decode cX3_leave 15 = .ok (.iconst 0, 1) := by decide +kernel
theorem dX3_leave_16 : decode cX3_leave 16 = .ok (.invokevirtual 39, 3) := by decide +kernel
theorem dX3_leave_19 : decode cX3_leave 19 = .ok (.aload_n 0, 1) := by decide +kernel
theorem dX3_leave_20 : decode cX3_leave 20 = .ok (.getfield 14, 3) := by decide +kernel
theorem dX3_leave_23 : decode cX3_leave 23 = .ok (.iload_n 2, 1) := by decide +kernel
theorem dX3_leave_24 : decode cX3_leave 24 = .ok (.bipush (-2), 2) := by decide +kernel
theorem dX3_leave_26 : decode cX3_leave 26 = .ok (.invokevirtual 35, 3) := by decide +kernel
theorem dX3_leave_29 : decode cX3_leave 29 = .ok (.return_, 1) := by decide +kernel
theorem dX3_couple_0 : decode cX3_couple 0 = .ok (.aload_n 1, 1) := by decide +kernel
theorem dX3_couple_1 : decode cX3_couple 1 = .ok (.getfield 62, 3) := by decide +kernel
theorem dX3_couple_4 : decode cX3_couple 4 = .ok (.iload_n 2, 1) := by decide +kernel
theorem dX3_couple_5 : decode cX3_couple 5 = .ok (.invokevirtual 54, 3) := by decide +kernel
theorem dX3_couple_8 : decode cX3_couple 8 = .ok (.aload_n 1, 1) := by decide +kernel
theorem dX3_couple_9 : decode cX3_couple 9 = .ok (.getfield 62, 3) := by decide +kernel
theorem dX3_couple_12 : decode cX3_couple 12 = .ok (.iload_n 3, 1) := by decide +kernel
theorem dX3_couple_13 : decode cX3_couple 13 = .ok (.invokevirtual 54, 3) := by decide +kernel
theorem dX3_couple_16 : decode cX3_couple 16 = .ok (.isub, 1) := by decide +kernel
theorem dX3_couple_17 : decode cX3_couple 17 = .ok (.invokestatic 65, 3) := by decide +kernel
theorem dX3_couple_20 : decode cX3_couple 20 = .ok (.istore 6, 2) := by decide +kernel
theorem dX3_couple_22 : decode cX3_couple 22 = .ok (.aload_n 0, 1) := by decide +kernel
theorem dX3_couple_23 : decode cX3_couple 23 = .ok (.getfield 14, 3) := by decide +kernel
theorem dX3_couple_26 : decode cX3_couple 26 = .ok (.iload_n 2, 1) := by decide +kernel
theorem dX3_couple_27 : decode cX3_couple 27 = .ok (.iload_n 3, 1) := by decide +kernel
theorem dX3_couple_28 : decode cX3_couple 28 = .ok (.invokevirtual 35, 3) := by decide +kernel
theorem dX3_couple_31 : decode cX3_couple 31 = .ok (.aload_n 0, 1) := by decide +kernel
theorem dX3_couple_32 : decode cX3_couple 32 = .ok (.getfield 14, 3) := by decide +kernel
theorem dX3_couple_35 : decode cX3_couple 35 = .ok (.iload_n 3, 1) := by decide +kernel
theorem dX3_couple_36 : decode cX3_couple 36 = .ok (.iload_n 2, 1) := by decide +kernel
theorem dX3_couple_37 : decode cX3_couple 37 = .ok (.invokevirtual 35, 3) := by decide +kernel
theorem dX3_couple_40 : decode cX3_couple 40 = .ok (.aload_n 0, 1) := by decide +kernel
theorem dX3_couple_41 : decode cX3_couple 41 = .ok (.aload_n 1, 1) := by decide +kernel
theorem dX3_couple_42 : decode cX3_couple 42 = .ok (.iload_n 2, 1) := by decide +kernel
theorem dX3_couple_43 : decode cX3_couple 43 = .ok (.iconst 1, 1) := by decide +kernel
theorem dX3_couple_44 : decode cX3_couple 44 = .ok (.iadd, 1) := by decide +kernel
theorem dX3_couple_45 : decode cX3_couple 45 = .ok (.iload 4, 2) := by decide +kernel
theorem dX3_couple_47 : decode cX3_couple 47 = .ok (.iload 6, 2) := by decide +kernel
theorem dX3_couple_49 : decode cX3_couple 49 = .ok (.iadd, 1) := by decide +kernel
theorem dX3_couple_50 : decode cX3_couple 50 = .ok (.iload 5, 2) := by decide +kernel
theorem dX3_couple_52 : decode cX3_couple 52 = .ok (.invokevirtual 39, 3) := by decide +kernel
theorem dX3_couple_55 : decode cX3_couple 55 = .ok (.aload_n 0, 1) := by decide +kernel
theorem dX3_couple_56 : decode cX3_couple 56 = .ok (.getfield 14, 3) := by decide +kernel
theorem dX3_couple_59 : decode cX3_couple 59 = .ok (.iload_n 2, 1) := by decide +kernel
theorem dX3_couple_60 : decode cX3_couple 60 = .ok (.bipush (-2), 2) := by decide +kernel
theorem dX3_couple_62 : decode cX3_couple 62 = .ok (.invokevirtual 35, 3) := by decide +kernel
theorem dX3_couple_65 : decode cX3_couple 65 = .ok (.aload_n 0, 1) := by decide +kernel
theorem dX3_couple_66 : decode cX3_couple 66 = .ok (.getfield 14, 3) := by decide +kernel
theorem dX3_couple_69 : decode cX3_couple 69 = .ok (.iload_n 3, 1) := by decide +kernel
theorem dX3_couple_70 : decode cX3_couple 70 = .ok (.bipush (-2), 2) := by decide +kernel
theorem dX3_couple_72 : decode cX3_couple 72 = .ok (.invokevirtual 35, 3) := by decide +kernel
theorem dX3_couple_75 : decode cX3_couple 75 = .ok (.return_, 1) := by decide +kernel
theorem dX3_firstFree_0 : decode cX3_firstFree 0 = .ok (.iload_n 2, 1) := by decide +kernel
theorem dX3_firstFree_1 : decode cX3_firstFree 1 = .ok (.istore_n 3, 1) := by decide +kernel
theorem dX3_firstFree_2 : decode cX3_firstFree 2 = .ok (.iload_n 3, 1) := by decide +kernel
theorem dX3_firstFree_3 : decode cX3_firstFree 3 = .ok (.aload_n 1, 1) := by decide +kernel
theorem dX3_firstFree_4 : decode cX3_firstFree 4 = .ok (.getfield 30, 3) := by decide +kernel
theorem dX3_firstFree_7 : decode cX3_firstFree 7 = .ok (.if_icmp .ge 24, 3) := by decide +kernel
theorem dX3_firstFree_10 : decode cX3_firstFree 10 = .ok (.aload_n 0, 1) := by decide +kernel
theorem dX3_firstFree_11 : decode cX3_firstFree 11 = .ok (.getfield 14, 3) := by decide +kernel
theorem dX3_firstFree_14 : decode cX3_firstFree 14 = .ok (.iload_n 3, 1) := by decide +kernel
theorem dX3_firstFree_15 : decode cX3_firstFree 15 = .ok (.invokevirtual 54, 3) := by decide +kernel
theorem dX3_firstFree_18 : decode cX3_firstFree 18 = .ok (.bipush (-2), 2) := by decide +kernel
theorem dX3_firstFree_20 : decode cX3_firstFree 20 = .ok (.if_icmp .ne 5, 3) := by decide +kernel
theorem dX3_firstFree_23 : decode cX3_firstFree 23 = .ok (.iload_n 3, 1) := by decide +kernel
theorem dX3_firstFree_24 : decode cX3_firstFree 24 = .ok (.ireturn, 1) := by decide +kernel
theorem dX3_firstFree_25 : decode cX3_firstFree 25 = .ok (.iinc 3 1, 3) := by decide +kernel
theorem dX3_firstFree_28 : decode cX3_firstFree 28 = .ok (.goto (-26), 3) := by decide +kernel
theorem dX3_firstFree_31 : decode cX3_firstFree 31 = .ok (.aload_n 1, 1) := by decide +kernel
theorem dX3_firstFree_32 : decode cX3_firstFree 32 = .ok (.getfield 30, 3) := by decide +kernel
theorem dX3_firstFree_35 : decode cX3_firstFree 35 = .ok (.ireturn, 1) := by decide +kernel
theorem dX3_weigh_0 : decode cX3_weigh 0 = .ok (.iload_n 1, 1) := by decide +kernel
theorem dX3_weigh_1 : decode cX3_weigh 1 = .ok (.aload_n 0, 1) := by decide +kernel
theorem dX3_weigh_2 : decode cX3_weigh 2 = .ok (.getfield 23, 3) := by decide +kernel
theorem dX3_weigh_5 : decode cX3_weigh 5 = .ok (.if_icmp .ge 19, 3) := by decide +kernel
theorem dX3_weigh_8 : decode cX3_weigh 8 = .ok (.aload_n 0, 1) := by decide +kernel
theorem dX3_weigh_9 : decode cX3_weigh 9 = .ok (.iload_n 1, 1) := by decide +kernel
theorem dX3_weigh_10 : decode cX3_weigh 10 = .ok (.putfield 23, 3) := by decide +kernel
theorem dX3_weigh_13 : decode cX3_weigh 13 = .ok (.aload_n 0, 1) := by decide +kernel
theorem dX3_weigh_14 : decode cX3_weigh 14 = .ok (.getfield 20, 3) := by decide +kernel
theorem dX3_weigh_17 : decode cX3_weigh 17 = .ok (.aload_n 0, 1) := by decide +kernel
theorem dX3_weigh_18 : decode cX3_weigh 18 = .ok (.getfield 14, 3) := by decide +kernel
theorem dX3_weigh_21 : decode cX3_weigh 21 = .ok (.invokevirtual 70, 3) := by decide +kernel
theorem dX3_weigh_24 : decode cX3_weigh 24 = .ok (.return_, 1) := by decide +kernel
theorem dX4_init_0 : decode cX4_init 0 = .ok (.aload_n 0, 1) := by decide +kernel
theorem dX4_init_1 : decode cX4_init 1 = .ok (.invokespecial 3, 3) := by decide +kernel
theorem dX4_init_4 : decode cX4_init 4 = .ok (.aload_n 0, 1) := by decide +kernel
theorem dX4_init_5 : decode cX4_init 5 = .ok (.iconst 0, 1) := by decide +kernel
theorem dX4_init_6 : decode cX4_init 6 = .ok (.putfield 9, 3) := by decide +kernel
theorem dX4_init_9 : decode cX4_init 9 = .ok (.aload_n 0, 1) := by decide +kernel
theorem dX4_init_10 : decode cX4_init 10 = .ok (.iconst 0, 1) := by decide +kernel
theorem dX4_init_11 : decode cX4_init 11 = .ok (.putfield 15, 3) := by decide +kernel
theorem dX4_init_14 : decode cX4_init 14 = .ok (.return_, 1) := by decide +kernel
theorem dX4_search_0 : decode cX4_search 0 = .ok (.aload_n 0, 1) := by decide +kernel
theorem dX4_search_1 : decode cX4_search 1 = .ok (.iload_n 2, 1) := by decide +kernel
theorem dX4_search_2 : decode cX4_search 2 = .ok (.putfield 18, 3) := by decide +kernel
theorem dX4_search_5 : decode cX4_search 5 = .ok (.aload_n 0, 1) := by decide +kernel
theorem dX4_search_6 : decode cX4_search 6 = .ok (.iload_n 3, 1) := by decide +kernel
theorem dX4_search_7 : decode cX4_search 7 = .ok (.putfield 21, 3) := by decide +kernel
theorem dX4_search_10 : decode cX4_search 10 = .ok (.aload_n 0, 1) := by decide +kernel
theorem dX4_search_11 : decode cX4_search 11 = .ok (.bipush 7, 2) := by decide +kernel
theorem dX4_search_13 : decode cX4_search 13 = .ok (.putfield 9, 3) := by decide +kernel
theorem dX4_search_16 : decode cX4_search 16 = .ok (.aload_n 0, 1) := by decide +kernel
theorem dX4_search_17 : decode cX4_search 17 = .ok (.iconst 0, 1) := by decide +kernel
theorem dX4_search_18 : decode cX4_search 18 = .ok (.putfield 15, 3) := by decide +kernel
theorem dX4_search_21 : decode cX4_search 21 = .ok (.aload_n 0, 1) := by decide +kernel
theorem dX4_search_22 : decode cX4_search 22 = .ok (.aload_n 1, 1) := by decide +kernel
theorem dX4_search_23 : decode cX4_search 23 = .ok (.iconst 0, 1) := by decide +kernel
theorem dX4_search_24 : decode cX4_search 24 = .ok (.iconst 0, 1) := by decide +kernel
theorem dX4_search_25 : decode cX4_search 25 = .ok (.iconst 0, 1) := by decide +kernel
theorem dX4_search_26 : decode cX4_search 26 = .ok (.iconst 0, 1) := by decide +kernel
theorem dX4_search_27 : decode cX4_search 27 = .ok (.invokevirtual 24, 3) := by decide +kernel
theorem dX4_search_30 : decode cX4_search 30 = .ok (.return_, 1) := by decide +kernel
theorem dX4_putOnFrom_0 : decode cX4_putOnFrom 0 = .ok (.iload_n 2, 1) := by decide +kernel
theorem dX4_putOnFrom_1 : decode cX4_putOnFrom 1 = .ok (.aload_n 1, 1) := by decide +kernel
theorem dX4_putOnFrom_2 : decode cX4_putOnFrom 2 = .ok (.getfield 28, 3) := by decide +kernel
theorem dX4_putOnFrom_5 : decode cX4_putOnFrom 5 = .ok (.if_icmp .lt 12, 3) := by decide +kernel
theorem dX4_putOnFrom_8 : decode cX4_putOnFrom 8 = .ok (.aload_n 0, 1) := by decide +kernel
theorem dX4_putOnFrom_9 : decode cX4_putOnFrom 9 = .ok (.iload 5, 2) := by decide +kernel
theorem dX4_putOnFrom_11 : decode cX4_putOnFrom 11 = .ok (.iload 4, 2) := by decide +kernel
theorem dX4_putOnFrom_13 : decode cX4_putOnFrom 13 = .ok (.invokevirtual 33, 3) := by decide +kernel
theorem dX4_putOnFrom_16 : decode cX4_putOnFrom 16 = .ok (.return_, 1) := by decide +kernel
theorem dX4_putOnFrom_17 : decode cX4_putOnFrom 17 = .ok (.aload_n 1, 1) := by decide +kernel
theorem dX4_putOnFrom_18 : decode cX4_putOnFrom 18 = .ok (.getfield 37, 3) := by decide +kernel
theorem dX4_putOnFrom_21 : decode cX4_putOnFrom 21 = .ok (.iload_n 2, 1) := by decide +kernel
theorem dX4_putOnFrom_22 : decode cX4_putOnFrom 22 = .ok (.invokevirtual 41, 3) := by decide +kernel
theorem dX4_putOnFrom_25 : decode cX4_putOnFrom 25 = .ok (.istore 6, 2) := by decide +kernel
theorem dX4_putOnFrom_27 : decode cX4_putOnFrom 27 = .ok (.aload_n 0, 1) := by decide +kernel
theorem dX4_putOnFrom_28 : decode cX4_putOnFrom 28 = .ok (.getfield 18, 3) := by decide +kernel
theorem dX4_putOnFrom_31 : decode cX4_putOnFrom 31 = .ok (.iload_n 3, 1) := by decide +kernel
theorem dX4_putOnFrom_32 : decode cX4_putOnFrom 32 = .ok (.invokestatic 47, 3) := by decide +kernel
theorem dX4_putOnFrom_35 : decode cX4_putOnFrom 35 = .ok (.istore 7, 2) := by decide +kernel
theorem dX4_putOnFrom_37 : decode cX4_putOnFrom 37 = .ok (.aload_n 0, 1) := by decide +kernel
theorem dX4_putOnFrom_38 : decode cX4_putOnFrom 38 = .ok (.aload_n 1, 1) := by decide +kernel
theorem dX4_putOnFrom_39 : decode cX4_putOnFrom 39 = .ok (.iload_n 2, 1) := by decide +kernel
theorem dX4_putOnFrom_40 : decode cX4_putOnFrom 40 = .ok (.iload_n 3, 1) := by decide +kernel
theorem dX4_putOnFrom_41 : decode cX4_putOnFrom 41 = .ok (.iload 4, 2) := by decide +kernel
theorem dX4_putOnFrom_43 : decode cX4_putOnFrom 43 = .ok (.iload 5, 2) := by decide +kernel
theorem dX4_putOnFrom_45 : decode cX4_putOnFrom 45 = .ok (.iload 6, 2) := by decide +kernel
theorem dX4_putOnFrom_47 : decode cX4_putOnFrom 47 = .ok (.invokevirtual 51, 3) := by decide +kernel
theorem dX4_putOnFrom_50 : decode cX4_putOnFrom 50 = .ok (.iload 7, 2) := by decide +kernel
theorem dX4_putOnFrom_52 : decode cX4_putOnFrom 52 = .ok (.iload 6, 2) := by decide +kernel
theorem dX4_putOnFrom_54 : decode cX4_putOnFrom 54 = .ok (.if_icmp .le 16, 3) := by decide +kernel
theorem dX4_putOnFrom_57 : decode cX4_putOnFrom 57 = .ok (.aload_n 0, 1) := by decide +kernel
theorem dX4_putOnFrom_58 : decode cX4_putOnFrom 58 = .ok (.aload_n 1, 1) := by decide +kernel
theorem dX4_putOnFrom_59 : decode cX4_putOnFrom 59 = .ok (.iload_n 2, 1) := by decide +kernel
theorem dX4_putOnFrom_60 : decode cX4_putOnFrom 60 = .ok (.iload_n 3, 1) := by decide +kernel
theorem dX4_putOnFrom_61 : decode cX4_putOnFrom 61 = .ok (.iload 4, 2) := by decide +kernel
theorem dX4_putOnFrom_63 : decode cX4_putOnFrom 63 = .ok (.iload 5, 2) := by decide +kernel
theorem dX4_putOnFrom_65 : decode cX4_putOnFrom 65 = .ok (.iload 7, 2) := by decide +kernel
theorem dX4_putOnFrom_67 : decode cX4_putOnFrom 67 = .ok (.invokevirtual 51, 3) := by decide +kernel
theorem dX4_putOnFrom_70 : decode cX4_putOnFrom 70 = .ok (.bipush 10, 2) := by decide +kernel
theorem dX4_putOnFrom_72 : decode cX4_putOnFrom 72 = .ok (.iload 6, 2) := by decide +kernel
theorem dX4_putOnFrom_74 : decode cX4_putOnFrom 74 = .ok (.if_icmp .le 16, 3) := by decide +kernel
theorem dX4_putOnFrom_77 : decode cX4_putOnFrom 77 = .ok (.aload_n 0, 1) := by decide +kernel
theorem dX4_putOnFrom_78 : decode cX4_putOnFrom 78 = .ok (.aload_n 1, 1) := by decide +kernel
theorem dX4_putOnFrom_79 : decode cX4_putOnFrom 79 = .ok (.iload_n 2, 1) := by decide +kernel
theorem dX4_putOnFrom_80 : decode cX4_putOnFrom 80 = .ok (.iload_n 3, 1) := by decide +kernel
theorem dX4_putOnFrom_81 : decode cX4_putOnFrom 81 = .ok (.iload 4, 2) := by decide +kernel
theorem dX4_putOnFrom_83 : decode cX4_putOnFrom 83 = .ok (.iload 5, 2) := by decide +kernel
theorem dX4_putOnFrom_85 : decode cX4_putOnFrom 85 = .ok (.bipush 10, 2) := by decide +kernel
theorem dX4_putOnFrom_87 : decode cX4_putOnFrom 87 = .ok (.invokevirtual 51, 3) := by decide +kernel
theorem dX4_putOnFrom_90 : decode cX4_putOnFrom 90 = .ok (.return_, 1) := by decide +kernel
theorem dX4_raise_0 : decode cX4_raise 0 = .ok (.iload 4, 2) := by decide +kernel
theorem dX4_raise_2 : decode cX4_raise 2 = .ok (.iload 6, 2) := by decide +kernel
theorem dX4_raise_4 : decode cX4_raise 4 = .ok (.iadd, 1) := by decide +kernel
theorem dX4_raise_5 : decode cX4_raise 5 = .ok (.aload_n 1, 1) := by decide +kernel
theorem dX4_raise_6 : decode cX4_raise 6 = .ok (.getfield 37, 3) := by decide +kernel
theorem dX4_raise_9 : decode cX4_raise 9 = .ok (.iload_n 2, 1) := by decide +kernel
theorem dX4_raise_10 : decode cX4_raise 10 = .ok (.invokevirtual 41, 3) := by decide +kernel
theorem dX4_raise_13 : decode cX4_raise 13 = .ok (.isub, 1) := by decide +kernel
theorem dX4_raise_14 : decode cX4_raise 14 = .ok (.istore 7, 2) := by decide +kernel
theorem dX4_raise_16 : decode cX4_raise 16 = .ok (.iload 7, 2) := by decide +kernel
theorem dX4_raise_18 : decode cX4_raise 18 = .ok (.aload_n 0, 1) := by decide +kernel
theorem dX4_raise_19 : decode cX4_raise 19 = .ok (.getfield 21, 3) := by decide +kernel
theorem dX4_raise_22 : decode cX4_raise 22 = .ok (.if_icmp .le 4, 3) := by decide +kernel
theorem dX4_raise_25 : decode cX4_raise 25 = .ok (.return_, 1) := by decide +kernel
theorem dX4_raise_26 : decode cX4_raise 26 = .ok (.iload 6, 2) := by decide +kernel
theorem dX4_raise_28 : decode cX4_raise 28 = .ok (.aload_n 0, 1) := by decide +kernel
theorem dX4_raise_29 : decode cX4_raise 29 = .ok (.getfield 18, 3) := by decide +kernel
theorem dX4_raise_32 : decode cX4_raise 32 = .ok (.iload_n 3, 1) := by decide +kernel
theorem dX4_raise_33 : decode cX4_raise 33 = .ok (.invokestatic 47, 3) := by decide +kernel
theorem dX4_raise_36 : decode cX4_raise 36 = .ok (.if_icmp .ge 10, 3) := by decide +kernel
theorem dX4_raise_39 : decode cX4_raise 39 = .ok (.iload 5, 2) := by decide +kernel
theorem dX4_raise_41 : decode cX4_raise 41 = .ok (.iconst 1, 1) := by decide +kernel
theorem dX4_raise_42 : decode cX4_raise 42 = .ok (.iadd, 1) := by decide +kernel
theorem dX4_raise_43 : decode cX4_raise 43 = .ok (.goto 5, 3) := by decide +kernel
theorem dX4_raise_46 : decode cX4_raise 46 = .ok (.iload 5, 2) := by decide +kernel
theorem dX4_raise_48 : decode cX4_raise 48 = .ok (.istore 8, 2) := by decide +kernel
theorem dX4_raise_50 : decode cX4_raise 50 = .ok (.iload 6, 2) := by decide +kernel
theorem dX4_raise_52 : decode cX4_raise 52 = .ok (.bipush 10, 2) := by decide +kernel
theorem dX4_raise_54 : decode cX4_raise 54 = .ok (.if_icmp .lt 9, 3) := by decide +kernel
theorem dX4_raise_57 : decode cX4_raise 57 = .ok (.iload_n 3, 1) := by decide +kernel
theorem dX4_raise_58 : decode cX4_raise 58 = .ok (.iconst 1, 1) := by decide +kernel
theorem dX4_raise_59 : decode cX4_raise 59 = .ok (.iadd, 1) := by decide +kernel
theorem dX4_raise_60 : decode cX4_raise 60 = .ok (.goto 4, 3) := by decide +kernel
theorem dX4_raise_63 : decode cX4_raise 63 = .ok (.iload_n 3, 1) := by decide +kernel
theorem dX4_raise_64 : decode cX4_raise 64 = .ok (.istore 9, 2) := by decide +kernel
theorem dX4_raise_66 : decode cX4_raise 66 = .ok (.aload_n 0, 1) := by decide +kernel
theorem dX4_raise_67 : decode cX4_raise 67 = .ok (.aload_n 1, 1) := by decide +kernel
theorem dX4_raise_68 : decode cX4_raise 68 = .ok (.iload_n 2, 1) := by decide +kernel
theorem dX4_raise_69 : decode cX4_raise 69 = .ok (.iconst 1, 1) := by decide +kernel
theorem dX4_raise_70 : decode cX4_raise 70 = .ok (.iadd, 1) := by decide +kernel
theorem dX4_raise_71 : decode cX4_raise 71 = .ok (.iload 9, 2) := by decide +kernel
theorem dX4_raise_73 : decode cX4_raise 73 = .ok (.iload 7, 2) := by decide +kernel
theorem dX4_raise_75 : decode cX4_raise 75 = .ok (.iload 8, 2) := by decide +kernel
theorem dX4_raise_77 : decode cX4_raise 77 = .ok (.invokevirtual 24, 3) := by decide +kernel
theorem dX4_raise_80 : decode cX4_raise 80 = .ok (.return_, 1) := by decide +kernel
theorem dX4_weigh_0 : decode cX4_weigh 0 = .ok (.iload_n 1, 1) := by decide +kernel
theorem dX4_weigh_1 : decode cX4_weigh 1 = .ok (.aload_n 0, 1) := by decide +kernel
theorem dX4_weigh_2 : decode cX4_weigh 2 = .ok (.getfield 9, 3) := by decide +kernel
theorem dX4_weigh_5 : decode cX4_weigh 5 = .ok (.if_icmp .lt 19, 3) := by decide +kernel
theorem dX4_weigh_8 : decode cX4_weigh 8 = .ok (.iload_n 1, 1) := by decide +kernel
theorem dX4_weigh_9 : decode cX4_weigh 9 = .ok (.aload_n 0, 1) := by decide +kernel
theorem dX4_weigh_10 : decode cX4_weigh 10 = .ok (.getfield 9, 3) := by decide +kernel
theorem dX4_weigh_13 : decode cX4_weigh 13 = .ok (.if_icmp .ne 21, 3) := by decide +kernel
theorem dX4_weigh_16 : decode cX4_weigh 16 = .ok (.iload_n 2, 1) := by decide +kernel
theorem dX4_weigh_17 : decode cX4_weigh 17 = .ok (.aload_n 0, 1) := by decide +kernel
theorem dX4_weigh_18 : decode cX4_weigh 18 = .ok (.getfield 15, 3) := by decide +kernel
theorem dX4_weigh_21 : decode cX4_weigh 21 = .ok (.if_icmp .ge 13, 3) := by decide +kernel
theorem dX4_weigh_24 : decode cX4_weigh 24 = .ok (.aload_n 0, 1) := by decide +kernel
theorem dX4_weigh_25 : decode cX4_weigh 25 = .ok (.iload_n 1, 1) := by decide +kernel
theorem dX4_weigh_26 : decode cX4_weigh 26 = .ok (.putfield 9, 3) := by decide +kernel
theorem dX4_weigh_29 : decode cX4_weigh 29 = .ok (.aload_n 0, 1) := by decide +kernel
theorem dX4_weigh_30 : decode cX4_weigh 30 = .ok (.iload_n 2, 1) := by decide +kernel
theorem dX4_weigh_31 : decode cX4_weigh 31 = .ok (.putfield 15, 3) := by decide +kernel
theorem dX4_weigh_34 : decode cX4_weigh 34 = .ok (.return_, 1) := by decide +kernel
theorem dX5_init_0 : decode cX5_init 0 = .ok (.aload_n 0, 1) := by decide +kernel
theorem dX5_init_1 : decode cX5_init 1 = .ok (.invokespecial 3, 3) := by decide +kernel
theorem dX5_init_4 : decode cX5_init 4 = .ok (.aload_n 0, 1) := by decide +kernel
theorem dX5_init_5 : decode cX5_init 5 = .ok (.iconst 5, 1) := by decide +kernel
theorem dX5_init_6 : decode cX5_init 6 = .ok (.anewarray 9, 3) := by decide +kernel
theorem dX5_init_9 : decode cX5_init 9 = .ok (.putfield 11, 3) := by decide +kernel
theorem dX5_init_12 : decode cX5_init 12 = .ok (.iconst 0, 1) := by decide +kernel
theorem dX5_init_13 : decode cX5_init 13 = .ok (.istore_n 1, 1) := by decide +kernel
theorem dX5_init_14 : decode cX5_init 14 = .ok (.iload_n 1, 1) := by decide +kernel
theorem dX5_init_15 : decode cX5_init 15 = .ok (.aload_n 0, 1) := by decide +kernel
theorem dX5_init_16 : decode cX5_init 16 = .ok (.getfield 11, 3) := by decide +kernel
theorem dX5_init_19 : decode cX5_init 19 = .ok (.arraylength, 1) := by decide +kernel
theorem dX5_init_20 : decode cX5_init 20 = .ok (.if_icmp .ge 22, 3) := by decide +kernel
theorem dX5_init_23 : decode cX5_init 23 = .ok (.aload_n 0, 1) := by decide +kernel
theorem dX5_init_24 : decode cX5_init 24 = .ok (.getfield 11, 3) := by decide +kernel
theorem dX5_init_27 : decode cX5_init 27 = .ok (.iload_n 1, 1) := by decide +kernel
theorem dX5_init_28 : decode cX5_init 28 = .ok (.new 9, 3) := by decide +kernel
theorem dX5_init_31 : decode cX5_init 31 = .ok (.dup, 1) := by decide +kernel
theorem dX5_init_32 : decode cX5_init 32 = .ok (.invokespecial 17, 3) := by decide +kernel
theorem dX5_init_35 : decode cX5_init 35 = .ok (.aastore, 1) := by decide +kernel
theorem dX5_init_36 : decode cX5_init 36 = .ok (.iinc 1 1, 3) := by decide +kernel
theorem dX5_init_39 : decode cX5_init 39 = .ok (.goto (-25), 3) := by decide +kernel
theorem dX5_init_42 : decode cX5_init 42 = .ok (.aload_n 0, 1) := by decide +kernel
theorem dX5_init_43 : decode cX5_init 43 = .ok (.new 18, 3) := by decide +kernel
theorem dX5_init_46 : decode cX5_init 46 = .ok (.dup, 1) := by decide +kernel
theorem dX5_init_47 : decode cX5_init 47 = .ok (.iconst 4, 1) := by decide +kernel
theorem dX5_init_48 : decode cX5_init 48 = .ok (.invokespecial 20, 3) := by decide +kernel
theorem dX5_init_51 : decode cX5_init 51 = .ok (.putfield 23, 3) := by decide +kernel
theorem dX5_init_54 : decode cX5_init 54 = .ok (.aload_n 0, 1) := by decide +kernel
theorem dX5_init_55 : decode cX5_init 55 = .ok (.new 18, 3) := by decide +kernel
theorem dX5_init_58 : decode cX5_init 58 = .ok (.dup, 1) := by decide +kernel
theorem dX5_init_59 : decode cX5_init 59 = .ok (.iconst 4, 1) := by decide +kernel
theorem dX5_init_60 : decode cX5_init 60 = .ok (.invokespecial 20, 3) := by decide +kernel
theorem dX5_init_63 : decode cX5_init 63 = .ok (.putfield 27, 3) := by decide +kernel
theorem dX5_init_66 : decode cX5_init 66 = .ok (.return_, 1) := by decide +kernel
theorem dX5_search_0 : decode cX5_search 0 = .ok (.aload_n 0, 1) := by decide +kernel
theorem dX5_search_1 : decode cX5_search 1 = .ok (.iload_n 2, 1) := by decide +kernel
theorem dX5_search_2 : decode cX5_search 2 = .ok (.putfield 30, 3) := by decide +kernel
theorem dX5_search_5 : decode cX5_search 5 = .ok (.aload_n 0, 1) := by decide +kernel
theorem dX5_search_6 : decode cX5_search 6 = .ok (.iload_n 3, 1) := by decide +kernel
theorem dX5_search_7 : decode cX5_search 7 = .ok (.putfield 34, 3) := by decide +kernel
theorem dX5_search_10 : decode cX5_search 10 = .ok (.aload_n 0, 1) := by decide +kernel
theorem dX5_search_11 : decode cX5_search 11 = .ok (.bipush 7, 2) := by decide +kernel
theorem dX5_search_13 : decode cX5_search 13 = .ok (.putfield 37, 3) := by decide +kernel
theorem dX5_search_16 : decode cX5_search 16 = .ok (.aload_n 0, 1) := by decide +kernel
theorem dX5_search_17 : decode cX5_search 17 = .ok (.iconst 0, 1) := by decide +kernel
theorem dX5_search_18 : decode cX5_search 18 = .ok (.putfield 40, 3) := by decide +kernel
theorem dX5_search_21 : decode cX5_search 21 = .ok (.aload_n 0, 1) := by decide +kernel
theorem dX5_search_22 : decode cX5_search 22 = .ok (.iconst 0, 1) := by decide +kernel
theorem dX5_search_23 : decode cX5_search 23 = .ok (.invokevirtual 43, 3) := by decide +kernel
theorem dX5_search_26 : decode cX5_search 26 = .ok (.astore 4, 2) := by decide +kernel
theorem dX5_search_28 : decode cX5_search 28 = .ok (.aload 4, 2) := by decide +kernel
theorem dX5_search_30 : decode cX5_search 30 = .ok (.ifnull 16, 3) := by decide +kernel
theorem dX5_search_33 : decode cX5_search 33 = .ok (.aload 4, 2) := by decide +kernel
theorem dX5_search_35 : decode cX5_search 35 = .ok (.aload_n 1, 1) := by decide +kernel
theorem dX5_search_36 : decode cX5_search 36 = .ok (.invokevirtual 47, 3) := by decide +kernel
theorem dX5_search_39 : decode cX5_search 39 = .ok (.aload_n 0, 1) := by decide +kernel
theorem dX5_search_40 : decode cX5_search 40 = .ok (.aload 4, 2) := by decide +kernel
theorem dX5_search_42 : decode cX5_search 42 = .ok (.iconst 0, 1) := by decide +kernel
theorem dX5_search_43 : decode cX5_search 43 = .ok (.invokevirtual 51, 3) := by decide +kernel
theorem dX5_search_46 : decode cX5_search 46 = .ok (.return_, 1) := by decide +kernel
theorem dX5_goOn_0 : decode cX5_goOn 0 = .ok (.iload_n 2, 1) := by decide +kernel
theorem dX5_goOn_1 : decode cX5_goOn 1 = .ok (.aload_n 0, 1) := by decide +kernel
theorem dX5_goOn_2 : decode cX5_goOn 2 = .ok (.getfield 30, 3) := by decide +kernel
theorem dX5_goOn_5 : decode cX5_goOn 5 = .ok (.if_icmp .lt 9, 3) := by decide +kernel
theorem dX5_goOn_8 : decode cX5_goOn 8 = .ok (.aload_n 0, 1) := by decide +kernel
theorem dX5_goOn_9 : decode cX5_goOn 9 = .ok (.aload_n 1, 1) := by decide +kernel
theorem dX5_goOn_10 : decode cX5_goOn 10 = .ok (.invokevirtual 55, 3) := by decide +kernel
theorem dX5_goOn_13 : decode cX5_goOn 13 = .ok (.return_, 1) := by decide +kernel
theorem dX5_goOn_14 : decode cX5_goOn 14 = .ok (.iconst 0, 1) := by decide +kernel
theorem dX5_goOn_15 : decode cX5_goOn 15 = .ok (.istore_n 3, 1) := by decide +kernel
theorem dX5_goOn_16 : decode cX5_goOn 16 = .ok (.iload_n 3, 1) := by decide +kernel
theorem dX5_goOn_17 : decode cX5_goOn 17 = .ok (.aload_n 1, 1) := by decide +kernel
theorem dX5_goOn_18 : decode cX5_goOn 18 = .ok (.getfield 58, 3) := by decide +kernel
theorem dX5_goOn_21 : decode cX5_goOn 21 = .ok (.if_icmp .ge 16, 3) := by decide +kernel
theorem dX5_goOn_24 : decode cX5_goOn 24 = .ok (.aload_n 0, 1) := by decide +kernel
theorem dX5_goOn_25 : decode cX5_goOn 25 = .ok (.aload_n 1, 1) := by decide +kernel
theorem dX5_goOn_26 : decode cX5_goOn 26 = .ok (.iload_n 2, 1) := by decide +kernel
theorem dX5_goOn_27 : decode cX5_goOn 27 = .ok (.iload_n 3, 1) := by decide +kernel
theorem dX5_goOn_28 : decode cX5_goOn 28 = .ok (.invokevirtual 61, 3) := by decide +kernel
theorem dX5_goOn_31 : decode cX5_goOn 31 = .ok (.iinc 3 1, 3) := by decide +kernel
theorem dX5_goOn_34 : decode cX5_goOn 34 = .ok (.goto (-18), 3) := by decide +kernel
theorem dX5_goOn_37 : decode cX5_goOn 37 = .ok (.return_, 1) := by decide +kernel
theorem dX5_cheerAndGoOn_0 : decode cX5_cheerAndGoOn 0 = .ok (.aload_n 0, 1) := by decide +kernel
theorem dX5_cheerAndGoOn_1 : decode cX5_cheerAndGoOn 1 = .ok (.iload_n 2, 1) := by decide +kernel
theorem dX5_cheerAndGoOn_2 : decode cX5_cheerAndGoOn 2 = .ok (.iconst 1, 1) := by decide +kernel
theorem dX5_cheerAndGoOn_3 : decode cX5_cheerAndGoOn 3 = .ok (.iadd, 1) := by decide +kernel
theorem dX5_cheerAndGoOn_4 : decode cX5_cheerAndGoOn 4 = .ok (.invokevirtual 43, 3) := by decide +kernel
theorem dX5_cheerAndGoOn_7 : decode cX5_cheerAndGoOn 7 = .ok (.astore 4, 2) := by decide +kernel
theorem dX5_cheerAndGoOn_9 : decode cX5_cheerAndGoOn 9 = .ok (.aload 4, 2) := by decide +kernel
theorem dX5_cheerAndGoOn_11 : decode cX5_cheerAndGoOn 11 = .ok (.ifnonnull 4, 3) := by decide +kernel
theorem dX5_cheerAndGoOn_14 : decode cX5_cheerAndGoOn 14 = .ok (.return_, 1) := by decide +kernel
theorem dX5_cheerAndGoOn_15 : decode cX5_cheerAndGoOn 15 = .ok (.aload 4, 2) := by decide +kernel
theorem dX5_cheerAndGoOn_17 : decode cX5_cheerAndGoOn 17 = .ok (.aload_n 1, 1) := by decide +kernel
theorem dX5_cheerAndGoOn_18 : decode cX5_cheerAndGoOn 18 = .ok (.invokevirtual 47, 3) := by decide +kernel
theorem dX5_cheerAndGoOn_21 : decode cX5_cheerAndGoOn 21 = .ok (.aload 4, 2) := by decide +kernel
theorem dX5_cheerAndGoOn_23 : decode cX5_cheerAndGoOn 23 = .ok (.iload_n 3, 1) := by decide +kernel
theorem dX5_cheerAndGoOn_24 : decode cX5_cheerAndGoOn 24 = .ok (.invokevirtual 65, 3) := by decide +kernel
theorem dX5_cheerAndGoOn_27 : decode cX5_cheerAndGoOn 27 = .ok (.aload 4, 2) := by decide +kernel
theorem dX5_cheerAndGoOn_29 : decode cX5_cheerAndGoOn 29 = .ok (.invokevirtual 68, 3) := by decide +kernel
theorem dX5_cheerAndGoOn_32 : decode cX5_cheerAndGoOn 32 = .ok (.aload_n 0, 1) := by decide +kernel
theorem dX5_cheerAndGoOn_33 : decode cX5_cheerAndGoOn 33 = .ok (.getfield 23, 3) := by decide +kernel
theorem dX5_cheerAndGoOn_36 : decode cX5_cheerAndGoOn 36 = .ok (.iload_n 2, 1) := by decide +kernel
theorem dX5_cheerAndGoOn_37 : decode cX5_cheerAndGoOn 37 = .ok (.iload_n 3, 1) := by decide +kernel
theorem dX5_cheerAndGoOn_38 : decode cX5_cheerAndGoOn 38 = .ok (.invokevirtual 71, 3) := by decide +kernel
theorem dX5_cheerAndGoOn_41 : decode cX5_cheerAndGoOn 41 = .ok (.aload_n 0, 1) := by decide +kernel
theorem dX5_cheerAndGoOn_42 : decode cX5_cheerAndGoOn 42 = .ok (.aload 4, 2) := by decide +kernel
theorem dX5_cheerAndGoOn_44 : decode cX5_cheerAndGoOn 44 = .ok (.iload_n 2, 1) := by decide +kernel
theorem dX5_cheerAndGoOn_45 : decode cX5_cheerAndGoOn 45 = .ok (.iconst 1, 1) := by decide +kernel
theorem dX5_cheerAndGoOn_46 : decode cX5_cheerAndGoOn 46 = .ok (.iadd, 1) := by decide +kernel
theorem dX5_cheerAndGoOn_47 : decode cX5_cheerAndGoOn 47 = .ok (.invokevirtual 51, 3) := by decide +kernel
theorem dX5_cheerAndGoOn_50 : decode cX5_cheerAndGoOn 50 = .ok (.return_, 1) := by decide +kernel
theorem dX5_weigh_0 : decode cX5_weigh 0 = .ok (.aload_n 1, 1) := by decide +kernel
theorem dX5_weigh_1 : decode cX5_weigh 1 = .ok (.aload_n 0, 1) := by decide +kernel
theorem dX5_weigh_2 : decode cX5_weigh 2 = .ok (.getfield 34, 3) := by decide +kernel
theorem dX5_weigh_5 : decode cX5_weigh 5 = .ok (.invokevirtual 75, 3) := by decide +kernel
theorem dX5_weigh_8 : decode cX5_weigh 8 = .ok (.invokestatic 79, 3) := by decide +kernel
theorem dX5_weigh_11 : decode cX5_weigh 11 = .ok (.istore_n 2, 1) := by decide +kernel
theorem dX5_weigh_12 : decode cX5_weigh 12 = .ok (.aload_n 1, 1) := by decide +kernel
theorem dX5_weigh_13 : decode cX5_weigh 13 = .ok (.invokevirtual 84, 3) := by decide +kernel
theorem dX5_weigh_16 : decode cX5_weigh 16 = .ok (.istore_n 3, 1) := by decide +kernel
theorem dX5_weigh_17 : decode cX5_weigh 17 = .ok (.iload_n 2, 1) := by decide +kernel
theorem dX5_weigh_18 : decode cX5_weigh 18 = .ok (.aload_n 0, 1) := by decide +kernel
theorem dX5_weigh_19 : decode cX5_weigh 19 = .ok (.getfield 37, 3) := by decide +kernel
theorem dX5_weigh_22 : decode cX5_weigh 22 = .ok (.if_icmp .lt 19, 3) := by decide +kernel
theorem dX5_weigh_25 : decode cX5_weigh 25 = .ok (.iload_n 2, 1) := by decide +kernel
theorem dX5_weigh_26 : decode cX5_weigh 26 = .ok (.aload_n 0, 1) := by decide +kernel
theorem dX5_weigh_27 : decode cX5_weigh 27 = .ok (.getfield 37, 3) := by decide +kernel
theorem dX5_weigh_30 : decode cX5_weigh 30 = .ok (.if_icmp .ne 32, 3) := by decide +kernel
theorem dX5_weigh_33 : decode cX5_weigh 33 = .ok (.iload_n 3, 1) := by decide +kernel
theorem dX5_weigh_34 : decode cX5_weigh 34 = .ok (.aload_n 0, 1) := by decide +kernel
theorem dX5_weigh_35 : decode cX5_weigh 35 = .ok (.getfield 40, 3) := by decide +kernel
theorem dX5_weigh_38 : decode cX5_weigh 38 = .ok (.if_icmp .le 24, 3) := by decide +kernel
theorem dX5_weigh_41 : decode cX5_weigh 41 = .ok (.aload_n 0, 1) := by decide +kernel
theorem dX5_weigh_42 : decode cX5_weigh 42 = .ok (.iload_n 2, 1) := by decide +kernel
theorem dX5_weigh_43 : decode cX5_weigh 43 = .ok (.putfield 37, 3) := by decide +kernel
theorem dX5_weigh_46 : decode cX5_weigh 46 = .ok (.aload_n 0, 1) := by decide +kernel
theorem dX5_weigh_47 : decode cX5_weigh 47 = .ok (.iload_n 3, 1) := by decide +kernel
theorem dX5_weigh_48 : decode cX5_weigh 48 = .ok (.putfield 40, 3) := by decide +kernel
theorem dX5_weigh_51 : decode cX5_weigh 51 = .ok (.aload_n 0, 1) := by decide +kernel
theorem dX5_weigh_52 : decode cX5_weigh 52 = .ok (.getfield 27, 3) := by decide +kernel
theorem dX5_weigh_55 : decode cX5_weigh 55 = .ok (.aload_n 0, 1) := by decide +kernel
theorem dX5_weigh_56 : decode cX5_weigh 56 = .ok (.getfield 23, 3) := by decide +kernel
theorem dX5_weigh_59 : decode cX5_weigh 59 = .ok (.invokevirtual 88, 3) := by decide +kernel
theorem dX5_weigh_62 : decode cX5_weigh 62 = .ok (.return_, 1) := by decide +kernel
theorem dX5_stepAt_0 : decode cX5_stepAt 0 = .ok (.iload_n 1, 1) := by decide +kernel
theorem dX5_stepAt_1 : decode cX5_stepAt 1 = .ok (.ifCond .lt 21, 3) := by decide +kernel
theorem dX5_stepAt_4 : decode cX5_stepAt 4 = .ok (.iload_n 1, 1) := by decide +kernel
theorem dX5_stepAt_5 : decode cX5_stepAt 5 = .ok (.aload_n 0, 1) := by decide +kernel
theorem dX5_stepAt_6 : decode cX5_stepAt 6 = .ok (.getfield 11, 3) := by decide +kernel
theorem dX5_stepAt_9 : decode cX5_stepAt 9 = .ok (.arraylength, 1) := by decide +kernel
theorem dX5_stepAt_10 : decode cX5_stepAt 10 = .ok (.if_icmp .ge 12, 3) := by decide +kernel
theorem dX5_stepAt_13 : decode cX5_stepAt 13 = .ok (.aload_n 0, 1) := by decide +kernel
theorem dX5_stepAt_14 : decode cX5_stepAt 14 = .ok (.getfield 11, 3) := by decide +kernel
theorem dX5_stepAt_17 : decode cX5_stepAt 17 = .ok (.iload_n 1, 1) := by decide +kernel
theorem dX5_stepAt_18 : decode cX5_stepAt 18 = .ok (.aaload, 1) := by decide +kernel
theorem dX5_stepAt_19 : decode cX5_stepAt 19 = .ok (.goto 4, 3) := by decide +kernel
theorem dX5_stepAt_22 : decode cX5_stepAt 22 = .ok (.aconst_null, 1) := by decide +kernel
theorem dX5_stepAt_23 : decode cX5_stepAt 23 = .ok (.areturn, 1) := by decide +kernel
theorem dX6_init_0 : decode cX6_init 0 = .ok (.aload_n 0, 1) := by decide +kernel
theorem dX6_init_1 : decode cX6_init 1 = .ok (.invokespecial 1, 3) := by decide +kernel
theorem dX6_init_4 : decode cX6_init 4 = .ok (.aload_n 0, 1) := by decide +kernel
theorem dX6_init_5 : decode cX6_init 5 = .ok (.iload_n 1, 1) := by decide +kernel
theorem dX6_init_6 : decode cX6_init 6 = .ok (.ifCond .ge 7, 3) := by decide +kernel
theorem dX6_init_9 : decode cX6_init 9 = .ok (.iconst 0, 1) := by decide +kernel
theorem dX6_init_10 : decode cX6_init 10 = .ok (.goto 4, 3) := by decide +kernel
theorem dX6_init_13 : decode cX6_init 13 = .ok (.iload_n 1, 1) := by decide +kernel
theorem dX6_init_14 : decode cX6_init 14 = .ok (.newarray .int, 2) := by decide +kernel
theorem dX6_init_16 : decode cX6_init 16 = .ok (.putfield 7, 3) := by decide +kernel
theorem dX6_init_19 : decode cX6_init 19 = .ok (.return_, 1) := by decide +kernel
theorem dX6_at_0 : decode cX6_at 0 = .ok (.iload_n 1, 1) := by decide +kernel
theorem dX6_at_1 : decode cX6_at 1 = .ok (.ifCond .lt 21, 3) := by decide +kernel
theorem dX6_at_4 : decode cX6_at 4 = .ok (.iload_n 1, 1) := by decide +kernel
theorem dX6_at_5 : decode cX6_at 5 = .ok (.aload_n 0, 1) := by decide +kernel
theorem dX6_at_6 : decode cX6_at 6 = .ok (.getfield 7, 3) := by decide +kernel
theorem dX6_at_9 : decode cX6_at 9 = .ok (.arraylength, 1) := by decide +kernel
theorem dX6_at_10 : decode cX6_at 10 = .ok (.if_icmp .ge 12, 3) := by decide +kernel
theorem dX6_at_13 : decode cX6_at 13 = .ok (.aload_n 0, 1) := by decide +kernel
theorem dX6_at_14 : decode cX6_at 14 = .ok (.getfield 7, 3) := by decide +kernel
theorem dX6_at_17 : decode cX6_at 17 = .ok (.iload_n 1, 1) := by decide +kernel
theorem dX6_at_18 : decode cX6_at 18 = .ok (.iaload, 1) := by decide +kernel
theorem dX6_at_19 : decode cX6_at 19 = .ok (.goto 4, 3) := by decide +kernel
theorem dX6_at_22 : decode cX6_at 22 = .ok (.iconst 0, 1) := by decide +kernel
theorem dX6_at_23 : decode cX6_at 23 = .ok (.ireturn, 1) := by decide +kernel
theorem dX6_put_0 : decode cX6_put 0 = .ok (.iload_n 1, 1) := by decide +kernel
theorem dX6_put_1 : decode cX6_put 1 = .ok (.ifCond .lt 19, 3) := by decide +kernel
theorem dX6_put_4 : decode cX6_put 4 = .ok (.iload_n 1, 1) := by decide +kernel
theorem dX6_put_5 : decode cX6_put 5 = .ok (.aload_n 0, 1) := by decide +kernel
theorem dX6_put_6 : decode cX6_put 6 = .ok (.getfield 7, 3) := by decide +kernel
theorem dX6_put_9 : decode cX6_put 9 = .ok (.arraylength, 1) := by decide +kernel
theorem dX6_put_10 : decode cX6_put 10 = .ok (.if_icmp .ge 10, 3) := by decide +kernel
theorem dX6_put_13 : decode cX6_put 13 = .ok (.aload_n 0, 1) := by decide +kernel
theorem dX6_put_14 : decode cX6_put 14 = .ok (.getfield 7, 3) := by decide +kernel
theorem dX6_put_17 : decode cX6_put 17 = .ok (.iload_n 1, 1) := by decide +kernel
theorem dX6_put_18 : decode cX6_put 18 = .ok (.iload_n 2, 1) := by decide +kernel
theorem dX6_put_19 : decode cX6_put 19 = .ok (.iastore, 1) := by decide +kernel
theorem dX6_put_20 : decode cX6_put 20 = .ok (.return_, 1) := by decide +kernel
theorem dX6_fill_0 : decode cX6_fill 0 = .ok (.iconst 0, 1) := by decide +kernel
theorem dX6_fill_1 : decode cX6_fill 1 = .ok (.istore_n 2, 1) := by decide +kernel
theorem dX6_fill_2 : decode cX6_fill 2 = .ok (.iload_n 2, 1) := by decide +kernel
theorem dX6_fill_3 : decode cX6_fill 3 = .ok (.aload_n 0, 1) := by decide +kernel
theorem dX6_fill_4 : decode cX6_fill 4 = .ok (.getfield 7, 3) := by decide +kernel
theorem dX6_fill_7 : decode cX6_fill 7 = .ok (.arraylength, 1) := by decide +kernel
theorem dX6_fill_8 : decode cX6_fill 8 = .ok (.if_icmp .ge 16, 3) := by decide +kernel
theorem dX6_fill_11 : decode cX6_fill 11 = .ok (.aload_n 0, 1) := by decide +kernel
theorem dX6_fill_12 : decode cX6_fill 12 = .ok (.getfield 7, 3) := by decide +kernel
theorem dX6_fill_15 : decode cX6_fill 15 = .ok (.iload_n 2, 1) := by decide +kernel
theorem dX6_fill_16 : decode cX6_fill 16 = .ok (.iload_n 1, 1) := by decide +kernel
theorem dX6_fill_17 : decode cX6_fill 17 = .ok (.iastore, 1) := by decide +kernel
theorem dX6_fill_18 : decode cX6_fill 18 = .ok (.iinc 2 1, 3) := by decide +kernel
theorem dX6_fill_21 : decode cX6_fill 21 = .ok (.goto (-19), 3) := by decide +kernel
theorem dX6_fill_24 : decode cX6_fill 24 = .ok (.return_, 1) := by decide +kernel
theorem dX6_take_0 : decode cX6_take 0 = .ok (.iconst 0, 1) := by decide +kernel
theorem dX6_take_1 : decode cX6_take 1 = .ok (.istore_n 2, 1) := by decide +kernel
theorem dX6_take_2 : decode cX6_take 2 = .ok (.iload_n 2, 1) := by decide +kernel
theorem dX6_take_3 : decode cX6_take 3 = .ok (.aload_n 0, 1) := by decide +kernel
theorem dX6_take_4 : decode cX6_take 4 = .ok (.getfield 7, 3) := by decide +kernel
theorem dX6_take_7 : decode cX6_take 7 = .ok (.arraylength, 1) := by decide +kernel
theorem dX6_take_8 : decode cX6_take 8 = .ok (.if_icmp .ge 30, 3) := by decide +kernel
theorem dX6_take_11 : decode cX6_take 11 = .ok (.iload_n 2, 1) := by decide +kernel
theorem dX6_take_12 : decode cX6_take 12 = .ok (.aload_n 1, 1) := by decide +kernel
theorem dX6_take_13 : decode cX6_take 13 = .ok (.getfield 7, 3) := by decide +kernel
theorem dX6_take_16 : decode cX6_take 16 = .ok (.arraylength, 1) := by decide +kernel
theorem dX6_take_17 : decode cX6_take 17 = .ok (.if_icmp .ge 21, 3) := by decide +kernel
theorem dX6_take_20 : decode cX6_take 20 = .ok (.aload_n 0, 1) := by decide +kernel
theorem dX6_take_21 : decode cX6_take 21 = .ok (.getfield 7, 3) := by decide +kernel
theorem dX6_take_24 : decode cX6_take 24 = .ok (.iload_n 2, 1) := by decide +kernel
theorem dX6_take_25 : decode cX6_take 25 = .ok (.aload_n 1, 1) := by decide +kernel
theorem dX6_take_26 : decode cX6_take 26 = .ok (.getfield 7, 3) := by decide +kernel
theorem dX6_take_29 : decode cX6_take 29 = .ok (.iload_n 2, 1) := by decide +kernel
theorem dX6_take_30 : decode cX6_take 30 = .ok (.iaload, 1) := by decide +kernel
theorem dX6_take_31 : decode cX6_take 31 = .ok (.iastore, 1) := by decide +kernel
theorem dX6_take_32 : decode cX6_take 32 = .ok (.iinc 2 1, 3) := by decide +kernel
theorem dX6_take_35 : decode cX6_take 35 = .ok (.goto (-33), 3) := by decide +kernel
theorem dX6_take_38 : decode cX6_take 38 = .ok (.return_, 1) := by decide +kernel
theorem dX6_sumOfFirst_0 : decode cX6_sumOfFirst 0 = .ok (.iconst 0, 1) := by decide +kernel
theorem dX6_sumOfFirst_1 : decode cX6_sumOfFirst 1 = .ok (.istore_n 2, 1) := by decide +kernel
theorem dX6_sumOfFirst_2 : decode cX6_sumOfFirst 2 = .ok (.iconst 0, 1) := by decide +kernel
theorem dX6_sumOfFirst_3 : decode cX6_sumOfFirst 3 = .ok (.istore_n 3, 1) := by decide +kernel
theorem dX6_sumOfFirst_4 : decode cX6_sumOfFirst 4 = .ok (.iload_n 3, 1) := by decide +kernel
theorem dX6_sumOfFirst_5 : decode cX6_sumOfFirst 5 = .ok (.iload_n 1, 1) := by decide +kernel
theorem dX6_sumOfFirst_6 : decode cX6_sumOfFirst 6 = .ok (.if_icmp .ge 27, 3) := by decide +kernel
theorem dX6_sumOfFirst_9 : decode cX6_sumOfFirst 9 = .ok (.iload_n 3, 1) := by decide +kernel
theorem dX6_sumOfFirst_10 : decode cX6_sumOfFirst 10 = .ok (.aload_n 0, 1) := by decide +kernel
theorem dX6_sumOfFirst_11 : decode cX6_sumOfFirst 11 = .ok (.getfield 7, 3) := by decide +kernel
theorem dX6_sumOfFirst_14 : decode cX6_sumOfFirst 14 = .ok (.arraylength, 1) := by decide +kernel
theorem dX6_sumOfFirst_15 : decode cX6_sumOfFirst 15 = .ok (.if_icmp .ge 18, 3) := by decide +kernel
theorem dX6_sumOfFirst_18 : decode cX6_sumOfFirst 18 = .ok (.iload_n 2, 1) := by decide +kernel
theorem dX6_sumOfFirst_19 : decode cX6_sumOfFirst 19 = .ok (.aload_n 0, 1) := by decide +kernel
theorem dX6_sumOfFirst_20 : decode cX6_sumOfFirst 20 = .ok (.getfield 7, 3) := by decide +kernel
theorem dX6_sumOfFirst_23 : decode cX6_sumOfFirst 23 = .ok (.iload_n 3, 1) := by decide +kernel
theorem dX6_sumOfFirst_24 : decode cX6_sumOfFirst 24 = .ok (.iaload, 1) := by decide +kernel
theorem dX6_sumOfFirst_25 : decode cX6_sumOfFirst 25 = .ok (.iadd, 1) := by decide +kernel
theorem dX6_sumOfFirst_26 : decode cX6_sumOfFirst 26 = .ok (.istore_n 2, 1) := by decide +kernel
theorem dX6_sumOfFirst_27 : decode cX6_sumOfFirst 27 = .ok (.iinc 3 1, 3) := by decide +kernel
theorem dX6_sumOfFirst_30 : decode cX6_sumOfFirst 30 = .ok (.goto (-26), 3) := by decide +kernel
theorem dX6_sumOfFirst_33 : decode cX6_sumOfFirst 33 = .ok (.iload_n 2, 1) := by decide +kernel
theorem dX6_sumOfFirst_34 : decode cX6_sumOfFirst 34 = .ok (.ireturn, 1) := by decide +kernel
theorem dX7_init_0 : decode cX7_init 0 = .ok (.aload_n 0, 1) := by decide +kernel
theorem dX7_init_1 : decode cX7_init 1 = .ok (.invokespecial 3, 3) := by decide +kernel
theorem dX7_init_4 : decode cX7_init 4 = .ok (.aload_n 0, 1) := by decide +kernel
theorem dX7_init_5 : decode cX7_init 5 = .ok (.new 9, 3) := by decide +kernel
theorem dX7_init_8 : decode cX7_init 8 = .ok (.dup, 1) := by decide +kernel
theorem dX7_init_9 : decode cX7_init 9 = .ok (.bipush 100, 2) := by decide +kernel
theorem dX7_init_11 : decode cX7_init 11 = .ok (.invokespecial 13, 3) := by decide +kernel
theorem dX7_init_14 : decode cX7_init 14 = .ok (.putfield 16, 3) := by decide +kernel
theorem dX7_init_17 : decode cX7_init 17 = .ok (.aload_n 0, 1) := by decide +kernel
theorem dX7_init_18 : decode cX7_init 18 = .ok (.new 9, 3) := by decide +kernel
theorem dX7_init_21 : decode cX7_init 21 = .ok (.dup, 1) := by decide +kernel
theorem dX7_init_22 : decode cX7_init 22 = .ok (.bipush 21, 2) := by decide +kernel
theorem dX7_init_24 : decode cX7_init 24 = .ok (.invokespecial 13, 3) := by decide +kernel
theorem dX7_init_27 : decode cX7_init 27 = .ok (.putfield 20, 3) := by decide +kernel
theorem dX7_init_30 : decode cX7_init 30 = .ok (.return_, 1) := by decide +kernel
theorem dX7_worriesLeft_0 : decode cX7_worriesLeft 0 = .ok (.aload_n 0, 1) := by decide +kernel
theorem dX7_worriesLeft_1 : decode cX7_worriesLeft 1 = .ok (.aload_n 1, 1) := by decide +kernel
theorem dX7_worriesLeft_2 : decode cX7_worriesLeft 2 = .ok (.iload_n 3, 1) := by decide +kernel
theorem dX7_worriesLeft_3 : decode cX7_worriesLeft 3 = .ok (.invokevirtual 23, 3) := by decide +kernel
theorem dX7_worriesLeft_6 : decode cX7_worriesLeft 6 = .ok (.iconst 0, 1) := by decide +kernel
theorem dX7_worriesLeft_7 : decode cX7_worriesLeft 7 = .ok (.istore 4, 2) := by decide +kernel
theorem dX7_worriesLeft_9 : decode cX7_worriesLeft 9 = .ok (.iconst 0, 1) := by decide +kernel
theorem dX7_worriesLeft_10 : decode cX7_worriesLeft 10 = .ok (.istore 5, 2) := by decide +kernel
theorem dX7_worriesLeft_12 : decode cX7_worriesLeft 12 = .ok (.iload 5, 2) := by decide +kernel
theorem dX7_worriesLeft_14 : decode cX7_worriesLeft 14 = .ok (.bipush 10, 2) := by decide +kernel
theorem dX7_worriesLeft_16 : decode cX7_worriesLeft 16 = .ok (.if_icmp .ge 29, 3) := by decide +kernel
theorem dX7_worriesLeft_19 : decode cX7_worriesLeft 19 = .ok (.aload_n 0, 1) := by decide +kernel
theorem dX7_worriesLeft_20 : decode cX7_worriesLeft 20 = .ok (.aload_n 2, 1) := by decide +kernel
theorem dX7_worriesLeft_21 : decode cX7_worriesLeft 21 = .ok (.iload_n 3, 1) := by decide +kernel
theorem dX7_worriesLeft_22 : decode cX7_worriesLeft 22 = .ok (.iload 5, 2) := by decide +kernel
theorem dX7_worriesLeft_24 : decode cX7_worriesLeft 24 = .ok (.invokevirtual 27, 3) := by decide +kernel
theorem dX7_worriesLeft_27 : decode cX7_worriesLeft 27 = .ok (.ifCond .eq 12, 3) := by decide +kernel
theorem dX7_worriesLeft_30 : decode cX7_worriesLeft 30 = .ok (.iload 4, 2) := by decide +kernel
theorem dX7_worriesLeft_32 : decode cX7_worriesLeft 32 = .ok (.iconst 1, 1) := by decide +kernel
theorem dX7_worriesLeft_33 : decode cX7_worriesLeft 33 = .ok (.iload 5, 2) := by decide +kernel
theorem dX7_worriesLeft_35 : decode cX7_worriesLeft 35 = .ok (.ishl, 1) := by decide +kernel
theorem dX7_worriesLeft_36 : decode cX7_worriesLeft 36 = .ok (.ior, 1) := by decide +kernel
theorem dX7_worriesLeft_37 : decode cX7_worriesLeft 37 = .ok (.istore 4, 2) := by decide +kernel
theorem dX7_worriesLeft_39 : decode cX7_worriesLeft 39 = .ok (.iinc 5 1, 3) := by decide +kernel
theorem dX7_worriesLeft_42 : decode cX7_worriesLeft 42 = .ok (.goto (-30), 3) := by decide +kernel
theorem dX7_worriesLeft_45 : decode cX7_worriesLeft 45 = .ok (.iload 4, 2) := by decide +kernel
theorem dX7_worriesLeft_47 : decode cX7_worriesLeft 47 = .ok (.ireturn, 1) := by decide +kernel
theorem dX7_whenToLook_0 : decode cX7_whenToLook 0 = .ok (.aload_n 0, 1) := by decide +kernel
theorem dX7_whenToLook_1 : decode cX7_whenToLook 1 = .ok (.aload_n 1, 1) := by decide +kernel
theorem dX7_whenToLook_2 : decode cX7_whenToLook 2 = .ok (.aload_n 2, 1) := by decide +kernel
theorem dX7_whenToLook_3 : decode cX7_whenToLook 3 = .ok (.iload_n 3, 1) := by decide +kernel
theorem dX7_whenToLook_4 : decode cX7_whenToLook 4 = .ok (.invokevirtual 31, 3) := by decide +kernel
theorem dX7_whenToLook_7 : decode cX7_whenToLook 7 = .ok (.istore 4, 2) := by decide +kernel
