theorem dX7_whenToLook_9 : decode cX7_whenToLook 9 = .ok (.bipush 11, 2) := by decide +kernel
theorem dX7_whenToLook_11 : decode cX7_whenToLook 11 = .ok (.istore 5, 2) := by decide +kernel
theorem dX7_whenToLook_13 : decode cX7_whenToLook 13 = .ok (.iconst (-1), 1) := by decide +kernel
theorem dX7_whenToLook_14 : decode cX7_whenToLook 14 = .ok (.istore 6, 2) := by decide +kernel
theorem dX7_whenToLook_16 : decode cX7_whenToLook 16 = .ok (.iconst 1, 1) := by decide +kernel
theorem dX7_whenToLook_17 : decode cX7_whenToLook 17 = .ok (.istore 7, 2) := by decide +kernel
theorem dX7_whenToLook_19 : decode cX7_whenToLook 19 = .ok (.iload 7, 2) := by decide +kernel
theorem dX7_whenToLook_21 : decode cX7_whenToLook 21 = .ok (.bipush 9, 2) := by decide +kernel
theorem dX7_whenToLook_23 : decode cX7_whenToLook 23 = .ok (.if_icmp .gt 39, 3) := by decide +kernel
theorem dX7_whenToLook_26 : decode cX7_whenToLook 26 = .ok (.iload 4, 2) := by decide +kernel
theorem dX7_whenToLook_28 : decode cX7_whenToLook 28 = .ok (.ifCond .eq 34, 3) := by decide +kernel
theorem dX7_whenToLook_31 : decode cX7_whenToLook 31 = .ok (.aload_n 0, 1) := by decide +kernel
theorem dX7_whenToLook_32 : decode cX7_whenToLook 32 = .ok (.iload 4, 2) := by decide +kernel
theorem dX7_whenToLook_34 : decode cX7_whenToLook 34 = .ok (.iload 7, 2) := by decide +kernel
theorem dX7_whenToLook_36 : decode cX7_whenToLook 36 = .ok (.invokevirtual 35, 3) := by decide +kernel
theorem dX7_whenToLook_39 : decode cX7_whenToLook 39 = .ok (.istore 8, 2) := by decide +kernel
theorem dX7_whenToLook_41 : decode cX7_whenToLook 41 = .ok (.iload 8, 2) := by decide +kernel
theorem dX7_whenToLook_43 : decode cX7_whenToLook 43 = .ok (.iload 5, 2) := by decide +kernel
theorem dX7_whenToLook_45 : decode cX7_whenToLook 45 = .ok (.if_icmp .ge 11, 3) := by decide +kernel
theorem dX7_whenToLook_48 : decode cX7_whenToLook 48 = .ok (.iload 8, 2) := by decide +kernel
theorem dX7_whenToLook_50 : decode cX7_whenToLook 50 = .ok (.istore 5, 2) := by decide +kernel
theorem dX7_whenToLook_52 : decode cX7_whenToLook 52 = .ok (.iload 7, 2) := by decide +kernel
theorem dX7_whenToLook_54 : decode cX7_whenToLook 54 = .ok (.istore 6, 2) := by decide +kernel
theorem dX7_whenToLook_56 : decode cX7_whenToLook 56 = .ok (.iinc 7 1, 3) := by decide +kernel
theorem dX7_whenToLook_59 : decode cX7_whenToLook 59 = .ok (.goto (-40), 3) := by decide +kernel
theorem dX7_whenToLook_62 : decode cX7_whenToLook 62 = .ok (.iload 6, 2) := by decide +kernel
theorem dX7_whenToLook_64 : decode cX7_whenToLook 64 = .ok (.ireturn, 1) := by decide +kernel
theorem dX7_foresee_0 : decode cX7_foresee 0 = .ok (.aload_n 1, 1) := by decide +kernel
theorem dX7_foresee_1 : decode cX7_foresee 1 = .ok (.getfield 39, 3) := by decide +kernel
theorem dX7_foresee_4 : decode cX7_foresee 4 = .ok (.iload_n 2, 1) := by decide +kernel
theorem dX7_foresee_5 : decode cX7_foresee 5 = .ok (.invokevirtual 44, 3) := by decide +kernel
theorem dX7_foresee_8 : decode cX7_foresee 8 = .ok (.istore_n 3, 1) := by decide +kernel
theorem dX7_foresee_9 : decode cX7_foresee 9 = .ok (.iconst 0, 1) := by decide +kernel
theorem dX7_foresee_10 : decode cX7_foresee 10 = .ok (.istore 4, 2) := by decide +kernel
theorem dX7_foresee_12 : decode cX7_foresee 12 = .ok (.iload 4, 2) := by decide +kernel
theorem dX7_foresee_14 : decode cX7_foresee 14 = .ok (.bipush 10, 2) := by decide +kernel
theorem dX7_foresee_16 : decode cX7_foresee 16 = .ok (.if_icmp .ge 84, 3) := by decide +kernel
theorem dX7_foresee_19 : decode cX7_foresee 19 = .ok (.aload_n 1, 1) := by decide +kernel
theorem dX7_foresee_20 : decode cX7_foresee 20 = .ok (.getfield 48, 3) := by decide +kernel
theorem dX7_foresee_23 : decode cX7_foresee 23 = .ok (.iload_n 2, 1) := by decide +kernel
theorem dX7_foresee_24 : decode cX7_foresee 24 = .ok (.invokevirtual 44, 3) := by decide +kernel
theorem dX7_foresee_27 : decode cX7_foresee 27 = .ok (.istore 5, 2) := by decide +kernel
theorem dX7_foresee_29 : decode cX7_foresee 29 = .ok (.aload_n 1, 1) := by decide +kernel
theorem dX7_foresee_30 : decode cX7_foresee 30 = .ok (.getfield 51, 3) := by decide +kernel
theorem dX7_foresee_33 : decode cX7_foresee 33 = .ok (.iload_n 2, 1) := by decide +kernel
theorem dX7_foresee_34 : decode cX7_foresee 34 = .ok (.invokevirtual 44, 3) := by decide +kernel
theorem dX7_foresee_37 : decode cX7_foresee 37 = .ok (.istore 6, 2) := by decide +kernel
theorem dX7_foresee_39 : decode cX7_foresee 39 = .ok (.iconst 1, 1) := by decide +kernel
theorem dX7_foresee_40 : decode cX7_foresee 40 = .ok (.istore 7, 2) := by decide +kernel
theorem dX7_foresee_42 : decode cX7_foresee 42 = .ok (.iload 7, 2) := by decide +kernel
theorem dX7_foresee_44 : decode cX7_foresee 44 = .ok (.bipush 9, 2) := by decide +kernel
theorem dX7_foresee_46 : decode cX7_foresee 46 = .ok (.if_icmp .gt 48, 3) := by decide +kernel
theorem dX7_foresee_49 : decode cX7_foresee 49 = .ok (.iload_n 3, 1) := by decide +kernel
theorem dX7_foresee_50 : decode cX7_foresee 50 = .ok (.iload 5, 2) := by decide +kernel
theorem dX7_foresee_52 : decode cX7_foresee 52 = .ok (.iload 4, 2) := by decide +kernel
theorem dX7_foresee_54 : decode cX7_foresee 54 = .ok (.iload 6, 2) := by decide +kernel
theorem dX7_foresee_56 : decode cX7_foresee 56 = .ok (.aload_n 1, 1) := by decide +kernel
theorem dX7_foresee_57 : decode cX7_foresee 57 = .ok (.getfield 54, 3) := by decide +kernel
theorem dX7_foresee_60 : decode cX7_foresee 60 = .ok (.iload 7, 2) := by decide +kernel
theorem dX7_foresee_62 : decode cX7_foresee 62 = .ok (.iadd, 1) := by decide +kernel
theorem dX7_foresee_63 : decode cX7_foresee 63 = .ok (.invokestatic 58, 3) := by decide +kernel
theorem dX7_foresee_66 : decode cX7_foresee 66 = .ok (.istore 5, 2) := by decide +kernel
theorem dX7_foresee_68 : decode cX7_foresee 68 = .ok (.iconst 0, 1) := by decide +kernel
theorem dX7_foresee_69 : decode cX7_foresee 69 = .ok (.istore 6, 2) := by decide +kernel
theorem dX7_foresee_71 : decode cX7_foresee 71 = .ok (.aload_n 0, 1) := by decide +kernel
theorem dX7_foresee_72 : decode cX7_foresee 72 = .ok (.getfield 16, 3) := by decide +kernel
theorem dX7_foresee_75 : decode cX7_foresee 75 = .ok (.bipush 10, 2) := by decide +kernel
theorem dX7_foresee_77 : decode cX7_foresee 77 = .ok (.iload 7, 2) := by decide +kernel
theorem dX7_foresee_79 : decode cX7_foresee 79 = .ok (.imul, 1) := by decide +kernel
theorem dX7_foresee_80 : decode cX7_foresee 80 = .ok (.iload 4, 2) := by decide +kernel
theorem dX7_foresee_82 : decode cX7_foresee 82 = .ok (.iadd, 1) := by decide +kernel
theorem dX7_foresee_83 : decode cX7_foresee 83 = .ok (.iload 5, 2) := by decide +kernel
theorem dX7_foresee_85 : decode cX7_foresee 85 = .ok (.invokevirtual 62, 3) := by decide +kernel
theorem dX7_foresee_88 : decode cX7_foresee 88 = .ok (.iinc 7 1, 3) := by decide +kernel
theorem dX7_foresee_91 : decode cX7_foresee 91 = .ok (.goto (-49), 3) := by decide +kernel
theorem dX7_foresee_94 : decode cX7_foresee 94 = .ok (.iinc 4 1, 3) := by decide +kernel
theorem dX7_foresee_97 : decode cX7_foresee 97 = .ok (.goto (-85), 3) := by decide +kernel
theorem dX7_foresee_100 : decode cX7_foresee 100 = .ok (.return_, 1) := by decide +kernel
theorem dX7_fits_0 : decode cX7_fits 0 = .ok (.iconst 0, 1) := by decide +kernel
theorem dX7_fits_1 : decode cX7_fits 1 = .ok (.istore 4, 2) := by decide +kernel
theorem dX7_fits_3 : decode cX7_fits 3 = .ok (.iload 4, 2) := by decide +kernel
theorem dX7_fits_5 : decode cX7_fits 5 = .ok (.aload_n 1, 1) := by decide +kernel
theorem dX7_fits_6 : decode cX7_fits 6 = .ok (.getfield 66, 3) := by decide +kernel
theorem dX7_fits_9 : decode cX7_fits 9 = .ok (.if_icmp .ge 61, 3) := by decide +kernel
theorem dX7_fits_12 : decode cX7_fits 12 = .ok (.aload_n 0, 1) := by decide +kernel
theorem dX7_fits_13 : decode cX7_fits 13 = .ok (.getfield 16, 3) := by decide +kernel
theorem dX7_fits_16 : decode cX7_fits 16 = .ok (.bipush 10, 2) := by decide +kernel
theorem dX7_fits_18 : decode cX7_fits 18 = .ok (.aload_n 1, 1) := by decide +kernel
theorem dX7_fits_19 : decode cX7_fits 19 = .ok (.getfield 71, 3) := by decide +kernel
theorem dX7_fits_22 : decode cX7_fits 22 = .ok (.iload 4, 2) := by decide +kernel
theorem dX7_fits_24 : decode cX7_fits 24 = .ok (.invokevirtual 44, 3) := by decide +kernel
theorem dX7_fits_27 : decode cX7_fits 27 = .ok (.imul, 1) := by decide +kernel
theorem dX7_fits_28 : decode cX7_fits 28 = .ok (.iload_n 3, 1) := by decide +kernel
theorem dX7_fits_29 : decode cX7_fits 29 = .ok (.iadd, 1) := by decide +kernel
theorem dX7_fits_30 : decode cX7_fits 30 = .ok (.invokevirtual 44, 3) := by decide +kernel
theorem dX7_fits_33 : decode cX7_fits 33 = .ok (.istore 5, 2) := by decide +kernel
theorem dX7_fits_35 : decode cX7_fits 35 = .ok (.aload_n 1, 1) := by decide +kernel
theorem dX7_fits_36 : decode cX7_fits 36 = .ok (.getfield 74, 3) := by decide +kernel
theorem dX7_fits_39 : decode cX7_fits 39 = .ok (.iload 4, 2) := by decide +kernel
theorem dX7_fits_41 : decode cX7_fits 41 = .ok (.invokevirtual 44, 3) := by decide +kernel
theorem dX7_fits_44 : decode cX7_fits 44 = .ok (.iload_n 2, 1) := by decide +kernel
theorem dX7_fits_45 : decode cX7_fits 45 = .ok (.if_icmp .ne 19, 3) := by decide +kernel
theorem dX7_fits_48 : decode cX7_fits 48 = .ok (.aload_n 1, 1) := by decide +kernel
theorem dX7_fits_49 : decode cX7_fits 49 = .ok (.getfield 77, 3) := by decide +kernel
theorem dX7_fits_52 : decode cX7_fits 52 = .ok (.iload 4, 2) := by decide +kernel
theorem dX7_fits_54 : decode cX7_fits 54 = .ok (.invokevirtual 44, 3) := by decide +kernel
theorem dX7_fits_57 : decode cX7_fits 57 = .ok (.iload 5, 2) := by decide +kernel
theorem dX7_fits_59 : decode cX7_fits 59 = .ok (.if_icmp .eq 5, 3) := by decide +kernel
theorem dX7_fits_62 : decode cX7_fits 62 = .ok (.iconst 0, 1) := by decide +kernel
theorem dX7_fits_63 : decode cX7_fits 63 = .ok (.ireturn, 1) := by decide +kernel
theorem dX7_fits_64 : decode cX7_fits 64 = .ok (.iinc 4 1, 3) := by decide +kernel
theorem dX7_fits_67 : decode cX7_fits 67 = .ok (.goto (-64), 3) := by decide +kernel
theorem dX7_fits_70 : decode cX7_fits 70 = .ok (.iconst 1, 1) := by decide +kernel
theorem dX7_fits_71 : decode cX7_fits 71 = .ok (.ireturn, 1) := by decide +kernel
theorem dX7_mostLeft_0 : decode cX7_mostLeft 0 = .ok (.aload_n 0, 1) := by decide +kernel
theorem dX7_mostLeft_1 : decode cX7_mostLeft 1 = .ok (.getfield 20, 3) := by decide +kernel
theorem dX7_mostLeft_4 : decode cX7_mostLeft 4 = .ok (.iconst 0, 1) := by decide +kernel
theorem dX7_mostLeft_5 : decode cX7_mostLeft 5 = .ok (.invokevirtual 78, 3) := by decide +kernel
theorem dX7_mostLeft_8 : decode cX7_mostLeft 8 = .ok (.iconst 0, 1) := by decide +kernel
theorem dX7_mostLeft_9 : decode cX7_mostLeft 9 = .ok (.istore_n 3, 1) := by decide +kernel
theorem dX7_mostLeft_10 : decode cX7_mostLeft 10 = .ok (.iconst 0, 1) := by decide +kernel
theorem dX7_mostLeft_11 : decode cX7_mostLeft 11 = .ok (.istore 4, 2) := by decide +kernel
theorem dX7_mostLeft_13 : decode cX7_mostLeft 13 = .ok (.iload 4, 2) := by decide +kernel
theorem dX7_mostLeft_15 : decode cX7_mostLeft 15 = .ok (.bipush 10, 2) := by decide +kernel
theorem dX7_mostLeft_17 : decode cX7_mostLeft 17 = .ok (.if_icmp .ge 69, 3) := by decide +kernel
theorem dX7_mostLeft_20 : decode cX7_mostLeft 20 = .ok (.iload_n 1, 1) := by decide +kernel
theorem dX7_mostLeft_21 : decode cX7_mostLeft 21 = .ok (.iload 4, 2) := by decide +kernel
theorem dX7_mostLeft_23 : decode cX7_mostLeft 23 = .ok (.ishr, 1) := by decide +kernel
theorem dX7_mostLeft_24 : decode cX7_mostLeft 24 = .ok (.iconst 1, 1) := by decide +kernel
theorem dX7_mostLeft_25 : decode cX7_mostLeft 25 = .ok (.iand, 1) := by decide +kernel
theorem dX7_mostLeft_26 : decode cX7_mostLeft 26 = .ok (.iconst 1, 1) := by decide +kernel
theorem dX7_mostLeft_27 : decode cX7_mostLeft 27 = .ok (.if_icmp .ne 53, 3) := by decide +kernel
theorem dX7_mostLeft_30 : decode cX7_mostLeft 30 = .ok (.aload_n 0, 1) := by decide +kernel
theorem dX7_mostLeft_31 : decode cX7_mostLeft 31 = .ok (.getfield 16, 3) := by decide +kernel
theorem dX7_mostLeft_34 : decode cX7_mostLeft 34 = .ok (.bipush 10, 2) := by decide +kernel
theorem dX7_mostLeft_36 : decode cX7_mostLeft 36 = .ok (.iload_n 2, 1) := by decide +kernel
theorem dX7_mostLeft_37 : decode cX7_mostLeft 37 = .ok (.imul, 1) := by decide +kernel
theorem dX7_mostLeft_38 : decode cX7_mostLeft 38 = .ok (.iload 4, 2) := by decide +kernel
theorem dX7_mostLeft_40 : decode cX7_mostLeft 40 = .ok (.iadd, 1) := by decide +kernel
theorem dX7_mostLeft_41 : decode cX7_mostLeft 41 = .ok (.invokevirtual 44, 3) := by decide +kernel
theorem dX7_mostLeft_44 : decode cX7_mostLeft 44 = .ok (.istore 5, 2) := by decide +kernel
theorem dX7_mostLeft_46 : decode cX7_mostLeft 46 = .ok (.aload_n 0, 1) := by decide +kernel
theorem dX7_mostLeft_47 : decode cX7_mostLeft 47 = .ok (.getfield 20, 3) := by decide +kernel
theorem dX7_mostLeft_50 : decode cX7_mostLeft 50 = .ok (.iload 5, 2) := by decide +kernel
theorem dX7_mostLeft_52 : decode cX7_mostLeft 52 = .ok (.aload_n 0, 1) := by decide +kernel
theorem dX7_mostLeft_53 : decode cX7_mostLeft 53 = .ok (.getfield 20, 3) := by decide +kernel
theorem dX7_mostLeft_56 : decode cX7_mostLeft 56 = .ok (.iload 5, 2) := by decide +kernel
theorem dX7_mostLeft_58 : decode cX7_mostLeft 58 = .ok (.invokevirtual 44, 3) := by decide +kernel
theorem dX7_mostLeft_61 : decode cX7_mostLeft 61 = .ok (.iconst 1, 1) := by decide +kernel
theorem dX7_mostLeft_62 : decode cX7_mostLeft 62 = .ok (.iadd, 1) := by decide +kernel
theorem dX7_mostLeft_63 : decode cX7_mostLeft 63 = .ok (.invokevirtual 62, 3) := by decide +kernel
theorem dX7_mostLeft_66 : decode cX7_mostLeft 66 = .ok (.iload_n 3, 1) := by decide +kernel
theorem dX7_mostLeft_67 : decode cX7_mostLeft 67 = .ok (.aload_n 0, 1) := by decide +kernel
theorem dX7_mostLeft_68 : decode cX7_mostLeft 68 = .ok (.getfield 20, 3) := by decide +kernel
theorem dX7_mostLeft_71 : decode cX7_mostLeft 71 = .ok (.iload 5, 2) := by decide +kernel
theorem dX7_mostLeft_73 : decode cX7_mostLeft 73 = .ok (.invokevirtual 44, 3) := by decide +kernel
theorem dX7_mostLeft_76 : decode cX7_mostLeft 76 = .ok (.invokestatic 81, 3) := by decide +kernel
theorem dX7_mostLeft_79 : decode cX7_mostLeft 79 = .ok (.istore_n 3, 1) := by decide +kernel
theorem dX7_mostLeft_80 : decode cX7_mostLeft 80 = .ok (.iinc 4 1, 3) := by decide +kernel
theorem dX7_mostLeft_83 : decode cX7_mostLeft 83 = .ok (.goto (-70), 3) := by decide +kernel
theorem dX7_mostLeft_86 : decode cX7_mostLeft 86 = .ok (.iload_n 3, 1) := by decide +kernel
theorem dX7_mostLeft_87 : decode cX7_mostLeft 87 = .ok (.ireturn, 1) := by decide +kernel
theorem dX8_init_0 : decode cX8_init 0 = .ok (.aload_n 0, 1) := by decide +kernel
theorem dX8_init_1 : decode cX8_init 1 = .ok (.invokespecial 3, 3) := by decide +kernel
theorem dX8_init_4 : decode cX8_init 4 = .ok (.aload_n 0, 1) := by decide +kernel
theorem dX8_init_5 : decode cX8_init 5 = .ok (.new 9, 3) := by decide +kernel
theorem dX8_init_8 : decode cX8_init 8 = .ok (.dup, 1) := by decide +kernel
theorem dX8_init_9 : decode cX8_init 9 = .ok (.bipush 6, 2) := by decide +kernel
theorem dX8_init_11 : decode cX8_init 11 = .ok (.invokespecial 11, 3) := by decide +kernel
theorem dX8_init_14 : decode cX8_init 14 = .ok (.putfield 14, 3) := by decide +kernel
theorem dX8_init_17 : decode cX8_init 17 = .ok (.aload_n 0, 1) := by decide +kernel
theorem dX8_init_18 : decode cX8_init 18 = .ok (.new 9, 3) := by decide +kernel
theorem dX8_init_21 : decode cX8_init 21 = .ok (.dup, 1) := by decide +kernel
theorem dX8_init_22 : decode cX8_init 22 = .ok (.bipush 6, 2) := by decide +kernel
theorem dX8_init_24 : decode cX8_init 24 = .ok (.invokespecial 11, 3) := by decide +kernel
theorem dX8_init_27 : decode cX8_init 27 = .ok (.putfield 20, 3) := by decide +kernel
theorem dX8_init_30 : decode cX8_init 30 = .ok (.aload_n 0, 1) := by decide +kernel
theorem dX8_init_31 : decode cX8_init 31 = .ok (.new 9, 3) := by decide +kernel
theorem dX8_init_34 : decode cX8_init 34 = .ok (.dup, 1) := by decide +kernel
theorem dX8_init_35 : decode cX8_init 35 = .ok (.bipush 6, 2) := by decide +kernel
theorem dX8_init_37 : decode cX8_init 37 = .ok (.invokespecial 11, 3) := by decide +kernel
theorem dX8_init_40 : decode cX8_init 40 = .ok (.putfield 23, 3) := by decide +kernel
theorem dX8_init_43 : decode cX8_init 43 = .ok (.aload_n 0, 1) := by decide +kernel
theorem dX8_init_44 : decode cX8_init 44 = .ok (.iconst 0, 1) := by decide +kernel
theorem dX8_init_45 : decode cX8_init 45 = .ok (.putfield 26, 3) := by decide +kernel
theorem dX8_init_48 : decode cX8_init 48 = .ok (.return_, 1) := by decide +kernel
theorem dX8_add_0 : decode cX8_add 0 = .ok (.aload_n 0, 1) := by decide +kernel
theorem dX8_add_1 : decode cX8_add 1 = .ok (.getfield 14, 3) := by decide +kernel
theorem dX8_add_4 : decode cX8_add 4 = .ok (.aload_n 0, 1) := by decide +kernel
theorem dX8_add_5 : decode cX8_add 5 = .ok (.getfield 26, 3) := by decide +kernel
theorem dX8_add_8 : decode cX8_add 8 = .ok (.iload_n 1, 1) := by decide +kernel
theorem dX8_add_9 : decode cX8_add 9 = .ok (.invokevirtual 30, 3) := by decide +kernel
theorem dX8_add_12 : decode cX8_add 12 = .ok (.aload_n 0, 1) := by decide +kernel
theorem dX8_add_13 : decode cX8_add 13 = .ok (.getfield 20, 3) := by decide +kernel
theorem dX8_add_16 : decode cX8_add 16 = .ok (.aload_n 0, 1) := by decide +kernel
theorem dX8_add_17 : decode cX8_add 17 = .ok (.getfield 26, 3) := by decide +kernel
theorem dX8_add_20 : decode cX8_add 20 = .ok (.iload_n 2, 1) := by decide +kernel
theorem dX8_add_21 : decode cX8_add 21 = .ok (.invokevirtual 30, 3) := by decide +kernel
theorem dX8_add_24 : decode cX8_add 24 = .ok (.aload_n 0, 1) := by decide +kernel
theorem dX8_add_25 : decode cX8_add 25 = .ok (.getfield 23, 3) := by decide +kernel
theorem dX8_add_28 : decode cX8_add 28 = .ok (.aload_n 0, 1) := by decide +kernel
theorem dX8_add_29 : decode cX8_add 29 = .ok (.getfield 26, 3) := by decide +kernel
theorem dX8_add_32 : decode cX8_add 32 = .ok (.iload_n 3, 1) := by decide +kernel
theorem dX8_add_33 : decode cX8_add 33 = .ok (.invokevirtual 30, 3) := by decide +kernel
theorem dX8_add_36 : decode cX8_add 36 = .ok (.aload_n 0, 1) := by decide +kernel
theorem dX8_add_37 : decode cX8_add 37 = .ok (.dup, 1) := by decide +kernel
theorem dX8_add_38 : decode cX8_add 38 = .ok (.getfield 26, 3) := by decide +kernel
theorem dX8_add_41 : decode cX8_add 41 = .ok (.iconst 1, 1) := by decide +kernel
theorem dX8_add_42 : decode cX8_add 42 = .ok (.iadd, 1) := by decide +kernel
theorem dX8_add_43 : decode cX8_add 43 = .ok (.putfield 26, 3) := by decide +kernel
theorem dX8_add_46 : decode cX8_add 46 = .ok (.return_, 1) := by decide +kernel
theorem dX8_take_0 : decode cX8_take 0 = .ok (.aload_n 0, 1) := by decide +kernel
theorem dX8_take_1 : decode cX8_take 1 = .ok (.getfield 14, 3) := by decide +kernel
theorem dX8_take_4 : decode cX8_take 4 = .ok (.aload_n 1, 1) := by decide +kernel
theorem dX8_take_5 : decode cX8_take 5 = .ok (.getfield 14, 3) := by decide +kernel
theorem dX8_take_8 : decode cX8_take 8 = .ok (.invokevirtual 34, 3) := by decide +kernel
theorem dX8_take_11 : decode cX8_take 11 = .ok (.aload_n 0, 1) := by decide +kernel
theorem dX8_take_12 : decode cX8_take 12 = .ok (.getfield 20, 3) := by decide +kernel
theorem dX8_take_15 : decode cX8_take 15 = .ok (.aload_n 1, 1) := by decide +kernel
theorem dX8_take_16 : decode cX8_take 16 = .ok (.getfield 20, 3) := by decide +kernel
theorem dX8_take_19 : decode cX8_take 19 = .ok (.invokevirtual 34, 3) := by decide +kernel
theorem dX8_take_22 : decode cX8_take 22 = .ok (.aload_n 0, 1) := by decide +kernel
theorem dX8_take_23 : decode cX8_take 23 = .ok (.getfield 23, 3) := by decide +kernel
theorem dX8_take_26 : decode cX8_take 26 = .ok (.aload_n 1, 1) := by decide +kernel
theorem dX8_take_27 : decode cX8_take 27 = .ok (.getfield 23, 3) := by decide +kernel
theorem dX8_take_30 : decode cX8_take 30 = .ok (.invokevirtual 34, 3) := by decide +kernel
theorem dX8_take_33 : decode cX8_take 33 = .ok (.aload_n 0, 1) := by decide +kernel
theorem dX8_take_34 : decode cX8_take 34 = .ok (.aload_n 1, 1) := by decide +kernel
theorem dX8_take_35 : decode cX8_take 35 = .ok (.getfield 26, 3) := by decide +kernel
theorem dX8_take_38 : decode cX8_take 38 = .ok (.putfield 26, 3) := by decide +kernel
theorem dX8_take_41 : decode cX8_take 41 = .ok (.return_, 1) := by decide +kernel
theorem dX9_init_0 : decode cX9_init 0 = .ok (.aload_n 0, 1) := by decide +kernel
theorem dX9_init_1 : decode cX9_init 1 = .ok (.invokespecial 1, 3) := by decide +kernel
theorem dX9_init_4 : decode cX9_init 4 = .ok (.aload_n 0, 1) := by decide +kernel
theorem dX9_init_5 : decode cX9_init 5 = .ok (.new 7, 3) := by decide +kernel
theorem dX9_init_8 : decode cX9_init 8 = .ok (.dup, 1) := by decide +kernel
theorem dX9_init_9 : decode cX9_init 9 = .ok (.invokespecial 9, 3) := by decide +kernel
theorem dX9_init_12 : decode cX9_init 12 = .ok (.putfield 10, 3) := by decide +kernel
theorem dX9_init_15 : decode cX9_init 15 = .ok (.aload_n 0, 1) := by decide +kernel
theorem dX9_init_16 : decode cX9_init 16 = .ok (.new 16, 3) := by decide +kernel
theorem dX9_init_19 : decode cX9_init 19 = .ok (.dup, 1) := by decide +kernel
theorem dX9_init_20 : decode cX9_init 20 = .ok (.invokespecial 18, 3) := by decide +kernel
theorem dX9_init_23 : decode cX9_init 23 = .ok (.putfield 19, 3) := by decide +kernel
theorem dX9_init_26 : decode cX9_init 26 = .ok (.aload_n 0, 1) := by decide +kernel
theorem dX9_init_27 : decode cX9_init 27 = .ok (.new 23, 3) := by decide +kernel
theorem dX9_init_30 : decode cX9_init 30 = .ok (.dup, 1) := by decide +kernel
theorem dX9_init_31 : decode cX9_init 31 = .ok (.invokespecial 25, 3) := by decide +kernel
theorem dX9_init_34 : decode cX9_init 34 = .ok (.putfield 26, 3) := by decide +kernel
theorem dX9_init_37 : decode cX9_init 37 = .ok (.aload_n 0, 1) := by decide +kernel
theorem dX9_init_38 : decode cX9_init 38 = .ok (.new 16, 3) := by decide +kernel
theorem dX9_init_41 : decode cX9_init 41 = .ok (.dup, 1) := by decide +kernel
theorem dX9_init_42 : decode cX9_init 42 = .ok (.invokespecial 18, 3) := by decide +kernel
theorem dX9_init_45 : decode cX9_init 45 = .ok (.putfield 30, 3) := by decide +kernel
theorem dX9_init_48 : decode cX9_init 48 = .ok (.aload_n 0, 1) := by decide +kernel
theorem dX9_init_49 : decode cX9_init 49 = .ok (.new 23, 3) := by decide +kernel
theorem dX9_init_52 : decode cX9_init 52 = .ok (.dup, 1) := by decide +kernel
theorem dX9_init_53 : decode cX9_init 53 = .ok (.invokespecial 25, 3) := by decide +kernel
theorem dX9_init_56 : decode cX9_init 56 = .ok (.putfield 33, 3) := by decide +kernel
theorem dX9_init_59 : decode cX9_init 59 = .ok (.aload_n 0, 1) := by decide +kernel
theorem dX9_init_60 : decode cX9_init 60 = .ok (.new 16, 3) := by decide +kernel
theorem dX9_init_63 : decode cX9_init 63 = .ok (.dup, 1) := by decide +kernel
theorem dX9_init_64 : decode cX9_init 64 = .ok (.invokespecial 18, 3) := by decide +kernel
theorem dX9_init_67 : decode cX9_init 67 = .ok (.putfield 36, 3) := by decide +kernel
theorem dX9_init_70 : decode cX9_init 70 = .ok (.aload_n 0, 1) := by decide +kernel
theorem dX9_init_71 : decode cX9_init 71 = .ok (.new 39, 3) := by decide +kernel
theorem dX9_init_74 : decode cX9_init 74 = .ok (.dup, 1) := by decide +kernel
theorem dX9_init_75 : decode cX9_init 75 = .ok (.invokespecial 41, 3) := by decide +kernel
theorem dX9_init_78 : decode cX9_init 78 = .ok (.putfield 42, 3) := by decide +kernel
theorem dX9_init_81 : decode cX9_init 81 = .ok (.aload_n 0, 1) := by decide +kernel
theorem dX9_init_82 : decode cX9_init 82 = .ok (.new 46, 3) := by decide +kernel
theorem dX9_init_85 : decode cX9_init 85 = .ok (.dup, 1) := by decide +kernel
theorem dX9_init_86 : decode cX9_init 86 = .ok (.invokespecial 48, 3) := by decide +kernel
theorem dX9_init_89 : decode cX9_init 89 = .ok (.putfield 49, 3) := by decide +kernel
theorem dX9_init_92 : decode cX9_init 92 = .ok (.aload_n 0, 1) := by decide +kernel
theorem dX9_init_93 : decode cX9_init 93 = .ok (.new 53, 3) := by decide +kernel
theorem dX9_init_96 : decode cX9_init 96 = .ok (.dup, 1) := by decide +kernel
theorem dX9_init_97 : decode cX9_init 97 = .ok (.invokespecial 55, 3) := by decide +kernel
theorem dX9_init_100 : decode cX9_init 100 = .ok (.putfield 56, 3) := by decide +kernel
theorem dX9_init_103 : decode cX9_init 103 = .ok (.aload_n 0, 1) := by decide +kernel
theorem dX9_init_104 : decode cX9_init 104 = .ok (.new 60, 3) := by decide +kernel
theorem dX9_init_107 : decode cX9_init 107 = .ok (.dup, 1) := by decide +kernel
theorem dX9_init_108 : decode cX9_init 108 = .ok (.invokespecial 62, 3) := by decide +kernel
theorem dX9_init_111 : decode cX9_init 111 = .ok (.putfield 63, 3) := by decide +kernel
theorem dX9_init_114 : decode cX9_init 114 = .ok (.aload_n 0, 1) := by decide +kernel
theorem dX9_init_115 : decode cX9_init 115 = .ok (.new 67, 3) := by decide +kernel
theorem dX9_init_118 : decode cX9_init 118 = .ok (.dup, 1) := by decide +kernel
theorem dX9_init_119 : decode cX9_init 119 = .ok (.invokespecial 69, 3) := by decide +kernel
theorem dX9_init_122 : decode cX9_init 122 = .ok (.putfield 70, 3) := by decide +kernel
theorem dX9_init_125 : decode cX9_init 125 = .ok (.aload_n 0, 1) := by decide +kernel
theorem dX9_init_126 : decode cX9_init 126 = .ok (.iconst 0, 1) := by decide +kernel
theorem dX9_init_127 : decode cX9_init 127 = .ok (.putfield 74, 3) := by decide +kernel
theorem dX9_init_130 : decode cX9_init 130 = .ok (.aload_n 0, 1) := by decide +kernel
theorem dX9_init_131 : decode cX9_init 131 = .ok (.iconst 0, 1) := by decide +kernel
theorem dX9_init_132 : decode cX9_init 132 = .ok (.putfield 78, 3) := by decide +kernel
theorem dX9_init_135 : decode cX9_init 135 = .ok (.return_, 1) := by decide +kernel
theorem dX9_letter_0 : decode cX9_letter 0 = .ok (.iload_n 1, 1) := by decide +kernel
theorem dX9_letter_1 : decode cX9_letter 1 = .ok (.bipush 32, 2) := by decide +kernel
theorem dX9_letter_3 : decode cX9_letter 3 = .ok (.bipush 126, 2) := by decide +kernel
theorem dX9_letter_5 : decode cX9_letter 5 = .ok (.invokestatic 82, 3) := by decide +kernel
theorem dX9_letter_8 : decode cX9_letter 8 = .ok (.ifCond .ne 6, 3) := by decide +kernel
theorem dX9_letter_11 : decode cX9_letter 11 = .ok (.bipush (-102), 2) := by decide +kernel
theorem dX9_letter_13 : decode cX9_letter 13 = .ok (.ireturn, 1) := by decide +kernel
theorem dX9_letter_14 : decode cX9_letter 14 = .ok (.aload_n 0, 1) := by decide +kernel
theorem dX9_letter_15 : decode cX9_letter 15 = .ok (.getfield 10, 3) := by decide +kernel
theorem dX9_letter_18 : decode cX9_letter 18 = .ok (.getfield 86, 3) := by decide +kernel
theorem dX9_letter_21 : decode cX9_letter 21 = .ok (.bipush 26, 2) := by decide +kernel
theorem dX9_letter_23 : decode cX9_letter 23 = .ok (.if_icmp .lt 6, 3) := by decide +kernel
theorem dX9_letter_26 : decode cX9_letter 26 = .ok (.bipush (-104), 2) := by decide +kernel
theorem dX9_letter_28 : decode cX9_letter 28 = .ok (.ireturn, 1) := by decide +kernel
theorem dX9_letter_29 : decode cX9_letter 29 = .ok (.aload_n 0, 1) := by decide +kernel
theorem dX9_letter_30 : decode cX9_letter 30 = .ok (.getfield 10, 3) := by decide +kernel
theorem dX9_letter_33 : decode cX9_letter 33 = .ok (.iload_n 1, 1) := by decide +kernel
theorem dX9_letter_34 : decode cX9_letter 34 = .ok (.invokevirtual 89, 3) := by decide +kernel
theorem dX9_letter_37 : decode cX9_letter 37 = .ok (.aload_n 0, 1) := by decide +kernel
theorem dX9_letter_38 : decode cX9_letter 38 = .ok (.getfield 10, 3) := by decide +kernel
theorem dX9_letter_41 : decode cX9_letter 41 = .ok (.getfield 86, 3) := by decide +kernel
theorem dX9_letter_44 : decode cX9_letter 44 = .ok (.ireturn, 1) := by decide +kernel
theorem dX9_blank_0 : decode cX9_blank 0 = .ok (.aload_n 0, 1) := by decide +kernel
theorem dX9_blank_1 : decode cX9_blank 1 = .ok (.getfield 10, 3) := by decide +kernel
theorem dX9_blank_4 : decode cX9_blank 4 = .ok (.getfield 86, 3) := by decide +kernel
theorem dX9_blank_7 : decode cX9_blank 7 = .ok (.istore_n 1, 1) := by decide +kernel
theorem dX9_blank_8 : decode cX9_blank 8 = .ok (.aload_n 0, 1) := by decide +kernel
theorem dX9_blank_9 : decode cX9_blank 9 = .ok (.getfield 10, 3) := by decide +kernel
theorem dX9_blank_12 : decode cX9_blank 12 = .ok (.iconst 0, 1) := by decide +kernel
theorem dX9_blank_13 : decode cX9_blank 13 = .ok (.putfield 86, 3) := by decide +kernel
theorem dX9_blank_16 : decode cX9_blank 16 = .ok (.iload_n 1, 1) := by decide +kernel
theorem dX9_blank_17 : decode cX9_blank 17 = .ok (.ireturn, 1) := by decide +kernel
theorem dX9_fault_0 : decode cX9_fault 0 = .ok (.aload_n 0, 1) := by decide +kernel
theorem dX9_fault_1 : decode cX9_fault 1 = .ok (.getfield 10, 3) := by decide +kernel
theorem dX9_fault_4 : decode cX9_fault 4 = .ok (.invokevirtual 93, 3) := by decide +kernel
theorem dX9_fault_7 : decode cX9_fault 7 = .ok (.ireturn, 1) := by decide +kernel
theorem dX9_lane_0 : decode cX9_lane 0 = .ok (.aload_n 0, 1) := by decide +kernel
theorem dX9_lane_1 : decode cX9_lane 1 = .ok (.getfield 10, 3) := by decide +kernel
theorem dX9_lane_4 : decode cX9_lane 4 = .ok (.invokevirtual 97, 3) := by decide +kernel
theorem dX9_lane_7 : decode cX9_lane 7 = .ok (.ifCond .ne 6, 3) := by decide +kernel
theorem dX9_lane_10 : decode cX9_lane 10 = .ok (.bipush (-103), 2) := by decide +kernel
theorem dX9_lane_12 : decode cX9_lane 12 = .ok (.ireturn, 1) := by decide +kernel
theorem dX9_lane_13 : decode cX9_lane 13 = .ok (.aload_n 0, 1) := by decide +kernel
theorem dX9_lane_14 : decode cX9_lane 14 = .ok (.getfield 19, 3) := by decide +kernel
theorem dX9_lane_17 : decode cX9_lane 17 = .ok (.aload_n 0, 1) := by decide +kernel
theorem dX9_lane_18 : decode cX9_lane 18 = .ok (.getfield 10, 3) := by decide +kernel
theorem dX9_lane_21 : decode cX9_lane 21 = .ok (.invokevirtual 101, 3) := by decide +kernel
theorem dX9_lane_24 : decode cX9_lane 24 = .ok (.invokevirtual 104, 3) := by decide +kernel
theorem dX9_lane_27 : decode cX9_lane 27 = .ok (.iconst 0, 1) := by decide +kernel
theorem dX9_lane_28 : decode cX9_lane 28 = .ok (.istore_n 1, 1) := by decide +kernel
theorem dX9_lane_29 : decode cX9_lane 29 = .ok (.iload_n 1, 1) := by decide +kernel
theorem dX9_lane_30 : decode cX9_lane 30 = .ok (.aload_n 0, 1) := by decide +kernel
theorem dX9_lane_31 : decode cX9_lane 31 = .ok (.getfield 19, 3) := by decide +kernel
theorem dX9_lane_34 : decode cX9_lane 34 = .ok (.getfield 107, 3) := by decide +kernel
theorem dX9_lane_37 : decode cX9_lane 37 = .ok (.if_icmp .ge 41, 3) := by decide +kernel
theorem dX9_lane_40 : decode cX9_lane 40 = .ok (.aload_n 0, 1) := by decide +kernel
theorem dX9_lane_41 : decode cX9_lane 41 = .ok (.getfield 19, 3) := by decide +kernel
theorem dX9_lane_44 : decode cX9_lane 44 = .ok (.iload_n 1, 1) := by decide +kernel
theorem dX9_lane_45 : decode cX9_lane 45 = .ok (.aload_n 0, 1) := by decide +kernel
theorem dX9_lane_46 : decode cX9_lane 46 = .ok (.getfield 10, 3) := by decide +kernel
theorem dX9_lane_49 : decode cX9_lane 49 = .ok (.iload_n 1, 1) := by decide +kernel
theorem dX9_lane_50 : decode cX9_lane 50 = .ok (.invokevirtual 108, 3) := by decide +kernel
theorem dX9_lane_53 : decode cX9_lane 53 = .ok (.aload_n 0, 1) := by decide +kernel
theorem dX9_lane_54 : decode cX9_lane 54 = .ok (.getfield 10, 3) := by decide +kernel
theorem dX9_lane_57 : decode cX9_lane 57 = .ok (.iload_n 1, 1) := by decide +kernel
theorem dX9_lane_58 : decode cX9_lane 58 = .ok (.invokevirtual 112, 3) := by decide +kernel
theorem dX9_lane_61 : decode cX9_lane 61 = .ok (.aload_n 0, 1) := by decide +kernel
theorem dX9_lane_62 : decode cX9_lane 62 = .ok (.getfield 10, 3) := by decide +kernel
theorem dX9_lane_65 : decode cX9_lane 65 = .ok (.iload_n 1, 1) := by decide +kernel
theorem dX9_lane_66 : decode cX9_lane 66 = .ok (.invokevirtual 115, 3) := by decide +kernel
theorem dX9_lane_69 : decode cX9_lane 69 = .ok (.invokevirtual 118, 3) := by decide +kernel
theorem dX9_lane_72 : decode cX9_lane 72 = .ok (.iinc 1 1, 3) := by decide +kernel
theorem dX9_lane_75 : decode cX9_lane 75 = .ok (.goto (-46), 3) := by decide +kernel
theorem dX9_lane_78 : decode cX9_lane 78 = .ok (.aload_n 0, 1) := by decide +kernel
theorem dX9_lane_79 : decode cX9_lane 79 = .ok (.getfield 10, 3) := by decide +kernel
theorem dX9_lane_82 : decode cX9_lane 82 = .ok (.iconst 0, 1) := by decide +kernel
theorem dX9_lane_83 : decode cX9_lane 83 = .ok (.putfield 86, 3) := by decide +kernel
theorem dX9_lane_86 : decode cX9_lane 86 = .ok (.aload_n 0, 1) := by decide +kernel
theorem dX9_lane_87 : decode cX9_lane 87 = .ok (.getfield 26, 3) := by decide +kernel
theorem dX9_lane_90 : decode cX9_lane 90 = .ok (.iconst 0, 1) := by decide +kernel
theorem dX9_lane_91 : decode cX9_lane 91 = .ok (.putfield 122, 3) := by decide +kernel
theorem dX9_lane_94 : decode cX9_lane 94 = .ok (.aload_n 0, 1) := by decide +kernel
theorem dX9_lane_95 : decode cX9_lane 95 = .ok (.iconst 0, 1) := by decide +kernel
theorem dX9_lane_96 : decode cX9_lane 96 = .ok (.putfield 74, 3) := by decide +kernel
theorem dX9_lane_99 : decode cX9_lane 99 = .ok (.aload_n 0, 1) := by decide +kernel
theorem dX9_lane_100 : decode cX9_lane 100 = .ok (.dup, 1) := by decide +kernel
theorem dX9_lane_101 : decode cX9_lane 101 = .ok (.getfield 78, 3) := by decide +kernel
theorem dX9_lane_104 : decode cX9_lane 104 = .ok (.iconst 1, 1) := by decide +kernel
theorem dX9_lane_105 : decode cX9_lane 105 = .ok (.iadd, 1) := by decide +kernel
theorem dX9_lane_106 : decode cX9_lane 106 = .ok (.putfield 78, 3) := by decide +kernel
theorem dX9_lane_109 : decode cX9_lane 109 = .ok (.aload_n 0, 1) := by decide +kernel
theorem dX9_lane_110 : decode cX9_lane 110 = .ok (.getfield 19, 3) := by decide +kernel
theorem dX9_lane_113 : decode cX9_lane 113 = .ok (.getfield 107, 3) := by decide +kernel
theorem dX9_lane_116 : decode cX9_lane 116 = .ok (.ireturn, 1) := by decide +kernel
theorem dX9_house_0 : decode cX9_house 0 = .ok (.aload_n 0, 1) := by decide +kernel
theorem dX9_house_1 : decode cX9_house 1 = .ok (.getfield 19, 3) := by decide +kernel
theorem dX9_house_4 : decode cX9_house 4 = .ok (.iload_n 1, 1) := by decide +kernel
theorem dX9_house_5 : decode cX9_house 5 = .ok (.invokevirtual 123, 3) := by decide +kernel
theorem dX9_house_8 : decode cX9_house 8 = .ok (.ifCond .ne 6, 3) := by decide +kernel
theorem dX9_house_11 : decode cX9_house 11 = .ok (.bipush (-101), 2) := by decide +kernel
theorem dX9_house_13 : decode cX9_house 13 = .ok (.ireturn, 1) := by decide +kernel
theorem dX9_house_14 : decode cX9_house 14 = .ok (.iload_n 2, 1) := by decide +kernel
theorem dX9_house_15 : decode cX9_house 15 = .ok (.tableswitch 132 0 6 #[41, 53, 65, 77, 89, 98, 115], 41) := by decide +kernel
theorem dX9_house_56 : decode cX9_house 56 = .ok (.aload_n 0, 1) := by decide +kernel
theorem dX9_house_57 : decode cX9_house 57 = .ok (.getfield 19, 3) := by decide +kernel
theorem dX9_house_60 : decode cX9_house 60 = .ok (.getfield 127, 3) := by decide +kernel
theorem dX9_house_63 : decode cX9_house 63 = .ok (.iload_n 1, 1) := by decide +kernel
theorem dX9_house_64 : decode cX9_house 64 = .ok (.invokevirtual 131, 3) := by decide +kernel
theorem dX9_house_67 : decode cX9_house 67 = .ok (.ireturn, 1) := by decide +kernel
theorem dX9_house_68 : decode cX9_house 68 = .ok (.aload_n 0, 1) := by decide +kernel
theorem dX9_house_69 : decode cX9_house 69 = .ok (.getfield 19, 3) := by decide +kernel
theorem dX9_house_72 : decode cX9_house 72 = .ok (.getfield 136, 3) := by decide +kernel
theorem dX9_house_75 : decode cX9_house 75 = .ok (.iload_n 1, 1) := by decide +kernel
theorem dX9_house_76 : decode cX9_house 76 = .ok (.invokevirtual 131, 3) := by decide +kernel
theorem dX9_house_79 : decode cX9_house 79 = .ok (.ireturn, 1) := by decide +kernel
theorem dX9_house_80 : decode cX9_house 80 = .ok (.aload_n 0, 1) := by decide +kernel
theorem dX9_house_81 : decode cX9_house 81 = .ok (.getfield 19, 3) := by decide +kernel
theorem dX9_house_84 : decode cX9_house 84 = .ok (.getfield 139, 3) := by decide +kernel
theorem dX9_house_87 : decode cX9_house 87 = .ok (.iload_n 1, 1) := by decide +kernel
theorem dX9_house_88 : decode cX9_house 88 = .ok (.invokevirtual 131, 3) := by decide +kernel
theorem dX9_house_91 : decode cX9_house 91 = .ok (.ireturn, 1) := by decide +kernel
theorem dX9_house_92 : decode cX9_house 92 = .ok (.aload_n 0, 1) := by decide +kernel
theorem dX9_house_93 : decode cX9_house 93 = .ok (.getfield 19, 3) := by decide +kernel
theorem dX9_house_96 : decode cX9_house 96 = .ok (.getfield 142, 3) := by decide +kernel
theorem dX9_house_99 : decode cX9_house 99 = .ok (.iload_n 1, 1) := by decide +kernel
theorem dX9_house_100 : decode cX9_house 100 = .ok (.invokevirtual 131, 3) := by decide +kernel
theorem dX9_house_103 : decode cX9_house 103 = .ok (.ireturn, 1) := by decide +kernel
theorem dX9_house_104 : decode cX9_house 104 = .ok (.aload_n 0, 1) := by decide +kernel
theorem dX9_house_105 : decode cX9_house 105 = .ok (.getfield 19, 3) := by decide +kernel
theorem dX9_house_108 : decode cX9_house 108 = .ok (.iload_n 1, 1) := by decide +kernel
theorem dX9_house_109 : decode cX9_house 109 = .ok (.invokevirtual 145, 3) := by decide +kernel
theorem dX9_house_112 : decode cX9_house 112 = .ok (.ireturn, 1) := by decide +kernel
theorem dX9_house_113 : decode cX9_house 113 = .ok (.aload_n 0, 1) := by decide +kernel
theorem dX9_house_114 : decode cX9_house 114 = .ok (.getfield 42, 3) := by decide +kernel
theorem dX9_house_117 : decode cX9_house 117 = .ok (.aload_n 0, 1) := by decide +kernel
theorem dX9_house_118 : decode cX9_house 118 = .ok (.getfield 19, 3) := by decide +kernel
theorem dX9_house_121 : decode cX9_house 121 = .ok (.aload_n 0, 1) := by decide +kernel
theorem dX9_house_122 : decode cX9_house 122 = .ok (.getfield 26, 3) := by decide +kernel
theorem dX9_house_125 : decode cX9_house 125 = .ok (.iload_n 1, 1) := by decide +kernel
theorem dX9_house_126 : decode cX9_house 126 = .ok (.invokevirtual 148, 3) := by decide +kernel
theorem dX9_house_129 : decode cX9_house 129 = .ok (.ireturn, 1) := by decide +kernel
theorem dX9_house_130 : decode cX9_house 130 = .ok (.aload_n 0, 1) := by decide +kernel
theorem dX9_house_131 : decode cX9_house 131 = .ok (.getfield 42, 3) := by decide +kernel
theorem dX9_house_134 : decode cX9_house 134 = .ok (.aload_n 0, 1) := by decide +kernel
theorem dX9_house_135 : decode cX9_house 135 = .ok (.getfield 19, 3) := by decide +kernel
theorem dX9_house_138 : decode cX9_house 138 = .ok (.aload_n 0, 1) := by decide +kernel
theorem dX9_house_139 : decode cX9_house 139 = .ok (.getfield 26, 3) := by decide +kernel
theorem dX9_house_142 : decode cX9_house 142 = .ok (.iload_n 1, 1) := by decide +kernel
theorem dX9_house_143 : decode cX9_house 143 = .ok (.invokevirtual 152, 3) := by decide +kernel
theorem dX9_house_146 : decode cX9_house 146 = .ok (.ireturn, 1) := by decide +kernel
theorem dX9_house_147 : decode cX9_house 147 = .ok (.bipush (-102), 2) := by decide +kernel
theorem dX9_house_149 : decode cX9_house 149 = .ok (.ireturn, 1) := by decide +kernel
theorem dX9_as_0 : decode cX9_as 0 = .ok (.aload_n 0, 1) := by decide +kernel
theorem dX9_as_1 : decode cX9_as 1 = .ok (.getfield 19, 3) := by decide +kernel
theorem dX9_as_4 : decode cX9_as 4 = .ok (.iload_n 1, 1) := by decide +kernel
theorem dX9_as_5 : decode cX9_as 5 = .ok (.invokevirtual 123, 3) := by decide +kernel
theorem dX9_as_8 : decode cX9_as 8 = .ok (.ifCond .ne 6, 3) := by decide +kernel
theorem dX9_as_11 : decode cX9_as 11 = .ok (.bipush (-101), 2) := by decide +kernel
theorem dX9_as_13 : decode cX9_as 13 = .ok (.ireturn, 1) := by decide +kernel
theorem dX9_as_14 : decode cX9_as 14 = .ok (.iload_n 2, 1) := by decide +kernel
theorem dX9_as_15 : decode cX9_as 15 = .ok (.iconst 0, 1) := by decide +kernel
theorem dX9_as_16 : decode cX9_as 16 = .ok (.iconst 4, 1) := by decide +kernel
theorem dX9_as_17 : decode cX9_as 17 = .ok (.invokestatic 82, 3) := by decide +kernel
theorem dX9_as_20 : decode cX9_as 20 = .ok (.ifCond .ne 6, 3) := by decide +kernel
theorem dX9_as_23 : decode cX9_as 23 = .ok (.bipush (-102), 2) := by decide +kernel
theorem dX9_as_25 : decode cX9_as 25 = .ok (.ireturn, 1) := by decide +kernel
theorem dX9_as_26 : decode cX9_as 26 = .ok (.aload_n 0, 1) := by decide +kernel
theorem dX9_as_27 : decode cX9_as 27 = .ok (.getfield 19, 3) := by decide +kernel
theorem dX9_as_30 : decode cX9_as 30 = .ok (.getfield 127, 3) := by decide +kernel
theorem dX9_as_33 : decode cX9_as 33 = .ok (.iload_n 1, 1) := by decide +kernel
theorem dX9_as_34 : decode cX9_as 34 = .ok (.invokevirtual 131, 3) := by decide +kernel
theorem dX9_as_37 : decode cX9_as 37 = .ok (.iload_n 2, 1) := by decide +kernel
theorem dX9_as_38 : decode cX9_as 38 = .ok (.invokestatic 155, 3) := by decide +kernel
theorem dX9_as_41 : decode cX9_as 41 = .ok (.ifCond .eq 7, 3) := by decide +kernel
theorem dX9_as_44 : decode cX9_as 44 = .ok (.iload_n 1, 1) := by decide +kernel
theorem dX9_as_45 : decode cX9_as 45 = .ok (.goto 4, 3) := by decide +kernel
theorem dX9_as_48 : decode cX9_as 48 = .ok (.iconst (-1), 1) := by decide +kernel
theorem dX9_as_49 : decode cX9_as 49 = .ok (.ireturn, 1) := by decide +kernel
theorem dX9_reaches_0 : decode cX9_reaches 0 = .ok (.aload_n 0, 1) := by decide +kernel
theorem dX9_reaches_1 : decode cX9_reaches 1 = .ok (.getfield 19, 3) := by decide +kernel
theorem dX9_reaches_4 : decode cX9_reaches 4 = .ok (.iload_n 1, 1) := by decide +kernel
theorem dX9_reaches_5 : decode cX9_reaches 5 = .ok (.invokevirtual 123, 3) := by decide +kernel
theorem dX9_reaches_8 : decode cX9_reaches 8 = .ok (.ifCond .ne 6, 3) := by decide +kernel
theorem dX9_reaches_11 : decode cX9_reaches 11 = .ok (.bipush (-101), 2) := by decide +kernel
theorem dX9_reaches_13 : decode cX9_reaches 13 = .ok (.ireturn, 1) := by decide +kernel
theorem dX9_reaches_14 : decode cX9_reaches 14 = .ok (.iload_n 2, 1) := by decide +kernel
theorem dX9_reaches_15 : decode cX9_reaches 15 = .ok (.iconst 0, 1) := by decide +kernel
theorem dX9_reaches_16 : decode cX9_reaches 16 = .ok (.bipush 20, 2) := by decide +kernel
theorem dX9_reaches_18 : decode cX9_reaches 18 = .ok (.invokestatic 82, 3) := by decide +kernel
theorem dX9_reaches_21 : decode cX9_reaches 21 = .ok (.ifCond .ne 6, 3) := by decide +kernel
theorem dX9_reaches_24 : decode cX9_reaches 24 = .ok (.bipush (-102), 2) := by decide +kernel
theorem dX9_reaches_26 : decode cX9_reaches 26 = .ok (.ireturn, 1) := by decide +kernel
theorem dX9_reaches_27 : decode cX9_reaches 27 = .ok (.aload_n 0, 1) := by decide +kernel
theorem dX9_reaches_28 : decode cX9_reaches 28 = .ok (.getfield 19, 3) := by decide +kernel
theorem dX9_reaches_31 : decode cX9_reaches 31 = .ok (.iload_n 1, 1) := by decide +kernel
theorem dX9_reaches_32 : decode cX9_reaches 32 = .ok (.iload_n 2, 1) := by decide +kernel
theorem dX9_reaches_33 : decode cX9_reaches 33 = .ok (.invokevirtual 159, 3) := by decide +kernel
theorem dX9_reaches_36 : decode cX9_reaches 36 = .ok (.ireturn, 1) := by decide +kernel
theorem dX9_wet_0 : decode cX9_wet 0 = .ok (.iload_n 1, 1) := by decide +kernel
theorem dX9_wet_1 : decode cX9_wet 1 = .ok (.iconst 0, 1) := by decide +kernel
theorem dX9_wet_2 : decode cX9_wet 2 = .ok (.bipush 20, 2) := by decide +kernel
theorem dX9_wet_4 : decode cX9_wet 4 = .ok (.invokestatic 82, 3) := by decide +kernel
theorem dX9_wet_7 : decode cX9_wet 7 = .ok (.ifCond .ne 6, 3) := by decide +kernel
theorem dX9_wet_10 : decode cX9_wet 10 = .ok (.bipush (-102), 2) := by decide +kernel
theorem dX9_wet_12 : decode cX9_wet 12 = .ok (.ireturn, 1) := by decide +kernel
theorem dX9_wet_13 : decode cX9_wet 13 = .ok (.aload_n 0, 1) := by decide +kernel
theorem dX9_wet_14 : decode cX9_wet 14 = .ok (.getfield 19, 3) := by decide +kernel
theorem dX9_wet_17 : decode cX9_wet 17 = .ok (.getfield 107, 3) := by decide +kernel
theorem dX9_wet_20 : decode cX9_wet 20 = .ok (.ifCond .ne 6, 3) := by decide +kernel
theorem dX9_wet_23 : decode cX9_wet 23 = .ok (.bipush (-103), 2) := by decide +kernel
theorem dX9_wet_25 : decode cX9_wet 25 = .ok (.ireturn, 1) := by decide +kernel
theorem dX9_wet_26 : decode cX9_wet 26 = .ok (.aload_n 0, 1) := by decide +kernel
theorem dX9_wet_27 : decode cX9_wet 27 = .ok (.getfield 19, 3) := by decide +kernel
theorem dX9_wet_30 : decode cX9_wet 30 = .ok (.iload_n 1, 1) := by decide +kernel
theorem dX9_wet_31 : decode cX9_wet 31 = .ok (.invokevirtual 163, 3) := by decide +kernel
theorem dX9_wet_34 : decode cX9_wet 34 = .ok (.ireturn, 1) := by decide +kernel
theorem dX9_year_0 : decode cX9_year 0 = .ok (.aload_n 0, 1) := by decide +kernel
theorem dX9_year_1 : decode cX9_year 1 = .ok (.getfield 19, 3) := by decide +kernel
theorem dX9_year_4 : decode cX9_year 4 = .ok (.getfield 107, 3) := by decide +kernel
theorem dX9_year_7 : decode cX9_year 7 = .ok (.ifCond .ne 6, 3) := by decide +kernel
theorem dX9_year_10 : decode cX9_year 10 = .ok (.bipush (-103), 2) := by decide +kernel
theorem dX9_year_12 : decode cX9_year 12 = .ok (.ireturn, 1) := by decide +kernel
theorem dX9_year_13 : decode cX9_year 13 = .ok (.aload_n 0, 1) := by decide +kernel
theorem dX9_year_14 : decode cX9_year 14 = .ok (.getfield 19, 3) := by decide +kernel
theorem dX9_year_17 : decode cX9_year 17 = .ok (.getfield 166, 3) := by decide +kernel
theorem dX9_year_20 : decode cX9_year 20 = .ok (.sipush 999, 3) := by decide +kernel
theorem dX9_year_23 : decode cX9_year 23 = .ok (.if_icmp .lt 6, 3) := by decide +kernel
theorem dX9_year_26 : decode cX9_year 26 = .ok (.bipush (-104), 2) := by decide +kernel
theorem dX9_year_28 : decode cX9_year 28 = .ok (.ireturn, 1) := by decide +kernel
theorem dX9_year_29 : decode cX9_year 29 = .ok (.aload_n 0, 1) := by decide +kernel
theorem dX9_year_30 : decode cX9_year 30 = .ok (.getfield 19, 3) := by decide +kernel
theorem dX9_year_33 : decode cX9_year 33 = .ok (.invokevirtual 169, 3) := by decide +kernel
theorem dX9_year_36 : decode cX9_year 36 = .ok (.aload_n 0, 1) := by decide +kernel
theorem dX9_year_37 : decode cX9_year 37 = .ok (.getfield 19, 3) := by decide +kernel
theorem dX9_year_40 : decode cX9_year 40 = .ok (.getfield 166, 3) := by decide +kernel
theorem dX9_year_43 : decode cX9_year 43 = .ok (.ireturn, 1) := by decide +kernel
theorem dX9_rain_0 : decode cX9_rain 0 = .ok (.iload_n 1, 1) := by decide +kernel
theorem dX9_rain_1 : decode cX9_rain 1 = .ok (.iconst 0, 1) := by decide +kernel
theorem dX9_rain_2 : decode cX9_rain 2 = .ok (.bipush 20, 2) := by decide +kernel
theorem dX9_rain_4 : decode cX9_rain 4 = .ok (.invokestatic 82, 3) := by decide +kernel
theorem dX9_rain_7 : decode cX9_rain 7 = .ok (.ifCond .ne 6, 3) := by decide +kernel
theorem dX9_rain_10 : decode cX9_rain 10 = .ok (.bipush (-102), 2) := by decide +kernel
theorem dX9_rain_12 : decode cX9_rain 12 = .ok (.ireturn, 1) := by decide +kernel
theorem dX9_rain_13 : decode cX9_rain 13 = .ok (.aload_n 0, 1) := by decide +kernel
theorem dX9_rain_14 : decode cX9_rain 14 = .ok (.getfield 19, 3) := by decide +kernel
theorem dX9_rain_17 : decode cX9_rain 17 = .ok (.getfield 107, 3) := by decide +kernel
theorem dX9_rain_20 : decode cX9_rain 20 = .ok (.ifCond .ne 6, 3) := by decide +kernel
theorem dX9_rain_23 : decode cX9_rain 23 = .ok (.bipush (-103), 2) := by decide +kernel
theorem dX9_rain_25 : decode cX9_rain 25 = .ok (.ireturn, 1) := by decide +kernel
theorem dX9_rain_26 : decode cX9_rain 26 = .ok (.aload_n 0, 1) := by decide +kernel
theorem dX9_rain_27 : decode cX9_rain 27 = .ok (.getfield 19, 3) := by decide +kernel
theorem dX9_rain_30 : decode cX9_rain 30 = .ok (.getfield 172, 3) := by decide +kernel
theorem dX9_rain_33 : decode cX9_rain 33 = .ok (.sipush 9000, 3) := by decide +kernel
theorem dX9_rain_36 : decode cX9_rain 36 = .ok (.if_icmp .lt 6, 3) := by decide +kernel
theorem dX9_rain_39 : decode cX9_rain 39 = .ok (.bipush (-104), 2) := by decide +kernel
theorem dX9_rain_41 : decode cX9_rain 41 = .ok (.ireturn, 1) := by decide +kernel
theorem dX9_rain_42 : decode cX9_rain 42 = .ok (.aload_n 0, 1) := by decide +kernel
theorem dX9_rain_43 : decode cX9_rain 43 = .ok (.getfield 19, 3) := by decide +kernel
theorem dX9_rain_46 : decode cX9_rain 46 = .ok (.iload_n 1, 1) := by decide +kernel
theorem dX9_rain_47 : decode cX9_rain 47 = .ok (.invokevirtual 175, 3) := by decide +kernel
theorem dX9_rain_50 : decode cX9_rain 50 = .ok (.ireturn, 1) := by decide +kernel
theorem dX9_cheer_0 : decode cX9_cheer 0 = .ok (.aload_n 0, 1) := by decide +kernel
theorem dX9_cheer_1 : decode cX9_cheer 1 = .ok (.getfield 19, 3) := by decide +kernel
theorem dX9_cheer_4 : decode cX9_cheer 4 = .ok (.iload_n 1, 1) := by decide +kernel
theorem dX9_cheer_5 : decode cX9_cheer 5 = .ok (.invokevirtual 123, 3) := by decide +kernel
theorem dX9_cheer_8 : decode cX9_cheer 8 = .ok (.ifCond .ne 6, 3) := by decide +kernel
theorem dX9_cheer_11 : decode cX9_cheer 11 = .ok (.bipush (-101), 2) := by decide +kernel
theorem dX9_cheer_13 : decode cX9_cheer 13 = .ok (.ireturn, 1) := by decide +kernel
theorem dX9_cheer_14 : decode cX9_cheer 14 = .ok (.aload_n 0, 1) := by decide +kernel
theorem dX9_cheer_15 : decode cX9_cheer 15 = .ok (.getfield 19, 3) := by decide +kernel
theorem dX9_cheer_18 : decode cX9_cheer 18 = .ok (.iload_n 1, 1) := by decide +kernel
theorem dX9_cheer_19 : decode cX9_cheer 19 = .ok (.invokevirtual 178, 3) := by decide +kernel
theorem dX9_cheer_22 : decode cX9_cheer 22 = .ok (.aload_n 0, 1) := by decide +kernel
theorem dX9_cheer_23 : decode cX9_cheer 23 = .ok (.getfield 19, 3) := by decide +kernel
theorem dX9_cheer_26 : decode cX9_cheer 26 = .ok (.getfield 139, 3) := by decide +kernel
theorem dX9_cheer_29 : decode cX9_cheer 29 = .ok (.iload_n 1, 1) := by decide +kernel
theorem dX9_cheer_30 : decode cX9_cheer 30 = .ok (.invokevirtual 131, 3) := by decide +kernel
theorem dX9_cheer_33 : decode cX9_cheer 33 = .ok (.ireturn, 1) := by decide +kernel
theorem dX9_comb_0 : decode cX9_comb 0 = .ok (.aload_n 0, 1) := by decide +kernel
theorem dX9_comb_1 : decode cX9_comb 1 = .ok (.getfield 19, 3) := by decide +kernel
theorem dX9_comb_4 : decode cX9_comb 4 = .ok (.iload_n 1, 1) := by decide +kernel
theorem dX9_comb_5 : decode cX9_comb 5 = .ok (.invokevirtual 123, 3) := by decide +kernel
theorem dX9_comb_8 : decode cX9_comb 8 = .ok (.ifCond .ne 6, 3) := by decide +kernel
theorem dX9_comb_11 : decode cX9_comb 11 = .ok (.bipush (-101), 2) := by decide +kernel
theorem dX9_comb_13 : decode cX9_comb 13 = .ok (.ireturn, 1) := by decide +kernel
theorem dX9_comb_14 : decode cX9_comb 14 = .ok (.aload_n 0, 1) := by decide +kernel
theorem dX9_comb_15 : decode cX9_comb 15 = .ok (.getfield 19, 3) := by decide +kernel
theorem dX9_comb_18 : decode cX9_comb 18 = .ok (.iload_n 1, 1) := by decide +kernel
theorem dX9_comb_19 : decode cX9_comb 19 = .ok (.invokevirtual 181, 3) := by decide +kernel
theorem dX9_comb_22 : decode cX9_comb 22 = .ok (.ifCond .ne 6, 3) := by decide +kernel
theorem dX9_comb_25 : decode cX9_comb 25 = .ok (.bipush (-103), 2) := by decide +kernel
theorem dX9_comb_27 : decode cX9_comb 27 = .ok (.ireturn, 1) := by decide +kernel
theorem dX9_comb_28 : decode cX9_comb 28 = .ok (.aload_n 0, 1) := by decide +kernel
theorem dX9_comb_29 : decode cX9_comb 29 = .ok (.getfield 19, 3) := by decide +kernel
theorem dX9_comb_32 : decode cX9_comb 32 = .ok (.iload_n 1, 1) := by decide +kernel
theorem dX9_comb_33 : decode cX9_comb 33 = .ok (.invokevirtual 184, 3) := by decide +kernel
theorem dX9_comb_36 : decode cX9_comb 36 = .ok (.aload_n 0, 1) := by decide +kernel
theorem dX9_comb_37 : decode cX9_comb 37 = .ok (.getfield 19, 3) := by decide +kernel
theorem dX9_comb_40 : decode cX9_comb 40 = .ok (.getfield 136, 3) := by decide +kernel
theorem dX9_comb_43 : decode cX9_comb 43 = .ok (.iload_n 1, 1) := by decide +kernel
theorem dX9_comb_44 : decode cX9_comb 44 = .ok (.invokevirtual 131, 3) := by decide +kernel
theorem dX9_comb_47 : decode cX9_comb 47 = .ok (.ireturn, 1) := by decide +kernel
theorem dX9_move_0 : decode cX9_move 0 = .ok (.aload_n 0, 1) := by decide +kernel
theorem dX9_move_1 : decode cX9_move 1 = .ok (.getfield 19, 3) := by decide +kernel
theorem dX9_move_4 : decode cX9_move 4 = .ok (.iload_n 1, 1) := by decide +kernel
theorem dX9_move_5 : decode cX9_move 5 = .ok (.invokevirtual 123, 3) := by decide +kernel
theorem dX9_move_8 : decode cX9_move 8 = .ok (.ifCond .ne 6, 3) := by decide +kernel
theorem dX9_move_11 : decode cX9_move 11 = .ok (.bipush (-101), 2) := by decide +kernel
theorem dX9_move_13 : decode cX9_move 13 = .ok (.ireturn, 1) := by decide +kernel
theorem dX9_move_14 : decode cX9_move 14 = .ok (.iload_n 2, 1) := by decide +kernel
theorem dX9_move_15 : decode cX9_move 15 = .ok (.iconst 0, 1) := by decide +kernel
theorem dX9_move_16 : decode cX9_move 16 = .ok (.iconst 4, 1) := by decide +kernel
theorem dX9_move_17 : decode cX9_move 17 = .ok (.invokestatic 82, 3) := by decide +kernel
theorem dX9_move_20 : decode cX9_move 20 = .ok (.ifCond .eq 13, 3) := by decide +kernel
theorem dX9_move_23 : decode cX9_move 23 = .ok (.iload_n 3, 1) := by decide +kernel
theorem dX9_move_24 : decode cX9_move 24 = .ok (.iconst 0, 1) := by decide +kernel
theorem dX9_move_25 : decode cX9_move 25 = .ok (.bipush 9, 2) := by decide +kernel
theorem dX9_move_27 : decode cX9_move 27 = .ok (.invokestatic 82, 3) := by decide +kernel
theorem dX9_move_30 : decode cX9_move 30 = .ok (.ifCond .ne 6, 3) := by decide +kernel
theorem dX9_move_33 : decode cX9_move 33 = .ok (.bipush (-102), 2) := by decide +kernel
theorem dX9_move_35 : decode cX9_move 35 = .ok (.ireturn, 1) := by decide +kernel
theorem dX9_move_36 : decode cX9_move 36 = .ok (.aload_n 0, 1) := by decide +kernel
theorem dX9_move_37 : decode cX9_move 37 = .ok (.getfield 19, 3) := by decide +kernel
theorem dX9_move_40 : decode cX9_move 40 = .ok (.getfield 127, 3) := by decide +kernel
theorem dX9_move_43 : decode cX9_move 43 = .ok (.iload_n 1, 1) := by decide +kernel
theorem dX9_move_44 : decode cX9_move 44 = .ok (.invokevirtual 131, 3) := by decide +kernel
theorem dX9_move_47 : decode cX9_move 47 = .ok (.istore 4, 2) := by decide +kernel
theorem dX9_move_49 : decode cX9_move 49 = .ok (.aload_n 0, 1) := by decide +kernel
theorem dX9_move_50 : decode cX9_move 50 = .ok (.getfield 19, 3) := by decide +kernel
theorem dX9_move_53 : decode cX9_move 53 = .ok (.getfield 127, 3) := by decide +kernel
theorem dX9_move_56 : decode cX9_move 56 = .ok (.iload_n 1, 1) := by decide +kernel
theorem dX9_move_57 : decode cX9_move 57 = .ok (.iload_n 2, 1) := by decide +kernel
theorem dX9_move_58 : decode cX9_move 58 = .ok (.invokevirtual 187, 3) := by decide +kernel
theorem dX9_move_61 : decode cX9_move 61 = .ok (.aload_n 0, 1) := by decide +kernel
theorem dX9_move_62 : decode cX9_move 62 = .ok (.getfield 19, 3) := by decide +kernel
theorem dX9_move_65 : decode cX9_move 65 = .ok (.getfield 139, 3) := by decide +kernel
theorem dX9_move_68 : decode cX9_move 68 = .ok (.iload_n 1, 1) := by decide +kernel
theorem dX9_move_69 : decode cX9_move 69 = .ok (.iload_n 3, 1) := by decide +kernel
theorem dX9_move_70 : decode cX9_move 70 = .ok (.invokevirtual 187, 3) := by decide +kernel
theorem dX9_move_73 : decode cX9_move 73 = .ok (.iload 4, 2) := by decide +kernel
theorem dX9_move_75 : decode cX9_move 75 = .ok (.ireturn, 1) := by decide +kernel
theorem dX9_dry_0 : decode cX9_dry 0 = .ok (.aload_n 0, 1) := by decide +kernel
theorem dX9_dry_1 : decode cX9_dry 1 = .ok (.getfield 19, 3) := by decide +kernel
theorem dX9_dry_4 : decode cX9_dry 4 = .ok (.iload_n 1, 1) := by decide +kernel
theorem dX9_dry_5 : decode cX9_dry 5 = .ok (.invokevirtual 123, 3) := by decide +kernel
theorem dX9_dry_8 : decode cX9_dry 8 = .ok (.ifCond .ne 6, 3) := by decide +kernel
theorem dX9_dry_11 : decode cX9_dry 11 = .ok (.bipush (-101), 2) := by decide +kernel
theorem dX9_dry_13 : decode cX9_dry 13 = .ok (.ireturn, 1) := by decide +kernel
theorem dX9_dry_14 : decode cX9_dry 14 = .ok (.iload_n 2, 1) := by decide +kernel
theorem dX9_dry_15 : decode cX9_dry 15 = .ok (.iconst 0, 1) := by decide +kernel
theorem dX9_dry_16 : decode cX9_dry 16 = .ok (.bipush 20, 2) := by decide +kernel
theorem dX9_dry_18 : decode cX9_dry 18 = .ok (.invokestatic 82, 3) := by decide +kernel
theorem dX9_dry_21 : decode cX9_dry 21 = .ok (.ifCond .ne 6, 3) := by decide +kernel
theorem dX9_dry_24 : decode cX9_dry 24 = .ok (.bipush (-102), 2) := by decide +kernel
theorem dX9_dry_26 : decode cX9_dry 26 = .ok (.ireturn, 1) := by decide +kernel
theorem dX9_dry_27 : decode cX9_dry 27 = .ok (.aload_n 0, 1) := by decide +kernel
theorem dX9_dry_28 : decode cX9_dry 28 = .ok (.getfield 36, 3) := by decide +kernel
theorem dX9_dry_31 : decode cX9_dry 31 = .ok (.aload_n 0, 1) := by decide +kernel
theorem dX9_dry_32 : decode cX9_dry 32 = .ok (.getfield 19, 3) := by decide +kernel
theorem dX9_dry_35 : decode cX9_dry 35 = .ok (.invokevirtual 191, 3) := by decide +kernel
theorem dX9_dry_38 : decode cX9_dry 38 = .ok (.iconst 0, 1) := by decide +kernel
theorem dX9_dry_39 : decode cX9_dry 39 = .ok (.istore_n 3, 1) := by decide +kernel
theorem dX9_dry_40 : decode cX9_dry 40 = .ok (.iload_n 3, 1) := by decide +kernel
theorem dX9_dry_41 : decode cX9_dry 41 = .ok (.bipush 40, 2) := by decide +kernel
theorem dX9_dry_43 : decode cX9_dry 43 = .ok (.if_icmp .gt 30, 3) := by decide +kernel
theorem dX9_dry_46 : decode cX9_dry 46 = .ok (.aload_n 0, 1) := by decide +kernel
theorem dX9_dry_47 : decode cX9_dry 47 = .ok (.getfield 36, 3) := by decide +kernel
theorem dX9_dry_50 : decode cX9_dry 50 = .ok (.iload_n 1, 1) := by decide +kernel
theorem dX9_dry_51 : decode cX9_dry 51 = .ok (.iload_n 2, 1) := by decide +kernel
theorem dX9_dry_52 : decode cX9_dry 52 = .ok (.invokevirtual 195, 3) := by decide +kernel
theorem dX9_dry_55 : decode cX9_dry 55 = .ok (.ifCond .eq 5, 3) := by decide +kernel
theorem dX9_dry_58 : decode cX9_dry 58 = .ok (.iload_n 3, 1) := by decide +kernel
theorem dX9_dry_59 : decode cX9_dry 59 = .ok (.ireturn, 1) := by decide +kernel
theorem dX9_dry_60 : decode cX9_dry 60 = .ok (.aload_n 0, 1) := by decide +kernel
theorem dX9_dry_61 : decode cX9_dry 61 = .ok (.getfield 36, 3) := by decide +kernel
theorem dX9_dry_64 : decode cX9_dry 64 = .ok (.invokevirtual 169, 3) := by decide +kernel
theorem dX9_dry_67 : decode cX9_dry 67 = .ok (.iinc 3 1, 3) := by decide +kernel
theorem dX9_dry_70 : decode cX9_dry 70 = .ok (.goto (-30), 3) := by decide +kernel
theorem dX9_dry_73 : decode cX9_dry 73 = .ok (.iconst (-1), 1) := by decide +kernel
theorem dX9_dry_74 : decode cX9_dry 74 = .ok (.ireturn, 1) := by decide +kernel
theorem dX9_plan_0 : decode cX9_plan 0 = .ok (.iload_n 3, 1) := by decide +kernel
theorem dX9_plan_1 : decode cX9_plan 1 = .ok (.iconst 0, 1) := by decide +kernel
theorem dX9_plan_2 : decode cX9_plan 2 = .ok (.iconst 1, 1) := by decide +kernel
theorem dX9_plan_3 : decode cX9_plan 3 = .ok (.invokestatic 82, 3) := by decide +kernel
theorem dX9_plan_6 : decode cX9_plan 6 = .ok (.ifCond .ne 14, 3) := by decide +kernel
theorem dX9_plan_9 : decode cX9_plan 9 = .ok (.iload_n 3, 1) := by decide +kernel
theorem dX9_plan_10 : decode cX9_plan 10 = .ok (.bipush 10, 2) := by decide +kernel
theorem dX9_plan_12 : decode cX9_plan 12 = .ok (.bipush 13, 2) := by decide +kernel
theorem dX9_plan_14 : decode cX9_plan 14 = .ok (.invokestatic 82, 3) := by decide +kernel
theorem dX9_plan_17 : decode cX9_plan 17 = .ok (.ifCond .eq 7, 3) := by decide +kernel
theorem dX9_plan_20 : decode cX9_plan 20 = .ok (.iconst 1, 1) := by decide +kernel
theorem dX9_plan_21 : decode cX9_plan 21 = .ok (.goto 4, 3) := by decide +kernel
theorem dX9_plan_24 : decode cX9_plan 24 = .ok (.iconst 0, 1) := by decide +kernel
theorem dX9_plan_25 : decode cX9_plan 25 = .ok (.istore 4, 2) := by decide +kernel
theorem dX9_plan_27 : decode cX9_plan 27 = .ok (.iload_n 1, 1) := by decide +kernel
theorem dX9_plan_28 : decode cX9_plan 28 = .ok (.iconst 1, 1) := by decide +kernel
theorem dX9_plan_29 : decode cX9_plan 29 = .ok (.iconst 4, 1) := by decide +kernel
theorem dX9_plan_30 : decode cX9_plan 30 = .ok (.invokestatic 82, 3) := by decide +kernel
theorem dX9_plan_33 : decode cX9_plan 33 = .ok (.ifCond .eq 18, 3) := by decide +kernel
theorem dX9_plan_36 : decode cX9_plan 36 = .ok (.iload_n 2, 1) := by decide +kernel
theorem dX9_plan_37 : decode cX9_plan 37 = .ok (.iconst 0, 1) := by decide +kernel
theorem dX9_plan_38 : decode cX9_plan 38 = .ok (.bipush 20, 2) := by decide +kernel
theorem dX9_plan_40 : decode cX9_plan 40 = .ok (.invokestatic 82, 3) := by decide +kernel
theorem dX9_plan_43 : decode cX9_plan 43 = .ok (.ifCond .eq 8, 3) := by decide +kernel
theorem dX9_plan_46 : decode cX9_plan 46 = .ok (.iload 4, 2) := by decide +kernel
theorem dX9_plan_48 : decode cX9_plan 48 = .ok (.ifCond .ne 6, 3) := by decide +kernel
theorem dX9_plan_51 : decode cX9_plan 51 = .ok (.bipush (-102), 2) := by decide +kernel
theorem dX9_plan_53 : decode cX9_plan 53 = .ok (.ireturn, 1) := by decide +kernel
theorem dX9_plan_54 : decode cX9_plan 54 = .ok (.aload_n 0, 1) := by decide +kernel
theorem dX9_plan_55 : decode cX9_plan 55 = .ok (.getfield 19, 3) := by decide +kernel
theorem dX9_plan_58 : decode cX9_plan 58 = .ok (.getfield 107, 3) := by decide +kernel
theorem dX9_plan_61 : decode cX9_plan 61 = .ok (.ifCond .ne 6, 3) := by decide +kernel
theorem dX9_plan_64 : decode cX9_plan 64 = .ok (.bipush (-103), 2) := by decide +kernel
theorem dX9_plan_66 : decode cX9_plan 66 = .ok (.ireturn, 1) := by decide +kernel
theorem dX9_plan_67 : decode cX9_plan 67 = .ok (.aload_n 0, 1) := by decide +kernel
theorem dX9_plan_68 : decode cX9_plan 68 = .ok (.getfield 49, 3) := by decide +kernel
theorem dX9_plan_71 : decode cX9_plan 71 = .ok (.aload_n 0, 1) := by decide +kernel
theorem dX9_plan_72 : decode cX9_plan 72 = .ok (.getfield 19, 3) := by decide +kernel
theorem dX9_plan_75 : decode cX9_plan 75 = .ok (.iload_n 1, 1) := by decide +kernel
theorem dX9_plan_76 : decode cX9_plan 76 = .ok (.iload_n 2, 1) := by decide +kernel
theorem dX9_plan_77 : decode cX9_plan 77 = .ok (.invokevirtual 198, 3) := by decide +kernel
theorem dX9_plan_80 : decode cX9_plan 80 = .ok (.iload_n 3, 1) := by decide +kernel
theorem dX9_plan_81 : decode cX9_plan 81 = .ok (.ifCond .ne 11, 3) := by decide +kernel
theorem dX9_plan_84 : decode cX9_plan 84 = .ok (.aload_n 0, 1) := by decide +kernel
theorem dX9_plan_85 : decode cX9_plan 85 = .ok (.getfield 49, 3) := by decide +kernel
theorem dX9_plan_88 : decode cX9_plan 88 = .ok (.getfield 202, 3) := by decide +kernel
theorem dX9_plan_91 : decode cX9_plan 91 = .ok (.ireturn, 1) := by decide +kernel
theorem dX9_plan_92 : decode cX9_plan 92 = .ok (.iload_n 3, 1) := by decide +kernel
theorem dX9_plan_93 : decode cX9_plan 93 = .ok (.iconst 1, 1) := by decide +kernel
theorem dX9_plan_94 : decode cX9_plan 94 = .ok (.if_icmp .ne 11, 3) := by decide +kernel
theorem dX9_plan_97 : decode cX9_plan 97 = .ok (.aload_n 0, 1) := by decide +kernel
theorem dX9_plan_98 : decode cX9_plan 98 = .ok (.getfield 49, 3) := by decide +kernel
theorem dX9_plan_101 : decode cX9_plan 101 = .ok (.getfield 205, 3) := by decide +kernel
theorem dX9_plan_104 : decode cX9_plan 104 = .ok (.ireturn, 1) := by decide +kernel
theorem dX9_plan_105 : decode cX9_plan 105 = .ok (.iload_n 3, 1) := by decide +kernel
theorem dX9_plan_106 : decode cX9_plan 106 = .ok (.bipush 10, 2) := by decide +kernel
theorem dX9_plan_108 : decode cX9_plan 108 = .ok (.isub, 1) := by decide +kernel
theorem dX9_plan_109 : decode cX9_plan 109 = .ok (.iload_n 1, 1) := by decide +kernel
theorem dX9_plan_110 : decode cX9_plan 110 = .ok (.if_icmp .ge 20, 3) := by decide +kernel
theorem dX9_plan_113 : decode cX9_plan 113 = .ok (.aload_n 0, 1) := by decide +kernel
theorem dX9_plan_114 : decode cX9_plan 114 = .ok (.getfield 49, 3) := by decide +kernel
theorem dX9_plan_117 : decode cX9_plan 117 = .ok (.getfield 208, 3) := by decide +kernel
theorem dX9_plan_120 : decode cX9_plan 120 = .ok (.iload_n 3, 1) := by decide +kernel
theorem dX9_plan_121 : decode cX9_plan 121 = .ok (.bipush 10, 2) := by decide +kernel
theorem dX9_plan_123 : decode cX9_plan 123 = .ok (.isub, 1) := by decide +kernel
theorem dX9_plan_124 : decode cX9_plan 124 = .ok (.invokevirtual 131, 3) := by decide +kernel
theorem dX9_plan_127 : decode cX9_plan 127 = .ok (.goto 4, 3) := by decide +kernel
theorem dX9_plan_130 : decode cX9_plan 130 = .ok (.iconst (-1), 1) := by decide +kernel
theorem dX9_plan_131 : decode cX9_plan 131 = .ok (.ireturn, 1) := by decide +kernel
theorem dX9_twos_0 : decode cX9_twos 0 = .ok (.iload_n 1, 1) := by decide +kernel
theorem dX9_twos_1 : decode cX9_twos 1 = .ok (.ifCond .eq 17, 3) := by decide +kernel
theorem dX9_twos_4 : decode cX9_twos 4 = .ok (.iload_n 1, 1) := by decide +kernel
theorem dX9_twos_5 : decode cX9_twos 5 = .ok (.bipush 10, 2) := by decide +kernel
theorem dX9_twos_7 : decode cX9_twos 7 = .ok (.bipush 15, 2) := by decide +kernel
theorem dX9_twos_9 : decode cX9_twos 9 = .ok (.invokestatic 82, 3) := by decide +kernel
theorem dX9_twos_12 : decode cX9_twos 12 = .ok (.ifCond .ne 6, 3) := by decide +kernel
theorem dX9_twos_15 : decode cX9_twos 15 = .ok (.bipush (-102), 2) := by decide +kernel
theorem dX9_twos_17 : decode cX9_twos 17 = .ok (.ireturn, 1) := by decide +kernel
theorem dX9_twos_18 : decode cX9_twos 18 = .ok (.aload_n 0, 1) := by decide +kernel
theorem dX9_twos_19 : decode cX9_twos 19 = .ok (.getfield 19, 3) := by decide +kernel
theorem dX9_twos_22 : decode cX9_twos 22 = .ok (.getfield 107, 3) := by decide +kernel
theorem dX9_twos_25 : decode cX9_twos 25 = .ok (.ifCond .ne 6, 3) := by decide +kernel
theorem dX9_twos_28 : decode cX9_twos 28 = .ok (.bipush (-103), 2) := by decide +kernel
theorem dX9_twos_30 : decode cX9_twos 30 = .ok (.ireturn, 1) := by decide +kernel
theorem dX9_twos_31 : decode cX9_twos 31 = .ok (.aload_n 0, 1) := by decide +kernel
theorem dX9_twos_32 : decode cX9_twos 32 = .ok (.getfield 56, 3) := by decide +kernel
theorem dX9_twos_35 : decode cX9_twos 35 = .ok (.aload_n 0, 1) := by decide +kernel
theorem dX9_twos_36 : decode cX9_twos 36 = .ok (.getfield 19, 3) := by decide +kernel
theorem dX9_twos_39 : decode cX9_twos 39 = .ok (.invokevirtual 211, 3) := by decide +kernel
theorem dX9_twos_42 : decode cX9_twos 42 = .ok (.iload_n 1, 1) := by decide +kernel
theorem dX9_twos_43 : decode cX9_twos 43 = .ok (.ifCond .ne 13, 3) := by decide +kernel
theorem dX9_twos_46 : decode cX9_twos 46 = .ok (.aload_n 0, 1) := by decide +kernel
theorem dX9_twos_47 : decode cX9_twos 47 = .ok (.getfield 56, 3) := by decide +kernel
theorem dX9_twos_50 : decode cX9_twos 50 = .ok (.getfield 213, 3) := by decide +kernel
theorem dX9_twos_53 : decode cX9_twos 53 = .ok (.goto 17, 3) := by decide +kernel
theorem dX9_twos_56 : decode cX9_twos 56 = .ok (.aload_n 0, 1) := by decide +kernel
theorem dX9_twos_57 : decode cX9_twos 57 = .ok (.getfield 56, 3) := by decide +kernel
theorem dX9_twos_60 : decode cX9_twos 60 = .ok (.getfield 216, 3) := by decide +kernel
theorem dX9_twos_63 : decode cX9_twos 63 = .ok (.iload_n 1, 1) := by decide +kernel
theorem dX9_twos_64 : decode cX9_twos 64 = .ok (.bipush 10, 2) := by decide +kernel
theorem dX9_twos_66 : decode cX9_twos 66 = .ok (.isub, 1) := by decide +kernel
theorem dX9_twos_67 : decode cX9_twos 67 = .ok (.invokevirtual 131, 3) := by decide +kernel
theorem dX9_twos_70 : decode cX9_twos 70 = .ok (.ireturn, 1) := by decide +kernel
theorem dX9_patch_0 : decode cX9_patch 0 = .ok (.iload_n 1, 1) := by decide +kernel
theorem dX9_patch_1 : decode cX9_patch 1 = .ok (.iconst 0, 1) := by decide +kernel
theorem dX9_patch_2 : decode cX9_patch 2 = .ok (.bipush 20, 2) := by decide +kernel
theorem dX9_patch_4 : decode cX9_patch 4 = .ok (.invokestatic 82, 3) := by decide +kernel
theorem dX9_patch_7 : decode cX9_patch 7 = .ok (.ifCond .eq 22, 3) := by decide +kernel
theorem dX9_patch_10 : decode cX9_patch 10 = .ok (.iload_n 2, 1) := by decide +kernel
theorem dX9_patch_11 : decode cX9_patch 11 = .ok (.iconst 0, 1) := by decide +kernel
theorem dX9_patch_12 : decode cX9_patch 12 = .ok (.bipush 30, 2) := by decide +kernel
theorem dX9_patch_14 : decode cX9_patch 14 = .ok (.invokestatic 82, 3) := by decide +kernel
theorem dX9_patch_17 : decode cX9_patch 17 = .ok (.ifCond .eq 12, 3) := by decide +kernel
theorem dX9_patch_20 : decode cX9_patch 20 = .ok (.iload_n 3, 1) := by decide +kernel
theorem dX9_patch_21 : decode cX9_patch 21 = .ok (.iconst 0, 1) := by decide +kernel
theorem dX9_patch_22 : decode cX9_patch 22 = .ok (.iconst 1, 1) := by decide +kernel
theorem dX9_patch_23 : decode cX9_patch 23 = .ok (.invokestatic 82, 3) := by decide +kernel
theorem dX9_patch_26 : decode cX9_patch 26 = .ok (.ifCond .ne 6, 3) := by decide +kernel
theorem dX9_patch_29 : decode cX9_patch 29 = .ok (.bipush (-102), 2) := by decide +kernel
theorem dX9_patch_31 : decode cX9_patch 31 = .ok (.ireturn, 1) := by decide +kernel
theorem dX9_patch_32 : decode cX9_patch 32 = .ok (.aload_n 0, 1) := by decide +kernel
theorem dX9_patch_33 : decode cX9_patch 33 = .ok (.getfield 19, 3) := by decide +kernel
theorem dX9_patch_36 : decode cX9_patch 36 = .ok (.getfield 107, 3) := by decide +kernel
theorem dX9_patch_39 : decode cX9_patch 39 = .ok (.ifCond .ne 6, 3) := by decide +kernel
theorem dX9_patch_42 : decode cX9_patch 42 = .ok (.bipush (-103), 2) := by decide +kernel
theorem dX9_patch_44 : decode cX9_patch 44 = .ok (.ireturn, 1) := by decide +kernel
theorem dX9_patch_45 : decode cX9_patch 45 = .ok (.aload_n 0, 1) := by decide +kernel
theorem dX9_patch_46 : decode cX9_patch 46 = .ok (.getfield 63, 3) := by decide +kernel
theorem dX9_patch_49 : decode cX9_patch 49 = .ok (.aload_n 0, 1) := by decide +kernel
theorem dX9_patch_50 : decode cX9_patch 50 = .ok (.getfield 19, 3) := by decide +kernel
theorem dX9_patch_53 : decode cX9_patch 53 = .ok (.iload_n 1, 1) := by decide +kernel
theorem dX9_patch_54 : decode cX9_patch 54 = .ok (.iload_n 2, 1) := by decide +kernel
theorem dX9_patch_55 : decode cX9_patch 55 = .ok (.invokevirtual 217, 3) := by decide +kernel
theorem dX9_patch_58 : decode cX9_patch 58 = .ok (.iload_n 3, 1) := by decide +kernel
theorem dX9_patch_59 : decode cX9_patch 59 = .ok (.ifCond .ne 13, 3) := by decide +kernel
theorem dX9_patch_62 : decode cX9_patch 62 = .ok (.aload_n 0, 1) := by decide +kernel
theorem dX9_patch_63 : decode cX9_patch 63 = .ok (.getfield 63, 3) := by decide +kernel
theorem dX9_patch_66 : decode cX9_patch 66 = .ok (.getfield 218, 3) := by decide +kernel
theorem dX9_patch_69 : decode cX9_patch 69 = .ok (.goto 10, 3) := by decide +kernel
theorem dX9_patch_72 : decode cX9_patch 72 = .ok (.aload_n 0, 1) := by decide +kernel
theorem dX9_patch_73 : decode cX9_patch 73 = .ok (.getfield 63, 3) := by decide +kernel
theorem dX9_patch_76 : decode cX9_patch 76 = .ok (.getfield 219, 3) := by decide +kernel
theorem dX9_patch_79 : decode cX9_patch 79 = .ok (.ireturn, 1) := by decide +kernel
theorem dX9_odds_0 : decode cX9_odds 0 = .ok (.aload_n 0, 1) := by decide +kernel
theorem dX9_odds_1 : decode cX9_odds 1 = .ok (.getfield 19, 3) := by decide +kernel
theorem dX9_odds_4 : decode cX9_odds 4 = .ok (.iload_n 1, 1) := by decide +kernel
theorem dX9_odds_5 : decode cX9_odds 5 = .ok (.invokevirtual 123, 3) := by decide +kernel
theorem dX9_odds_8 : decode cX9_odds 8 = .ok (.ifCond .ne 6, 3) := by decide +kernel
theorem dX9_odds_11 : decode cX9_odds 11 = .ok (.bipush (-101), 2) := by decide +kernel
theorem dX9_odds_13 : decode cX9_odds 13 = .ok (.ireturn, 1) := by decide +kernel
theorem dX9_odds_14 : decode cX9_odds 14 = .ok (.iload_n 2, 1) := by decide +kernel
theorem dX9_odds_15 : decode cX9_odds 15 = .ok (.iconst 1, 1) := by decide +kernel
theorem dX9_odds_16 : decode cX9_odds 16 = .ok (.bipush 7, 2) := by decide +kernel
theorem dX9_odds_18 : decode cX9_odds 18 = .ok (.invokestatic 82, 3) := by decide +kernel
theorem dX9_odds_21 : decode cX9_odds 21 = .ok (.ifCond .eq 12, 3) := by decide +kernel
theorem dX9_odds_24 : decode cX9_odds 24 = .ok (.iload_n 3, 1) := by decide +kernel
theorem dX9_odds_25 : decode cX9_odds 25 = .ok (.iconst 0, 1) := by decide +kernel
theorem dX9_odds_26 : decode cX9_odds 26 = .ok (.iconst 1, 1) := by decide +kernel
theorem dX9_odds_27 : decode cX9_odds 27 = .ok (.invokestatic 82, 3) := by decide +kernel
theorem dX9_odds_30 : decode cX9_odds 30 = .ok (.ifCond .ne 6, 3) := by decide +kernel
theorem dX9_odds_33 : decode cX9_odds 33 = .ok (.bipush (-102), 2) := by decide +kernel
theorem dX9_odds_35 : decode cX9_odds 35 = .ok (.ireturn, 1) := by decide +kernel
theorem dX9_odds_36 : decode cX9_odds 36 = .ok (.aload_n 0, 1) := by decide +kernel
theorem dX9_odds_37 : decode cX9_odds 37 = .ok (.getfield 36, 3) := by decide +kernel
theorem dX9_odds_40 : decode cX9_odds 40 = .ok (.aload_n 0, 1) := by decide +kernel
theorem dX9_odds_41 : decode cX9_odds 41 = .ok (.getfield 19, 3) := by decide +kernel
theorem dX9_odds_44 : decode cX9_odds 44 = .ok (.invokevirtual 191, 3) := by decide +kernel
theorem dX9_odds_47 : decode cX9_odds 47 = .ok (.iconst 1, 1) := by decide +kernel
theorem dX9_odds_48 : decode cX9_odds 48 = .ok (.istore 4, 2) := by decide +kernel
theorem dX9_odds_50 : decode cX9_odds 50 = .ok (.iconst 1, 1) := by decide +kernel
theorem dX9_odds_51 : decode cX9_odds 51 = .ok (.istore 5, 2) := by decide +kernel
theorem dX9_odds_53 : decode cX9_odds 53 = .ok (.iconst 1, 1) := by decide +kernel
theorem dX9_odds_54 : decode cX9_odds 54 = .ok (.istore 6, 2) := by decide +kernel
theorem dX9_odds_56 : decode cX9_odds 56 = .ok (.iload 6, 2) := by decide +kernel
theorem dX9_odds_58 : decode cX9_odds 58 = .ok (.iload_n 2, 1) := by decide +kernel
theorem dX9_odds_59 : decode cX9_odds 59 = .ok (.if_icmp .gt 36, 3) := by decide +kernel
theorem dX9_odds_62 : decode cX9_odds 62 = .ok (.aload_n 0, 1) := by decide +kernel
theorem dX9_odds_63 : decode cX9_odds 63 = .ok (.getfield 36, 3) := by decide +kernel
theorem dX9_odds_66 : decode cX9_odds 66 = .ok (.invokevirtual 169, 3) := by decide +kernel
theorem dX9_odds_69 : decode cX9_odds 69 = .ok (.iload 4, 2) := by decide +kernel
theorem dX9_odds_71 : decode cX9_odds 71 = .ok (.aload_n 0, 1) := by decide +kernel
theorem dX9_odds_72 : decode cX9_odds 72 = .ok (.getfield 36, 3) := by decide +kernel
theorem dX9_odds_75 : decode cX9_odds 75 = .ok (.iload_n 1, 1) := by decide +kernel
theorem dX9_odds_76 : decode cX9_odds 76 = .ok (.invokevirtual 222, 3) := by decide +kernel
theorem dX9_odds_79 : decode cX9_odds 79 = .ok (.imul, 1) := by decide +kernel
theorem dX9_odds_80 : decode cX9_odds 80 = .ok (.istore 4, 2) := by decide +kernel
theorem dX9_odds_82 : decode cX9_odds 82 = .ok (.iload 5, 2) := by decide +kernel
theorem dX9_odds_84 : decode cX9_odds 84 = .ok (.bipush 10, 2) := by decide +kernel
theorem dX9_odds_86 : decode cX9_odds 86 = .ok (.imul, 1) := by decide +kernel
theorem dX9_odds_87 : decode cX9_odds 87 = .ok (.istore 5, 2) := by decide +kernel
theorem dX9_odds_89 : decode cX9_odds 89 = .ok (.iinc 6 1, 3) := by decide +kernel
theorem dX9_odds_92 : decode cX9_odds 92 = .ok (.goto (-36), 3) := by decide +kernel
theorem dX9_odds_95 : decode cX9_odds 95 = .ok (.iload_n 3, 1) := by decide +kernel
theorem dX9_odds_96 : decode cX9_odds 96 = .ok (.ifCond .ne 14, 3) := by decide +kernel
theorem dX9_odds_99 : decode cX9_odds 99 = .ok (.iload 4, 2) := by decide +kernel
theorem dX9_odds_101 : decode cX9_odds 101 = .ok (.iload 5, 2) := by decide +kernel
theorem dX9_odds_103 : decode cX9_odds 103 = .ok (.iload_n 2, 1) := by decide +kernel
theorem dX9_odds_104 : decode cX9_odds 104 = .ok (.invokestatic 225, 3) := by decide +kernel
theorem dX9_odds_107 : decode cX9_odds 107 = .ok (.goto 11, 3) := by decide +kernel
theorem dX9_odds_110 : decode cX9_odds 110 = .ok (.iload 5, 2) := by decide +kernel
theorem dX9_odds_112 : decode cX9_odds 112 = .ok (.iload 4, 2) := by decide +kernel
theorem dX9_odds_114 : decode cX9_odds 114 = .ok (.iload_n 2, 1) := by decide +kernel
theorem dX9_odds_115 : decode cX9_odds 115 = .ok (.invokestatic 225, 3) := by decide +kernel
theorem dX9_odds_118 : decode cX9_odds 118 = .ok (.ireturn, 1) := by decide +kernel
theorem dX9_see_0 : decode cX9_see 0 = .ok (.aload_n 0, 1) := by decide +kernel
theorem dX9_see_1 : decode cX9_see 1 = .ok (.getfield 19, 3) := by decide +kernel
theorem dX9_see_4 : decode cX9_see 4 = .ok (.iload_n 1, 1) := by decide +kernel
theorem dX9_see_5 : decode cX9_see 5 = .ok (.invokevirtual 123, 3) := by decide +kernel
theorem dX9_see_8 : decode cX9_see 8 = .ok (.ifCond .ne 6, 3) := by decide +kernel
theorem dX9_see_11 : decode cX9_see 11 = .ok (.bipush (-101), 2) := by decide +kernel
theorem dX9_see_13 : decode cX9_see 13 = .ok (.ireturn, 1) := by decide +kernel
theorem dX9_see_14 : decode cX9_see 14 = .ok (.iload_n 2, 1) := by decide +kernel
theorem dX9_see_15 : decode cX9_see 15 = .ok (.iconst 1, 1) := by decide +kernel
theorem dX9_see_16 : decode cX9_see 16 = .ok (.bipush 9, 2) := by decide +kernel
theorem dX9_see_18 : decode cX9_see 18 = .ok (.invokestatic 82, 3) := by decide +kernel
theorem dX9_see_21 : decode cX9_see 21 = .ok (.ifCond .eq 13, 3) := by decide +kernel
theorem dX9_see_24 : decode cX9_see 24 = .ok (.iload_n 3, 1) := by decide +kernel
theorem dX9_see_25 : decode cX9_see 25 = .ok (.iconst 0, 1) := by decide +kernel
theorem dX9_see_26 : decode cX9_see 26 = .ok (.bipush 20, 2) := by decide +kernel
theorem dX9_see_28 : decode cX9_see 28 = .ok (.invokestatic 82, 3) := by decide +kernel
theorem dX9_see_31 : decode cX9_see 31 = .ok (.ifCond .ne 6, 3) := by decide +kernel
theorem dX9_see_34 : decode cX9_see 34 = .ok (.bipush (-102), 2) := by decide +kernel
theorem dX9_see_36 : decode cX9_see 36 = .ok (.ireturn, 1) := by decide +kernel
theorem dX9_see_37 : decode cX9_see 37 = .ok (.aload_n 0, 1) := by decide +kernel
theorem dX9_see_38 : decode cX9_see 38 = .ok (.getfield 26, 3) := by decide +kernel
theorem dX9_see_41 : decode cX9_see 41 = .ok (.getfield 122, 3) := by decide +kernel
theorem dX9_see_44 : decode cX9_see 44 = .ok (.bipush 6, 2) := by decide +kernel
theorem dX9_see_46 : decode cX9_see 46 = .ok (.if_icmp .lt 6, 3) := by decide +kernel
theorem dX9_see_49 : decode cX9_see 49 = .ok (.bipush (-104), 2) := by decide +kernel
theorem dX9_see_51 : decode cX9_see 51 = .ok (.ireturn, 1) := by decide +kernel
theorem dX9_see_52 : decode cX9_see 52 = .ok (.aload_n 0, 1) := by decide +kernel
theorem dX9_see_53 : decode cX9_see 53 = .ok (.getfield 26, 3) := by decide +kernel
theorem dX9_see_56 : decode cX9_see 56 = .ok (.iload_n 1, 1) := by decide +kernel
theorem dX9_see_57 : decode cX9_see 57 = .ok (.iload_n 2, 1) := by decide +kernel
theorem dX9_see_58 : decode cX9_see 58 = .ok (.iload_n 3, 1) := by decide +kernel
theorem dX9_see_59 : decode cX9_see 59 = .ok (.invokevirtual 229, 3) := by decide +kernel
theorem dX9_see_62 : decode cX9_see 62 = .ok (.aload_n 0, 1) := by decide +kernel
theorem dX9_see_63 : decode cX9_see 63 = .ok (.getfield 26, 3) := by decide +kernel
theorem dX9_see_66 : decode cX9_see 66 = .ok (.getfield 122, 3) := by decide +kernel
theorem dX9_see_69 : decode cX9_see 69 = .ok (.ireturn, 1) := by decide +kernel
theorem dX9_forget_0 : decode cX9_forget 0 = .ok (.aload_n 0, 1) := by decide +kernel
theorem dX9_forget_1 : decode cX9_forget 1 = .ok (.getfield 26, 3) := by decide +kernel
theorem dX9_forget_4 : decode cX9_forget 4 = .ok (.getfield 122, 3) := by decide +kernel
theorem dX9_forget_7 : decode cX9_forget 7 = .ok (.istore_n 1, 1) := by decide +kernel
theorem dX9_forget_8 : decode cX9_forget 8 = .ok (.aload_n 0, 1) := by decide +kernel
theorem dX9_forget_9 : decode cX9_forget 9 = .ok (.getfield 26, 3) := by decide +kernel
theorem dX9_forget_12 : decode cX9_forget 12 = .ok (.iconst 0, 1) := by decide +kernel
theorem dX9_forget_13 : decode cX9_forget 13 = .ok (.putfield 122, 3) := by decide +kernel
theorem dX9_forget_16 : decode cX9_forget 16 = .ok (.iload_n 1, 1) := by decide +kernel
theorem dX9_forget_17 : decode cX9_forget 17 = .ok (.ireturn, 1) := by decide +kernel
theorem dX9_ages_0 : decode cX9_ages 0 = .ok (.iload_n 1, 1) := by decide +kernel
theorem dX9_ages_1 : decode cX9_ages 1 = .ok (.iconst 1, 1) := by decide +kernel
theorem dX9_ages_2 : decode cX9_ages 2 = .ok (.bipush 60, 2) := by decide +kernel
theorem dX9_ages_4 : decode cX9_ages 4 = .ok (.invokestatic 82, 3) := by decide +kernel
theorem dX9_ages_7 : decode cX9_ages 7 = .ok (.ifCond .eq 16, 3) := by decide +kernel
theorem dX9_ages_10 : decode cX9_ages 10 = .ok (.iload_n 2, 1) := by decide +kernel
theorem dX9_ages_11 : decode cX9_ages 11 = .ok (.ifCond .lt 12, 3) := by decide +kernel
theorem dX9_ages_14 : decode cX9_ages 14 = .ok (.iload_n 3, 1) := by decide +kernel
theorem dX9_ages_15 : decode cX9_ages 15 = .ok (.iconst 0, 1) := by decide +kernel
theorem dX9_ages_16 : decode cX9_ages 16 = .ok (.iconst 2, 1) := by decide +kernel
theorem dX9_ages_17 : decode cX9_ages 17 = .ok (.invokestatic 82, 3) := by decide +kernel
theorem dX9_ages_20 : decode cX9_ages 20 = .ok (.ifCond .ne 6, 3) := by decide +kernel
theorem dX9_ages_23 : decode cX9_ages 23 = .ok (.bipush (-102), 2) := by decide +kernel
theorem dX9_ages_25 : decode cX9_ages 25 = .ok (.ireturn, 1) := by decide +kernel
theorem dX9_ages_26 : decode cX9_ages 26 = .ok (.aload_n 0, 1) := by decide +kernel
theorem dX9_ages_27 : decode cX9_ages 27 = .ok (.getfield 19, 3) := by decide +kernel
theorem dX9_ages_30 : decode cX9_ages 30 = .ok (.getfield 107, 3) := by decide +kernel
theorem dX9_ages_33 : decode cX9_ages 33 = .ok (.ifCond .ne 6, 3) := by decide +kernel
theorem dX9_ages_36 : decode cX9_ages 36 = .ok (.bipush (-103), 2) := by decide +kernel
theorem dX9_ages_38 : decode cX9_ages 38 = .ok (.ireturn, 1) := by decide +kernel
theorem dX9_ages_39 : decode cX9_ages 39 = .ok (.aload_n 0, 1) := by decide +kernel
theorem dX9_ages_40 : decode cX9_ages 40 = .ok (.getfield 36, 3) := by decide +kernel
theorem dX9_ages_43 : decode cX9_ages 43 = .ok (.aload_n 0, 1) := by decide +kernel
theorem dX9_ages_44 : decode cX9_ages 44 = .ok (.getfield 19, 3) := by decide +kernel
theorem dX9_ages_47 : decode cX9_ages 47 = .ok (.invokevirtual 191, 3) := by decide +kernel
theorem dX9_ages_50 : decode cX9_ages 50 = .ok (.aload_n 0, 1) := by decide +kernel
theorem dX9_ages_51 : decode cX9_ages 51 = .ok (.getfield 70, 3) := by decide +kernel
theorem dX9_ages_54 : decode cX9_ages 54 = .ok (.iload_n 2, 1) := by decide +kernel
theorem dX9_ages_55 : decode cX9_ages 55 = .ok (.i2l, 1) := by decide +kernel
theorem dX9_ages_56 : decode cX9_ages 56 = .ok (.putfield 232, 3) := by decide +kernel
theorem dX9_ages_59 : decode cX9_ages 59 = .ok (.iconst 0, 1) := by decide +kernel
theorem dX9_ages_60 : decode cX9_ages 60 = .ok (.istore 4, 2) := by decide +kernel
theorem dX9_ages_62 : decode cX9_ages 62 = .ok (.iconst 0, 1) := by decide +kernel
theorem dX9_ages_63 : decode cX9_ages 63 = .ok (.istore 5, 2) := by decide +kernel
theorem dX9_ages_65 : decode cX9_ages 65 = .ok (.iload 5, 2) := by decide +kernel
theorem dX9_ages_67 : decode cX9_ages 67 = .ok (.iload_n 1, 1) := by decide +kernel
theorem dX9_ages_68 : decode cX9_ages 68 = .ok (.if_icmp .ge 18, 3) := by decide +kernel
theorem dX9_ages_71 : decode cX9_ages 71 = .ok (.iload 4, 2) := by decide +kernel
theorem dX9_ages_73 : decode cX9_ages 73 = .ok (.aload_n 0, 1) := by decide +kernel
theorem dX9_ages_74 : decode cX9_ages 74 = .ok (.invokevirtual 236, 3) := by decide +kernel
theorem dX9_ages_77 : decode cX9_ages 77 = .ok (.iadd, 1) := by decide +kernel
theorem dX9_ages_78 : decode cX9_ages 78 = .ok (.istore 4, 2) := by decide +kernel
theorem dX9_ages_80 : decode cX9_ages 80 = .ok (.iinc 5 1, 3) := by decide +kernel
theorem dX9_ages_83 : decode cX9_ages 83 = .ok (.goto (-18), 3) := by decide +kernel
theorem dX9_ages_86 : decode cX9_ages 86 = .ok (.iload_n 3, 1) := by decide +kernel
theorem dX9_ages_87 : decode cX9_ages 87 = .ok (.lookupswitch 36 #[(0, 25), (1, 28)], 25) := by decide +kernel
theorem dX9_ages_112 : decode cX9_ages 112 = .ok (.iload 4, 2) := by decide +kernel
theorem dX9_ages_114 : decode cX9_ages 114 = .ok (.ireturn, 1) := by decide +kernel
theorem dX9_ages_115 : decode cX9_ages 115 = .ok (.aload_n 0, 1) := by decide +kernel
theorem dX9_ages_116 : decode cX9_ages 116 = .ok (.getfield 36, 3) := by decide +kernel
theorem dX9_ages_119 : decode cX9_ages 119 = .ok (.invokevirtual 239, 3) := by decide +kernel
theorem dX9_ages_122 : decode cX9_ages 122 = .ok (.ireturn, 1) := by decide +kernel
theorem dX9_ages_123 : decode cX9_ages 123 = .ok (.aload_n 0, 1) := by decide +kernel
theorem dX9_ages_124 : decode cX9_ages 124 = .ok (.getfield 70, 3) := by decide +kernel
theorem dX9_ages_127 : decode cX9_ages 127 = .ok (.getfield 232, 3) := by decide +kernel
theorem dX9_ages_130 : decode cX9_ages 130 = .ok (.l2i, 1) := by decide +kernel
theorem dX9_ages_131 : decode cX9_ages 131 = .ok (.ireturn, 1) := by decide +kernel
theorem dX9_image_0 : decode cX9_image 0 = .ok (.aload_n 0, 1) := by decide +kernel
theorem dX9_image_1 : decode cX9_image 1 = .ok (.getfield 19, 3) := by decide +kernel
theorem dX9_image_4 : decode cX9_image 4 = .ok (.getfield 107, 3) := by decide +kernel
theorem dX9_image_7 : decode cX9_image 7 = .ok (.ifCond .ne 6, 3) := by decide +kernel
theorem dX9_image_10 : decode cX9_image 10 = .ok (.bipush (-103), 2) := by decide +kernel
theorem dX9_image_12 : decode cX9_image 12 = .ok (.ireturn, 1) := by decide +kernel
theorem dX9_image_13 : decode cX9_image 13 = .ok (.aload_n 0, 1) := by decide +kernel
theorem dX9_image_14 : decode cX9_image 14 = .ok (.getfield 30, 3) := by decide +kernel
theorem dX9_image_17 : decode cX9_image 17 = .ok (.aload_n 0, 1) := by decide +kernel
theorem dX9_image_18 : decode cX9_image 18 = .ok (.getfield 19, 3) := by decide +kernel
theorem dX9_image_21 : decode cX9_image 21 = .ok (.invokevirtual 191, 3) := by decide +kernel
theorem dX9_image_24 : decode cX9_image 24 = .ok (.aload_n 0, 1) := by decide +kernel
theorem dX9_image_25 : decode cX9_image 25 = .ok (.getfield 33, 3) := by decide +kernel
theorem dX9_image_28 : decode cX9_image 28 = .ok (.aload_n 0, 1) := by decide +kernel
theorem dX9_image_29 : decode cX9_image 29 = .ok (.getfield 26, 3) := by decide +kernel
theorem dX9_image_32 : decode cX9_image 32 = .ok (.invokevirtual 242, 3) := by decide +kernel
theorem dX9_image_35 : decode cX9_image 35 = .ok (.aload_n 0, 1) := by decide +kernel
theorem dX9_image_36 : decode cX9_image 36 = .ok (.iconst 1, 1) := by decide +kernel
theorem dX9_image_37 : decode cX9_image 37 = .ok (.putfield 74, 3) := by decide +kernel
theorem dX9_image_40 : decode cX9_image 40 = .ok (.aload_n 0, 1) := by decide +kernel
theorem dX9_image_41 : decode cX9_image 41 = .ok (.getfield 19, 3) := by decide +kernel
theorem dX9_image_44 : decode cX9_image 44 = .ok (.getfield 166, 3) := by decide +kernel
theorem dX9_image_47 : decode cX9_image 47 = .ok (.ireturn, 1) := by decide +kernel
theorem dX9_restore_0 : decode cX9_restore 0 = .ok (.aload_n 0, 1) := by decide +kernel
theorem dX9_restore_1 : decode cX9_restore 1 = .ok (.getfield 74, 3) := by decide +kernel
theorem dX9_restore_4 : decode cX9_restore 4 = .ok (.ifCond .ne 6, 3) := by decide +kernel
theorem dX9_restore_7 : decode cX9_restore 7 = .ok (.bipush (-103), 2) := by decide +kernel
theorem dX9_restore_9 : decode cX9_restore 9 = .ok (.ireturn, 1) := by decide +kernel
theorem dX9_restore_10 : decode cX9_restore 10 = .ok (.aload_n 0, 1) := by decide +kernel
theorem dX9_restore_11 : decode cX9_restore 11 = .ok (.getfield 19, 3) := by decide +kernel
theorem dX9_restore_14 : decode cX9_restore 14 = .ok (.aload_n 0, 1) := by decide +kernel
theorem dX9_restore_15 : decode cX9_restore 15 = .ok (.getfield 30, 3) := by decide +kernel
theorem dX9_restore_18 : decode cX9_restore 18 = .ok (.invokevirtual 191, 3) := by decide +kernel
theorem dX9_restore_21 : decode cX9_restore 21 = .ok (.aload_n 0, 1) := by decide +kernel
theorem dX9_restore_22 : decode cX9_restore 22 = .ok (.getfield 26, 3) := by decide +kernel
theorem dX9_restore_25 : decode cX9_restore 25 = .ok (.aload_n 0, 1) := by decide +kernel
theorem dX9_restore_26 : decode cX9_restore 26 = .ok (.getfield 33, 3) := by decide +kernel
theorem dX9_restore_29 : decode cX9_restore 29 = .ok (.invokevirtual 242, 3) := by decide +kernel
theorem dX9_restore_32 : decode cX9_restore 32 = .ok (.aload_n 0, 1) := by decide +kernel
theorem dX9_restore_33 : decode cX9_restore 33 = .ok (.getfield 19, 3) := by decide +kernel
theorem dX9_restore_36 : decode cX9_restore 36 = .ok (.getfield 166, 3) := by decide +kernel
theorem dX9_restore_39 : decode cX9_restore 39 = .ok (.ireturn, 1) := by decide +kernel
theorem dX9_count_0 : decode cX9_count 0 = .ok (.iload_n 1, 1) := by decide +kernel
theorem dX9_count_1 : decode cX9_count 1 = .ok (.tableswitch 132 0 9 #[55, 63, 71, 79, 87, 95, 103, 111, 119, 127], 55) := by decide +kernel
theorem dX9_count_56 : decode cX9_count 56 = .ok (.aload_n 0, 1) := by decide +kernel
theorem dX9_count_57 : decode cX9_count 57 = .ok (.getfield 19, 3) := by decide +kernel
theorem dX9_count_60 : decode cX9_count 60 = .ok (.getfield 107, 3) := by decide +kernel
theorem dX9_count_63 : decode cX9_count 63 = .ok (.ireturn, 1) := by decide +kernel
theorem dX9_count_64 : decode cX9_count 64 = .ok (.aload_n 0, 1) := by decide +kernel
theorem dX9_count_65 : decode cX9_count 65 = .ok (.getfield 19, 3) := by decide +kernel
theorem dX9_count_68 : decode cX9_count 68 = .ok (.invokevirtual 239, 3) := by decide +kernel
theorem dX9_count_71 : decode cX9_count 71 = .ok (.ireturn, 1) := by decide +kernel
theorem dX9_count_72 : decode cX9_count 72 = .ok (.aload_n 0, 1) := by decide +kernel
theorem dX9_count_73 : decode cX9_count 73 = .ok (.getfield 19, 3) := by decide +kernel
theorem dX9_count_76 : decode cX9_count 76 = .ok (.invokevirtual 245, 3) := by decide +kernel
theorem dX9_count_79 : decode cX9_count 79 = .ok (.ireturn, 1) := by decide +kernel
theorem dX9_count_80 : decode cX9_count 80 = .ok (.aload_n 0, 1) := by decide +kernel
theorem dX9_count_81 : decode cX9_count 81 = .ok (.getfield 19, 3) := by decide +kernel
theorem dX9_count_84 : decode cX9_count 84 = .ok (.invokevirtual 248, 3) := by decide +kernel
theorem dX9_count_87 : decode cX9_count 87 = .ok (.ireturn, 1) := by decide +kernel
theorem dX9_count_88 : decode cX9_count 88 = .ok (.aload_n 0, 1) := by decide +kernel
theorem dX9_count_89 : decode cX9_count 89 = .ok (.getfield 19, 3) := by decide +kernel
theorem dX9_count_92 : decode cX9_count 92 = .ok (.invokevirtual 251, 3) := by decide +kernel
theorem dX9_count_95 : decode cX9_count 95 = .ok (.ireturn, 1) := by decide +kernel
theorem dX9_count_96 : decode cX9_count 96 = .ok (.aload_n 0, 1) := by decide +kernel
theorem dX9_count_97 : decode cX9_count 97 = .ok (.getfield 19, 3) := by decide +kernel
theorem dX9_count_100 : decode cX9_count 100 = .ok (.getfield 166, 3) := by decide +kernel
theorem dX9_count_103 : decode cX9_count 103 = .ok (.ireturn, 1) := by decide +kernel
theorem dX9_count_104 : decode cX9_count 104 = .ok (.aload_n 0, 1) := by decide +kernel
theorem dX9_count_105 : decode cX9_count 105 = .ok (.getfield 19, 3) := by decide +kernel
theorem dX9_count_108 : decode cX9_count 108 = .ok (.getfield 172, 3) := by decide +kernel
theorem dX9_count_111 : decode cX9_count 111 = .ok (.ireturn, 1) := by decide +kernel
theorem dX9_count_112 : decode cX9_count 112 = .ok (.aload_n 0, 1) := by decide +kernel
theorem dX9_count_113 : decode cX9_count 113 = .ok (.getfield 26, 3) := by decide +kernel
theorem dX9_count_116 : decode cX9_count 116 = .ok (.getfield 122, 3) := by decide +kernel
theorem dX9_count_119 : decode cX9_count 119 = .ok (.ireturn, 1) := by decide +kernel
theorem dX9_count_120 : decode cX9_count 120 = .ok (.aload_n 0, 1) := by decide +kernel
theorem dX9_count_121 : decode cX9_count 121 = .ok (.getfield 10, 3) := by decide +kernel
theorem dX9_count_124 : decode cX9_count 124 = .ok (.getfield 86, 3) := by decide +kernel
theorem dX9_count_127 : decode cX9_count 127 = .ok (.ireturn, 1) := by decide +kernel
theorem dX9_count_128 : decode cX9_count 128 = .ok (.aload_n 0, 1) := by decide +kernel
theorem dX9_count_129 : decode cX9_count 129 = .ok (.getfield 78, 3) := by decide +kernel
theorem dX9_count_132 : decode cX9_count 132 = .ok (.ireturn, 1) := by decide +kernel
theorem dX9_count_133 : decode cX9_count 133 = .ok (.bipush (-102), 2) := by decide +kernel
theorem dX9_count_135 : decode cX9_count 135 = .ok (.ireturn, 1) := by decide +kernel
theorem dX9_digest_0 : decode cX9_digest 0 = .ok (.ldc2_w 254, 3) := by decide +kernel
theorem dX9_digest_3 : decode cX9_digest 3 = .ok (.lstore_n 1, 1) := by decide +kernel
theorem dX9_digest_4 : decode cX9_digest 4 = .ok (.iconst 0, 1) := by decide +kernel
theorem dX9_digest_5 : decode cX9_digest 5 = .ok (.istore_n 3, 1) := by decide +kernel
theorem dX9_digest_6 : decode cX9_digest 6 = .ok (.iload_n 3, 1) := by decide +kernel
theorem dX9_digest_7 : decode cX9_digest 7 = .ok (.aload_n 0, 1) := by decide +kernel
theorem dX9_digest_8 : decode cX9_digest 8 = .ok (.getfield 19, 3) := by decide +kernel
theorem dX9_digest_11 : decode cX9_digest 11 = .ok (.getfield 107, 3) := by decide +kernel
theorem dX9_digest_14 : decode cX9_digest 14 = .ok (.if_icmp .ge 16, 3) := by decide +kernel
theorem dX9_digest_17 : decode cX9_digest 17 = .ok (.aload_n 0, 1) := by decide +kernel
theorem dX9_digest_18 : decode cX9_digest 18 = .ok (.lload_n 1, 1) := by decide +kernel
theorem dX9_digest_19 : decode cX9_digest 19 = .ok (.iload_n 3, 1) := by decide +kernel
theorem dX9_digest_20 : decode cX9_digest 20 = .ok (.invokevirtual 256, 3) := by decide +kernel
theorem dX9_digest_23 : decode cX9_digest 23 = .ok (.lstore_n 1, 1) := by decide +kernel
theorem dX9_digest_24 : decode cX9_digest 24 = .ok (.iinc 3 1, 3) := by decide +kernel
theorem dX9_digest_27 : decode cX9_digest 27 = .ok (.goto (-21), 3) := by decide +kernel
theorem dX9_digest_30 : decode cX9_digest 30 = .ok (.aload_n 0, 1) := by decide +kernel
theorem dX9_digest_31 : decode cX9_digest 31 = .ok (.getfield 19, 3) := by decide +kernel
theorem dX9_digest_34 : decode cX9_digest 34 = .ok (.getfield 107, 3) := by decide +kernel
theorem dX9_digest_37 : decode cX9_digest 37 = .ok (.ifCond .le 140, 3) := by decide +kernel
theorem dX9_digest_40 : decode cX9_digest 40 = .ok (.lload_n 1, 1) := by decide +kernel
theorem dX9_digest_41 : decode cX9_digest 41 = .ok (.aload_n 0, 1) := by decide +kernel
theorem dX9_digest_42 : decode cX9_digest 42 = .ok (.bipush 9, 2) := by decide +kernel
theorem dX9_digest_44 : decode cX9_digest 44 = .ok (.invokevirtual 260, 3) := by decide +kernel
theorem dX9_digest_47 : decode cX9_digest 47 = .ok (.i2l, 1) := by decide +kernel
theorem dX9_digest_48 : decode cX9_digest 48 = .ok (.invokestatic 263, 3) := by decide +kernel
theorem dX9_digest_51 : decode cX9_digest 51 = .ok (.lstore_n 1, 1) := by decide +kernel
theorem dX9_digest_52 : decode cX9_digest 52 = .ok (.lload_n 1, 1) := by decide +kernel
theorem dX9_digest_53 : decode cX9_digest 53 = .ok (.aload_n 0, 1) := by decide +kernel
theorem dX9_digest_54 : decode cX9_digest 54 = .ok (.iconst 2, 1) := by decide +kernel
theorem dX9_digest_55 : decode cX9_digest 55 = .ok (.bipush 9, 2) := by decide +kernel
theorem dX9_digest_57 : decode cX9_digest 57 = .ok (.iconst 0, 1) := by decide +kernel
theorem dX9_digest_58 : decode cX9_digest 58 = .ok (.invokevirtual 267, 3) := by decide +kernel
theorem dX9_digest_61 : decode cX9_digest 61 = .ok (.i2l, 1) := by decide +kernel
theorem dX9_digest_62 : decode cX9_digest 62 = .ok (.invokestatic 263, 3) := by decide +kernel
theorem dX9_digest_65 : decode cX9_digest 65 = .ok (.lstore_n 1, 1) := by decide +kernel
theorem dX9_digest_66 : decode cX9_digest 66 = .ok (.lload_n 1, 1) := by decide +kernel
theorem dX9_digest_67 : decode cX9_digest 67 = .ok (.aload_n 0, 1) := by decide +kernel
theorem dX9_digest_68 : decode cX9_digest 68 = .ok (.iconst 2, 1) := by decide +kernel
theorem dX9_digest_69 : decode cX9_digest 69 = .ok (.bipush 9, 2) := by decide +kernel
theorem dX9_digest_71 : decode cX9_digest 71 = .ok (.iconst 1, 1) := by decide +kernel
theorem dX9_digest_72 : decode cX9_digest 72 = .ok (.invokevirtual 267, 3) := by decide +kernel
theorem dX9_digest_75 : decode cX9_digest 75 = .ok (.i2l, 1) := by decide +kernel
theorem dX9_digest_76 : decode cX9_digest 76 = .ok (.invokestatic 263, 3) := by decide +kernel
theorem dX9_digest_79 : decode cX9_digest 79 = .ok (.lstore_n 1, 1) := by decide +kernel
theorem dX9_digest_80 : decode cX9_digest 80 = .ok (.lload_n 1, 1) := by decide +kernel
theorem dX9_digest_81 : decode cX9_digest 81 = .ok (.aload_n 0, 1) := by decide +kernel
theorem dX9_digest_82 : decode cX9_digest 82 = .ok (.iconst 2, 1) := by decide +kernel
theorem dX9_digest_83 : decode cX9_digest 83 = .ok (.bipush 9, 2) := by decide +kernel
theorem dX9_digest_85 : decode cX9_digest 85 = .ok (.bipush 10, 2) := by decide +kernel
theorem dX9_digest_87 : decode cX9_digest 87 = .ok (.invokevirtual 267, 3) := by decide +kernel
theorem dX9_digest_90 : decode cX9_digest 90 = .ok (.i2l, 1) := by decide +kernel
theorem dX9_digest_91 : decode cX9_digest 91 = .ok (.invokestatic 263, 3) := by decide +kernel
theorem dX9_digest_94 : decode cX9_digest 94 = .ok (.lstore_n 1, 1) := by decide +kernel
theorem dX9_digest_95 : decode cX9_digest 95 = .ok (.lload_n 1, 1) := by decide +kernel
theorem dX9_digest_96 : decode cX9_digest 96 = .ok (.aload_n 0, 1) := by decide +kernel
theorem dX9_digest_97 : decode cX9_digest 97 = .ok (.iconst 2, 1) := by decide +kernel
theorem dX9_digest_98 : decode cX9_digest 98 = .ok (.bipush 9, 2) := by decide +kernel
theorem dX9_digest_100 : decode cX9_digest 100 = .ok (.bipush 11, 2) := by decide +kernel
theorem dX9_digest_102 : decode cX9_digest 102 = .ok (.invokevirtual 267, 3) := by decide +kernel
theorem dX9_digest_105 : decode cX9_digest 105 = .ok (.i2l, 1) := by decide +kernel
theorem dX9_digest_106 : decode cX9_digest 106 = .ok (.invokestatic 263, 3) := by decide +kernel
theorem dX9_digest_109 : decode cX9_digest 109 = .ok (.lstore_n 1, 1) := by decide +kernel
theorem dX9_digest_110 : decode cX9_digest 110 = .ok (.lload_n 1, 1) := by decide +kernel
theorem dX9_digest_111 : decode cX9_digest 111 = .ok (.aload_n 0, 1) := by decide +kernel
theorem dX9_digest_112 : decode cX9_digest 112 = .ok (.iconst 0, 1) := by decide +kernel
theorem dX9_digest_113 : decode cX9_digest 113 = .ok (.invokevirtual 270, 3) := by decide +kernel
theorem dX9_digest_116 : decode cX9_digest 116 = .ok (.i2l, 1) := by decide +kernel
theorem dX9_digest_117 : decode cX9_digest 117 = .ok (.invokestatic 263, 3) := by decide +kernel
theorem dX9_digest_120 : decode cX9_digest 120 = .ok (.lstore_n 1, 1) := by decide +kernel
theorem dX9_digest_121 : decode cX9_digest 121 = .ok (.bipush 10, 2) := by decide +kernel
theorem dX9_digest_123 : decode cX9_digest 123 = .ok (.istore_n 3, 1) := by decide +kernel
theorem dX9_digest_124 : decode cX9_digest 124 = .ok (.iload_n 3, 1) := by decide +kernel
theorem dX9_digest_125 : decode cX9_digest 125 = .ok (.bipush 15, 2) := by decide +kernel
theorem dX9_digest_127 : decode cX9_digest 127 = .ok (.if_icmp .gt 20, 3) := by decide +kernel
theorem dX9_digest_130 : decode cX9_digest 130 = .ok (.lload_n 1, 1) := by decide +kernel
theorem dX9_digest_131 : decode cX9_digest 131 = .ok (.aload_n 0, 1) := by decide +kernel
theorem dX9_digest_132 : decode cX9_digest 132 = .ok (.iload_n 3, 1) := by decide +kernel
theorem dX9_digest_133 : decode cX9_digest 133 = .ok (.invokevirtual 270, 3) := by decide +kernel
theorem dX9_digest_136 : decode cX9_digest 136 = .ok (.i2l, 1) := by decide +kernel
theorem dX9_digest_137 : decode cX9_digest 137 = .ok (.invokestatic 263, 3) := by decide +kernel
theorem dX9_digest_140 : decode cX9_digest 140 = .ok (.lstore_n 1, 1) := by decide +kernel
theorem dX9_digest_141 : decode cX9_digest 141 = .ok (.iinc 3 1, 3) := by decide +kernel
theorem dX9_digest_144 : decode cX9_digest 144 = .ok (.goto (-20), 3) := by decide +kernel
theorem dX9_digest_147 : decode cX9_digest 147 = .ok (.lload_n 1, 1) := by decide +kernel
theorem dX9_digest_148 : decode cX9_digest 148 = .ok (.aload_n 0, 1) := by decide +kernel
theorem dX9_digest_149 : decode cX9_digest 149 = .ok (.bipush 12, 2) := by decide +kernel
theorem dX9_digest_151 : decode cX9_digest 151 = .ok (.bipush 9, 2) := by decide +kernel
theorem dX9_digest_153 : decode cX9_digest 153 = .ok (.iconst 0, 1) := by decide +kernel
theorem dX9_digest_154 : decode cX9_digest 154 = .ok (.invokevirtual 273, 3) := by decide +kernel
theorem dX9_digest_157 : decode cX9_digest 157 = .ok (.i2l, 1) := by decide +kernel
theorem dX9_digest_158 : decode cX9_digest 158 = .ok (.invokestatic 263, 3) := by decide +kernel
theorem dX9_digest_161 : decode cX9_digest 161 = .ok (.lstore_n 1, 1) := by decide +kernel
theorem dX9_digest_162 : decode cX9_digest 162 = .ok (.lload_n 1, 1) := by decide +kernel
theorem dX9_digest_163 : decode cX9_digest 163 = .ok (.aload_n 0, 1) := by decide +kernel
theorem dX9_digest_164 : decode cX9_digest 164 = .ok (.bipush 12, 2) := by decide +kernel
theorem dX9_digest_166 : decode cX9_digest 166 = .ok (.bipush 9, 2) := by decide +kernel
theorem dX9_digest_168 : decode cX9_digest 168 = .ok (.iconst 1, 1) := by decide +kernel
theorem dX9_digest_169 : decode cX9_digest 169 = .ok (.invokevirtual 273, 3) := by decide +kernel
theorem dX9_digest_172 : decode cX9_digest 172 = .ok (.i2l, 1) := by decide +kernel
theorem dX9_digest_173 : decode cX9_digest 173 = .ok (.invokestatic 263, 3) := by decide +kernel
theorem dX9_digest_176 : decode cX9_digest 176 = .ok (.lstore_n 1, 1) := by decide +kernel
theorem dX9_digest_177 : decode cX9_digest 177 = .ok (.iconst 0, 1) := by decide +kernel
theorem dX9_digest_178 : decode cX9_digest 178 = .ok (.istore_n 3, 1) := by decide +kernel
theorem dX9_digest_179 : decode cX9_digest 179 = .ok (.iload_n 3, 1) := by decide +kernel
theorem dX9_digest_180 : decode cX9_digest 180 = .ok (.aload_n 0, 1) := by decide +kernel
theorem dX9_digest_181 : decode cX9_digest 181 = .ok (.getfield 10, 3) := by decide +kernel
theorem dX9_digest_184 : decode cX9_digest 184 = .ok (.getfield 86, 3) := by decide +kernel
theorem dX9_digest_187 : decode cX9_digest 187 = .ok (.if_icmp .ge 26, 3) := by decide +kernel
theorem dX9_digest_190 : decode cX9_digest 190 = .ok (.lload_n 1, 1) := by decide +kernel
theorem dX9_digest_191 : decode cX9_digest 191 = .ok (.aload_n 0, 1) := by decide +kernel
theorem dX9_digest_192 : decode cX9_digest 192 = .ok (.getfield 10, 3) := by decide +kernel
theorem dX9_digest_195 : decode cX9_digest 195 = .ok (.getfield 276, 3) := by decide +kernel
theorem dX9_digest_198 : decode cX9_digest 198 = .ok (.iload_n 3, 1) := by decide +kernel
theorem dX9_digest_199 : decode cX9_digest 199 = .ok (.invokevirtual 131, 3) := by decide +kernel
theorem dX9_digest_202 : decode cX9_digest 202 = .ok (.i2l, 1) := by decide +kernel
theorem dX9_digest_203 : decode cX9_digest 203 = .ok (.invokestatic 263, 3) := by decide +kernel
theorem dX9_digest_206 : decode cX9_digest 206 = .ok (.lstore_n 1, 1) := by decide +kernel
theorem dX9_digest_207 : decode cX9_digest 207 = .ok (.iinc 3 1, 3) := by decide +kernel
theorem dX9_digest_210 : decode cX9_digest 210 = .ok (.goto (-31), 3) := by decide +kernel
theorem dX9_digest_213 : decode cX9_digest 213 = .ok (.iconst 0, 1) := by decide +kernel
theorem dX9_digest_214 : decode cX9_digest 214 = .ok (.istore_n 3, 1) := by decide +kernel
theorem dX9_digest_215 : decode cX9_digest 215 = .ok (.iload_n 3, 1) := by decide +kernel
theorem dX9_digest_216 : decode cX9_digest 216 = .ok (.bipush 9, 2) := by decide +kernel
theorem dX9_digest_218 : decode cX9_digest 218 = .ok (.if_icmp .gt 20, 3) := by decide +kernel
theorem dX9_digest_221 : decode cX9_digest 221 = .ok (.lload_n 1, 1) := by decide +kernel
theorem dX9_digest_222 : decode cX9_digest 222 = .ok (.aload_n 0, 1) := by decide +kernel
theorem dX9_digest_223 : decode cX9_digest 223 = .ok (.iload_n 3, 1) := by decide +kernel
theorem dX9_digest_224 : decode cX9_digest 224 = .ok (.invokevirtual 279, 3) := by decide +kernel
theorem dX9_digest_227 : decode cX9_digest 227 = .ok (.i2l, 1) := by decide +kernel
theorem dX9_digest_228 : decode cX9_digest 228 = .ok (.invokestatic 263, 3) := by decide +kernel
theorem dX9_digest_231 : decode cX9_digest 231 = .ok (.lstore_n 1, 1) := by decide +kernel
theorem dX9_digest_232 : decode cX9_digest 232 = .ok (.iinc 3 1, 3) := by decide +kernel
