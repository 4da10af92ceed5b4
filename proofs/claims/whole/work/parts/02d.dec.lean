theorem dX9_digest_235 : decode cX9_digest 235 = .ok (.goto (-20), 3) := by decide +kernel
theorem dX9_digest_238 : decode cX9_digest 238 = .ok (.lload_n 1, 1) := by decide +kernel
theorem dX9_digest_239 : decode cX9_digest 239 = .ok (.lreturn, 1) := by decide +kernel
theorem dX9_mixHouse_0 : decode cX9_mixHouse 0 = .ok (.lload_n 1, 1) := by decide +kernel
theorem dX9_mixHouse_1 : decode cX9_mixHouse 1 = .ok (.lstore 4, 2) := by decide +kernel
theorem dX9_mixHouse_3 : decode cX9_mixHouse 3 = .ok (.iconst 0, 1) := by decide +kernel
theorem dX9_mixHouse_4 : decode cX9_mixHouse 4 = .ok (.istore 6, 2) := by decide +kernel
theorem dX9_mixHouse_6 : decode cX9_mixHouse 6 = .ok (.iload 6, 2) := by decide +kernel
theorem dX9_mixHouse_8 : decode cX9_mixHouse 8 = .ok (.bipush 6, 2) := by decide +kernel
theorem dX9_mixHouse_10 : decode cX9_mixHouse 10 = .ok (.if_icmp .gt 24, 3) := by decide +kernel
theorem dX9_mixHouse_13 : decode cX9_mixHouse 13 = .ok (.lload 4, 2) := by decide +kernel
theorem dX9_mixHouse_15 : decode cX9_mixHouse 15 = .ok (.aload_n 0, 1) := by decide +kernel
theorem dX9_mixHouse_16 : decode cX9_mixHouse 16 = .ok (.iload_n 3, 1) := by decide +kernel
theorem dX9_mixHouse_17 : decode cX9_mixHouse 17 = .ok (.iload 6, 2) := by decide +kernel
theorem dX9_mixHouse_19 : decode cX9_mixHouse 19 = .ok (.invokevirtual 282, 3) := by decide +kernel
theorem dX9_mixHouse_22 : decode cX9_mixHouse 22 = .ok (.i2l, 1) := by decide +kernel
theorem dX9_mixHouse_23 : decode cX9_mixHouse 23 = .ok (.invokestatic 263, 3) := by decide +kernel
theorem dX9_mixHouse_26 : decode cX9_mixHouse 26 = .ok (.lstore 4, 2) := by decide +kernel
theorem dX9_mixHouse_28 : decode cX9_mixHouse 28 = .ok (.iinc 6 1, 3) := by decide +kernel
theorem dX9_mixHouse_31 : decode cX9_mixHouse 31 = .ok (.goto (-25), 3) := by decide +kernel
theorem dX9_mixHouse_34 : decode cX9_mixHouse 34 = .ok (.lload 4, 2) := by decide +kernel
theorem dX9_mixHouse_36 : decode cX9_mixHouse 36 = .ok (.aload_n 0, 1) := by decide +kernel
theorem dX9_mixHouse_37 : decode cX9_mixHouse 37 = .ok (.iload_n 3, 1) := by decide +kernel
theorem dX9_mixHouse_38 : decode cX9_mixHouse 38 = .ok (.bipush 12, 2) := by decide +kernel
theorem dX9_mixHouse_40 : decode cX9_mixHouse 40 = .ok (.invokevirtual 285, 3) := by decide +kernel
theorem dX9_mixHouse_43 : decode cX9_mixHouse 43 = .ok (.i2l, 1) := by decide +kernel
theorem dX9_mixHouse_44 : decode cX9_mixHouse 44 = .ok (.invokestatic 263, 3) := by decide +kernel
theorem dX9_mixHouse_47 : decode cX9_mixHouse 47 = .ok (.lstore 4, 2) := by decide +kernel
theorem dX9_mixHouse_49 : decode cX9_mixHouse 49 = .ok (.lload 4, 2) := by decide +kernel
theorem dX9_mixHouse_51 : decode cX9_mixHouse 51 = .ok (.aload_n 0, 1) := by decide +kernel
theorem dX9_mixHouse_52 : decode cX9_mixHouse 52 = .ok (.iload_n 3, 1) := by decide +kernel
theorem dX9_mixHouse_53 : decode cX9_mixHouse 53 = .ok (.bipush 8, 2) := by decide +kernel
theorem dX9_mixHouse_55 : decode cX9_mixHouse 55 = .ok (.invokevirtual 288, 3) := by decide +kernel
theorem dX9_mixHouse_58 : decode cX9_mixHouse 58 = .ok (.i2l, 1) := by decide +kernel
theorem dX9_mixHouse_59 : decode cX9_mixHouse 59 = .ok (.invokestatic 263, 3) := by decide +kernel
theorem dX9_mixHouse_62 : decode cX9_mixHouse 62 = .ok (.lstore 4, 2) := by decide +kernel
theorem dX9_mixHouse_64 : decode cX9_mixHouse 64 = .ok (.lload 4, 2) := by decide +kernel
theorem dX9_mixHouse_66 : decode cX9_mixHouse 66 = .ok (.aload_n 0, 1) := by decide +kernel
theorem dX9_mixHouse_67 : decode cX9_mixHouse 67 = .ok (.iload_n 3, 1) := by decide +kernel
theorem dX9_mixHouse_68 : decode cX9_mixHouse 68 = .ok (.iconst 4, 1) := by decide +kernel
theorem dX9_mixHouse_69 : decode cX9_mixHouse 69 = .ok (.iconst 0, 1) := by decide +kernel
theorem dX9_mixHouse_70 : decode cX9_mixHouse 70 = .ok (.invokevirtual 291, 3) := by decide +kernel
theorem dX9_mixHouse_73 : decode cX9_mixHouse 73 = .ok (.i2l, 1) := by decide +kernel
theorem dX9_mixHouse_74 : decode cX9_mixHouse 74 = .ok (.invokestatic 263, 3) := by decide +kernel
theorem dX9_mixHouse_77 : decode cX9_mixHouse 77 = .ok (.lstore 4, 2) := by decide +kernel
theorem dX9_mixHouse_79 : decode cX9_mixHouse 79 = .ok (.lload 4, 2) := by decide +kernel
theorem dX9_mixHouse_81 : decode cX9_mixHouse 81 = .ok (.aload_n 0, 1) := by decide +kernel
theorem dX9_mixHouse_82 : decode cX9_mixHouse 82 = .ok (.iload_n 3, 1) := by decide +kernel
theorem dX9_mixHouse_83 : decode cX9_mixHouse 83 = .ok (.iconst 4, 1) := by decide +kernel
theorem dX9_mixHouse_84 : decode cX9_mixHouse 84 = .ok (.iconst 1, 1) := by decide +kernel
theorem dX9_mixHouse_85 : decode cX9_mixHouse 85 = .ok (.invokevirtual 291, 3) := by decide +kernel
theorem dX9_mixHouse_88 : decode cX9_mixHouse 88 = .ok (.i2l, 1) := by decide +kernel
theorem dX9_mixHouse_89 : decode cX9_mixHouse 89 = .ok (.invokestatic 263, 3) := by decide +kernel
theorem dX9_mixHouse_92 : decode cX9_mixHouse 92 = .ok (.lreturn, 1) := by decide +kernel
theorem dX9_mix_0 : decode cX9_mix 0 = .ok (.ldc2_w 294, 3) := by decide +kernel
theorem dX9_mix_3 : decode cX9_mix 3 = .ok (.lload_n 0, 1) := by decide +kernel
theorem dX9_mix_4 : decode cX9_mix 4 = .ok (.lmul, 1) := by decide +kernel
theorem dX9_mix_5 : decode cX9_mix 5 = .ok (.lload_n 2, 1) := by decide +kernel
theorem dX9_mix_6 : decode cX9_mix 6 = .ok (.ladd, 1) := by decide +kernel
theorem dX9_mix_7 : decode cX9_mix 7 = .ok (.lreturn, 1) := by decide +kernel
theorem dX9_oneAge_0 : decode cX9_oneAge 0 = .ok (.aload_n 0, 1) := by decide +kernel
theorem dX9_oneAge_1 : decode cX9_oneAge 1 = .ok (.getfield 70, 3) := by decide +kernel
theorem dX9_oneAge_4 : decode cX9_oneAge 4 = .ok (.aload_n 0, 1) := by decide +kernel
theorem dX9_oneAge_5 : decode cX9_oneAge 5 = .ok (.getfield 36, 3) := by decide +kernel
theorem dX9_oneAge_8 : decode cX9_oneAge 8 = .ok (.getfield 107, 3) := by decide +kernel
theorem dX9_oneAge_11 : decode cX9_oneAge 11 = .ok (.invokevirtual 296, 3) := by decide +kernel
theorem dX9_oneAge_14 : decode cX9_oneAge 14 = .ok (.istore_n 1, 1) := by decide +kernel
theorem dX9_oneAge_15 : decode cX9_oneAge 15 = .ok (.aload_n 0, 1) := by decide +kernel
theorem dX9_oneAge_16 : decode cX9_oneAge 16 = .ok (.getfield 70, 3) := by decide +kernel
theorem dX9_oneAge_19 : decode cX9_oneAge 19 = .ok (.iconst 2, 1) := by decide +kernel
theorem dX9_oneAge_20 : decode cX9_oneAge 20 = .ok (.invokevirtual 296, 3) := by decide +kernel
theorem dX9_oneAge_23 : decode cX9_oneAge 23 = .ok (.ifCond .ne 14, 3) := by decide +kernel
theorem dX9_oneAge_26 : decode cX9_oneAge 26 = .ok (.aload_n 0, 1) := by decide +kernel
theorem dX9_oneAge_27 : decode cX9_oneAge 27 = .ok (.getfield 36, 3) := by decide +kernel
theorem dX9_oneAge_30 : decode cX9_oneAge 30 = .ok (.iload_n 1, 1) := by decide +kernel
theorem dX9_oneAge_31 : decode cX9_oneAge 31 = .ok (.invokevirtual 178, 3) := by decide +kernel
theorem dX9_oneAge_34 : decode cX9_oneAge 34 = .ok (.goto 22, 3) := by decide +kernel
theorem dX9_oneAge_37 : decode cX9_oneAge 37 = .ok (.aload_n 0, 1) := by decide +kernel
theorem dX9_oneAge_38 : decode cX9_oneAge 38 = .ok (.getfield 36, 3) := by decide +kernel
theorem dX9_oneAge_41 : decode cX9_oneAge 41 = .ok (.iload_n 1, 1) := by decide +kernel
theorem dX9_oneAge_42 : decode cX9_oneAge 42 = .ok (.invokevirtual 181, 3) := by decide +kernel
theorem dX9_oneAge_45 : decode cX9_oneAge 45 = .ok (.ifCond .eq 11, 3) := by decide +kernel
theorem dX9_oneAge_48 : decode cX9_oneAge 48 = .ok (.aload_n 0, 1) := by decide +kernel
theorem dX9_oneAge_49 : decode cX9_oneAge 49 = .ok (.getfield 36, 3) := by decide +kernel
theorem dX9_oneAge_52 : decode cX9_oneAge 52 = .ok (.iload_n 1, 1) := by decide +kernel
theorem dX9_oneAge_53 : decode cX9_oneAge 53 = .ok (.invokevirtual 184, 3) := by decide +kernel
theorem dX9_oneAge_56 : decode cX9_oneAge 56 = .ok (.aload_n 0, 1) := by decide +kernel
theorem dX9_oneAge_57 : decode cX9_oneAge 57 = .ok (.getfield 36, 3) := by decide +kernel
theorem dX9_oneAge_60 : decode cX9_oneAge 60 = .ok (.invokevirtual 169, 3) := by decide +kernel
theorem dX9_oneAge_63 : decode cX9_oneAge 63 = .ok (.aload_n 0, 1) := by decide +kernel
theorem dX9_oneAge_64 : decode cX9_oneAge 64 = .ok (.getfield 36, 3) := by decide +kernel
theorem dX9_oneAge_67 : decode cX9_oneAge 67 = .ok (.aload_n 0, 1) := by decide +kernel
theorem dX9_oneAge_68 : decode cX9_oneAge 68 = .ok (.getfield 70, 3) := by decide +kernel
theorem dX9_oneAge_71 : decode cX9_oneAge 71 = .ok (.bipush 16, 2) := by decide +kernel
theorem dX9_oneAge_73 : decode cX9_oneAge 73 = .ok (.invokevirtual 296, 3) := by decide +kernel
theorem dX9_oneAge_76 : decode cX9_oneAge 76 = .ok (.invokevirtual 175, 3) := by decide +kernel
theorem dX9_oneAge_79 : decode cX9_oneAge 79 = .ok (.ireturn, 1) := by decide +kernel
theorem dX9_inLowestTerms_0 : decode cX9_inLowestTerms 0 = .ok (.iload_n 0, 1) := by decide +kernel
theorem dX9_inLowestTerms_1 : decode cX9_inLowestTerms 1 = .ok (.istore_n 3, 1) := by decide +kernel
theorem dX9_inLowestTerms_2 : decode cX9_inLowestTerms 2 = .ok (.iload_n 1, 1) := by decide +kernel
theorem dX9_inLowestTerms_3 : decode cX9_inLowestTerms 3 = .ok (.istore 4, 2) := by decide +kernel
theorem dX9_inLowestTerms_5 : decode cX9_inLowestTerms 5 = .ok (.iconst 0, 1) := by decide +kernel
theorem dX9_inLowestTerms_6 : decode cX9_inLowestTerms 6 = .ok (.istore 5, 2) := by decide +kernel
theorem dX9_inLowestTerms_8 : decode cX9_inLowestTerms 8 = .ok (.iload 5, 2) := by decide +kernel
theorem dX9_inLowestTerms_10 : decode cX9_inLowestTerms 10 = .ok (.iload_n 2, 1) := by decide +kernel
theorem dX9_inLowestTerms_11 : decode cX9_inLowestTerms 11 = .ok (.if_icmp .ge 55, 3) := by decide +kernel
theorem dX9_inLowestTerms_14 : decode cX9_inLowestTerms 14 = .ok (.iload_n 3, 1) := by decide +kernel
theorem dX9_inLowestTerms_15 : decode cX9_inLowestTerms 15 = .ok (.iconst 2, 1) := by decide +kernel
theorem dX9_inLowestTerms_16 : decode cX9_inLowestTerms 16 = .ok (.irem, 1) := by decide +kernel
theorem dX9_inLowestTerms_17 : decode cX9_inLowestTerms 17 = .ok (.ifCond .ne 20, 3) := by decide +kernel
theorem dX9_inLowestTerms_20 : decode cX9_inLowestTerms 20 = .ok (.iload 4, 2) := by decide +kernel
theorem dX9_inLowestTerms_22 : decode cX9_inLowestTerms 22 = .ok (.iconst 2, 1) := by decide +kernel
theorem dX9_inLowestTerms_23 : decode cX9_inLowestTerms 23 = .ok (.irem, 1) := by decide +kernel
theorem dX9_inLowestTerms_24 : decode cX9_inLowestTerms 24 = .ok (.ifCond .ne 13, 3) := by decide +kernel
theorem dX9_inLowestTerms_27 : decode cX9_inLowestTerms 27 = .ok (.iload_n 3, 1) := by decide +kernel
theorem dX9_inLowestTerms_28 : decode cX9_inLowestTerms 28 = .ok (.iconst 2, 1) := by decide +kernel
theorem dX9_inLowestTerms_29 : decode cX9_inLowestTerms 29 = .ok (.idiv, 1) := by decide +kernel
theorem dX9_inLowestTerms_30 : decode cX9_inLowestTerms 30 = .ok (.istore_n 3, 1) := by decide +kernel
theorem dX9_inLowestTerms_31 : decode cX9_inLowestTerms 31 = .ok (.iload 4, 2) := by decide +kernel
theorem dX9_inLowestTerms_33 : decode cX9_inLowestTerms 33 = .ok (.iconst 2, 1) := by decide +kernel
theorem dX9_inLowestTerms_34 : decode cX9_inLowestTerms 34 = .ok (.idiv, 1) := by decide +kernel
theorem dX9_inLowestTerms_35 : decode cX9_inLowestTerms 35 = .ok (.istore 4, 2) := by decide +kernel
theorem dX9_inLowestTerms_37 : decode cX9_inLowestTerms 37 = .ok (.iload_n 3, 1) := by decide +kernel
theorem dX9_inLowestTerms_38 : decode cX9_inLowestTerms 38 = .ok (.iconst 5, 1) := by decide +kernel
theorem dX9_inLowestTerms_39 : decode cX9_inLowestTerms 39 = .ok (.irem, 1) := by decide +kernel
theorem dX9_inLowestTerms_40 : decode cX9_inLowestTerms 40 = .ok (.ifCond .ne 20, 3) := by decide +kernel
theorem dX9_inLowestTerms_43 : decode cX9_inLowestTerms 43 = .ok (.iload 4, 2) := by decide +kernel
theorem dX9_inLowestTerms_45 : decode cX9_inLowestTerms 45 = .ok (.iconst 5, 1) := by decide +kernel
theorem dX9_inLowestTerms_46 : decode cX9_inLowestTerms 46 = .ok (.irem, 1) := by decide +kernel
theorem dX9_inLowestTerms_47 : decode cX9_inLowestTerms 47 = .ok (.ifCond .ne 13, 3) := by decide +kernel
theorem dX9_inLowestTerms_50 : decode cX9_inLowestTerms 50 = .ok (.iload_n 3, 1) := by decide +kernel
theorem dX9_inLowestTerms_51 : decode cX9_inLowestTerms 51 = .ok (.iconst 5, 1) := by decide +kernel
theorem dX9_inLowestTerms_52 : decode cX9_inLowestTerms 52 = .ok (.idiv, 1) := by decide +kernel
theorem dX9_inLowestTerms_53 : decode cX9_inLowestTerms 53 = .ok (.istore_n 3, 1) := by decide +kernel
theorem dX9_inLowestTerms_54 : decode cX9_inLowestTerms 54 = .ok (.iload 4, 2) := by decide +kernel
theorem dX9_inLowestTerms_56 : decode cX9_inLowestTerms 56 = .ok (.iconst 5, 1) := by decide +kernel
theorem dX9_inLowestTerms_57 : decode cX9_inLowestTerms 57 = .ok (.idiv, 1) := by decide +kernel
theorem dX9_inLowestTerms_58 : decode cX9_inLowestTerms 58 = .ok (.istore 4, 2) := by decide +kernel
theorem dX9_inLowestTerms_60 : decode cX9_inLowestTerms 60 = .ok (.iinc 5 1, 3) := by decide +kernel
theorem dX9_inLowestTerms_63 : decode cX9_inLowestTerms 63 = .ok (.goto (-55), 3) := by decide +kernel
theorem dX9_inLowestTerms_66 : decode cX9_inLowestTerms 66 = .ok (.iload_n 3, 1) := by decide +kernel
theorem dX9_inLowestTerms_67 : decode cX9_inLowestTerms 67 = .ok (.ireturn, 1) := by decide +kernel
theorem dX9_within_0 : decode cX9_within 0 = .ok (.iload_n 0, 1) := by decide +kernel
theorem dX9_within_1 : decode cX9_within 1 = .ok (.iload_n 1, 1) := by decide +kernel
theorem dX9_within_2 : decode cX9_within 2 = .ok (.if_icmp .lt 12, 3) := by decide +kernel
theorem dX9_within_5 : decode cX9_within 5 = .ok (.iload_n 0, 1) := by decide +kernel
theorem dX9_within_6 : decode cX9_within 6 = .ok (.iload_n 2, 1) := by decide +kernel
theorem dX9_within_7 : decode cX9_within 7 = .ok (.if_icmp .gt 7, 3) := by decide +kernel
theorem dX9_within_10 : decode cX9_within 10 = .ok (.iconst 1, 1) := by decide +kernel
theorem dX9_within_11 : decode cX9_within 11 = .ok (.goto 4, 3) := by decide +kernel
theorem dX9_within_14 : decode cX9_within 14 = .ok (.iconst 0, 1) := by decide +kernel
theorem dX9_within_15 : decode cX9_within 15 = .ok (.ireturn, 1) := by decide +kernel
theorem dX9_isOfKind_0 : decode cX9_isOfKind 0 = .ok (.iload_n 1, 1) := by decide +kernel
theorem dX9_isOfKind_1 : decode cX9_isOfKind 1 = .ok (.ifCond .eq 18, 3) := by decide +kernel
theorem dX9_isOfKind_4 : decode cX9_isOfKind 4 = .ok (.iload_n 1, 1) := by decide +kernel
theorem dX9_isOfKind_5 : decode cX9_isOfKind 5 = .ok (.iload_n 0, 1) := by decide +kernel
theorem dX9_isOfKind_6 : decode cX9_isOfKind 6 = .ok (.if_icmp .eq 13, 3) := by decide +kernel
theorem dX9_isOfKind_9 : decode cX9_isOfKind 9 = .ok (.iload_n 1, 1) := by decide +kernel
theorem dX9_isOfKind_10 : decode cX9_isOfKind 10 = .ok (.iconst 1, 1) := by decide +kernel
theorem dX9_isOfKind_11 : decode cX9_isOfKind 11 = .ok (.if_icmp .ne 12, 3) := by decide +kernel
theorem dX9_isOfKind_14 : decode cX9_isOfKind 14 = .ok (.iload_n 0, 1) := by decide +kernel
theorem dX9_isOfKind_15 : decode cX9_isOfKind 15 = .ok (.iconst 4, 1) := by decide +kernel
theorem dX9_isOfKind_16 : decode cX9_isOfKind 16 = .ok (.if_icmp .ne 7, 3) := by decide +kernel
theorem dX9_isOfKind_19 : decode cX9_isOfKind 19 = .ok (.iconst 1, 1) := by decide +kernel
theorem dX9_isOfKind_20 : decode cX9_isOfKind 20 = .ok (.goto 4, 3) := by decide +kernel
theorem dX9_isOfKind_23 : decode cX9_isOfKind 23 = .ok (.iconst 0, 1) := by decide +kernel
theorem dX9_isOfKind_24 : decode cX9_isOfKind 24 = .ok (.ireturn, 1) := by decide +kernel
theorem dX9_grown_0 : decode cX9_grown 0 = .ok (.iconst 1, 1) := by decide +kernel
theorem dX9_grown_1 : decode cX9_grown 1 = .ok (.iload_n 2, 1) := by decide +kernel
theorem dX9_grown_2 : decode cX9_grown 2 = .ok (.iconst 3, 1) := by decide +kernel
theorem dX9_grown_3 : decode cX9_grown 3 = .ok (.idiv, 1) := by decide +kernel
theorem dX9_grown_4 : decode cX9_grown 4 = .ok (.isub, 1) := by decide +kernel
theorem dX9_grown_5 : decode cX9_grown 5 = .ok (.istore 5, 2) := by decide +kernel
theorem dX9_grown_7 : decode cX9_grown 7 = .ok (.iload_n 0, 1) := by decide +kernel
theorem dX9_grown_8 : decode cX9_grown 8 = .ok (.tableswitch 73 1 4 #[32, 55, 64, 38], 32) := by decide +kernel
theorem dX9_grown_40 : decode cX9_grown 40 = .ok (.iconst 0, 1) := by decide +kernel
theorem dX9_grown_41 : decode cX9_grown 41 = .ok (.istore 6, 2) := by decide +kernel
theorem dX9_grown_43 : decode cX9_grown 43 = .ok (.goto 42, 3) := by decide +kernel
theorem dX9_grown_46 : decode cX9_grown 46 = .ok (.iload 4, 2) := by decide +kernel
theorem dX9_grown_48 : decode cX9_grown 48 = .ok (.iconst 2, 1) := by decide +kernel
theorem dX9_grown_49 : decode cX9_grown 49 = .ok (.irem, 1) := by decide +kernel
theorem dX9_grown_50 : decode cX9_grown 50 = .ok (.ifCond .ne 7, 3) := by decide +kernel
theorem dX9_grown_53 : decode cX9_grown 53 = .ok (.iconst 0, 1) := by decide +kernel
theorem dX9_grown_54 : decode cX9_grown 54 = .ok (.goto 4, 3) := by decide +kernel
theorem dX9_grown_57 : decode cX9_grown 57 = .ok (.iconst (-1), 1) := by decide +kernel
theorem dX9_grown_58 : decode cX9_grown 58 = .ok (.istore 6, 2) := by decide +kernel
theorem dX9_grown_60 : decode cX9_grown 60 = .ok (.goto 25, 3) := by decide +kernel
theorem dX9_grown_63 : decode cX9_grown 63 = .ok (.iload 5, 2) := by decide +kernel
theorem dX9_grown_65 : decode cX9_grown 65 = .ok (.iconst 2, 1) := by decide +kernel
theorem dX9_grown_66 : decode cX9_grown 66 = .ok (.isub, 1) := by decide +kernel
theorem dX9_grown_67 : decode cX9_grown 67 = .ok (.istore 6, 2) := by decide +kernel
theorem dX9_grown_69 : decode cX9_grown 69 = .ok (.goto 16, 3) := by decide +kernel
theorem dX9_grown_72 : decode cX9_grown 72 = .ok (.iload 5, 2) := by decide +kernel
theorem dX9_grown_74 : decode cX9_grown 74 = .ok (.iconst 1, 1) := by decide +kernel
theorem dX9_grown_75 : decode cX9_grown 75 = .ok (.iadd, 1) := by decide +kernel
theorem dX9_grown_76 : decode cX9_grown 76 = .ok (.istore 6, 2) := by decide +kernel
theorem dX9_grown_78 : decode cX9_grown 78 = .ok (.goto 7, 3) := by decide +kernel
theorem dX9_grown_81 : decode cX9_grown 81 = .ok (.iload 5, 2) := by decide +kernel
theorem dX9_grown_83 : decode cX9_grown 83 = .ok (.istore 6, 2) := by decide +kernel
theorem dX9_grown_85 : decode cX9_grown 85 = .ok (.iload_n 1, 1) := by decide +kernel
theorem dX9_grown_86 : decode cX9_grown 86 = .ok (.iload 6, 2) := by decide +kernel
theorem dX9_grown_88 : decode cX9_grown 88 = .ok (.iadd, 1) := by decide +kernel
theorem dX9_grown_89 : decode cX9_grown 89 = .ok (.iconst 3, 1) := by decide +kernel
theorem dX9_grown_90 : decode cX9_grown 90 = .ok (.iload_n 3, 1) := by decide +kernel
theorem dX9_grown_91 : decode cX9_grown 91 = .ok (.imul, 1) := by decide +kernel
theorem dX9_grown_92 : decode cX9_grown 92 = .ok (.iadd, 1) := by decide +kernel
theorem dX9_grown_93 : decode cX9_grown 93 = .ok (.istore 7, 2) := by decide +kernel
theorem dX9_grown_95 : decode cX9_grown 95 = .ok (.iload 7, 2) := by decide +kernel
theorem dX9_grown_97 : decode cX9_grown 97 = .ok (.ifCond .ge 5, 3) := by decide +kernel
theorem dX9_grown_100 : decode cX9_grown 100 = .ok (.iconst 0, 1) := by decide +kernel
theorem dX9_grown_101 : decode cX9_grown 101 = .ok (.ireturn, 1) := by decide +kernel
theorem dX9_grown_102 : decode cX9_grown 102 = .ok (.iload 7, 2) := by decide +kernel
theorem dX9_grown_104 : decode cX9_grown 104 = .ok (.bipush 20, 2) := by decide +kernel
theorem dX9_grown_106 : decode cX9_grown 106 = .ok (.if_icmp .le 8, 3) := by decide +kernel
theorem dX9_grown_109 : decode cX9_grown 109 = .ok (.bipush 20, 2) := by decide +kernel
theorem dX9_grown_111 : decode cX9_grown 111 = .ok (.goto 5, 3) := by decide +kernel
theorem dX9_grown_114 : decode cX9_grown 114 = .ok (.iload 7, 2) := by decide +kernel
theorem dX9_grown_116 : decode cX9_grown 116 = .ok (.ireturn, 1) := by decide +kernel
theorem dX9_rainBehind_0 : decode cX9_rainBehind 0 = .ok (.iload_n 0, 1) := by decide +kernel
theorem dX9_rainBehind_1 : decode cX9_rainBehind 1 = .ok (.iconst 2, 1) := by decide +kernel
theorem dX9_rainBehind_2 : decode cX9_rainBehind 2 = .ok (.iload_n 1, 1) := by decide +kernel
theorem dX9_rainBehind_3 : decode cX9_rainBehind 3 = .ok (.imul, 1) := by decide +kernel
theorem dX9_rainBehind_4 : decode cX9_rainBehind 4 = .ok (.isub, 1) := by decide +kernel
theorem dX9_rainBehind_5 : decode cX9_rainBehind 5 = .ok (.istore_n 2, 1) := by decide +kernel
theorem dX9_rainBehind_6 : decode cX9_rainBehind 6 = .ok (.iload_n 2, 1) := by decide +kernel
theorem dX9_rainBehind_7 : decode cX9_rainBehind 7 = .ok (.ifCond .ge 7, 3) := by decide +kernel
theorem dX9_rainBehind_10 : decode cX9_rainBehind 10 = .ok (.iconst 0, 1) := by decide +kernel
theorem dX9_rainBehind_11 : decode cX9_rainBehind 11 = .ok (.goto 4, 3) := by decide +kernel
theorem dX9_rainBehind_14 : decode cX9_rainBehind 14 = .ok (.iload_n 2, 1) := by decide +kernel
theorem dX9_rainBehind_15 : decode cX9_rainBehind 15 = .ok (.ireturn, 1) := by decide +kernel
theorem dX10_init_0 : decode cX10_init 0 = .ok (.aload_n 0, 1) := by decide +kernel
theorem dX10_init_1 : decode cX10_init 1 = .ok (.invokespecial 1, 3) := by decide +kernel
theorem dX10_init_4 : decode cX10_init 4 = .ok (.aload_n 0, 1) := by decide +kernel
theorem dX10_init_5 : decode cX10_init 5 = .ok (.bipush 6, 2) := by decide +kernel
theorem dX10_init_7 : decode cX10_init 7 = .ok (.newarray .int, 2) := by decide +kernel
theorem dX10_init_9 : decode cX10_init 9 = .ok (.putfield 7, 3) := by decide +kernel
theorem dX10_init_12 : decode cX10_init 12 = .ok (.aload_n 0, 1) := by decide +kernel
theorem dX10_init_13 : decode cX10_init 13 = .ok (.bipush 6, 2) := by decide +kernel
theorem dX10_init_15 : decode cX10_init 15 = .ok (.newarray .int, 2) := by decide +kernel
theorem dX10_init_17 : decode cX10_init 17 = .ok (.putfield 13, 3) := by decide +kernel
theorem dX10_init_20 : decode cX10_init 20 = .ok (.aload_n 0, 1) := by decide +kernel
theorem dX10_init_21 : decode cX10_init 21 = .ok (.bipush 6, 2) := by decide +kernel
theorem dX10_init_23 : decode cX10_init 23 = .ok (.newarray .int, 2) := by decide +kernel
theorem dX10_init_25 : decode cX10_init 25 = .ok (.putfield 16, 3) := by decide +kernel
theorem dX10_init_28 : decode cX10_init 28 = .ok (.aload_n 0, 1) := by decide +kernel
theorem dX10_init_29 : decode cX10_init 29 = .ok (.bipush 6, 2) := by decide +kernel
theorem dX10_init_31 : decode cX10_init 31 = .ok (.newarray .int, 2) := by decide +kernel
theorem dX10_init_33 : decode cX10_init 33 = .ok (.putfield 19, 3) := by decide +kernel
theorem dX10_init_36 : decode cX10_init 36 = .ok (.aload_n 0, 1) := by decide +kernel
theorem dX10_init_37 : decode cX10_init 37 = .ok (.bipush 6, 2) := by decide +kernel
theorem dX10_init_39 : decode cX10_init 39 = .ok (.newarray .int, 2) := by decide +kernel
theorem dX10_init_41 : decode cX10_init 41 = .ok (.putfield 22, 3) := by decide +kernel
theorem dX10_init_44 : decode cX10_init 44 = .ok (.aload_n 0, 1) := by decide +kernel
theorem dX10_init_45 : decode cX10_init 45 = .ok (.bipush 6, 2) := by decide +kernel
theorem dX10_init_47 : decode cX10_init 47 = .ok (.newarray .int, 2) := by decide +kernel
theorem dX10_init_49 : decode cX10_init 49 = .ok (.putfield 25, 3) := by decide +kernel
theorem dX10_init_52 : decode cX10_init 52 = .ok (.aload_n 0, 1) := by decide +kernel
theorem dX10_init_53 : decode cX10_init 53 = .ok (.bipush 26, 2) := by decide +kernel
theorem dX10_init_55 : decode cX10_init 55 = .ok (.newarray .byte, 2) := by decide +kernel
theorem dX10_init_57 : decode cX10_init 57 = .ok (.putfield 28, 3) := by decide +kernel
theorem dX10_init_60 : decode cX10_init 60 = .ok (.aload_n 0, 1) := by decide +kernel
theorem dX10_init_61 : decode cX10_init 61 = .ok (.bipush 6, 2) := by decide +kernel
theorem dX10_init_63 : decode cX10_init 63 = .ok (.newarray .int, 2) := by decide +kernel
theorem dX10_init_65 : decode cX10_init 65 = .ok (.putfield 32, 3) := by decide +kernel
theorem dX10_init_68 : decode cX10_init 68 = .ok (.aload_n 0, 1) := by decide +kernel
theorem dX10_init_69 : decode cX10_init 69 = .ok (.bipush 6, 2) := by decide +kernel
theorem dX10_init_71 : decode cX10_init 71 = .ok (.newarray .int, 2) := by decide +kernel
theorem dX10_init_73 : decode cX10_init 73 = .ok (.putfield 35, 3) := by decide +kernel
theorem dX10_init_76 : decode cX10_init 76 = .ok (.aload_n 0, 1) := by decide +kernel
theorem dX10_init_77 : decode cX10_init 77 = .ok (.bipush 64, 2) := by decide +kernel
theorem dX10_init_79 : decode cX10_init 79 = .ok (.newarray .int, 2) := by decide +kernel
theorem dX10_init_81 : decode cX10_init 81 = .ok (.putfield 38, 3) := by decide +kernel
theorem dX10_init_84 : decode cX10_init 84 = .ok (.aload_n 0, 1) := by decide +kernel
theorem dX10_init_85 : decode cX10_init 85 = .ok (.bipush 6, 2) := by decide +kernel
theorem dX10_init_87 : decode cX10_init 87 = .ok (.newarray .int, 2) := by decide +kernel
theorem dX10_init_89 : decode cX10_init 89 = .ok (.putfield 41, 3) := by decide +kernel
theorem dX10_init_92 : decode cX10_init 92 = .ok (.aload_n 0, 1) := by decide +kernel
theorem dX10_init_93 : decode cX10_init 93 = .ok (.bipush 49, 2) := by decide +kernel
theorem dX10_init_95 : decode cX10_init 95 = .ok (.newarray .int, 2) := by decide +kernel
theorem dX10_init_97 : decode cX10_init 97 = .ok (.putfield 44, 3) := by decide +kernel
theorem dX10_init_100 : decode cX10_init 100 = .ok (.aload_n 0, 1) := by decide +kernel
theorem dX10_init_101 : decode cX10_init 101 = .ok (.bipush 49, 2) := by decide +kernel
theorem dX10_init_103 : decode cX10_init 103 = .ok (.newarray .int, 2) := by decide +kernel
theorem dX10_init_105 : decode cX10_init 105 = .ok (.putfield 47, 3) := by decide +kernel
theorem dX10_init_108 : decode cX10_init 108 = .ok (.aload_n 0, 1) := by decide +kernel
theorem dX10_init_109 : decode cX10_init 109 = .ok (.bipush 21, 2) := by decide +kernel
theorem dX10_init_111 : decode cX10_init 111 = .ok (.newarray .int, 2) := by decide +kernel
theorem dX10_init_113 : decode cX10_init 113 = .ok (.putfield 50, 3) := by decide +kernel
theorem dX10_init_116 : decode cX10_init 116 = .ok (.aload_n 0, 1) := by decide +kernel
theorem dX10_init_117 : decode cX10_init 117 = .ok (.bipush 6, 2) := by decide +kernel
theorem dX10_init_119 : decode cX10_init 119 = .ok (.newarray .int, 2) := by decide +kernel
theorem dX10_init_121 : decode cX10_init 121 = .ok (.putfield 53, 3) := by decide +kernel
theorem dX10_init_124 : decode cX10_init 124 = .ok (.aload_n 0, 1) := by decide +kernel
theorem dX10_init_125 : decode cX10_init 125 = .ok (.bipush 6, 2) := by decide +kernel
theorem dX10_init_127 : decode cX10_init 127 = .ok (.newarray .int, 2) := by decide +kernel
theorem dX10_init_129 : decode cX10_init 129 = .ok (.putfield 56, 3) := by decide +kernel
theorem dX10_init_132 : decode cX10_init 132 = .ok (.aload_n 0, 1) := by decide +kernel
theorem dX10_init_133 : decode cX10_init 133 = .ok (.bipush 6, 2) := by decide +kernel
theorem dX10_init_135 : decode cX10_init 135 = .ok (.newarray .int, 2) := by decide +kernel
theorem dX10_init_137 : decode cX10_init 137 = .ok (.putfield 59, 3) := by decide +kernel
theorem dX10_init_140 : decode cX10_init 140 = .ok (.aload_n 0, 1) := by decide +kernel
theorem dX10_init_141 : decode cX10_init 141 = .ok (.bipush 6, 2) := by decide +kernel
theorem dX10_init_143 : decode cX10_init 143 = .ok (.newarray .int, 2) := by decide +kernel
theorem dX10_init_145 : decode cX10_init 145 = .ok (.putfield 62, 3) := by decide +kernel
theorem dX10_init_148 : decode cX10_init 148 = .ok (.aload_n 0, 1) := by decide +kernel
theorem dX10_init_149 : decode cX10_init 149 = .ok (.bipush 6, 2) := by decide +kernel
theorem dX10_init_151 : decode cX10_init 151 = .ok (.newarray .int, 2) := by decide +kernel
theorem dX10_init_153 : decode cX10_init 153 = .ok (.putfield 65, 3) := by decide +kernel
theorem dX10_init_156 : decode cX10_init 156 = .ok (.aload_n 0, 1) := by decide +kernel
theorem dX10_init_157 : decode cX10_init 157 = .ok (.bipush 6, 2) := by decide +kernel
theorem dX10_init_159 : decode cX10_init 159 = .ok (.newarray .int, 2) := by decide +kernel
theorem dX10_init_161 : decode cX10_init 161 = .ok (.putfield 68, 3) := by decide +kernel
theorem dX10_init_164 : decode cX10_init 164 = .ok (.return_, 1) := by decide +kernel
theorem dX10_within_0 : decode cX10_within 0 = .ok (.iload_n 0, 1) := by decide +kernel
theorem dX10_within_1 : decode cX10_within 1 = .ok (.iload_n 1, 1) := by decide +kernel
theorem dX10_within_2 : decode cX10_within 2 = .ok (.if_icmp .lt 12, 3) := by decide +kernel
theorem dX10_within_5 : decode cX10_within 5 = .ok (.iload_n 0, 1) := by decide +kernel
theorem dX10_within_6 : decode cX10_within 6 = .ok (.iload_n 2, 1) := by decide +kernel
theorem dX10_within_7 : decode cX10_within 7 = .ok (.if_icmp .gt 7, 3) := by decide +kernel
theorem dX10_within_10 : decode cX10_within 10 = .ok (.iconst 1, 1) := by decide +kernel
theorem dX10_within_11 : decode cX10_within 11 = .ok (.goto 4, 3) := by decide +kernel
theorem dX10_within_14 : decode cX10_within 14 = .ok (.iconst 0, 1) := by decide +kernel
theorem dX10_within_15 : decode cX10_within 15 = .ok (.ireturn, 1) := by decide +kernel
theorem dX10_isIn_0 : decode cX10_isIn 0 = .ok (.iload_n 0, 1) := by decide +kernel
theorem dX10_isIn_1 : decode cX10_isIn 1 = .ok (.iload_n 1, 1) := by decide +kernel
theorem dX10_isIn_2 : decode cX10_isIn 2 = .ok (.ishr, 1) := by decide +kernel
theorem dX10_isIn_3 : decode cX10_isIn 3 = .ok (.iconst 1, 1) := by decide +kernel
theorem dX10_isIn_4 : decode cX10_isIn 4 = .ok (.iand, 1) := by decide +kernel
theorem dX10_isIn_5 : decode cX10_isIn 5 = .ok (.iconst 1, 1) := by decide +kernel
theorem dX10_isIn_6 : decode cX10_isIn 6 = .ok (.if_icmp .ne 7, 3) := by decide +kernel
theorem dX10_isIn_9 : decode cX10_isIn 9 = .ok (.iconst 1, 1) := by decide +kernel
theorem dX10_isIn_10 : decode cX10_isIn 10 = .ok (.goto 4, 3) := by decide +kernel
theorem dX10_isIn_13 : decode cX10_isIn 13 = .ok (.iconst 0, 1) := by decide +kernel
theorem dX10_isIn_14 : decode cX10_isIn 14 = .ok (.ireturn, 1) := by decide +kernel
theorem dX10_size_0 : decode cX10_size 0 = .ok (.iconst 0, 1) := by decide +kernel
theorem dX10_size_1 : decode cX10_size 1 = .ok (.istore_n 1, 1) := by decide +kernel
theorem dX10_size_2 : decode cX10_size 2 = .ok (.iconst 0, 1) := by decide +kernel
theorem dX10_size_3 : decode cX10_size 3 = .ok (.istore_n 2, 1) := by decide +kernel
theorem dX10_size_4 : decode cX10_size 4 = .ok (.iload_n 2, 1) := by decide +kernel
theorem dX10_size_5 : decode cX10_size 5 = .ok (.bipush 10, 2) := by decide +kernel
theorem dX10_size_7 : decode cX10_size 7 = .ok (.if_icmp .ge 17, 3) := by decide +kernel
theorem dX10_size_10 : decode cX10_size 10 = .ok (.iload_n 1, 1) := by decide +kernel
theorem dX10_size_11 : decode cX10_size 11 = .ok (.iload_n 0, 1) := by decide +kernel
theorem dX10_size_12 : decode cX10_size 12 = .ok (.iload_n 2, 1) := by decide +kernel
theorem dX10_size_13 : decode cX10_size 13 = .ok (.ishr, 1) := by decide +kernel
theorem dX10_size_14 : decode cX10_size 14 = .ok (.iconst 1, 1) := by decide +kernel
theorem dX10_size_15 : decode cX10_size 15 = .ok (.iand, 1) := by decide +kernel
theorem dX10_size_16 : decode cX10_size 16 = .ok (.iadd, 1) := by decide +kernel
theorem dX10_size_17 : decode cX10_size 17 = .ok (.istore_n 1, 1) := by decide +kernel
theorem dX10_size_18 : decode cX10_size 18 = .ok (.iinc 2 1, 3) := by decide +kernel
theorem dX10_size_21 : decode cX10_size 21 = .ok (.goto (-17), 3) := by decide +kernel
theorem dX10_size_24 : decode cX10_size 24 = .ok (.iload_n 1, 1) := by decide +kernel
theorem dX10_size_25 : decode cX10_size 25 = .ok (.ireturn, 1) := by decide +kernel
theorem dX10_divisor_0 : decode cX10_divisor 0 = .ok (.iload_n 0, 1) := by decide +kernel
theorem dX10_divisor_1 : decode cX10_divisor 1 = .ok (.istore_n 2, 1) := by decide +kernel
theorem dX10_divisor_2 : decode cX10_divisor 2 = .ok (.iload_n 1, 1) := by decide +kernel
theorem dX10_divisor_3 : decode cX10_divisor 3 = .ok (.istore_n 3, 1) := by decide +kernel
theorem dX10_divisor_4 : decode cX10_divisor 4 = .ok (.iload_n 3, 1) := by decide +kernel
theorem dX10_divisor_5 : decode cX10_divisor 5 = .ok (.ifCond .eq 16, 3) := by decide +kernel
theorem dX10_divisor_8 : decode cX10_divisor 8 = .ok (.iload_n 2, 1) := by decide +kernel
theorem dX10_divisor_9 : decode cX10_divisor 9 = .ok (.iload_n 3, 1) := by decide +kernel
theorem dX10_divisor_10 : decode cX10_divisor 10 = .ok (.irem, 1) := by decide +kernel
theorem dX10_divisor_11 : decode cX10_divisor 11 = .ok (.istore 4, 2) := by decide +kernel
theorem dX10_divisor_13 : decode cX10_divisor 13 = .ok (.iload_n 3, 1) := by decide +kernel
theorem dX10_divisor_14 : decode cX10_divisor 14 = .ok (.istore_n 2, 1) := by decide +kernel
theorem dX10_divisor_15 : decode cX10_divisor 15 = .ok (.iload 4, 2) := by decide +kernel
theorem dX10_divisor_17 : decode cX10_divisor 17 = .ok (.istore_n 3, 1) := by decide +kernel
theorem dX10_divisor_18 : decode cX10_divisor 18 = .ok (.goto (-14), 3) := by decide +kernel
theorem dX10_divisor_21 : decode cX10_divisor 21 = .ok (.iload_n 2, 1) := by decide +kernel
theorem dX10_divisor_22 : decode cX10_divisor 22 = .ok (.ireturn, 1) := by decide +kernel
theorem dX10_letter_0 : decode cX10_letter 0 = .ok (.iload_n 1, 1) := by decide +kernel
theorem dX10_letter_1 : decode cX10_letter 1 = .ok (.bipush 32, 2) := by decide +kernel
theorem dX10_letter_3 : decode cX10_letter 3 = .ok (.bipush 126, 2) := by decide +kernel
theorem dX10_letter_5 : decode cX10_letter 5 = .ok (.invokestatic 71, 3) := by decide +kernel
theorem dX10_letter_8 : decode cX10_letter 8 = .ok (.ifCond .ne 6, 3) := by decide +kernel
theorem dX10_letter_11 : decode cX10_letter 11 = .ok (.bipush (-102), 2) := by decide +kernel
theorem dX10_letter_13 : decode cX10_letter 13 = .ok (.ireturn, 1) := by decide +kernel
theorem dX10_letter_14 : decode cX10_letter 14 = .ok (.aload_n 0, 1) := by decide +kernel
theorem dX10_letter_15 : decode cX10_letter 15 = .ok (.getfield 75, 3) := by decide +kernel
theorem dX10_letter_18 : decode cX10_letter 18 = .ok (.bipush 26, 2) := by decide +kernel
theorem dX10_letter_20 : decode cX10_letter 20 = .ok (.if_icmp .ne 6, 3) := by decide +kernel
theorem dX10_letter_23 : decode cX10_letter 23 = .ok (.bipush (-104), 2) := by decide +kernel
theorem dX10_letter_25 : decode cX10_letter 25 = .ok (.ireturn, 1) := by decide +kernel
theorem dX10_letter_26 : decode cX10_letter 26 = .ok (.aload_n 0, 1) := by decide +kernel
theorem dX10_letter_27 : decode cX10_letter 27 = .ok (.getfield 28, 3) := by decide +kernel
theorem dX10_letter_30 : decode cX10_letter 30 = .ok (.aload_n 0, 1) := by decide +kernel
theorem dX10_letter_31 : decode cX10_letter 31 = .ok (.getfield 75, 3) := by decide +kernel
theorem dX10_letter_34 : decode cX10_letter 34 = .ok (.iload_n 1, 1) := by decide +kernel
theorem dX10_letter_35 : decode cX10_letter 35 = .ok (.i2b, 1) := by decide +kernel
theorem dX10_letter_36 : decode cX10_letter 36 = .ok (.bastore, 1) := by decide +kernel
theorem dX10_letter_37 : decode cX10_letter 37 = .ok (.aload_n 0, 1) := by decide +kernel
theorem dX10_letter_38 : decode cX10_letter 38 = .ok (.dup, 1) := by decide +kernel
theorem dX10_letter_39 : decode cX10_letter 39 = .ok (.getfield 75, 3) := by decide +kernel
theorem dX10_letter_42 : decode cX10_letter 42 = .ok (.iconst 1, 1) := by decide +kernel
theorem dX10_letter_43 : decode cX10_letter 43 = .ok (.iadd, 1) := by decide +kernel
theorem dX10_letter_44 : decode cX10_letter 44 = .ok (.putfield 75, 3) := by decide +kernel
theorem dX10_letter_47 : decode cX10_letter 47 = .ok (.aload_n 0, 1) := by decide +kernel
theorem dX10_letter_48 : decode cX10_letter 48 = .ok (.getfield 75, 3) := by decide +kernel
theorem dX10_letter_51 : decode cX10_letter 51 = .ok (.ireturn, 1) := by decide +kernel
theorem dX10_blank_0 : decode cX10_blank 0 = .ok (.aload_n 0, 1) := by decide +kernel
theorem dX10_blank_1 : decode cX10_blank 1 = .ok (.getfield 75, 3) := by decide +kernel
theorem dX10_blank_4 : decode cX10_blank 4 = .ok (.istore_n 1, 1) := by decide +kernel
theorem dX10_blank_5 : decode cX10_blank 5 = .ok (.aload_n 0, 1) := by decide +kernel
theorem dX10_blank_6 : decode cX10_blank 6 = .ok (.iconst 0, 1) := by decide +kernel
theorem dX10_blank_7 : decode cX10_blank 7 = .ok (.putfield 75, 3) := by decide +kernel
theorem dX10_blank_10 : decode cX10_blank 10 = .ok (.iload_n 1, 1) := by decide +kernel
theorem dX10_blank_11 : decode cX10_blank 11 = .ok (.ireturn, 1) := by decide +kernel
theorem dX10_kindBy_0 : decode cX10_kindBy 0 = .ok (.iload_n 0, 1) := by decide +kernel
theorem dX10_kindBy_1 : decode cX10_kindBy 1 = .ok (.lookupswitch 61 #[(104, 51), (111, 55), (116, 59), (119, 53), (121, 57)], 51) := by decide +kernel
theorem dX10_kindBy_52 : decode cX10_kindBy 52 = .ok (.iconst 0, 1) := by decide +kernel
theorem dX10_kindBy_53 : decode cX10_kindBy 53 = .ok (.ireturn, 1) := by decide +kernel
theorem dX10_kindBy_54 : decode cX10_kindBy 54 = .ok (.iconst 1, 1) := by decide +kernel
theorem dX10_kindBy_55 : decode cX10_kindBy 55 = .ok (.ireturn, 1) := by decide +kernel
theorem dX10_kindBy_56 : decode cX10_kindBy 56 = .ok (.iconst 2, 1) := by decide +kernel
theorem dX10_kindBy_57 : decode cX10_kindBy 57 = .ok (.ireturn, 1) := by decide +kernel
theorem dX10_kindBy_58 : decode cX10_kindBy 58 = .ok (.iconst 3, 1) := by decide +kernel
theorem dX10_kindBy_59 : decode cX10_kindBy 59 = .ok (.ireturn, 1) := by decide +kernel
theorem dX10_kindBy_60 : decode cX10_kindBy 60 = .ok (.iconst 4, 1) := by decide +kernel
theorem dX10_kindBy_61 : decode cX10_kindBy 61 = .ok (.ireturn, 1) := by decide +kernel
theorem dX10_kindBy_62 : decode cX10_kindBy 62 = .ok (.iconst (-1), 1) := by decide +kernel
theorem dX10_kindBy_63 : decode cX10_kindBy 63 = .ok (.ireturn, 1) := by decide +kernel
theorem dX10_at_0 : decode cX10_at 0 = .ok (.iload_n 1, 1) := by decide +kernel
theorem dX10_at_1 : decode cX10_at 1 = .ok (.aload_n 0, 1) := by decide +kernel
theorem dX10_at_2 : decode cX10_at 2 = .ok (.getfield 75, 3) := by decide +kernel
theorem dX10_at_5 : decode cX10_at 5 = .ok (.if_icmp .ge 12, 3) := by decide +kernel
theorem dX10_at_8 : decode cX10_at 8 = .ok (.aload_n 0, 1) := by decide +kernel
theorem dX10_at_9 : decode cX10_at 9 = .ok (.getfield 28, 3) := by decide +kernel
theorem dX10_at_12 : decode cX10_at 12 = .ok (.iload_n 1, 1) := by decide +kernel
theorem dX10_at_13 : decode cX10_at 13 = .ok (.baload, 1) := by decide +kernel
theorem dX10_at_14 : decode cX10_at 14 = .ok (.goto 4, 3) := by decide +kernel
theorem dX10_at_17 : decode cX10_at 17 = .ok (.iconst 0, 1) := by decide +kernel
theorem dX10_at_18 : decode cX10_at 18 = .ok (.ireturn, 1) := by decide +kernel
theorem dX10_isFigure_0 : decode cX10_isFigure 0 = .ok (.aload_n 0, 1) := by decide +kernel
theorem dX10_isFigure_1 : decode cX10_isFigure 1 = .ok (.iload_n 1, 1) := by decide +kernel
theorem dX10_isFigure_2 : decode cX10_isFigure 2 = .ok (.invokevirtual 79, 3) := by decide +kernel
theorem dX10_isFigure_5 : decode cX10_isFigure 5 = .ok (.bipush 48, 2) := by decide +kernel
theorem dX10_isFigure_7 : decode cX10_isFigure 7 = .ok (.isub, 1) := by decide +kernel
theorem dX10_isFigure_8 : decode cX10_isFigure 8 = .ok (.iconst 0, 1) := by decide +kernel
theorem dX10_isFigure_9 : decode cX10_isFigure 9 = .ok (.bipush 9, 2) := by decide +kernel
theorem dX10_isFigure_11 : decode cX10_isFigure 11 = .ok (.invokestatic 71, 3) := by decide +kernel
theorem dX10_isFigure_14 : decode cX10_isFigure 14 = .ok (.ireturn, 1) := by decide +kernel
theorem dX10_read_0 : decode cX10_read 0 = .ok (.aload_n 0, 1) := by decide +kernel
theorem dX10_read_1 : decode cX10_read 1 = .ok (.iconst 0, 1) := by decide +kernel
theorem dX10_read_2 : decode cX10_read 2 = .ok (.putfield 83, 3) := by decide +kernel
theorem dX10_read_5 : decode cX10_read 5 = .ok (.aload_n 0, 1) := by decide +kernel
theorem dX10_read_6 : decode cX10_read 6 = .ok (.iconst 0, 1) := by decide +kernel
theorem dX10_read_7 : decode cX10_read 7 = .ok (.putfield 87, 3) := by decide +kernel
theorem dX10_read_10 : decode cX10_read 10 = .ok (.iconst 0, 1) := by decide +kernel
theorem dX10_read_11 : decode cX10_read 11 = .ok (.istore_n 1, 1) := by decide +kernel
theorem dX10_read_12 : decode cX10_read 12 = .ok (.aload_n 0, 1) := by decide +kernel
theorem dX10_read_13 : decode cX10_read 13 = .ok (.getfield 87, 3) := by decide +kernel
theorem dX10_read_16 : decode cX10_read 16 = .ok (.bipush 6, 2) := by decide +kernel
theorem dX10_read_18 : decode cX10_read 18 = .ok (.if_icmp .ge 102, 3) := by decide +kernel
theorem dX10_read_21 : decode cX10_read 21 = .ok (.aload_n 0, 1) := by decide +kernel
theorem dX10_read_22 : decode cX10_read 22 = .ok (.iload_n 1, 1) := by decide +kernel
theorem dX10_read_23 : decode cX10_read 23 = .ok (.invokevirtual 79, 3) := by decide +kernel
theorem dX10_read_26 : decode cX10_read 26 = .ok (.invokestatic 90, 3) := by decide +kernel
theorem dX10_read_29 : decode cX10_read 29 = .ok (.iconst (-1), 1) := by decide +kernel
theorem dX10_read_30 : decode cX10_read 30 = .ok (.if_icmp .ne 5, 3) := by decide +kernel
theorem dX10_read_33 : decode cX10_read 33 = .ok (.iload_n 1, 1) := by decide +kernel
theorem dX10_read_34 : decode cX10_read 34 = .ok (.ireturn, 1) := by decide +kernel
theorem dX10_read_35 : decode cX10_read 35 = .ok (.aload_n 0, 1) := by decide +kernel
theorem dX10_read_36 : decode cX10_read 36 = .ok (.iload_n 1, 1) := by decide +kernel
theorem dX10_read_37 : decode cX10_read 37 = .ok (.iconst 1, 1) := by decide +kernel
theorem dX10_read_38 : decode cX10_read 38 = .ok (.iadd, 1) := by decide +kernel
theorem dX10_read_39 : decode cX10_read 39 = .ok (.invokevirtual 93, 3) := by decide +kernel
theorem dX10_read_42 : decode cX10_read 42 = .ok (.ifCond .ne 7, 3) := by decide +kernel
theorem dX10_read_45 : decode cX10_read 45 = .ok (.iload_n 1, 1) := by decide +kernel
theorem dX10_read_46 : decode cX10_read 46 = .ok (.iconst 1, 1) := by decide +kernel
theorem dX10_read_47 : decode cX10_read 47 = .ok (.iadd, 1) := by decide +kernel
theorem dX10_read_48 : decode cX10_read 48 = .ok (.ireturn, 1) := by decide +kernel
theorem dX10_read_49 : decode cX10_read 49 = .ok (.aload_n 0, 1) := by decide +kernel
theorem dX10_read_50 : decode cX10_read 50 = .ok (.iload_n 1, 1) := by decide +kernel
theorem dX10_read_51 : decode cX10_read 51 = .ok (.iconst 2, 1) := by decide +kernel
theorem dX10_read_52 : decode cX10_read 52 = .ok (.iadd, 1) := by decide +kernel
theorem dX10_read_53 : decode cX10_read 53 = .ok (.invokevirtual 93, 3) := by decide +kernel
theorem dX10_read_56 : decode cX10_read 56 = .ok (.ifCond .ne 7, 3) := by decide +kernel
theorem dX10_read_59 : decode cX10_read 59 = .ok (.iload_n 1, 1) := by decide +kernel
theorem dX10_read_60 : decode cX10_read 60 = .ok (.iconst 2, 1) := by decide +kernel
theorem dX10_read_61 : decode cX10_read 61 = .ok (.iadd, 1) := by decide +kernel
theorem dX10_read_62 : decode cX10_read 62 = .ok (.ireturn, 1) := by decide +kernel
theorem dX10_read_63 : decode cX10_read 63 = .ok (.aload_n 0, 1) := by decide +kernel
theorem dX10_read_64 : decode cX10_read 64 = .ok (.dup, 1) := by decide +kernel
theorem dX10_read_65 : decode cX10_read 65 = .ok (.getfield 87, 3) := by decide +kernel
theorem dX10_read_68 : decode cX10_read 68 = .ok (.iconst 1, 1) := by decide +kernel
theorem dX10_read_69 : decode cX10_read 69 = .ok (.iadd, 1) := by decide +kernel
theorem dX10_read_70 : decode cX10_read 70 = .ok (.putfield 87, 3) := by decide +kernel
theorem dX10_read_73 : decode cX10_read 73 = .ok (.iinc 1 3, 3) := by decide +kernel
theorem dX10_read_76 : decode cX10_read 76 = .ok (.aload_n 0, 1) := by decide +kernel
theorem dX10_read_77 : decode cX10_read 77 = .ok (.iload_n 1, 1) := by decide +kernel
theorem dX10_read_78 : decode cX10_read 78 = .ok (.aload_n 0, 1) := by decide +kernel
theorem dX10_read_79 : decode cX10_read 79 = .ok (.getfield 75, 3) := by decide +kernel
theorem dX10_read_82 : decode cX10_read 82 = .ok (.if_icmp .ne 7, 3) := by decide +kernel
theorem dX10_read_85 : decode cX10_read 85 = .ok (.iconst 1, 1) := by decide +kernel
theorem dX10_read_86 : decode cX10_read 86 = .ok (.goto 4, 3) := by decide +kernel
theorem dX10_read_89 : decode cX10_read 89 = .ok (.iconst 0, 1) := by decide +kernel
theorem dX10_read_90 : decode cX10_read 90 = .ok (.putfield 83, 3) := by decide +kernel
theorem dX10_read_93 : decode cX10_read 93 = .ok (.aload_n 0, 1) := by decide +kernel
theorem dX10_read_94 : decode cX10_read 94 = .ok (.getfield 87, 3) := by decide +kernel
theorem dX10_read_97 : decode cX10_read 97 = .ok (.bipush 6, 2) := by decide +kernel
theorem dX10_read_99 : decode cX10_read 99 = .ok (.if_icmp .eq 13, 3) := by decide +kernel
theorem dX10_read_102 : decode cX10_read 102 = .ok (.aload_n 0, 1) := by decide +kernel
theorem dX10_read_103 : decode cX10_read 103 = .ok (.iload_n 1, 1) := by decide +kernel
theorem dX10_read_104 : decode cX10_read 104 = .ok (.invokevirtual 79, 3) := by decide +kernel
theorem dX10_read_107 : decode cX10_read 107 = .ok (.bipush 44, 2) := by decide +kernel
theorem dX10_read_109 : decode cX10_read 109 = .ok (.if_icmp .eq 5, 3) := by decide +kernel
theorem dX10_read_112 : decode cX10_read 112 = .ok (.iload_n 1, 1) := by decide +kernel
theorem dX10_read_113 : decode cX10_read 113 = .ok (.ireturn, 1) := by decide +kernel
theorem dX10_read_114 : decode cX10_read 114 = .ok (.iinc 1 1, 3) := by decide +kernel
theorem dX10_read_117 : decode cX10_read 117 = .ok (.goto (-105), 3) := by decide +kernel
theorem dX10_read_120 : decode cX10_read 120 = .ok (.iload_n 1, 1) := by decide +kernel
theorem dX10_read_121 : decode cX10_read 121 = .ok (.ireturn, 1) := by decide +kernel
theorem dX10_fault_0 : decode cX10_fault 0 = .ok (.aload_n 0, 1) := by decide +kernel
theorem dX10_fault_1 : decode cX10_fault 1 = .ok (.invokevirtual 97, 3) := by decide +kernel
theorem dX10_fault_4 : decode cX10_fault 4 = .ok (.ireturn, 1) := by decide +kernel
theorem dX10_lane_0 : decode cX10_lane 0 = .ok (.aload_n 0, 1) := by decide +kernel
theorem dX10_lane_1 : decode cX10_lane 1 = .ok (.invokevirtual 97, 3) := by decide +kernel
theorem dX10_lane_4 : decode cX10_lane 4 = .ok (.pop, 1) := by decide +kernel
theorem dX10_lane_5 : decode cX10_lane 5 = .ok (.aload_n 0, 1) := by decide +kernel
theorem dX10_lane_6 : decode cX10_lane 6 = .ok (.getfield 83, 3) := by decide +kernel
theorem dX10_lane_9 : decode cX10_lane 9 = .ok (.ifCond .ne 6, 3) := by decide +kernel
theorem dX10_lane_12 : decode cX10_lane 12 = .ok (.bipush (-103), 2) := by decide +kernel
theorem dX10_lane_14 : decode cX10_lane 14 = .ok (.ireturn, 1) := by decide +kernel
theorem dX10_lane_15 : decode cX10_lane 15 = .ok (.aload_n 0, 1) := by decide +kernel
theorem dX10_lane_16 : decode cX10_lane 16 = .ok (.aload_n 0, 1) := by decide +kernel
theorem dX10_lane_17 : decode cX10_lane 17 = .ok (.getfield 87, 3) := by decide +kernel
theorem dX10_lane_20 : decode cX10_lane 20 = .ok (.putfield 101, 3) := by decide +kernel
theorem dX10_lane_23 : decode cX10_lane 23 = .ok (.iconst 0, 1) := by decide +kernel
theorem dX10_lane_24 : decode cX10_lane 24 = .ok (.istore_n 1, 1) := by decide +kernel
theorem dX10_lane_25 : decode cX10_lane 25 = .ok (.iload_n 1, 1) := by decide +kernel
theorem dX10_lane_26 : decode cX10_lane 26 = .ok (.aload_n 0, 1) := by decide +kernel
theorem dX10_lane_27 : decode cX10_lane 27 = .ok (.getfield 101, 3) := by decide +kernel
theorem dX10_lane_30 : decode cX10_lane 30 = .ok (.if_icmp .ge 64, 3) := by decide +kernel
theorem dX10_lane_33 : decode cX10_lane 33 = .ok (.aload_n 0, 1) := by decide +kernel
theorem dX10_lane_34 : decode cX10_lane 34 = .ok (.getfield 7, 3) := by decide +kernel
theorem dX10_lane_37 : decode cX10_lane 37 = .ok (.iload_n 1, 1) := by decide +kernel
theorem dX10_lane_38 : decode cX10_lane 38 = .ok (.aload_n 0, 1) := by decide +kernel
theorem dX10_lane_39 : decode cX10_lane 39 = .ok (.getfield 28, 3) := by decide +kernel
theorem dX10_lane_42 : decode cX10_lane 42 = .ok (.iconst 4, 1) := by decide +kernel
theorem dX10_lane_43 : decode cX10_lane 43 = .ok (.iload_n 1, 1) := by decide +kernel
theorem dX10_lane_44 : decode cX10_lane 44 = .ok (.imul, 1) := by decide +kernel
theorem dX10_lane_45 : decode cX10_lane 45 = .ok (.baload, 1) := by decide +kernel
theorem dX10_lane_46 : decode cX10_lane 46 = .ok (.invokestatic 90, 3) := by decide +kernel
theorem dX10_lane_49 : decode cX10_lane 49 = .ok (.iastore, 1) := by decide +kernel
theorem dX10_lane_50 : decode cX10_lane 50 = .ok (.aload_n 0, 1) := by decide +kernel
theorem dX10_lane_51 : decode cX10_lane 51 = .ok (.getfield 13, 3) := by decide +kernel
theorem dX10_lane_54 : decode cX10_lane 54 = .ok (.iload_n 1, 1) := by decide +kernel
theorem dX10_lane_55 : decode cX10_lane 55 = .ok (.aload_n 0, 1) := by decide +kernel
theorem dX10_lane_56 : decode cX10_lane 56 = .ok (.getfield 28, 3) := by decide +kernel
theorem dX10_lane_59 : decode cX10_lane 59 = .ok (.iconst 4, 1) := by decide +kernel
theorem dX10_lane_60 : decode cX10_lane 60 = .ok (.iload_n 1, 1) := by decide +kernel
theorem dX10_lane_61 : decode cX10_lane 61 = .ok (.imul, 1) := by decide +kernel
theorem dX10_lane_62 : decode cX10_lane 62 = .ok (.iconst 1, 1) := by decide +kernel
theorem dX10_lane_63 : decode cX10_lane 63 = .ok (.iadd, 1) := by decide +kernel
theorem dX10_lane_64 : decode cX10_lane 64 = .ok (.baload, 1) := by decide +kernel
theorem dX10_lane_65 : decode cX10_lane 65 = .ok (.bipush 48, 2) := by decide +kernel
theorem dX10_lane_67 : decode cX10_lane 67 = .ok (.isub, 1) := by decide +kernel
theorem dX10_lane_68 : decode cX10_lane 68 = .ok (.iastore, 1) := by decide +kernel
theorem dX10_lane_69 : decode cX10_lane 69 = .ok (.aload_n 0, 1) := by decide +kernel
theorem dX10_lane_70 : decode cX10_lane 70 = .ok (.getfield 16, 3) := by decide +kernel
theorem dX10_lane_73 : decode cX10_lane 73 = .ok (.iload_n 1, 1) := by decide +kernel
theorem dX10_lane_74 : decode cX10_lane 74 = .ok (.aload_n 0, 1) := by decide +kernel
theorem dX10_lane_75 : decode cX10_lane 75 = .ok (.getfield 28, 3) := by decide +kernel
theorem dX10_lane_78 : decode cX10_lane 78 = .ok (.iconst 4, 1) := by decide +kernel
theorem dX10_lane_79 : decode cX10_lane 79 = .ok (.iload_n 1, 1) := by decide +kernel
theorem dX10_lane_80 : decode cX10_lane 80 = .ok (.imul, 1) := by decide +kernel
theorem dX10_lane_81 : decode cX10_lane 81 = .ok (.iconst 2, 1) := by decide +kernel
theorem dX10_lane_82 : decode cX10_lane 82 = .ok (.iadd, 1) := by decide +kernel
theorem dX10_lane_83 : decode cX10_lane 83 = .ok (.baload, 1) := by decide +kernel
theorem dX10_lane_84 : decode cX10_lane 84 = .ok (.bipush 48, 2) := by decide +kernel
theorem dX10_lane_86 : decode cX10_lane 86 = .ok (.isub, 1) := by decide +kernel
theorem dX10_lane_87 : decode cX10_lane 87 = .ok (.iastore, 1) := by decide +kernel
theorem dX10_lane_88 : decode cX10_lane 88 = .ok (.iinc 1 1, 3) := by decide +kernel
theorem dX10_lane_91 : decode cX10_lane 91 = .ok (.goto (-66), 3) := by decide +kernel
theorem dX10_lane_94 : decode cX10_lane 94 = .ok (.aload_n 0, 1) := by decide +kernel
theorem dX10_lane_95 : decode cX10_lane 95 = .ok (.iconst 0, 1) := by decide +kernel
theorem dX10_lane_96 : decode cX10_lane 96 = .ok (.putfield 104, 3) := by decide +kernel
theorem dX10_lane_99 : decode cX10_lane 99 = .ok (.aload_n 0, 1) := by decide +kernel
theorem dX10_lane_100 : decode cX10_lane 100 = .ok (.iconst 0, 1) := by decide +kernel
theorem dX10_lane_101 : decode cX10_lane 101 = .ok (.putfield 107, 3) := by decide +kernel
theorem dX10_lane_104 : decode cX10_lane 104 = .ok (.aload_n 0, 1) := by decide +kernel
theorem dX10_lane_105 : decode cX10_lane 105 = .ok (.iconst 0, 1) := by decide +kernel
theorem dX10_lane_106 : decode cX10_lane 106 = .ok (.putfield 110, 3) := by decide +kernel
theorem dX10_lane_109 : decode cX10_lane 109 = .ok (.aload_n 0, 1) := by decide +kernel
theorem dX10_lane_110 : decode cX10_lane 110 = .ok (.dup, 1) := by decide +kernel
theorem dX10_lane_111 : decode cX10_lane 111 = .ok (.getfield 113, 3) := by decide +kernel
theorem dX10_lane_114 : decode cX10_lane 114 = .ok (.iconst 1, 1) := by decide +kernel
theorem dX10_lane_115 : decode cX10_lane 115 = .ok (.iadd, 1) := by decide +kernel
theorem dX10_lane_116 : decode cX10_lane 116 = .ok (.putfield 113, 3) := by decide +kernel
theorem dX10_lane_119 : decode cX10_lane 119 = .ok (.aload_n 0, 1) := by decide +kernel
theorem dX10_lane_120 : decode cX10_lane 120 = .ok (.iconst 0, 1) := by decide +kernel
theorem dX10_lane_121 : decode cX10_lane 121 = .ok (.putfield 116, 3) := by decide +kernel
theorem dX10_lane_124 : decode cX10_lane 124 = .ok (.aload_n 0, 1) := by decide +kernel
theorem dX10_lane_125 : decode cX10_lane 125 = .ok (.iconst 0, 1) := by decide +kernel
theorem dX10_lane_126 : decode cX10_lane 126 = .ok (.putfield 75, 3) := by decide +kernel
theorem dX10_lane_129 : decode cX10_lane 129 = .ok (.aload_n 0, 1) := by decide +kernel
theorem dX10_lane_130 : decode cX10_lane 130 = .ok (.getfield 101, 3) := by decide +kernel
theorem dX10_lane_133 : decode cX10_lane 133 = .ok (.ireturn, 1) := by decide +kernel
theorem dX10_isHouse_0 : decode cX10_isHouse 0 = .ok (.iload_n 1, 1) := by decide +kernel
theorem dX10_isHouse_1 : decode cX10_isHouse 1 = .ok (.iconst 0, 1) := by decide +kernel
theorem dX10_isHouse_2 : decode cX10_isHouse 2 = .ok (.aload_n 0, 1) := by decide +kernel
theorem dX10_isHouse_3 : decode cX10_isHouse 3 = .ok (.getfield 101, 3) := by decide +kernel
theorem dX10_isHouse_6 : decode cX10_isHouse 6 = .ok (.iconst 1, 1) := by decide +kernel
theorem dX10_isHouse_7 : decode cX10_isHouse 7 = .ok (.isub, 1) := by decide +kernel
theorem dX10_isHouse_8 : decode cX10_isHouse 8 = .ok (.invokestatic 71, 3) := by decide +kernel
theorem dX10_isHouse_11 : decode cX10_isHouse 11 = .ok (.ireturn, 1) := by decide +kernel
theorem dX10_held_0 : decode cX10_held 0 = .ok (.iload_n 0, 1) := by decide +kernel
theorem dX10_held_1 : decode cX10_held 1 = .ok (.ifCond .ge 7, 3) := by decide +kernel
theorem dX10_held_4 : decode cX10_held 4 = .ok (.iconst 0, 1) := by decide +kernel
theorem dX10_held_5 : decode cX10_held 5 = .ok (.goto 15, 3) := by decide +kernel
theorem dX10_held_8 : decode cX10_held 8 = .ok (.iload_n 0, 1) := by decide +kernel
theorem dX10_held_9 : decode cX10_held 9 = .ok (.bipush 20, 2) := by decide +kernel
theorem dX10_held_11 : decode cX10_held 11 = .ok (.if_icmp .le 8, 3) := by decide +kernel
theorem dX10_held_14 : decode cX10_held 14 = .ok (.bipush 20, 2) := by decide +kernel
theorem dX10_held_16 : decode cX10_held 16 = .ok (.goto 4, 3) := by decide +kernel
theorem dX10_held_19 : decode cX10_held 19 = .ok (.iload_n 0, 1) := by decide +kernel
theorem dX10_held_20 : decode cX10_held 20 = .ok (.ireturn, 1) := by decide +kernel
theorem dX10_grown_0 : decode cX10_grown 0 = .ok (.iload_n 1, 1) := by decide +kernel
theorem dX10_grown_1 : decode cX10_grown 1 = .ok (.iconst 1, 1) := by decide +kernel
theorem dX10_grown_2 : decode cX10_grown 2 = .ok (.iadd, 1) := by decide +kernel
theorem dX10_grown_3 : decode cX10_grown 3 = .ok (.iload_n 2, 1) := by decide +kernel
theorem dX10_grown_4 : decode cX10_grown 4 = .ok (.iconst 3, 1) := by decide +kernel
theorem dX10_grown_5 : decode cX10_grown 5 = .ok (.idiv, 1) := by decide +kernel
theorem dX10_grown_6 : decode cX10_grown 6 = .ok (.isub, 1) := by decide +kernel
theorem dX10_grown_7 : decode cX10_grown 7 = .ok (.istore 5, 2) := by decide +kernel
theorem dX10_grown_9 : decode cX10_grown 9 = .ok (.iload_n 0, 1) := by decide +kernel
theorem dX10_grown_10 : decode cX10_grown 10 = .ok (.tableswitch 59 1 4 #[30, 36, 42, 48], 30) := by decide +kernel
theorem dX10_grown_40 : decode cX10_grown 40 = .ok (.iload_n 1, 1) := by decide +kernel
theorem dX10_grown_41 : decode cX10_grown 41 = .ok (.istore 5, 2) := by decide +kernel
theorem dX10_grown_43 : decode cX10_grown 43 = .ok (.goto 26, 3) := by decide +kernel
theorem dX10_grown_46 : decode cX10_grown 46 = .ok (.iinc 5 (-2), 3) := by decide +kernel
theorem dX10_grown_49 : decode cX10_grown 49 = .ok (.goto 20, 3) := by decide +kernel
theorem dX10_grown_52 : decode cX10_grown 52 = .ok (.iinc 5 1, 3) := by decide +kernel
theorem dX10_grown_55 : decode cX10_grown 55 = .ok (.goto 14, 3) := by decide +kernel
theorem dX10_grown_58 : decode cX10_grown 58 = .ok (.iload_n 1, 1) := by decide +kernel
theorem dX10_grown_59 : decode cX10_grown 59 = .ok (.iload 4, 2) := by decide +kernel
theorem dX10_grown_61 : decode cX10_grown 61 = .ok (.iconst 2, 1) := by decide +kernel
theorem dX10_grown_62 : decode cX10_grown 62 = .ok (.irem, 1) := by decide +kernel
theorem dX10_grown_63 : decode cX10_grown 63 = .ok (.isub, 1) := by decide +kernel
theorem dX10_grown_64 : decode cX10_grown 64 = .ok (.istore 5, 2) := by decide +kernel
theorem dX10_grown_66 : decode cX10_grown 66 = .ok (.goto 3, 3) := by decide +kernel
theorem dX10_grown_69 : decode cX10_grown 69 = .ok (.iload 5, 2) := by decide +kernel
theorem dX10_grown_71 : decode cX10_grown 71 = .ok (.iload_n 3, 1) := by decide +kernel
theorem dX10_grown_72 : decode cX10_grown 72 = .ok (.ifCond .eq 7, 3) := by decide +kernel
theorem dX10_grown_75 : decode cX10_grown 75 = .ok (.iconst 3, 1) := by decide +kernel
theorem dX10_grown_76 : decode cX10_grown 76 = .ok (.goto 4, 3) := by decide +kernel
theorem dX10_grown_79 : decode cX10_grown 79 = .ok (.iconst 0, 1) := by decide +kernel
theorem dX10_grown_80 : decode cX10_grown 80 = .ok (.iadd, 1) := by decide +kernel
theorem dX10_grown_81 : decode cX10_grown 81 = .ok (.invokestatic 119, 3) := by decide +kernel
theorem dX10_grown_84 : decode cX10_grown 84 = .ok (.ireturn, 1) := by decide +kernel
theorem dX10_grownOf_0 : decode cX10_grownOf 0 = .ok (.aload_n 0, 1) := by decide +kernel
theorem dX10_grownOf_1 : decode cX10_grownOf 1 = .ok (.getfield 7, 3) := by decide +kernel
theorem dX10_grownOf_4 : decode cX10_grownOf 4 = .ok (.iload_n 1, 1) := by decide +kernel
theorem dX10_grownOf_5 : decode cX10_grownOf 5 = .ok (.iaload, 1) := by decide +kernel
theorem dX10_grownOf_6 : decode cX10_grownOf 6 = .ok (.aload_n 0, 1) := by decide +kernel
theorem dX10_grownOf_7 : decode cX10_grownOf 7 = .ok (.getfield 13, 3) := by decide +kernel
theorem dX10_grownOf_10 : decode cX10_grownOf 10 = .ok (.iload_n 1, 1) := by decide +kernel
theorem dX10_grownOf_11 : decode cX10_grownOf 11 = .ok (.iaload, 1) := by decide +kernel
theorem dX10_grownOf_12 : decode cX10_grownOf 12 = .ok (.aload_n 0, 1) := by decide +kernel
theorem dX10_grownOf_13 : decode cX10_grownOf 13 = .ok (.getfield 16, 3) := by decide +kernel
theorem dX10_grownOf_16 : decode cX10_grownOf 16 = .ok (.iload_n 1, 1) := by decide +kernel
theorem dX10_grownOf_17 : decode cX10_grownOf 17 = .ok (.iaload, 1) := by decide +kernel
theorem dX10_grownOf_18 : decode cX10_grownOf 18 = .ok (.aload_n 0, 1) := by decide +kernel
theorem dX10_grownOf_19 : decode cX10_grownOf 19 = .ok (.getfield 104, 3) := by decide +kernel
theorem dX10_grownOf_22 : decode cX10_grownOf 22 = .ok (.iload_n 1, 1) := by decide +kernel
theorem dX10_grownOf_23 : decode cX10_grownOf 23 = .ok (.invokestatic 122, 3) := by decide +kernel
theorem dX10_grownOf_26 : decode cX10_grownOf 26 = .ok (.aload_n 0, 1) := by decide +kernel
theorem dX10_grownOf_27 : decode cX10_grownOf 27 = .ok (.getfield 107, 3) := by decide +kernel
theorem dX10_grownOf_30 : decode cX10_grownOf 30 = .ok (.iconst 1, 1) := by decide +kernel
theorem dX10_grownOf_31 : decode cX10_grownOf 31 = .ok (.iadd, 1) := by decide +kernel
theorem dX10_grownOf_32 : decode cX10_grownOf 32 = .ok (.invokestatic 126, 3) := by decide +kernel
theorem dX10_grownOf_35 : decode cX10_grownOf 35 = .ok (.ireturn, 1) := by decide +kernel
theorem dX10_goYear_0 : decode cX10_goYear 0 = .ok (.iconst 0, 1) := by decide +kernel
theorem dX10_goYear_1 : decode cX10_goYear 1 = .ok (.istore_n 1, 1) := by decide +kernel
theorem dX10_goYear_2 : decode cX10_goYear 2 = .ok (.iload_n 1, 1) := by decide +kernel
theorem dX10_goYear_3 : decode cX10_goYear 3 = .ok (.aload_n 0, 1) := by decide +kernel
theorem dX10_goYear_4 : decode cX10_goYear 4 = .ok (.getfield 101, 3) := by decide +kernel
theorem dX10_goYear_7 : decode cX10_goYear 7 = .ok (.if_icmp .ge 20, 3) := by decide +kernel
theorem dX10_goYear_10 : decode cX10_goYear 10 = .ok (.aload_n 0, 1) := by decide +kernel
theorem dX10_goYear_11 : decode cX10_goYear 11 = .ok (.getfield 13, 3) := by decide +kernel
theorem dX10_goYear_14 : decode cX10_goYear 14 = .ok (.iload_n 1, 1) := by decide +kernel
theorem dX10_goYear_15 : decode cX10_goYear 15 = .ok (.aload_n 0, 1) := by decide +kernel
theorem dX10_goYear_16 : decode cX10_goYear 16 = .ok (.iload_n 1, 1) := by decide +kernel
theorem dX10_goYear_17 : decode cX10_goYear 17 = .ok (.invokevirtual 130, 3) := by decide +kernel
theorem dX10_goYear_20 : decode cX10_goYear 20 = .ok (.iastore, 1) := by decide +kernel
theorem dX10_goYear_21 : decode cX10_goYear 21 = .ok (.iinc 1 1, 3) := by decide +kernel
theorem dX10_goYear_24 : decode cX10_goYear 24 = .ok (.goto (-22), 3) := by decide +kernel
theorem dX10_goYear_27 : decode cX10_goYear 27 = .ok (.aload_n 0, 1) := by decide +kernel
theorem dX10_goYear_28 : decode cX10_goYear 28 = .ok (.iconst 0, 1) := by decide +kernel
theorem dX10_goYear_29 : decode cX10_goYear 29 = .ok (.putfield 104, 3) := by decide +kernel
theorem dX10_goYear_32 : decode cX10_goYear 32 = .ok (.aload_n 0, 1) := by decide +kernel
theorem dX10_goYear_33 : decode cX10_goYear 33 = .ok (.dup, 1) := by decide +kernel
theorem dX10_goYear_34 : decode cX10_goYear 34 = .ok (.getfield 107, 3) := by decide +kernel
theorem dX10_goYear_37 : decode cX10_goYear 37 = .ok (.iconst 1, 1) := by decide +kernel
theorem dX10_goYear_38 : decode cX10_goYear 38 = .ok (.iadd, 1) := by decide +kernel
theorem dX10_goYear_39 : decode cX10_goYear 39 = .ok (.putfield 107, 3) := by decide +kernel
theorem dX10_goYear_42 : decode cX10_goYear 42 = .ok (.return_, 1) := by decide +kernel
theorem dX10_reachesTo_0 : decode cX10_reachesTo 0 = .ok (.iload_n 2, 1) := by decide +kernel
theorem dX10_reachesTo_1 : decode cX10_reachesTo 1 = .ok (.istore_n 3, 1) := by decide +kernel
theorem dX10_reachesTo_2 : decode cX10_reachesTo 2 = .ok (.iconst 0, 1) := by decide +kernel
theorem dX10_reachesTo_3 : decode cX10_reachesTo 3 = .ok (.istore 4, 2) := by decide +kernel
theorem dX10_reachesTo_5 : decode cX10_reachesTo 5 = .ok (.iload 4, 2) := by decide +kernel
theorem dX10_reachesTo_7 : decode cX10_reachesTo 7 = .ok (.iload_n 1, 1) := by decide +kernel
theorem dX10_reachesTo_8 : decode cX10_reachesTo 8 = .ok (.if_icmp .ge 29, 3) := by decide +kernel
theorem dX10_reachesTo_11 : decode cX10_reachesTo 11 = .ok (.iload_n 3, 1) := by decide +kernel
theorem dX10_reachesTo_12 : decode cX10_reachesTo 12 = .ok (.aload_n 0, 1) := by decide +kernel
theorem dX10_reachesTo_13 : decode cX10_reachesTo 13 = .ok (.getfield 13, 3) := by decide +kernel
theorem dX10_reachesTo_16 : decode cX10_reachesTo 16 = .ok (.iload 4, 2) := by decide +kernel
theorem dX10_reachesTo_18 : decode cX10_reachesTo 18 = .ok (.iaload, 1) := by decide +kernel
theorem dX10_reachesTo_19 : decode cX10_reachesTo 19 = .ok (.bipush 10, 2) := by decide +kernel
theorem dX10_reachesTo_21 : decode cX10_reachesTo 21 = .ok (.if_icmp .lt 7, 3) := by decide +kernel
theorem dX10_reachesTo_24 : decode cX10_reachesTo 24 = .ok (.iconst 2, 1) := by decide +kernel
theorem dX10_reachesTo_25 : decode cX10_reachesTo 25 = .ok (.goto 4, 3) := by decide +kernel
theorem dX10_reachesTo_28 : decode cX10_reachesTo 28 = .ok (.iconst 0, 1) := by decide +kernel
theorem dX10_reachesTo_29 : decode cX10_reachesTo 29 = .ok (.isub, 1) := by decide +kernel
theorem dX10_reachesTo_30 : decode cX10_reachesTo 30 = .ok (.istore_n 3, 1) := by decide +kernel
theorem dX10_reachesTo_31 : decode cX10_reachesTo 31 = .ok (.iinc 4 1, 3) := by decide +kernel
theorem dX10_reachesTo_34 : decode cX10_reachesTo 34 = .ok (.goto (-29), 3) := by decide +kernel
theorem dX10_reachesTo_37 : decode cX10_reachesTo 37 = .ok (.iload_n 3, 1) := by decide +kernel
theorem dX10_reachesTo_38 : decode cX10_reachesTo 38 = .ok (.ifCond .ge 7, 3) := by decide +kernel
theorem dX10_reachesTo_41 : decode cX10_reachesTo 41 = .ok (.iconst 0, 1) := by decide +kernel
theorem dX10_reachesTo_42 : decode cX10_reachesTo 42 = .ok (.goto 4, 3) := by decide +kernel
theorem dX10_reachesTo_45 : decode cX10_reachesTo 45 = .ok (.iload_n 3, 1) := by decide +kernel
theorem dX10_reachesTo_46 : decode cX10_reachesTo 46 = .ok (.ireturn, 1) := by decide +kernel
theorem dX10_wetBy_0 : decode cX10_wetBy 0 = .ok (.iconst 0, 1) := by decide +kernel
theorem dX10_wetBy_1 : decode cX10_wetBy 1 = .ok (.istore_n 2, 1) := by decide +kernel
theorem dX10_wetBy_2 : decode cX10_wetBy 2 = .ok (.iconst 0, 1) := by decide +kernel
theorem dX10_wetBy_3 : decode cX10_wetBy 3 = .ok (.istore_n 3, 1) := by decide +kernel
theorem dX10_wetBy_4 : decode cX10_wetBy 4 = .ok (.iload_n 3, 1) := by decide +kernel
theorem dX10_wetBy_5 : decode cX10_wetBy 5 = .ok (.aload_n 0, 1) := by decide +kernel
theorem dX10_wetBy_6 : decode cX10_wetBy 6 = .ok (.getfield 101, 3) := by decide +kernel
theorem dX10_wetBy_9 : decode cX10_wetBy 9 = .ok (.if_icmp .ge 34, 3) := by decide +kernel
theorem dX10_wetBy_12 : decode cX10_wetBy 12 = .ok (.iload_n 2, 1) := by decide +kernel
theorem dX10_wetBy_13 : decode cX10_wetBy 13 = .ok (.aload_n 0, 1) := by decide +kernel
theorem dX10_wetBy_14 : decode cX10_wetBy 14 = .ok (.getfield 13, 3) := by decide +kernel
theorem dX10_wetBy_17 : decode cX10_wetBy 17 = .ok (.iload_n 3, 1) := by decide +kernel
theorem dX10_wetBy_18 : decode cX10_wetBy 18 = .ok (.iaload, 1) := by decide +kernel
theorem dX10_wetBy_19 : decode cX10_wetBy 19 = .ok (.aload_n 0, 1) := by decide +kernel
theorem dX10_wetBy_20 : decode cX10_wetBy 20 = .ok (.iload_n 3, 1) := by decide +kernel
theorem dX10_wetBy_21 : decode cX10_wetBy 21 = .ok (.iload_n 1, 1) := by decide +kernel
theorem dX10_wetBy_22 : decode cX10_wetBy 22 = .ok (.invokevirtual 133, 3) := by decide +kernel
theorem dX10_wetBy_25 : decode cX10_wetBy 25 = .ok (.if_icmp .ge 9, 3) := by decide +kernel
theorem dX10_wetBy_28 : decode cX10_wetBy 28 = .ok (.iconst 1, 1) := by decide +kernel
theorem dX10_wetBy_29 : decode cX10_wetBy 29 = .ok (.iload_n 3, 1) := by decide +kernel
theorem dX10_wetBy_30 : decode cX10_wetBy 30 = .ok (.ishl, 1) := by decide +kernel
theorem dX10_wetBy_31 : decode cX10_wetBy 31 = .ok (.goto 4, 3) := by decide +kernel
theorem dX10_wetBy_34 : decode cX10_wetBy 34 = .ok (.iconst 0, 1) := by decide +kernel
theorem dX10_wetBy_35 : decode cX10_wetBy 35 = .ok (.ior, 1) := by decide +kernel
theorem dX10_wetBy_36 : decode cX10_wetBy 36 = .ok (.istore_n 2, 1) := by decide +kernel
theorem dX10_wetBy_37 : decode cX10_wetBy 37 = .ok (.iinc 3 1, 3) := by decide +kernel
theorem dX10_wetBy_40 : decode cX10_wetBy 40 = .ok (.goto (-36), 3) := by decide +kernel
theorem dX10_wetBy_43 : decode cX10_wetBy 43 = .ok (.iload_n 2, 1) := by decide +kernel
theorem dX10_wetBy_44 : decode cX10_wetBy 44 = .ok (.ireturn, 1) := by decide +kernel
theorem dX10_goRain_0 : decode cX10_goRain 0 = .ok (.aload_n 0, 1) := by decide +kernel
theorem dX10_goRain_1 : decode cX10_goRain 1 = .ok (.iload_n 1, 1) := by decide +kernel
theorem dX10_goRain_2 : decode cX10_goRain 2 = .ok (.invokevirtual 137, 3) := by decide +kernel
theorem dX10_goRain_5 : decode cX10_goRain 5 = .ok (.istore_n 2, 1) := by decide +kernel
theorem dX10_goRain_6 : decode cX10_goRain 6 = .ok (.iconst 0, 1) := by decide +kernel
theorem dX10_goRain_7 : decode cX10_goRain 7 = .ok (.istore_n 3, 1) := by decide +kernel
theorem dX10_goRain_8 : decode cX10_goRain 8 = .ok (.iload_n 3, 1) := by decide +kernel
theorem dX10_goRain_9 : decode cX10_goRain 9 = .ok (.aload_n 0, 1) := by decide +kernel
theorem dX10_goRain_10 : decode cX10_goRain 10 = .ok (.getfield 101, 3) := by decide +kernel
theorem dX10_goRain_13 : decode cX10_goRain 13 = .ok (.if_icmp .ge 42, 3) := by decide +kernel
theorem dX10_goRain_16 : decode cX10_goRain 16 = .ok (.aload_n 0, 1) := by decide +kernel
theorem dX10_goRain_17 : decode cX10_goRain 17 = .ok (.getfield 16, 3) := by decide +kernel
theorem dX10_goRain_20 : decode cX10_goRain 20 = .ok (.iload_n 3, 1) := by decide +kernel
theorem dX10_goRain_21 : decode cX10_goRain 21 = .ok (.dup2, 1) := by decide +kernel
theorem dX10_goRain_22 : decode cX10_goRain 22 = .ok (.iaload, 1) := by decide +kernel
theorem dX10_goRain_23 : decode cX10_goRain 23 = .ok (.iload_n 2, 1) := by decide +kernel
theorem dX10_goRain_24 : decode cX10_goRain 24 = .ok (.iload_n 3, 1) := by decide +kernel
theorem dX10_goRain_25 : decode cX10_goRain 25 = .ok (.invokestatic 122, 3) := by decide +kernel
theorem dX10_goRain_28 : decode cX10_goRain 28 = .ok (.ifCond .eq 18, 3) := by decide +kernel
theorem dX10_goRain_31 : decode cX10_goRain 31 = .ok (.aload_n 0, 1) := by decide +kernel
theorem dX10_goRain_32 : decode cX10_goRain 32 = .ok (.getfield 16, 3) := by decide +kernel
theorem dX10_goRain_35 : decode cX10_goRain 35 = .ok (.iload_n 3, 1) := by decide +kernel
theorem dX10_goRain_36 : decode cX10_goRain 36 = .ok (.iaload, 1) := by decide +kernel
theorem dX10_goRain_37 : decode cX10_goRain 37 = .ok (.bipush 9, 2) := by decide +kernel
theorem dX10_goRain_39 : decode cX10_goRain 39 = .ok (.if_icmp .ge 7, 3) := by decide +kernel
theorem dX10_goRain_42 : decode cX10_goRain 42 = .ok (.iconst 1, 1) := by decide +kernel
theorem dX10_goRain_43 : decode cX10_goRain 43 = .ok (.goto 4, 3) := by decide +kernel
theorem dX10_goRain_46 : decode cX10_goRain 46 = .ok (.iconst 0, 1) := by decide +kernel
theorem dX10_goRain_47 : decode cX10_goRain 47 = .ok (.iadd, 1) := by decide +kernel
theorem dX10_goRain_48 : decode cX10_goRain 48 = .ok (.iastore, 1) := by decide +kernel
theorem dX10_goRain_49 : decode cX10_goRain 49 = .ok (.iinc 3 1, 3) := by decide +kernel
theorem dX10_goRain_52 : decode cX10_goRain 52 = .ok (.goto (-44), 3) := by decide +kernel
theorem dX10_goRain_55 : decode cX10_goRain 55 = .ok (.iload_n 2, 1) := by decide +kernel
theorem dX10_goRain_56 : decode cX10_goRain 56 = .ok (.invokestatic 140, 3) := by decide +kernel
theorem dX10_goRain_59 : decode cX10_goRain 59 = .ok (.ireturn, 1) := by decide +kernel
theorem dX10_goCheer_0 : decode cX10_goCheer 0 = .ok (.aload_n 0, 1) := by decide +kernel
theorem dX10_goCheer_1 : decode cX10_goCheer 1 = .ok (.getfield 16, 3) := by decide +kernel
theorem dX10_goCheer_4 : decode cX10_goCheer 4 = .ok (.iload_n 1, 1) := by decide +kernel
theorem dX10_goCheer_5 : decode cX10_goCheer 5 = .ok (.aload_n 0, 1) := by decide +kernel
theorem dX10_goCheer_6 : decode cX10_goCheer 6 = .ok (.getfield 16, 3) := by decide +kernel
theorem dX10_goCheer_9 : decode cX10_goCheer 9 = .ok (.iload_n 1, 1) := by decide +kernel
theorem dX10_goCheer_10 : decode cX10_goCheer 10 = .ok (.iaload, 1) := by decide +kernel
theorem dX10_goCheer_11 : decode cX10_goCheer 11 = .ok (.iconst 2, 1) := by decide +kernel
theorem dX10_goCheer_12 : decode cX10_goCheer 12 = .ok (.if_icmp .le 14, 3) := by decide +kernel
theorem dX10_goCheer_15 : decode cX10_goCheer 15 = .ok (.aload_n 0, 1) := by decide +kernel
theorem dX10_goCheer_16 : decode cX10_goCheer 16 = .ok (.getfield 16, 3) := by decide +kernel
theorem dX10_goCheer_19 : decode cX10_goCheer 19 = .ok (.iload_n 1, 1) := by decide +kernel
theorem dX10_goCheer_20 : decode cX10_goCheer 20 = .ok (.iaload, 1) := by decide +kernel
theorem dX10_goCheer_21 : decode cX10_goCheer 21 = .ok (.iconst 2, 1) := by decide +kernel
theorem dX10_goCheer_22 : decode cX10_goCheer 22 = .ok (.isub, 1) := by decide +kernel
theorem dX10_goCheer_23 : decode cX10_goCheer 23 = .ok (.goto 4, 3) := by decide +kernel
theorem dX10_goCheer_26 : decode cX10_goCheer 26 = .ok (.iconst 0, 1) := by decide +kernel
theorem dX10_goCheer_27 : decode cX10_goCheer 27 = .ok (.iastore, 1) := by decide +kernel
theorem dX10_goCheer_28 : decode cX10_goCheer 28 = .ok (.return_, 1) := by decide +kernel
theorem dX10_reedAll_0 : decode cX10_reedAll 0 = .ok (.iconst 0, 1) := by decide +kernel
theorem dX10_reedAll_1 : decode cX10_reedAll 1 = .ok (.istore_n 1, 1) := by decide +kernel
theorem dX10_reedAll_2 : decode cX10_reedAll 2 = .ok (.iconst 0, 1) := by decide +kernel
theorem dX10_reedAll_3 : decode cX10_reedAll 3 = .ok (.istore_n 2, 1) := by decide +kernel
theorem dX10_reedAll_4 : decode cX10_reedAll 4 = .ok (.iload_n 2, 1) := by decide +kernel
theorem dX10_reedAll_5 : decode cX10_reedAll 5 = .ok (.aload_n 0, 1) := by decide +kernel
theorem dX10_reedAll_6 : decode cX10_reedAll 6 = .ok (.getfield 101, 3) := by decide +kernel
theorem dX10_reedAll_9 : decode cX10_reedAll 9 = .ok (.if_icmp .ge 18, 3) := by decide +kernel
theorem dX10_reedAll_12 : decode cX10_reedAll 12 = .ok (.iload_n 1, 1) := by decide +kernel
theorem dX10_reedAll_13 : decode cX10_reedAll 13 = .ok (.aload_n 0, 1) := by decide +kernel
theorem dX10_reedAll_14 : decode cX10_reedAll 14 = .ok (.getfield 13, 3) := by decide +kernel
theorem dX10_reedAll_17 : decode cX10_reedAll 17 = .ok (.iload_n 2, 1) := by decide +kernel
theorem dX10_reedAll_18 : decode cX10_reedAll 18 = .ok (.iaload, 1) := by decide +kernel
theorem dX10_reedAll_19 : decode cX10_reedAll 19 = .ok (.iadd, 1) := by decide +kernel
theorem dX10_reedAll_20 : decode cX10_reedAll 20 = .ok (.istore_n 1, 1) := by decide +kernel
theorem dX10_reedAll_21 : decode cX10_reedAll 21 = .ok (.iinc 2 1, 3) := by decide +kernel
theorem dX10_reedAll_24 : decode cX10_reedAll 24 = .ok (.goto (-20), 3) := by decide +kernel
theorem dX10_reedAll_27 : decode cX10_reedAll 27 = .ok (.iload_n 1, 1) := by decide +kernel
theorem dX10_reedAll_28 : decode cX10_reedAll 28 = .ok (.ireturn, 1) := by decide +kernel
theorem dX10_houseNow_0 : decode cX10_houseNow 0 = .ok (.iload_n 2, 1) := by decide +kernel
theorem dX10_houseNow_1 : decode cX10_houseNow 1 = .ok (.tableswitch 89 0 5 #[39, 46, 53, 60, 77, 83], 39) := by decide +kernel
theorem dX10_houseNow_40 : decode cX10_houseNow 40 = .ok (.aload_n 0, 1) := by decide +kernel
theorem dX10_houseNow_41 : decode cX10_houseNow 41 = .ok (.getfield 7, 3) := by decide +kernel
theorem dX10_houseNow_44 : decode cX10_houseNow 44 = .ok (.iload_n 1, 1) := by decide +kernel
theorem dX10_houseNow_45 : decode cX10_houseNow 45 = .ok (.iaload, 1) := by decide +kernel
theorem dX10_houseNow_46 : decode cX10_houseNow 46 = .ok (.ireturn, 1) := by decide +kernel
theorem dX10_houseNow_47 : decode cX10_houseNow 47 = .ok (.aload_n 0, 1) := by decide +kernel
theorem dX10_houseNow_48 : decode cX10_houseNow 48 = .ok (.getfield 13, 3) := by decide +kernel
theorem dX10_houseNow_51 : decode cX10_houseNow 51 = .ok (.iload_n 1, 1) := by decide +kernel
theorem dX10_houseNow_52 : decode cX10_houseNow 52 = .ok (.iaload, 1) := by decide +kernel
theorem dX10_houseNow_53 : decode cX10_houseNow 53 = .ok (.ireturn, 1) := by decide +kernel
theorem dX10_houseNow_54 : decode cX10_houseNow 54 = .ok (.aload_n 0, 1) := by decide +kernel
theorem dX10_houseNow_55 : decode cX10_houseNow 55 = .ok (.getfield 16, 3) := by decide +kernel
theorem dX10_houseNow_58 : decode cX10_houseNow 58 = .ok (.iload_n 1, 1) := by decide +kernel
theorem dX10_houseNow_59 : decode cX10_houseNow 59 = .ok (.iaload, 1) := by decide +kernel
theorem dX10_houseNow_60 : decode cX10_houseNow 60 = .ok (.ireturn, 1) := by decide +kernel
theorem dX10_houseNow_61 : decode cX10_houseNow 61 = .ok (.aload_n 0, 1) := by decide +kernel
theorem dX10_houseNow_62 : decode cX10_houseNow 62 = .ok (.getfield 104, 3) := by decide +kernel
theorem dX10_houseNow_65 : decode cX10_houseNow 65 = .ok (.iload_n 1, 1) := by decide +kernel
theorem dX10_houseNow_66 : decode cX10_houseNow 66 = .ok (.invokestatic 122, 3) := by decide +kernel
theorem dX10_houseNow_69 : decode cX10_houseNow 69 = .ok (.ifCond .eq 7, 3) := by decide +kernel
theorem dX10_houseNow_72 : decode cX10_houseNow 72 = .ok (.iconst 1, 1) := by decide +kernel
theorem dX10_houseNow_73 : decode cX10_houseNow 73 = .ok (.goto 4, 3) := by decide +kernel
theorem dX10_houseNow_76 : decode cX10_houseNow 76 = .ok (.iconst 0, 1) := by decide +kernel
theorem dX10_houseNow_77 : decode cX10_houseNow 77 = .ok (.ireturn, 1) := by decide +kernel
theorem dX10_houseNow_78 : decode cX10_houseNow 78 = .ok (.aload_n 0, 1) := by decide +kernel
theorem dX10_houseNow_79 : decode cX10_houseNow 79 = .ok (.iload_n 1, 1) := by decide +kernel
theorem dX10_houseNow_80 : decode cX10_houseNow 80 = .ok (.invokevirtual 130, 3) := by decide +kernel
theorem dX10_houseNow_83 : decode cX10_houseNow 83 = .ok (.ireturn, 1) := by decide +kernel
theorem dX10_houseNow_84 : decode cX10_houseNow 84 = .ok (.aload_n 0, 1) := by decide +kernel
theorem dX10_houseNow_85 : decode cX10_houseNow 85 = .ok (.iload_n 1, 1) := by decide +kernel
theorem dX10_houseNow_86 : decode cX10_houseNow 86 = .ok (.invokevirtual 143, 3) := by decide +kernel
theorem dX10_houseNow_89 : decode cX10_houseNow 89 = .ok (.ireturn, 1) := by decide +kernel
theorem dX10_houseNow_90 : decode cX10_houseNow 90 = .ok (.aload_n 0, 1) := by decide +kernel
theorem dX10_houseNow_91 : decode cX10_houseNow 91 = .ok (.iload_n 1, 1) := by decide +kernel
theorem dX10_houseNow_92 : decode cX10_houseNow 92 = .ok (.invokevirtual 146, 3) := by decide +kernel
theorem dX10_houseNow_95 : decode cX10_houseNow 95 = .ok (.ireturn, 1) := by decide +kernel
theorem dX10_house_0 : decode cX10_house 0 = .ok (.aload_n 0, 1) := by decide +kernel
theorem dX10_house_1 : decode cX10_house 1 = .ok (.iload_n 1, 1) := by decide +kernel
theorem dX10_house_2 : decode cX10_house 2 = .ok (.invokevirtual 149, 3) := by decide +kernel
theorem dX10_house_5 : decode cX10_house 5 = .ok (.ifCond .ne 8, 3) := by decide +kernel
theorem dX10_house_8 : decode cX10_house 8 = .ok (.bipush (-101), 2) := by decide +kernel
theorem dX10_house_10 : decode cX10_house 10 = .ok (.goto 24, 3) := by decide +kernel
theorem dX10_house_13 : decode cX10_house 13 = .ok (.iload_n 2, 1) := by decide +kernel
theorem dX10_house_14 : decode cX10_house 14 = .ok (.iconst 0, 1) := by decide +kernel
theorem dX10_house_15 : decode cX10_house 15 = .ok (.bipush 6, 2) := by decide +kernel
theorem dX10_house_17 : decode cX10_house 17 = .ok (.invokestatic 71, 3) := by decide +kernel
theorem dX10_house_20 : decode cX10_house 20 = .ok (.ifCond .eq 12, 3) := by decide +kernel
theorem dX10_house_23 : decode cX10_house 23 = .ok (.aload_n 0, 1) := by decide +kernel
theorem dX10_house_24 : decode cX10_house 24 = .ok (.iload_n 1, 1) := by decide +kernel
theorem dX10_house_25 : decode cX10_house 25 = .ok (.iload_n 2, 1) := by decide +kernel
theorem dX10_house_26 : decode cX10_house 26 = .ok (.invokevirtual 152, 3) := by decide +kernel
theorem dX10_house_29 : decode cX10_house 29 = .ok (.goto 5, 3) := by decide +kernel
theorem dX10_house_32 : decode cX10_house 32 = .ok (.bipush (-102), 2) := by decide +kernel
theorem dX10_house_34 : decode cX10_house 34 = .ok (.ireturn, 1) := by decide +kernel
theorem dX10_as_0 : decode cX10_as 0 = .ok (.aload_n 0, 1) := by decide +kernel
theorem dX10_as_1 : decode cX10_as 1 = .ok (.iload_n 1, 1) := by decide +kernel
theorem dX10_as_2 : decode cX10_as 2 = .ok (.invokevirtual 149, 3) := by decide +kernel
theorem dX10_as_5 : decode cX10_as 5 = .ok (.ifCond .ne 6, 3) := by decide +kernel
theorem dX10_as_8 : decode cX10_as 8 = .ok (.bipush (-101), 2) := by decide +kernel
theorem dX10_as_10 : decode cX10_as 10 = .ok (.ireturn, 1) := by decide +kernel
theorem dX10_as_11 : decode cX10_as 11 = .ok (.iload_n 2, 1) := by decide +kernel
theorem dX10_as_12 : decode cX10_as 12 = .ok (.iconst 0, 1) := by decide +kernel
theorem dX10_as_13 : decode cX10_as 13 = .ok (.iconst 4, 1) := by decide +kernel
theorem dX10_as_14 : decode cX10_as 14 = .ok (.invokestatic 71, 3) := by decide +kernel
theorem dX10_as_17 : decode cX10_as 17 = .ok (.ifCond .ne 6, 3) := by decide +kernel
theorem dX10_as_20 : decode cX10_as 20 = .ok (.bipush (-102), 2) := by decide +kernel
theorem dX10_as_22 : decode cX10_as 22 = .ok (.ireturn, 1) := by decide +kernel
theorem dX10_as_23 : decode cX10_as 23 = .ok (.aload_n 0, 1) := by decide +kernel
theorem dX10_as_24 : decode cX10_as 24 = .ok (.getfield 7, 3) := by decide +kernel
theorem dX10_as_27 : decode cX10_as 27 = .ok (.iload_n 1, 1) := by decide +kernel
theorem dX10_as_28 : decode cX10_as 28 = .ok (.iaload, 1) := by decide +kernel
theorem dX10_as_29 : decode cX10_as 29 = .ok (.istore_n 3, 1) := by decide +kernel
theorem dX10_as_30 : decode cX10_as 30 = .ok (.iload_n 2, 1) := by decide +kernel
theorem dX10_as_31 : decode cX10_as 31 = .ok (.ifCond .eq 18, 3) := by decide +kernel
theorem dX10_as_34 : decode cX10_as 34 = .ok (.iload_n 3, 1) := by decide +kernel
theorem dX10_as_35 : decode cX10_as 35 = .ok (.iload_n 2, 1) := by decide +kernel
theorem dX10_as_36 : decode cX10_as 36 = .ok (.if_icmp .eq 13, 3) := by decide +kernel
theorem dX10_as_39 : decode cX10_as 39 = .ok (.iload_n 2, 1) := by decide +kernel
theorem dX10_as_40 : decode cX10_as 40 = .ok (.iconst 1, 1) := by decide +kernel
theorem dX10_as_41 : decode cX10_as 41 = .ok (.if_icmp .ne 12, 3) := by decide +kernel
theorem dX10_as_44 : decode cX10_as 44 = .ok (.iload_n 3, 1) := by decide +kernel
theorem dX10_as_45 : decode cX10_as 45 = .ok (.iconst 4, 1) := by decide +kernel
theorem dX10_as_46 : decode cX10_as 46 = .ok (.if_icmp .ne 7, 3) := by decide +kernel
theorem dX10_as_49 : decode cX10_as 49 = .ok (.iload_n 1, 1) := by decide +kernel
theorem dX10_as_50 : decode cX10_as 50 = .ok (.goto 4, 3) := by decide +kernel
theorem dX10_as_53 : decode cX10_as 53 = .ok (.iconst (-1), 1) := by decide +kernel
theorem dX10_as_54 : decode cX10_as 54 = .ok (.ireturn, 1) := by decide +kernel
theorem dX10_isRain_0 : decode cX10_isRain 0 = .ok (.iload_n 0, 1) := by decide +kernel
theorem dX10_isRain_1 : decode cX10_isRain 1 = .ok (.iconst 0, 1) := by decide +kernel
theorem dX10_isRain_2 : decode cX10_isRain 2 = .ok (.bipush 20, 2) := by decide +kernel
theorem dX10_isRain_4 : decode cX10_isRain 4 = .ok (.invokestatic 71, 3) := by decide +kernel
theorem dX10_isRain_7 : decode cX10_isRain 7 = .ok (.ireturn, 1) := by decide +kernel
theorem dX10_reaches_0 : decode cX10_reaches 0 = .ok (.aload_n 0, 1) := by decide +kernel
theorem dX10_reaches_1 : decode cX10_reaches 1 = .ok (.iload_n 1, 1) := by decide +kernel
theorem dX10_reaches_2 : decode cX10_reaches 2 = .ok (.invokevirtual 149, 3) := by decide +kernel
theorem dX10_reaches_5 : decode cX10_reaches 5 = .ok (.ifCond .ne 6, 3) := by decide +kernel
theorem dX10_reaches_8 : decode cX10_reaches 8 = .ok (.bipush (-101), 2) := by decide +kernel
theorem dX10_reaches_10 : decode cX10_reaches 10 = .ok (.ireturn, 1) := by decide +kernel
theorem dX10_reaches_11 : decode cX10_reaches 11 = .ok (.iload_n 2, 1) := by decide +kernel
theorem dX10_reaches_12 : decode cX10_reaches 12 = .ok (.invokestatic 155, 3) := by decide +kernel
theorem dX10_reaches_15 : decode cX10_reaches 15 = .ok (.ifCond .eq 12, 3) := by decide +kernel
theorem dX10_reaches_18 : decode cX10_reaches 18 = .ok (.aload_n 0, 1) := by decide +kernel
theorem dX10_reaches_19 : decode cX10_reaches 19 = .ok (.iload_n 1, 1) := by decide +kernel
theorem dX10_reaches_20 : decode cX10_reaches 20 = .ok (.iload_n 2, 1) := by decide +kernel
theorem dX10_reaches_21 : decode cX10_reaches 21 = .ok (.invokevirtual 133, 3) := by decide +kernel
theorem dX10_reaches_24 : decode cX10_reaches 24 = .ok (.goto 5, 3) := by decide +kernel
theorem dX10_reaches_27 : decode cX10_reaches 27 = .ok (.bipush (-102), 2) := by decide +kernel
theorem dX10_reaches_29 : decode cX10_reaches 29 = .ok (.ireturn, 1) := by decide +kernel
theorem dX10_wet_0 : decode cX10_wet 0 = .ok (.iload_n 1, 1) := by decide +kernel
theorem dX10_wet_1 : decode cX10_wet 1 = .ok (.invokestatic 155, 3) := by decide +kernel
theorem dX10_wet_4 : decode cX10_wet 4 = .ok (.ifCond .ne 6, 3) := by decide +kernel
theorem dX10_wet_7 : decode cX10_wet 7 = .ok (.bipush (-102), 2) := by decide +kernel
theorem dX10_wet_9 : decode cX10_wet 9 = .ok (.ireturn, 1) := by decide +kernel
theorem dX10_wet_10 : decode cX10_wet 10 = .ok (.aload_n 0, 1) := by decide +kernel
theorem dX10_wet_11 : decode cX10_wet 11 = .ok (.getfield 101, 3) := by decide +kernel
theorem dX10_wet_14 : decode cX10_wet 14 = .ok (.ifCond .ne 8, 3) := by decide +kernel
theorem dX10_wet_17 : decode cX10_wet 17 = .ok (.bipush (-103), 2) := by decide +kernel
theorem dX10_wet_19 : decode cX10_wet 19 = .ok (.goto 8, 3) := by decide +kernel
theorem dX10_wet_22 : decode cX10_wet 22 = .ok (.aload_n 0, 1) := by decide +kernel
theorem dX10_wet_23 : decode cX10_wet 23 = .ok (.iload_n 1, 1) := by decide +kernel
theorem dX10_wet_24 : decode cX10_wet 24 = .ok (.invokevirtual 137, 3) := by decide +kernel
theorem dX10_wet_27 : decode cX10_wet 27 = .ok (.ireturn, 1) := by decide +kernel
theorem dX10_year_0 : decode cX10_year 0 = .ok (.aload_n 0, 1) := by decide +kernel
theorem dX10_year_1 : decode cX10_year 1 = .ok (.getfield 101, 3) := by decide +kernel
theorem dX10_year_4 : decode cX10_year 4 = .ok (.ifCond .ne 6, 3) := by decide +kernel
theorem dX10_year_7 : decode cX10_year 7 = .ok (.bipush (-103), 2) := by decide +kernel
theorem dX10_year_9 : decode cX10_year 9 = .ok (.ireturn, 1) := by decide +kernel
theorem dX10_year_10 : decode cX10_year 10 = .ok (.aload_n 0, 1) := by decide +kernel
theorem dX10_year_11 : decode cX10_year 11 = .ok (.getfield 107, 3) := by decide +kernel
theorem dX10_year_14 : decode cX10_year 14 = .ok (.sipush 999, 3) := by decide +kernel
theorem dX10_year_17 : decode cX10_year 17 = .ok (.if_icmp .ne 6, 3) := by decide +kernel
theorem dX10_year_20 : decode cX10_year 20 = .ok (.bipush (-104), 2) := by decide +kernel
theorem dX10_year_22 : decode cX10_year 22 = .ok (.ireturn, 1) := by decide +kernel
theorem dX10_year_23 : decode cX10_year 23 = .ok (.aload_n 0, 1) := by decide +kernel
theorem dX10_year_24 : decode cX10_year 24 = .ok (.invokevirtual 158, 3) := by decide +kernel
theorem dX10_year_27 : decode cX10_year 27 = .ok (.aload_n 0, 1) := by decide +kernel
theorem dX10_year_28 : decode cX10_year 28 = .ok (.getfield 107, 3) := by decide +kernel
theorem dX10_year_31 : decode cX10_year 31 = .ok (.ireturn, 1) := by decide +kernel
theorem dX10_rain_0 : decode cX10_rain 0 = .ok (.iload_n 1, 1) := by decide +kernel
theorem dX10_rain_1 : decode cX10_rain 1 = .ok (.invokestatic 155, 3) := by decide +kernel
theorem dX10_rain_4 : decode cX10_rain 4 = .ok (.ifCond .ne 6, 3) := by decide +kernel
theorem dX10_rain_7 : decode cX10_rain 7 = .ok (.bipush (-102), 2) := by decide +kernel
theorem dX10_rain_9 : decode cX10_rain 9 = .ok (.ireturn, 1) := by decide +kernel
theorem dX10_rain_10 : decode cX10_rain 10 = .ok (.aload_n 0, 1) := by decide +kernel
theorem dX10_rain_11 : decode cX10_rain 11 = .ok (.getfield 101, 3) := by decide +kernel
theorem dX10_rain_14 : decode cX10_rain 14 = .ok (.ifCond .ne 6, 3) := by decide +kernel
theorem dX10_rain_17 : decode cX10_rain 17 = .ok (.bipush (-103), 2) := by decide +kernel
theorem dX10_rain_19 : decode cX10_rain 19 = .ok (.ireturn, 1) := by decide +kernel
theorem dX10_rain_20 : decode cX10_rain 20 = .ok (.aload_n 0, 1) := by decide +kernel
theorem dX10_rain_21 : decode cX10_rain 21 = .ok (.getfield 110, 3) := by decide +kernel
theorem dX10_rain_24 : decode cX10_rain 24 = .ok (.sipush 9000, 3) := by decide +kernel
theorem dX10_rain_27 : decode cX10_rain 27 = .ok (.if_icmp .lt 6, 3) := by decide +kernel
theorem dX10_rain_30 : decode cX10_rain 30 = .ok (.bipush (-104), 2) := by decide +kernel
theorem dX10_rain_32 : decode cX10_rain 32 = .ok (.ireturn, 1) := by decide +kernel
theorem dX10_rain_33 : decode cX10_rain 33 = .ok (.aload_n 0, 1) := by decide +kernel
theorem dX10_rain_34 : decode cX10_rain 34 = .ok (.iload_n 1, 1) := by decide +kernel
theorem dX10_rain_35 : decode cX10_rain 35 = .ok (.invokevirtual 161, 3) := by decide +kernel
theorem dX10_rain_38 : decode cX10_rain 38 = .ok (.istore_n 2, 1) := by decide +kernel
theorem dX10_rain_39 : decode cX10_rain 39 = .ok (.aload_n 0, 1) := by decide +kernel
theorem dX10_rain_40 : decode cX10_rain 40 = .ok (.dup, 1) := by decide +kernel
theorem dX10_rain_41 : decode cX10_rain 41 = .ok (.getfield 110, 3) := by decide +kernel
theorem dX10_rain_44 : decode cX10_rain 44 = .ok (.iload_n 2, 1) := by decide +kernel
theorem dX10_rain_45 : decode cX10_rain 45 = .ok (.iadd, 1) := by decide +kernel
theorem dX10_rain_46 : decode cX10_rain 46 = .ok (.putfield 110, 3) := by decide +kernel
theorem dX10_rain_49 : decode cX10_rain 49 = .ok (.iload_n 2, 1) := by decide +kernel
theorem dX10_rain_50 : decode cX10_rain 50 = .ok (.ireturn, 1) := by decide +kernel
theorem dX10_cheer_0 : decode cX10_cheer 0 = .ok (.aload_n 0, 1) := by decide +kernel
theorem dX10_cheer_1 : decode cX10_cheer 1 = .ok (.iload_n 1, 1) := by decide +kernel
theorem dX10_cheer_2 : decode cX10_cheer 2 = .ok (.invokevirtual 149, 3) := by decide +kernel
theorem dX10_cheer_5 : decode cX10_cheer 5 = .ok (.ifCond .ne 6, 3) := by decide +kernel
theorem dX10_cheer_8 : decode cX10_cheer 8 = .ok (.bipush (-101), 2) := by decide +kernel
theorem dX10_cheer_10 : decode cX10_cheer 10 = .ok (.ireturn, 1) := by decide +kernel
theorem dX10_cheer_11 : decode cX10_cheer 11 = .ok (.aload_n 0, 1) := by decide +kernel
theorem dX10_cheer_12 : decode cX10_cheer 12 = .ok (.iload_n 1, 1) := by decide +kernel
theorem dX10_cheer_13 : decode cX10_cheer 13 = .ok (.invokevirtual 164, 3) := by decide +kernel
theorem dX10_cheer_16 : decode cX10_cheer 16 = .ok (.aload_n 0, 1) := by decide +kernel
theorem dX10_cheer_17 : decode cX10_cheer 17 = .ok (.getfield 16, 3) := by decide +kernel
theorem dX10_cheer_20 : decode cX10_cheer 20 = .ok (.iload_n 1, 1) := by decide +kernel
theorem dX10_cheer_21 : decode cX10_cheer 21 = .ok (.iaload, 1) := by decide +kernel
theorem dX10_cheer_22 : decode cX10_cheer 22 = .ok (.ireturn, 1) := by decide +kernel
theorem dX10_mayComb_0 : decode cX10_mayComb 0 = .ok (.aload_n 0, 1) := by decide +kernel
theorem dX10_mayComb_1 : decode cX10_mayComb 1 = .ok (.getfield 104, 3) := by decide +kernel
theorem dX10_mayComb_4 : decode cX10_mayComb 4 = .ok (.iload_n 1, 1) := by decide +kernel
theorem dX10_mayComb_5 : decode cX10_mayComb 5 = .ok (.invokestatic 122, 3) := by decide +kernel
theorem dX10_mayComb_8 : decode cX10_mayComb 8 = .ok (.ifCond .ne 17, 3) := by decide +kernel
theorem dX10_mayComb_11 : decode cX10_mayComb 11 = .ok (.aload_n 0, 1) := by decide +kernel
theorem dX10_mayComb_12 : decode cX10_mayComb 12 = .ok (.getfield 13, 3) := by decide +kernel
theorem dX10_mayComb_15 : decode cX10_mayComb 15 = .ok (.iload_n 1, 1) := by decide +kernel
theorem dX10_mayComb_16 : decode cX10_mayComb 16 = .ok (.iaload, 1) := by decide +kernel
theorem dX10_mayComb_17 : decode cX10_mayComb 17 = .ok (.iconst 2, 1) := by decide +kernel
theorem dX10_mayComb_18 : decode cX10_mayComb 18 = .ok (.if_icmp .lt 7, 3) := by decide +kernel
theorem dX10_mayComb_21 : decode cX10_mayComb 21 = .ok (.iconst 1, 1) := by decide +kernel
theorem dX10_mayComb_22 : decode cX10_mayComb 22 = .ok (.goto 4, 3) := by decide +kernel
theorem dX10_mayComb_25 : decode cX10_mayComb 25 = .ok (.iconst 0, 1) := by decide +kernel
theorem dX10_mayComb_26 : decode cX10_mayComb 26 = .ok (.ireturn, 1) := by decide +kernel
theorem dX10_goComb_0 : decode cX10_goComb 0 = .ok (.aload_n 0, 1) := by decide +kernel
theorem dX10_goComb_1 : decode cX10_goComb 1 = .ok (.getfield 13, 3) := by decide +kernel
theorem dX10_goComb_4 : decode cX10_goComb 4 = .ok (.iload_n 1, 1) := by decide +kernel
theorem dX10_goComb_5 : decode cX10_goComb 5 = .ok (.dup2, 1) := by decide +kernel
theorem dX10_goComb_6 : decode cX10_goComb 6 = .ok (.iaload, 1) := by decide +kernel
theorem dX10_goComb_7 : decode cX10_goComb 7 = .ok (.iconst 2, 1) := by decide +kernel
theorem dX10_goComb_8 : decode cX10_goComb 8 = .ok (.isub, 1) := by decide +kernel
theorem dX10_goComb_9 : decode cX10_goComb 9 = .ok (.iastore, 1) := by decide +kernel
theorem dX10_goComb_10 : decode cX10_goComb 10 = .ok (.aload_n 0, 1) := by decide +kernel
theorem dX10_goComb_11 : decode cX10_goComb 11 = .ok (.dup, 1) := by decide +kernel
theorem dX10_goComb_12 : decode cX10_goComb 12 = .ok (.getfield 104, 3) := by decide +kernel
theorem dX10_goComb_15 : decode cX10_goComb 15 = .ok (.iconst 1, 1) := by decide +kernel
theorem dX10_goComb_16 : decode cX10_goComb 16 = .ok (.iload_n 1, 1) := by decide +kernel
theorem dX10_goComb_17 : decode cX10_goComb 17 = .ok (.ishl, 1) := by decide +kernel
theorem dX10_goComb_18 : decode cX10_goComb 18 = .ok (.ior, 1) := by decide +kernel
theorem dX10_goComb_19 : decode cX10_goComb 19 = .ok (.putfield 104, 3) := by decide +kernel
theorem dX10_goComb_22 : decode cX10_goComb 22 = .ok (.return_, 1) := by decide +kernel
theorem dX10_comb_0 : decode cX10_comb 0 = .ok (.aload_n 0, 1) := by decide +kernel
theorem dX10_comb_1 : decode cX10_comb 1 = .ok (.iload_n 1, 1) := by decide +kernel
theorem dX10_comb_2 : decode cX10_comb 2 = .ok (.invokevirtual 149, 3) := by decide +kernel
theorem dX10_comb_5 : decode cX10_comb 5 = .ok (.ifCond .ne 6, 3) := by decide +kernel
theorem dX10_comb_8 : decode cX10_comb 8 = .ok (.bipush (-101), 2) := by decide +kernel
theorem dX10_comb_10 : decode cX10_comb 10 = .ok (.ireturn, 1) := by decide +kernel
theorem dX10_comb_11 : decode cX10_comb 11 = .ok (.aload_n 0, 1) := by decide +kernel
theorem dX10_comb_12 : decode cX10_comb 12 = .ok (.iload_n 1, 1) := by decide +kernel
theorem dX10_comb_13 : decode cX10_comb 13 = .ok (.invokevirtual 168, 3) := by decide +kernel
theorem dX10_comb_16 : decode cX10_comb 16 = .ok (.ifCond .ne 6, 3) := by decide +kernel
theorem dX10_comb_19 : decode cX10_comb 19 = .ok (.bipush (-103), 2) := by decide +kernel
theorem dX10_comb_21 : decode cX10_comb 21 = .ok (.ireturn, 1) := by decide +kernel
theorem dX10_comb_22 : decode cX10_comb 22 = .ok (.aload_n 0, 1) := by decide +kernel
theorem dX10_comb_23 : decode cX10_comb 23 = .ok (.iload_n 1, 1) := by decide +kernel
theorem dX10_comb_24 : decode cX10_comb 24 = .ok (.invokevirtual 171, 3) := by decide +kernel
theorem dX10_comb_27 : decode cX10_comb 27 = .ok (.aload_n 0, 1) := by decide +kernel
theorem dX10_comb_28 : decode cX10_comb 28 = .ok (.getfield 13, 3) := by decide +kernel
theorem dX10_comb_31 : decode cX10_comb 31 = .ok (.iload_n 1, 1) := by decide +kernel
theorem dX10_comb_32 : decode cX10_comb 32 = .ok (.iaload, 1) := by decide +kernel
theorem dX10_comb_33 : decode cX10_comb 33 = .ok (.ireturn, 1) := by decide +kernel
theorem dX10_move_0 : decode cX10_move 0 = .ok (.aload_n 0, 1) := by decide +kernel
theorem dX10_move_1 : decode cX10_move 1 = .ok (.iload_n 1, 1) := by decide +kernel
theorem dX10_move_2 : decode cX10_move 2 = .ok (.invokevirtual 149, 3) := by decide +kernel
theorem dX10_move_5 : decode cX10_move 5 = .ok (.ifCond .ne 6, 3) := by decide +kernel
theorem dX10_move_8 : decode cX10_move 8 = .ok (.bipush (-101), 2) := by decide +kernel
theorem dX10_move_10 : decode cX10_move 10 = .ok (.ireturn, 1) := by decide +kernel
theorem dX10_move_11 : decode cX10_move 11 = .ok (.iload_n 2, 1) := by decide +kernel
theorem dX10_move_12 : decode cX10_move 12 = .ok (.iconst 0, 1) := by decide +kernel
theorem dX10_move_13 : decode cX10_move 13 = .ok (.iconst 4, 1) := by decide +kernel
theorem dX10_move_14 : decode cX10_move 14 = .ok (.invokestatic 71, 3) := by decide +kernel
theorem dX10_move_17 : decode cX10_move 17 = .ok (.ifCond .eq 13, 3) := by decide +kernel
theorem dX10_move_20 : decode cX10_move 20 = .ok (.iload_n 3, 1) := by decide +kernel
theorem dX10_move_21 : decode cX10_move 21 = .ok (.iconst 0, 1) := by decide +kernel
theorem dX10_move_22 : decode cX10_move 22 = .ok (.bipush 9, 2) := by decide +kernel
theorem dX10_move_24 : decode cX10_move 24 = .ok (.invokestatic 71, 3) := by decide +kernel
theorem dX10_move_27 : decode cX10_move 27 = .ok (.ifCond .ne 6, 3) := by decide +kernel
theorem dX10_move_30 : decode cX10_move 30 = .ok (.bipush (-102), 2) := by decide +kernel
theorem dX10_move_32 : decode cX10_move 32 = .ok (.ireturn, 1) := by decide +kernel
theorem dX10_move_33 : decode cX10_move 33 = .ok (.aload_n 0, 1) := by decide +kernel
theorem dX10_move_34 : decode cX10_move 34 = .ok (.getfield 7, 3) := by decide +kernel
theorem dX10_move_37 : decode cX10_move 37 = .ok (.iload_n 1, 1) := by decide +kernel
theorem dX10_move_38 : decode cX10_move 38 = .ok (.iaload, 1) := by decide +kernel
theorem dX10_move_39 : decode cX10_move 39 = .ok (.istore 4, 2) := by decide +kernel
theorem dX10_move_41 : decode cX10_move 41 = .ok (.aload_n 0, 1) := by decide +kernel
theorem dX10_move_42 : decode cX10_move 42 = .ok (.getfield 7, 3) := by decide +kernel
theorem dX10_move_45 : decode cX10_move 45 = .ok (.iload_n 1, 1) := by decide +kernel
theorem dX10_move_46 : decode cX10_move 46 = .ok (.iload_n 2, 1) := by decide +kernel
theorem dX10_move_47 : decode cX10_move 47 = .ok (.iastore, 1) := by decide +kernel
theorem dX10_move_48 : decode cX10_move 48 = .ok (.aload_n 0, 1) := by decide +kernel
theorem dX10_move_49 : decode cX10_move 49 = .ok (.getfield 16, 3) := by decide +kernel
theorem dX10_move_52 : decode cX10_move 52 = .ok (.iload_n 1, 1) := by decide +kernel
theorem dX10_move_53 : decode cX10_move 53 = .ok (.iload_n 3, 1) := by decide +kernel
theorem dX10_move_54 : decode cX10_move 54 = .ok (.iastore, 1) := by decide +kernel
theorem dX10_move_55 : decode cX10_move 55 = .ok (.iload 4, 2) := by decide +kernel
theorem dX10_move_57 : decode cX10_move 57 = .ok (.ireturn, 1) := by decide +kernel
theorem dX10_save_0 : decode cX10_save 0 = .ok (.iconst 0, 1) := by decide +kernel
theorem dX10_save_1 : decode cX10_save 1 = .ok (.istore_n 1, 1) := by decide +kernel
theorem dX10_save_2 : decode cX10_save 2 = .ok (.iload_n 1, 1) := by decide +kernel
theorem dX10_save_3 : decode cX10_save 3 = .ok (.bipush 6, 2) := by decide +kernel
theorem dX10_save_5 : decode cX10_save 5 = .ok (.if_icmp .ge 33, 3) := by decide +kernel
theorem dX10_save_8 : decode cX10_save 8 = .ok (.aload_n 0, 1) := by decide +kernel
theorem dX10_save_9 : decode cX10_save 9 = .ok (.getfield 32, 3) := by decide +kernel
theorem dX10_save_12 : decode cX10_save 12 = .ok (.iload_n 1, 1) := by decide +kernel
theorem dX10_save_13 : decode cX10_save 13 = .ok (.aload_n 0, 1) := by decide +kernel
theorem dX10_save_14 : decode cX10_save 14 = .ok (.getfield 13, 3) := by decide +kernel
theorem dX10_save_17 : decode cX10_save 17 = .ok (.iload_n 1, 1) := by decide +kernel
theorem dX10_save_18 : decode cX10_save 18 = .ok (.iaload, 1) := by decide +kernel
theorem dX10_save_19 : decode cX10_save 19 = .ok (.iastore, 1) := by decide +kernel
theorem dX10_save_20 : decode cX10_save 20 = .ok (.aload_n 0, 1) := by decide +kernel
theorem dX10_save_21 : decode cX10_save 21 = .ok (.getfield 35, 3) := by decide +kernel
theorem dX10_save_24 : decode cX10_save 24 = .ok (.iload_n 1, 1) := by decide +kernel
theorem dX10_save_25 : decode cX10_save 25 = .ok (.aload_n 0, 1) := by decide +kernel
theorem dX10_save_26 : decode cX10_save 26 = .ok (.getfield 16, 3) := by decide +kernel
theorem dX10_save_29 : decode cX10_save 29 = .ok (.iload_n 1, 1) := by decide +kernel
theorem dX10_save_30 : decode cX10_save 30 = .ok (.iaload, 1) := by decide +kernel
theorem dX10_save_31 : decode cX10_save 31 = .ok (.iastore, 1) := by decide +kernel
theorem dX10_save_32 : decode cX10_save 32 = .ok (.iinc 1 1, 3) := by decide +kernel
theorem dX10_save_35 : decode cX10_save 35 = .ok (.goto (-33), 3) := by decide +kernel
theorem dX10_save_38 : decode cX10_save 38 = .ok (.aload_n 0, 1) := by decide +kernel
theorem dX10_save_39 : decode cX10_save 39 = .ok (.aload_n 0, 1) := by decide +kernel
theorem dX10_save_40 : decode cX10_save 40 = .ok (.getfield 104, 3) := by decide +kernel
theorem dX10_save_43 : decode cX10_save 43 = .ok (.putfield 174, 3) := by decide +kernel
theorem dX10_save_46 : decode cX10_save 46 = .ok (.aload_n 0, 1) := by decide +kernel
theorem dX10_save_47 : decode cX10_save 47 = .ok (.aload_n 0, 1) := by decide +kernel
theorem dX10_save_48 : decode cX10_save 48 = .ok (.getfield 107, 3) := by decide +kernel
theorem dX10_save_51 : decode cX10_save 51 = .ok (.putfield 177, 3) := by decide +kernel
theorem dX10_save_54 : decode cX10_save 54 = .ok (.return_, 1) := by decide +kernel
theorem dX10_load_0 : decode cX10_load 0 = .ok (.iconst 0, 1) := by decide +kernel
theorem dX10_load_1 : decode cX10_load 1 = .ok (.istore_n 1, 1) := by decide +kernel
theorem dX10_load_2 : decode cX10_load 2 = .ok (.iload_n 1, 1) := by decide +kernel
theorem dX10_load_3 : decode cX10_load 3 = .ok (.bipush 6, 2) := by decide +kernel
theorem dX10_load_5 : decode cX10_load 5 = .ok (.if_icmp .ge 33, 3) := by decide +kernel
theorem dX10_load_8 : decode cX10_load 8 = .ok (.aload_n 0, 1) := by decide +kernel
theorem dX10_load_9 : decode cX10_load 9 = .ok (.getfield 13, 3) := by decide +kernel
theorem dX10_load_12 : decode cX10_load 12 = .ok (.iload_n 1, 1) := by decide +kernel
theorem dX10_load_13 : decode cX10_load 13 = .ok (.aload_n 0, 1) := by decide +kernel
theorem dX10_load_14 : decode cX10_load 14 = .ok (.getfield 32, 3) := by decide +kernel
theorem dX10_load_17 : decode cX10_load 17 = .ok (.iload_n 1, 1) := by decide +kernel
theorem dX10_load_18 : decode cX10_load 18 = .ok (.iaload, 1) := by decide +kernel
theorem dX10_load_19 : decode cX10_load 19 = .ok (.iastore, 1) := by decide +kernel
theorem dX10_load_20 : decode cX10_load 20 = .ok (.aload_n 0, 1) := by decide +kernel
theorem dX10_load_21 : decode cX10_load 21 = .ok (.getfield 16, 3) := by decide +kernel
theorem dX10_load_24 : decode cX10_load 24 = .ok (.iload_n 1, 1) := by decide +kernel
theorem dX10_load_25 : decode cX10_load 25 = .ok (.aload_n 0, 1) := by decide +kernel
theorem dX10_load_26 : decode cX10_load 26 = .ok (.getfield 35, 3) := by decide +kernel
theorem dX10_load_29 : decode cX10_load 29 = .ok (.iload_n 1, 1) := by decide +kernel
theorem dX10_load_30 : decode cX10_load 30 = .ok (.iaload, 1) := by decide +kernel
theorem dX10_load_31 : decode cX10_load 31 = .ok (.iastore, 1) := by decide +kernel
theorem dX10_load_32 : decode cX10_load 32 = .ok (.iinc 1 1, 3) := by decide +kernel
theorem dX10_load_35 : decode cX10_load 35 = .ok (.goto (-33), 3) := by decide +kernel
theorem dX10_load_38 : decode cX10_load 38 = .ok (.aload_n 0, 1) := by decide +kernel
theorem dX10_load_39 : decode cX10_load 39 = .ok (.aload_n 0, 1) := by decide +kernel
theorem dX10_load_40 : decode cX10_load 40 = .ok (.getfield 174, 3) := by decide +kernel
theorem dX10_load_43 : decode cX10_load 43 = .ok (.putfield 104, 3) := by decide +kernel
theorem dX10_load_46 : decode cX10_load 46 = .ok (.aload_n 0, 1) := by decide +kernel
theorem dX10_load_47 : decode cX10_load 47 = .ok (.aload_n 0, 1) := by decide +kernel
theorem dX10_load_48 : decode cX10_load 48 = .ok (.getfield 177, 3) := by decide +kernel
theorem dX10_load_51 : decode cX10_load 51 = .ok (.putfield 107, 3) := by decide +kernel
theorem dX10_load_54 : decode cX10_load 54 = .ok (.return_, 1) := by decide +kernel
theorem dX10_dryNow_0 : decode cX10_dryNow 0 = .ok (.aload_n 0, 1) := by decide +kernel
theorem dX10_dryNow_1 : decode cX10_dryNow 1 = .ok (.invokevirtual 180, 3) := by decide +kernel
theorem dX10_dryNow_4 : decode cX10_dryNow 4 = .ok (.iconst 0, 1) := by decide +kernel
theorem dX10_dryNow_5 : decode cX10_dryNow 5 = .ok (.istore_n 3, 1) := by decide +kernel
theorem dX10_dryNow_6 : decode cX10_dryNow 6 = .ok (.iload_n 3, 1) := by decide +kernel
theorem dX10_dryNow_7 : decode cX10_dryNow 7 = .ok (.bipush 40, 2) := by decide +kernel
theorem dX10_dryNow_9 : decode cX10_dryNow 9 = .ok (.if_icmp .gt 25, 3) := by decide +kernel
theorem dX10_dryNow_12 : decode cX10_dryNow 12 = .ok (.aload_n 0, 1) := by decide +kernel
theorem dX10_dryNow_13 : decode cX10_dryNow 13 = .ok (.iload_n 2, 1) := by decide +kernel
theorem dX10_dryNow_14 : decode cX10_dryNow 14 = .ok (.invokevirtual 137, 3) := by decide +kernel
theorem dX10_dryNow_17 : decode cX10_dryNow 17 = .ok (.iload_n 1, 1) := by decide +kernel
theorem dX10_dryNow_18 : decode cX10_dryNow 18 = .ok (.invokestatic 122, 3) := by decide +kernel
theorem dX10_dryNow_21 : decode cX10_dryNow 21 = .ok (.ifCond .ne 13, 3) := by decide +kernel
theorem dX10_dryNow_24 : decode cX10_dryNow 24 = .ok (.aload_n 0, 1) := by decide +kernel
theorem dX10_dryNow_25 : decode cX10_dryNow 25 = .ok (.invokevirtual 158, 3) := by decide +kernel
theorem dX10_dryNow_28 : decode cX10_dryNow 28 = .ok (.iinc 3 1, 3) := by decide +kernel
theorem dX10_dryNow_31 : decode cX10_dryNow 31 = .ok (.goto (-25), 3) := by decide +kernel
theorem dX10_dryNow_34 : decode cX10_dryNow 34 = .ok (.aload_n 0, 1) := by decide +kernel
theorem dX10_dryNow_35 : decode cX10_dryNow 35 = .ok (.invokevirtual 183, 3) := by decide +kernel
theorem dX10_dryNow_38 : decode cX10_dryNow 38 = .ok (.iload_n 3, 1) := by decide +kernel
theorem dX10_dryNow_39 : decode cX10_dryNow 39 = .ok (.bipush 40, 2) := by decide +kernel
theorem dX10_dryNow_41 : decode cX10_dryNow 41 = .ok (.if_icmp .le 7, 3) := by decide +kernel
theorem dX10_dryNow_44 : decode cX10_dryNow 44 = .ok (.iconst (-1), 1) := by decide +kernel
theorem dX10_dryNow_45 : decode cX10_dryNow 45 = .ok (.goto 4, 3) := by decide +kernel
theorem dX10_dryNow_48 : decode cX10_dryNow 48 = .ok (.iload_n 3, 1) := by decide +kernel
theorem dX10_dryNow_49 : decode cX10_dryNow 49 = .ok (.ireturn, 1) := by decide +kernel
theorem dX10_dry_0 : decode cX10_dry 0 = .ok (.aload_n 0, 1) := by decide +kernel
theorem dX10_dry_1 : decode cX10_dry 1 = .ok (.iload_n 1, 1) := by decide +kernel
theorem dX10_dry_2 : decode cX10_dry 2 = .ok (.invokevirtual 149, 3) := by decide +kernel
theorem dX10_dry_5 : decode cX10_dry 5 = .ok (.ifCond .ne 6, 3) := by decide +kernel
theorem dX10_dry_8 : decode cX10_dry 8 = .ok (.bipush (-101), 2) := by decide +kernel
theorem dX10_dry_10 : decode cX10_dry 10 = .ok (.ireturn, 1) := by decide +kernel
theorem dX10_dry_11 : decode cX10_dry 11 = .ok (.iload_n 2, 1) := by decide +kernel
theorem dX10_dry_12 : decode cX10_dry 12 = .ok (.invokestatic 155, 3) := by decide +kernel
theorem dX10_dry_15 : decode cX10_dry 15 = .ok (.ifCond .eq 12, 3) := by decide +kernel
theorem dX10_dry_18 : decode cX10_dry 18 = .ok (.aload_n 0, 1) := by decide +kernel
theorem dX10_dry_19 : decode cX10_dry 19 = .ok (.iload_n 1, 1) := by decide +kernel
theorem dX10_dry_20 : decode cX10_dry 20 = .ok (.iload_n 2, 1) := by decide +kernel
theorem dX10_dry_21 : decode cX10_dry 21 = .ok (.invokevirtual 186, 3) := by decide +kernel
theorem dX10_dry_24 : decode cX10_dry 24 = .ok (.goto 5, 3) := by decide +kernel
theorem dX10_dry_27 : decode cX10_dry 27 = .ok (.bipush (-102), 2) := by decide +kernel
