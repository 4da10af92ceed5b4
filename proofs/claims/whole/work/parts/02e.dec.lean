theorem dX10_dry_29 : decode cX10_dry 29 = .ok (.ireturn, 1) := by decide +kernel
theorem dX10_layPlan_0 : decode cX10_layPlan 0 = .ok (.iconst 1, 1) := by decide +kernel
theorem dX10_layPlan_1 : decode cX10_layPlan 1 = .ok (.istore_n 3, 1) := by decide +kernel
theorem dX10_layPlan_2 : decode cX10_layPlan 2 = .ok (.iconst 0, 1) := by decide +kernel
theorem dX10_layPlan_3 : decode cX10_layPlan 3 = .ok (.istore 4, 2) := by decide +kernel
theorem dX10_layPlan_5 : decode cX10_layPlan 5 = .ok (.iload 4, 2) := by decide +kernel
theorem dX10_layPlan_7 : decode cX10_layPlan 7 = .ok (.iload_n 1, 1) := by decide +kernel
theorem dX10_layPlan_8 : decode cX10_layPlan 8 = .ok (.if_icmp .ge 16, 3) := by decide +kernel
theorem dX10_layPlan_11 : decode cX10_layPlan 11 = .ok (.iload_n 3, 1) := by decide +kernel
theorem dX10_layPlan_12 : decode cX10_layPlan 12 = .ok (.aload_n 0, 1) := by decide +kernel
theorem dX10_layPlan_13 : decode cX10_layPlan 13 = .ok (.getfield 101, 3) := by decide +kernel
theorem dX10_layPlan_16 : decode cX10_layPlan 16 = .ok (.imul, 1) := by decide +kernel
theorem dX10_layPlan_17 : decode cX10_layPlan 17 = .ok (.istore_n 3, 1) := by decide +kernel
theorem dX10_layPlan_18 : decode cX10_layPlan 18 = .ok (.iinc 4 1, 3) := by decide +kernel
theorem dX10_layPlan_21 : decode cX10_layPlan 21 = .ok (.goto (-16), 3) := by decide +kernel
theorem dX10_layPlan_24 : decode cX10_layPlan 24 = .ok (.aload_n 0, 1) := by decide +kernel
theorem dX10_layPlan_25 : decode cX10_layPlan 25 = .ok (.ldc 189, 2) := by decide +kernel
theorem dX10_layPlan_27 : decode cX10_layPlan 27 = .ok (.putfield 190, 3) := by decide +kernel
theorem dX10_layPlan_30 : decode cX10_layPlan 30 = .ok (.aload_n 0, 1) := by decide +kernel
theorem dX10_layPlan_31 : decode cX10_layPlan 31 = .ok (.iconst 0, 1) := by decide +kernel
theorem dX10_layPlan_32 : decode cX10_layPlan 32 = .ok (.putfield 193, 3) := by decide +kernel
theorem dX10_layPlan_35 : decode cX10_layPlan 35 = .ok (.aload_n 0, 1) := by decide +kernel
theorem dX10_layPlan_36 : decode cX10_layPlan 36 = .ok (.invokevirtual 180, 3) := by decide +kernel
theorem dX10_layPlan_39 : decode cX10_layPlan 39 = .ok (.iconst 0, 1) := by decide +kernel
theorem dX10_layPlan_40 : decode cX10_layPlan 40 = .ok (.istore 4, 2) := by decide +kernel
theorem dX10_layPlan_42 : decode cX10_layPlan 42 = .ok (.iload 4, 2) := by decide +kernel
theorem dX10_layPlan_44 : decode cX10_layPlan 44 = .ok (.iload_n 3, 1) := by decide +kernel
theorem dX10_layPlan_45 : decode cX10_layPlan 45 = .ok (.if_icmp .ge 119, 3) := by decide +kernel
theorem dX10_layPlan_48 : decode cX10_layPlan 48 = .ok (.iload_n 3, 1) := by decide +kernel
theorem dX10_layPlan_49 : decode cX10_layPlan 49 = .ok (.istore 5, 2) := by decide +kernel
theorem dX10_layPlan_51 : decode cX10_layPlan 51 = .ok (.iconst 0, 1) := by decide +kernel
theorem dX10_layPlan_52 : decode cX10_layPlan 52 = .ok (.istore 6, 2) := by decide +kernel
theorem dX10_layPlan_54 : decode cX10_layPlan 54 = .ok (.iload 6, 2) := by decide +kernel
theorem dX10_layPlan_56 : decode cX10_layPlan 56 = .ok (.iload_n 1, 1) := by decide +kernel
theorem dX10_layPlan_57 : decode cX10_layPlan 57 = .ok (.if_icmp .ge 36, 3) := by decide +kernel
theorem dX10_layPlan_60 : decode cX10_layPlan 60 = .ok (.iload 5, 2) := by decide +kernel
theorem dX10_layPlan_62 : decode cX10_layPlan 62 = .ok (.aload_n 0, 1) := by decide +kernel
theorem dX10_layPlan_63 : decode cX10_layPlan 63 = .ok (.getfield 101, 3) := by decide +kernel
theorem dX10_layPlan_66 : decode cX10_layPlan 66 = .ok (.idiv, 1) := by decide +kernel
theorem dX10_layPlan_67 : decode cX10_layPlan 67 = .ok (.istore 5, 2) := by decide +kernel
theorem dX10_layPlan_69 : decode cX10_layPlan 69 = .ok (.aload_n 0, 1) := by decide +kernel
theorem dX10_layPlan_70 : decode cX10_layPlan 70 = .ok (.iload 4, 2) := by decide +kernel
theorem dX10_layPlan_72 : decode cX10_layPlan 72 = .ok (.iload 5, 2) := by decide +kernel
theorem dX10_layPlan_74 : decode cX10_layPlan 74 = .ok (.idiv, 1) := by decide +kernel
theorem dX10_layPlan_75 : decode cX10_layPlan 75 = .ok (.aload_n 0, 1) := by decide +kernel
theorem dX10_layPlan_76 : decode cX10_layPlan 76 = .ok (.getfield 101, 3) := by decide +kernel
theorem dX10_layPlan_79 : decode cX10_layPlan 79 = .ok (.irem, 1) := by decide +kernel
theorem dX10_layPlan_80 : decode cX10_layPlan 80 = .ok (.invokevirtual 164, 3) := by decide +kernel
theorem dX10_layPlan_83 : decode cX10_layPlan 83 = .ok (.aload_n 0, 1) := by decide +kernel
theorem dX10_layPlan_84 : decode cX10_layPlan 84 = .ok (.invokevirtual 158, 3) := by decide +kernel
theorem dX10_layPlan_87 : decode cX10_layPlan 87 = .ok (.iinc 6 1, 3) := by decide +kernel
theorem dX10_layPlan_90 : decode cX10_layPlan 90 = .ok (.goto (-36), 3) := by decide +kernel
theorem dX10_layPlan_93 : decode cX10_layPlan 93 = .ok (.aload_n 0, 1) := by decide +kernel
theorem dX10_layPlan_94 : decode cX10_layPlan 94 = .ok (.iload_n 2, 1) := by decide +kernel
theorem dX10_layPlan_95 : decode cX10_layPlan 95 = .ok (.invokevirtual 137, 3) := by decide +kernel
theorem dX10_layPlan_98 : decode cX10_layPlan 98 = .ok (.invokestatic 140, 3) := by decide +kernel
theorem dX10_layPlan_101 : decode cX10_layPlan 101 = .ok (.istore 6, 2) := by decide +kernel
theorem dX10_layPlan_103 : decode cX10_layPlan 103 = .ok (.aload_n 0, 1) := by decide +kernel
theorem dX10_layPlan_104 : decode cX10_layPlan 104 = .ok (.invokevirtual 196, 3) := by decide +kernel
theorem dX10_layPlan_107 : decode cX10_layPlan 107 = .ok (.istore 7, 2) := by decide +kernel
theorem dX10_layPlan_109 : decode cX10_layPlan 109 = .ok (.iload 6, 2) := by decide +kernel
theorem dX10_layPlan_111 : decode cX10_layPlan 111 = .ok (.aload_n 0, 1) := by decide +kernel
theorem dX10_layPlan_112 : decode cX10_layPlan 112 = .ok (.getfield 190, 3) := by decide +kernel
theorem dX10_layPlan_115 : decode cX10_layPlan 115 = .ok (.if_icmp .lt 21, 3) := by decide +kernel
theorem dX10_layPlan_118 : decode cX10_layPlan 118 = .ok (.iload 6, 2) := by decide +kernel
theorem dX10_layPlan_120 : decode cX10_layPlan 120 = .ok (.aload_n 0, 1) := by decide +kernel
theorem dX10_layPlan_121 : decode cX10_layPlan 121 = .ok (.getfield 190, 3) := by decide +kernel
theorem dX10_layPlan_124 : decode cX10_layPlan 124 = .ok (.if_icmp .ne 30, 3) := by decide +kernel
theorem dX10_layPlan_127 : decode cX10_layPlan 127 = .ok (.iload 7, 2) := by decide +kernel
theorem dX10_layPlan_129 : decode cX10_layPlan 129 = .ok (.aload_n 0, 1) := by decide +kernel
theorem dX10_layPlan_130 : decode cX10_layPlan 130 = .ok (.getfield 193, 3) := by decide +kernel
theorem dX10_layPlan_133 : decode cX10_layPlan 133 = .ok (.if_icmp .le 21, 3) := by decide +kernel
theorem dX10_layPlan_136 : decode cX10_layPlan 136 = .ok (.aload_n 0, 1) := by decide +kernel
theorem dX10_layPlan_137 : decode cX10_layPlan 137 = .ok (.iload 6, 2) := by decide +kernel
theorem dX10_layPlan_139 : decode cX10_layPlan 139 = .ok (.putfield 190, 3) := by decide +kernel
theorem dX10_layPlan_142 : decode cX10_layPlan 142 = .ok (.aload_n 0, 1) := by decide +kernel
theorem dX10_layPlan_143 : decode cX10_layPlan 143 = .ok (.iload 7, 2) := by decide +kernel
theorem dX10_layPlan_145 : decode cX10_layPlan 145 = .ok (.putfield 193, 3) := by decide +kernel
theorem dX10_layPlan_148 : decode cX10_layPlan 148 = .ok (.aload_n 0, 1) := by decide +kernel
theorem dX10_layPlan_149 : decode cX10_layPlan 149 = .ok (.iload 4, 2) := by decide +kernel
theorem dX10_layPlan_151 : decode cX10_layPlan 151 = .ok (.putfield 199, 3) := by decide +kernel
theorem dX10_layPlan_154 : decode cX10_layPlan 154 = .ok (.aload_n 0, 1) := by decide +kernel
theorem dX10_layPlan_155 : decode cX10_layPlan 155 = .ok (.invokevirtual 183, 3) := by decide +kernel
theorem dX10_layPlan_158 : decode cX10_layPlan 158 = .ok (.iinc 4 1, 3) := by decide +kernel
theorem dX10_layPlan_161 : decode cX10_layPlan 161 = .ok (.goto (-119), 3) := by decide +kernel
theorem dX10_layPlan_164 : decode cX10_layPlan 164 = .ok (.return_, 1) := by decide +kernel
theorem dX10_planNow_0 : decode cX10_planNow 0 = .ok (.iload_n 2, 1) := by decide +kernel
theorem dX10_planNow_1 : decode cX10_planNow 1 = .ok (.iconst 2, 1) := by decide +kernel
theorem dX10_planNow_2 : decode cX10_planNow 2 = .ok (.if_icmp .ge 19, 3) := by decide +kernel
theorem dX10_planNow_5 : decode cX10_planNow 5 = .ok (.iload_n 2, 1) := by decide +kernel
theorem dX10_planNow_6 : decode cX10_planNow 6 = .ok (.ifCond .ne 10, 3) := by decide +kernel
theorem dX10_planNow_9 : decode cX10_planNow 9 = .ok (.aload_n 0, 1) := by decide +kernel
theorem dX10_planNow_10 : decode cX10_planNow 10 = .ok (.getfield 190, 3) := by decide +kernel
theorem dX10_planNow_13 : decode cX10_planNow 13 = .ok (.goto 7, 3) := by decide +kernel
theorem dX10_planNow_16 : decode cX10_planNow 16 = .ok (.aload_n 0, 1) := by decide +kernel
theorem dX10_planNow_17 : decode cX10_planNow 17 = .ok (.getfield 193, 3) := by decide +kernel
theorem dX10_planNow_20 : decode cX10_planNow 20 = .ok (.ireturn, 1) := by decide +kernel
theorem dX10_planNow_21 : decode cX10_planNow 21 = .ok (.iload_n 2, 1) := by decide +kernel
theorem dX10_planNow_22 : decode cX10_planNow 22 = .ok (.bipush 10, 2) := by decide +kernel
theorem dX10_planNow_24 : decode cX10_planNow 24 = .ok (.isub, 1) := by decide +kernel
theorem dX10_planNow_25 : decode cX10_planNow 25 = .ok (.iload_n 1, 1) := by decide +kernel
theorem dX10_planNow_26 : decode cX10_planNow 26 = .ok (.if_icmp .lt 5, 3) := by decide +kernel
theorem dX10_planNow_29 : decode cX10_planNow 29 = .ok (.iconst (-1), 1) := by decide +kernel
theorem dX10_planNow_30 : decode cX10_planNow 30 = .ok (.ireturn, 1) := by decide +kernel
theorem dX10_planNow_31 : decode cX10_planNow 31 = .ok (.aload_n 0, 1) := by decide +kernel
theorem dX10_planNow_32 : decode cX10_planNow 32 = .ok (.getfield 199, 3) := by decide +kernel
theorem dX10_planNow_35 : decode cX10_planNow 35 = .ok (.istore_n 3, 1) := by decide +kernel
theorem dX10_planNow_36 : decode cX10_planNow 36 = .ok (.iload_n 1, 1) := by decide +kernel
theorem dX10_planNow_37 : decode cX10_planNow 37 = .ok (.iconst 1, 1) := by decide +kernel
theorem dX10_planNow_38 : decode cX10_planNow 38 = .ok (.isub, 1) := by decide +kernel
theorem dX10_planNow_39 : decode cX10_planNow 39 = .ok (.istore 4, 2) := by decide +kernel
theorem dX10_planNow_41 : decode cX10_planNow 41 = .ok (.iload 4, 2) := by decide +kernel
theorem dX10_planNow_43 : decode cX10_planNow 43 = .ok (.iload_n 2, 1) := by decide +kernel
theorem dX10_planNow_44 : decode cX10_planNow 44 = .ok (.bipush 10, 2) := by decide +kernel
theorem dX10_planNow_46 : decode cX10_planNow 46 = .ok (.isub, 1) := by decide +kernel
theorem dX10_planNow_47 : decode cX10_planNow 47 = .ok (.if_icmp .le 16, 3) := by decide +kernel
theorem dX10_planNow_50 : decode cX10_planNow 50 = .ok (.iload_n 3, 1) := by decide +kernel
theorem dX10_planNow_51 : decode cX10_planNow 51 = .ok (.aload_n 0, 1) := by decide +kernel
theorem dX10_planNow_52 : decode cX10_planNow 52 = .ok (.getfield 101, 3) := by decide +kernel
theorem dX10_planNow_55 : decode cX10_planNow 55 = .ok (.idiv, 1) := by decide +kernel
theorem dX10_planNow_56 : decode cX10_planNow 56 = .ok (.istore_n 3, 1) := by decide +kernel
theorem dX10_planNow_57 : decode cX10_planNow 57 = .ok (.iinc 4 (-1), 3) := by decide +kernel
theorem dX10_planNow_60 : decode cX10_planNow 60 = .ok (.goto (-19), 3) := by decide +kernel
theorem dX10_planNow_63 : decode cX10_planNow 63 = .ok (.iload_n 3, 1) := by decide +kernel
theorem dX10_planNow_64 : decode cX10_planNow 64 = .ok (.aload_n 0, 1) := by decide +kernel
theorem dX10_planNow_65 : decode cX10_planNow 65 = .ok (.getfield 101, 3) := by decide +kernel
theorem dX10_planNow_68 : decode cX10_planNow 68 = .ok (.irem, 1) := by decide +kernel
theorem dX10_planNow_69 : decode cX10_planNow 69 = .ok (.ireturn, 1) := by decide +kernel
theorem dX10_plan_0 : decode cX10_plan 0 = .ok (.iload_n 1, 1) := by decide +kernel
theorem dX10_plan_1 : decode cX10_plan 1 = .ok (.iconst 1, 1) := by decide +kernel
theorem dX10_plan_2 : decode cX10_plan 2 = .ok (.iconst 4, 1) := by decide +kernel
theorem dX10_plan_3 : decode cX10_plan 3 = .ok (.invokestatic 71, 3) := by decide +kernel
theorem dX10_plan_6 : decode cX10_plan 6 = .ok (.ifCond .eq 30, 3) := by decide +kernel
theorem dX10_plan_9 : decode cX10_plan 9 = .ok (.iload_n 2, 1) := by decide +kernel
theorem dX10_plan_10 : decode cX10_plan 10 = .ok (.invokestatic 155, 3) := by decide +kernel
theorem dX10_plan_13 : decode cX10_plan 13 = .ok (.ifCond .eq 23, 3) := by decide +kernel
theorem dX10_plan_16 : decode cX10_plan 16 = .ok (.iload_n 3, 1) := by decide +kernel
theorem dX10_plan_17 : decode cX10_plan 17 = .ok (.iconst 0, 1) := by decide +kernel
theorem dX10_plan_18 : decode cX10_plan 18 = .ok (.iconst 1, 1) := by decide +kernel
theorem dX10_plan_19 : decode cX10_plan 19 = .ok (.invokestatic 71, 3) := by decide +kernel
theorem dX10_plan_22 : decode cX10_plan 22 = .ok (.ifCond .ne 17, 3) := by decide +kernel
theorem dX10_plan_25 : decode cX10_plan 25 = .ok (.iload_n 3, 1) := by decide +kernel
theorem dX10_plan_26 : decode cX10_plan 26 = .ok (.bipush 10, 2) := by decide +kernel
theorem dX10_plan_28 : decode cX10_plan 28 = .ok (.bipush 13, 2) := by decide +kernel
theorem dX10_plan_30 : decode cX10_plan 30 = .ok (.invokestatic 71, 3) := by decide +kernel
theorem dX10_plan_33 : decode cX10_plan 33 = .ok (.ifCond .ne 6, 3) := by decide +kernel
theorem dX10_plan_36 : decode cX10_plan 36 = .ok (.bipush (-102), 2) := by decide +kernel
theorem dX10_plan_38 : decode cX10_plan 38 = .ok (.ireturn, 1) := by decide +kernel
theorem dX10_plan_39 : decode cX10_plan 39 = .ok (.aload_n 0, 1) := by decide +kernel
theorem dX10_plan_40 : decode cX10_plan 40 = .ok (.getfield 101, 3) := by decide +kernel
theorem dX10_plan_43 : decode cX10_plan 43 = .ok (.ifCond .ne 6, 3) := by decide +kernel
theorem dX10_plan_46 : decode cX10_plan 46 = .ok (.bipush (-103), 2) := by decide +kernel
theorem dX10_plan_48 : decode cX10_plan 48 = .ok (.ireturn, 1) := by decide +kernel
theorem dX10_plan_49 : decode cX10_plan 49 = .ok (.aload_n 0, 1) := by decide +kernel
theorem dX10_plan_50 : decode cX10_plan 50 = .ok (.iload_n 1, 1) := by decide +kernel
theorem dX10_plan_51 : decode cX10_plan 51 = .ok (.iload_n 2, 1) := by decide +kernel
theorem dX10_plan_52 : decode cX10_plan 52 = .ok (.invokevirtual 202, 3) := by decide +kernel
theorem dX10_plan_55 : decode cX10_plan 55 = .ok (.aload_n 0, 1) := by decide +kernel
theorem dX10_plan_56 : decode cX10_plan 56 = .ok (.iload_n 1, 1) := by decide +kernel
theorem dX10_plan_57 : decode cX10_plan 57 = .ok (.iload_n 3, 1) := by decide +kernel
theorem dX10_plan_58 : decode cX10_plan 58 = .ok (.invokevirtual 206, 3) := by decide +kernel
theorem dX10_plan_61 : decode cX10_plan 61 = .ok (.ireturn, 1) := by decide +kernel
theorem dX10_apart_0 : decode cX10_apart 0 = .ok (.aload_n 0, 1) := by decide +kernel
theorem dX10_apart_1 : decode cX10_apart 1 = .ok (.getfield 13, 3) := by decide +kernel
theorem dX10_apart_4 : decode cX10_apart 4 = .ok (.iload_n 1, 1) := by decide +kernel
theorem dX10_apart_5 : decode cX10_apart 5 = .ok (.iaload, 1) := by decide +kernel
theorem dX10_apart_6 : decode cX10_apart 6 = .ok (.aload_n 0, 1) := by decide +kernel
theorem dX10_apart_7 : decode cX10_apart 7 = .ok (.getfield 13, 3) := by decide +kernel
theorem dX10_apart_10 : decode cX10_apart 10 = .ok (.iload_n 2, 1) := by decide +kernel
theorem dX10_apart_11 : decode cX10_apart 11 = .ok (.iaload, 1) := by decide +kernel
theorem dX10_apart_12 : decode cX10_apart 12 = .ok (.isub, 1) := by decide +kernel
theorem dX10_apart_13 : decode cX10_apart 13 = .ok (.istore_n 3, 1) := by decide +kernel
theorem dX10_apart_14 : decode cX10_apart 14 = .ok (.iload_n 3, 1) := by decide +kernel
theorem dX10_apart_15 : decode cX10_apart 15 = .ok (.ifCond .ge 8, 3) := by decide +kernel
theorem dX10_apart_18 : decode cX10_apart 18 = .ok (.iload_n 3, 1) := by decide +kernel
theorem dX10_apart_19 : decode cX10_apart 19 = .ok (.ineg, 1) := by decide +kernel
theorem dX10_apart_20 : decode cX10_apart 20 = .ok (.goto 4, 3) := by decide +kernel
theorem dX10_apart_23 : decode cX10_apart 23 = .ok (.iload_n 3, 1) := by decide +kernel
theorem dX10_apart_24 : decode cX10_apart 24 = .ok (.ireturn, 1) := by decide +kernel
theorem dX10_lowest_0 : decode cX10_lowest 0 = .ok (.iconst 0, 1) := by decide +kernel
theorem dX10_lowest_1 : decode cX10_lowest 1 = .ok (.istore_n 1, 1) := by decide +kernel
theorem dX10_lowest_2 : decode cX10_lowest 2 = .ok (.iload_n 0, 1) := by decide +kernel
theorem dX10_lowest_3 : decode cX10_lowest 3 = .ok (.iload_n 1, 1) := by decide +kernel
theorem dX10_lowest_4 : decode cX10_lowest 4 = .ok (.invokestatic 122, 3) := by decide +kernel
theorem dX10_lowest_7 : decode cX10_lowest 7 = .ok (.ifCond .ne 9, 3) := by decide +kernel
theorem dX10_lowest_10 : decode cX10_lowest 10 = .ok (.iinc 1 1, 3) := by decide +kernel
theorem dX10_lowest_13 : decode cX10_lowest 13 = .ok (.goto (-11), 3) := by decide +kernel
theorem dX10_lowest_16 : decode cX10_lowest 16 = .ok (.iload_n 1, 1) := by decide +kernel
theorem dX10_lowest_17 : decode cX10_lowest 17 = .ok (.ireturn, 1) := by decide +kernel
theorem dX10_leastOf_0 : decode cX10_leastOf 0 = .ok (.iload_n 1, 1) := by decide +kernel
theorem dX10_leastOf_1 : decode cX10_leastOf 1 = .ok (.invokestatic 209, 3) := by decide +kernel
theorem dX10_leastOf_4 : decode cX10_leastOf 4 = .ok (.istore_n 2, 1) := by decide +kernel
theorem dX10_leastOf_5 : decode cX10_leastOf 5 = .ok (.iload_n 1, 1) := by decide +kernel
theorem dX10_leastOf_6 : decode cX10_leastOf 6 = .ok (.iconst 1, 1) := by decide +kernel
theorem dX10_leastOf_7 : decode cX10_leastOf 7 = .ok (.iload_n 2, 1) := by decide +kernel
theorem dX10_leastOf_8 : decode cX10_leastOf 8 = .ok (.ishl, 1) := by decide +kernel
theorem dX10_leastOf_9 : decode cX10_leastOf 9 = .ok (.iconst (-1), 1) := by decide +kernel
theorem dX10_leastOf_10 : decode cX10_leastOf 10 = .ok (.ixor, 1) := by decide +kernel
theorem dX10_leastOf_11 : decode cX10_leastOf 11 = .ok (.iand, 1) := by decide +kernel
theorem dX10_leastOf_12 : decode cX10_leastOf 12 = .ok (.istore_n 3, 1) := by decide +kernel
theorem dX10_leastOf_13 : decode cX10_leastOf 13 = .ok (.iload_n 1, 1) := by decide +kernel
theorem dX10_leastOf_14 : decode cX10_leastOf 14 = .ok (.invokestatic 140, 3) := by decide +kernel
theorem dX10_leastOf_17 : decode cX10_leastOf 17 = .ok (.iconst 2, 1) := by decide +kernel
theorem dX10_leastOf_18 : decode cX10_leastOf 18 = .ok (.irem, 1) := by decide +kernel
theorem dX10_leastOf_19 : decode cX10_leastOf 19 = .ok (.iconst 1, 1) := by decide +kernel
theorem dX10_leastOf_20 : decode cX10_leastOf 20 = .ok (.if_icmp .ne 12, 3) := by decide +kernel
theorem dX10_leastOf_23 : decode cX10_leastOf 23 = .ok (.aload_n 0, 1) := by decide +kernel
theorem dX10_leastOf_24 : decode cX10_leastOf 24 = .ok (.getfield 38, 3) := by decide +kernel
theorem dX10_leastOf_27 : decode cX10_leastOf 27 = .ok (.iload_n 3, 1) := by decide +kernel
theorem dX10_leastOf_28 : decode cX10_leastOf 28 = .ok (.iaload, 1) := by decide +kernel
theorem dX10_leastOf_29 : decode cX10_leastOf 29 = .ok (.goto 5, 3) := by decide +kernel
theorem dX10_leastOf_32 : decode cX10_leastOf 32 = .ok (.ldc 189, 2) := by decide +kernel
theorem dX10_leastOf_34 : decode cX10_leastOf 34 = .ok (.istore 4, 2) := by decide +kernel
theorem dX10_leastOf_36 : decode cX10_leastOf 36 = .ok (.iconst 0, 1) := by decide +kernel
theorem dX10_leastOf_37 : decode cX10_leastOf 37 = .ok (.istore 5, 2) := by decide +kernel
theorem dX10_leastOf_39 : decode cX10_leastOf 39 = .ok (.iload 5, 2) := by decide +kernel
theorem dX10_leastOf_41 : decode cX10_leastOf 41 = .ok (.aload_n 0, 1) := by decide +kernel
theorem dX10_leastOf_42 : decode cX10_leastOf 42 = .ok (.getfield 101, 3) := by decide +kernel
theorem dX10_leastOf_45 : decode cX10_leastOf 45 = .ok (.if_icmp .ge 57, 3) := by decide +kernel
theorem dX10_leastOf_48 : decode cX10_leastOf 48 = .ok (.iload_n 3, 1) := by decide +kernel
theorem dX10_leastOf_49 : decode cX10_leastOf 49 = .ok (.iload 5, 2) := by decide +kernel
theorem dX10_leastOf_51 : decode cX10_leastOf 51 = .ok (.invokestatic 122, 3) := by decide +kernel
theorem dX10_leastOf_54 : decode cX10_leastOf 54 = .ok (.ifCond .eq 42, 3) := by decide +kernel
theorem dX10_leastOf_57 : decode cX10_leastOf 57 = .ok (.aload_n 0, 1) := by decide +kernel
theorem dX10_leastOf_58 : decode cX10_leastOf 58 = .ok (.getfield 38, 3) := by decide +kernel
theorem dX10_leastOf_61 : decode cX10_leastOf 61 = .ok (.iload_n 3, 1) := by decide +kernel
theorem dX10_leastOf_62 : decode cX10_leastOf 62 = .ok (.iconst 1, 1) := by decide +kernel
theorem dX10_leastOf_63 : decode cX10_leastOf 63 = .ok (.iload 5, 2) := by decide +kernel
theorem dX10_leastOf_65 : decode cX10_leastOf 65 = .ok (.ishl, 1) := by decide +kernel
theorem dX10_leastOf_66 : decode cX10_leastOf 66 = .ok (.iconst (-1), 1) := by decide +kernel
theorem dX10_leastOf_67 : decode cX10_leastOf 67 = .ok (.ixor, 1) := by decide +kernel
theorem dX10_leastOf_68 : decode cX10_leastOf 68 = .ok (.iand, 1) := by decide +kernel
theorem dX10_leastOf_69 : decode cX10_leastOf 69 = .ok (.iaload, 1) := by decide +kernel
theorem dX10_leastOf_70 : decode cX10_leastOf 70 = .ok (.aload_n 0, 1) := by decide +kernel
theorem dX10_leastOf_71 : decode cX10_leastOf 71 = .ok (.iload_n 2, 1) := by decide +kernel
theorem dX10_leastOf_72 : decode cX10_leastOf 72 = .ok (.iload 5, 2) := by decide +kernel
theorem dX10_leastOf_74 : decode cX10_leastOf 74 = .ok (.invokevirtual 212, 3) := by decide +kernel
theorem dX10_leastOf_77 : decode cX10_leastOf 77 = .ok (.iadd, 1) := by decide +kernel
theorem dX10_leastOf_78 : decode cX10_leastOf 78 = .ok (.istore 6, 2) := by decide +kernel
theorem dX10_leastOf_80 : decode cX10_leastOf 80 = .ok (.iload 6, 2) := by decide +kernel
theorem dX10_leastOf_82 : decode cX10_leastOf 82 = .ok (.iload 4, 2) := by decide +kernel
theorem dX10_leastOf_84 : decode cX10_leastOf 84 = .ok (.if_icmp .ge 8, 3) := by decide +kernel
theorem dX10_leastOf_87 : decode cX10_leastOf 87 = .ok (.iload 6, 2) := by decide +kernel
theorem dX10_leastOf_89 : decode cX10_leastOf 89 = .ok (.goto 5, 3) := by decide +kernel
theorem dX10_leastOf_92 : decode cX10_leastOf 92 = .ok (.iload 4, 2) := by decide +kernel
theorem dX10_leastOf_94 : decode cX10_leastOf 94 = .ok (.istore 4, 2) := by decide +kernel
theorem dX10_leastOf_96 : decode cX10_leastOf 96 = .ok (.iinc 5 1, 3) := by decide +kernel
theorem dX10_leastOf_99 : decode cX10_leastOf 99 = .ok (.goto (-60), 3) := by decide +kernel
theorem dX10_leastOf_102 : decode cX10_leastOf 102 = .ok (.iload 4, 2) := by decide +kernel
theorem dX10_leastOf_104 : decode cX10_leastOf 104 = .ok (.ireturn, 1) := by decide +kernel
theorem dX10_partnerIn_0 : decode cX10_partnerIn 0 = .ok (.iload_n 1, 1) := by decide +kernel
theorem dX10_partnerIn_1 : decode cX10_partnerIn 1 = .ok (.invokestatic 209, 3) := by decide +kernel
theorem dX10_partnerIn_4 : decode cX10_partnerIn 4 = .ok (.istore_n 2, 1) := by decide +kernel
theorem dX10_partnerIn_5 : decode cX10_partnerIn 5 = .ok (.iload_n 1, 1) := by decide +kernel
theorem dX10_partnerIn_6 : decode cX10_partnerIn 6 = .ok (.iconst 1, 1) := by decide +kernel
theorem dX10_partnerIn_7 : decode cX10_partnerIn 7 = .ok (.iload_n 2, 1) := by decide +kernel
theorem dX10_partnerIn_8 : decode cX10_partnerIn 8 = .ok (.ishl, 1) := by decide +kernel
theorem dX10_partnerIn_9 : decode cX10_partnerIn 9 = .ok (.iconst (-1), 1) := by decide +kernel
theorem dX10_partnerIn_10 : decode cX10_partnerIn 10 = .ok (.ixor, 1) := by decide +kernel
theorem dX10_partnerIn_11 : decode cX10_partnerIn 11 = .ok (.iand, 1) := by decide +kernel
theorem dX10_partnerIn_12 : decode cX10_partnerIn 12 = .ok (.istore_n 3, 1) := by decide +kernel
theorem dX10_partnerIn_13 : decode cX10_partnerIn 13 = .ok (.iload_n 1, 1) := by decide +kernel
theorem dX10_partnerIn_14 : decode cX10_partnerIn 14 = .ok (.invokestatic 140, 3) := by decide +kernel
theorem dX10_partnerIn_17 : decode cX10_partnerIn 17 = .ok (.iconst 2, 1) := by decide +kernel
theorem dX10_partnerIn_18 : decode cX10_partnerIn 18 = .ok (.irem, 1) := by decide +kernel
theorem dX10_partnerIn_19 : decode cX10_partnerIn 19 = .ok (.iconst 1, 1) := by decide +kernel
theorem dX10_partnerIn_20 : decode cX10_partnerIn 20 = .ok (.if_icmp .ne 20, 3) := by decide +kernel
theorem dX10_partnerIn_23 : decode cX10_partnerIn 23 = .ok (.aload_n 0, 1) := by decide +kernel
theorem dX10_partnerIn_24 : decode cX10_partnerIn 24 = .ok (.getfield 38, 3) := by decide +kernel
theorem dX10_partnerIn_27 : decode cX10_partnerIn 27 = .ok (.iload_n 3, 1) := by decide +kernel
theorem dX10_partnerIn_28 : decode cX10_partnerIn 28 = .ok (.iaload, 1) := by decide +kernel
theorem dX10_partnerIn_29 : decode cX10_partnerIn 29 = .ok (.aload_n 0, 1) := by decide +kernel
theorem dX10_partnerIn_30 : decode cX10_partnerIn 30 = .ok (.getfield 38, 3) := by decide +kernel
theorem dX10_partnerIn_33 : decode cX10_partnerIn 33 = .ok (.iload_n 1, 1) := by decide +kernel
theorem dX10_partnerIn_34 : decode cX10_partnerIn 34 = .ok (.iaload, 1) := by decide +kernel
theorem dX10_partnerIn_35 : decode cX10_partnerIn 35 = .ok (.if_icmp .ne 5, 3) := by decide +kernel
theorem dX10_partnerIn_38 : decode cX10_partnerIn 38 = .ok (.iconst (-1), 1) := by decide +kernel
theorem dX10_partnerIn_39 : decode cX10_partnerIn 39 = .ok (.ireturn, 1) := by decide +kernel
theorem dX10_partnerIn_40 : decode cX10_partnerIn 40 = .ok (.iconst 0, 1) := by decide +kernel
theorem dX10_partnerIn_41 : decode cX10_partnerIn 41 = .ok (.istore 4, 2) := by decide +kernel
theorem dX10_partnerIn_43 : decode cX10_partnerIn 43 = .ok (.iload_n 3, 1) := by decide +kernel
theorem dX10_partnerIn_44 : decode cX10_partnerIn 44 = .ok (.iload 4, 2) := by decide +kernel
theorem dX10_partnerIn_46 : decode cX10_partnerIn 46 = .ok (.invokestatic 122, 3) := by decide +kernel
theorem dX10_partnerIn_49 : decode cX10_partnerIn 49 = .ok (.ifCond .eq 33, 3) := by decide +kernel
theorem dX10_partnerIn_52 : decode cX10_partnerIn 52 = .ok (.aload_n 0, 1) := by decide +kernel
theorem dX10_partnerIn_53 : decode cX10_partnerIn 53 = .ok (.getfield 38, 3) := by decide +kernel
theorem dX10_partnerIn_56 : decode cX10_partnerIn 56 = .ok (.iload_n 3, 1) := by decide +kernel
theorem dX10_partnerIn_57 : decode cX10_partnerIn 57 = .ok (.iconst 1, 1) := by decide +kernel
theorem dX10_partnerIn_58 : decode cX10_partnerIn 58 = .ok (.iload 4, 2) := by decide +kernel
theorem dX10_partnerIn_60 : decode cX10_partnerIn 60 = .ok (.ishl, 1) := by decide +kernel
theorem dX10_partnerIn_61 : decode cX10_partnerIn 61 = .ok (.iconst (-1), 1) := by decide +kernel
theorem dX10_partnerIn_62 : decode cX10_partnerIn 62 = .ok (.ixor, 1) := by decide +kernel
theorem dX10_partnerIn_63 : decode cX10_partnerIn 63 = .ok (.iand, 1) := by decide +kernel
theorem dX10_partnerIn_64 : decode cX10_partnerIn 64 = .ok (.iaload, 1) := by decide +kernel
theorem dX10_partnerIn_65 : decode cX10_partnerIn 65 = .ok (.aload_n 0, 1) := by decide +kernel
theorem dX10_partnerIn_66 : decode cX10_partnerIn 66 = .ok (.iload_n 2, 1) := by decide +kernel
theorem dX10_partnerIn_67 : decode cX10_partnerIn 67 = .ok (.iload 4, 2) := by decide +kernel
theorem dX10_partnerIn_69 : decode cX10_partnerIn 69 = .ok (.invokevirtual 212, 3) := by decide +kernel
theorem dX10_partnerIn_72 : decode cX10_partnerIn 72 = .ok (.iadd, 1) := by decide +kernel
theorem dX10_partnerIn_73 : decode cX10_partnerIn 73 = .ok (.aload_n 0, 1) := by decide +kernel
theorem dX10_partnerIn_74 : decode cX10_partnerIn 74 = .ok (.getfield 38, 3) := by decide +kernel
theorem dX10_partnerIn_77 : decode cX10_partnerIn 77 = .ok (.iload_n 1, 1) := by decide +kernel
theorem dX10_partnerIn_78 : decode cX10_partnerIn 78 = .ok (.iaload, 1) := by decide +kernel
theorem dX10_partnerIn_79 : decode cX10_partnerIn 79 = .ok (.if_icmp .eq 9, 3) := by decide +kernel
theorem dX10_partnerIn_82 : decode cX10_partnerIn 82 = .ok (.iinc 4 1, 3) := by decide +kernel
theorem dX10_partnerIn_85 : decode cX10_partnerIn 85 = .ok (.goto (-42), 3) := by decide +kernel
theorem dX10_partnerIn_88 : decode cX10_partnerIn 88 = .ok (.iload 4, 2) := by decide +kernel
theorem dX10_partnerIn_90 : decode cX10_partnerIn 90 = .ok (.ireturn, 1) := by decide +kernel
theorem dX10_layTwos_0 : decode cX10_layTwos 0 = .ok (.iconst 1, 1) := by decide +kernel
theorem dX10_layTwos_1 : decode cX10_layTwos 1 = .ok (.aload_n 0, 1) := by decide +kernel
theorem dX10_layTwos_2 : decode cX10_layTwos 2 = .ok (.getfield 101, 3) := by decide +kernel
theorem dX10_layTwos_5 : decode cX10_layTwos 5 = .ok (.ishl, 1) := by decide +kernel
theorem dX10_layTwos_6 : decode cX10_layTwos 6 = .ok (.iconst 1, 1) := by decide +kernel
theorem dX10_layTwos_7 : decode cX10_layTwos 7 = .ok (.isub, 1) := by decide +kernel
theorem dX10_layTwos_8 : decode cX10_layTwos 8 = .ok (.istore_n 1, 1) := by decide +kernel
theorem dX10_layTwos_9 : decode cX10_layTwos 9 = .ok (.aload_n 0, 1) := by decide +kernel
theorem dX10_layTwos_10 : decode cX10_layTwos 10 = .ok (.getfield 38, 3) := by decide +kernel
theorem dX10_layTwos_13 : decode cX10_layTwos 13 = .ok (.iconst 0, 1) := by decide +kernel
theorem dX10_layTwos_14 : decode cX10_layTwos 14 = .ok (.iconst 0, 1) := by decide +kernel
theorem dX10_layTwos_15 : decode cX10_layTwos 15 = .ok (.iastore, 1) := by decide +kernel
theorem dX10_layTwos_16 : decode cX10_layTwos 16 = .ok (.iconst 1, 1) := by decide +kernel
theorem dX10_layTwos_17 : decode cX10_layTwos 17 = .ok (.istore_n 2, 1) := by decide +kernel
theorem dX10_layTwos_18 : decode cX10_layTwos 18 = .ok (.iload_n 2, 1) := by decide +kernel
theorem dX10_layTwos_19 : decode cX10_layTwos 19 = .ok (.iload_n 1, 1) := by decide +kernel
theorem dX10_layTwos_20 : decode cX10_layTwos 20 = .ok (.if_icmp .gt 20, 3) := by decide +kernel
theorem dX10_layTwos_23 : decode cX10_layTwos 23 = .ok (.aload_n 0, 1) := by decide +kernel
theorem dX10_layTwos_24 : decode cX10_layTwos 24 = .ok (.getfield 38, 3) := by decide +kernel
theorem dX10_layTwos_27 : decode cX10_layTwos 27 = .ok (.iload_n 2, 1) := by decide +kernel
theorem dX10_layTwos_28 : decode cX10_layTwos 28 = .ok (.aload_n 0, 1) := by decide +kernel
theorem dX10_layTwos_29 : decode cX10_layTwos 29 = .ok (.iload_n 2, 1) := by decide +kernel
theorem dX10_layTwos_30 : decode cX10_layTwos 30 = .ok (.invokevirtual 215, 3) := by decide +kernel
theorem dX10_layTwos_33 : decode cX10_layTwos 33 = .ok (.iastore, 1) := by decide +kernel
theorem dX10_layTwos_34 : decode cX10_layTwos 34 = .ok (.iinc 2 1, 3) := by decide +kernel
theorem dX10_layTwos_37 : decode cX10_layTwos 37 = .ok (.goto (-19), 3) := by decide +kernel
theorem dX10_layTwos_40 : decode cX10_layTwos 40 = .ok (.iconst 0, 1) := by decide +kernel
theorem dX10_layTwos_41 : decode cX10_layTwos 41 = .ok (.istore_n 2, 1) := by decide +kernel
theorem dX10_layTwos_42 : decode cX10_layTwos 42 = .ok (.iload_n 2, 1) := by decide +kernel
theorem dX10_layTwos_43 : decode cX10_layTwos 43 = .ok (.bipush 6, 2) := by decide +kernel
theorem dX10_layTwos_45 : decode cX10_layTwos 45 = .ok (.if_icmp .ge 16, 3) := by decide +kernel
theorem dX10_layTwos_48 : decode cX10_layTwos 48 = .ok (.aload_n 0, 1) := by decide +kernel
theorem dX10_layTwos_49 : decode cX10_layTwos 49 = .ok (.getfield 41, 3) := by decide +kernel
theorem dX10_layTwos_52 : decode cX10_layTwos 52 = .ok (.iload_n 2, 1) := by decide +kernel
theorem dX10_layTwos_53 : decode cX10_layTwos 53 = .ok (.iconst (-1), 1) := by decide +kernel
theorem dX10_layTwos_54 : decode cX10_layTwos 54 = .ok (.iastore, 1) := by decide +kernel
theorem dX10_layTwos_55 : decode cX10_layTwos 55 = .ok (.iinc 2 1, 3) := by decide +kernel
theorem dX10_layTwos_58 : decode cX10_layTwos 58 = .ok (.goto (-16), 3) := by decide +kernel
theorem dX10_layTwos_61 : decode cX10_layTwos 61 = .ok (.iload_n 1, 1) := by decide +kernel
theorem dX10_layTwos_62 : decode cX10_layTwos 62 = .ok (.istore_n 2, 1) := by decide +kernel
theorem dX10_layTwos_63 : decode cX10_layTwos 63 = .ok (.iload_n 2, 1) := by decide +kernel
theorem dX10_layTwos_64 : decode cX10_layTwos 64 = .ok (.ifCond .eq 57, 3) := by decide +kernel
theorem dX10_layTwos_67 : decode cX10_layTwos 67 = .ok (.iload_n 2, 1) := by decide +kernel
theorem dX10_layTwos_68 : decode cX10_layTwos 68 = .ok (.invokestatic 209, 3) := by decide +kernel
theorem dX10_layTwos_71 : decode cX10_layTwos 71 = .ok (.istore_n 3, 1) := by decide +kernel
theorem dX10_layTwos_72 : decode cX10_layTwos 72 = .ok (.aload_n 0, 1) := by decide +kernel
theorem dX10_layTwos_73 : decode cX10_layTwos 73 = .ok (.iload_n 2, 1) := by decide +kernel
theorem dX10_layTwos_74 : decode cX10_layTwos 74 = .ok (.invokevirtual 218, 3) := by decide +kernel
theorem dX10_layTwos_77 : decode cX10_layTwos 77 = .ok (.istore 4, 2) := by decide +kernel
theorem dX10_layTwos_79 : decode cX10_layTwos 79 = .ok (.iload_n 2, 1) := by decide +kernel
theorem dX10_layTwos_80 : decode cX10_layTwos 80 = .ok (.iconst 1, 1) := by decide +kernel
theorem dX10_layTwos_81 : decode cX10_layTwos 81 = .ok (.iload_n 3, 1) := by decide +kernel
theorem dX10_layTwos_82 : decode cX10_layTwos 82 = .ok (.ishl, 1) := by decide +kernel
theorem dX10_layTwos_83 : decode cX10_layTwos 83 = .ok (.iconst (-1), 1) := by decide +kernel
theorem dX10_layTwos_84 : decode cX10_layTwos 84 = .ok (.ixor, 1) := by decide +kernel
theorem dX10_layTwos_85 : decode cX10_layTwos 85 = .ok (.iand, 1) := by decide +kernel
theorem dX10_layTwos_86 : decode cX10_layTwos 86 = .ok (.istore_n 2, 1) := by decide +kernel
theorem dX10_layTwos_87 : decode cX10_layTwos 87 = .ok (.iload 4, 2) := by decide +kernel
theorem dX10_layTwos_89 : decode cX10_layTwos 89 = .ok (.iconst (-1), 1) := by decide +kernel
theorem dX10_layTwos_90 : decode cX10_layTwos 90 = .ok (.if_icmp .eq 28, 3) := by decide +kernel
theorem dX10_layTwos_93 : decode cX10_layTwos 93 = .ok (.aload_n 0, 1) := by decide +kernel
theorem dX10_layTwos_94 : decode cX10_layTwos 94 = .ok (.getfield 41, 3) := by decide +kernel
theorem dX10_layTwos_97 : decode cX10_layTwos 97 = .ok (.iload_n 3, 1) := by decide +kernel
theorem dX10_layTwos_98 : decode cX10_layTwos 98 = .ok (.iload 4, 2) := by decide +kernel
theorem dX10_layTwos_100 : decode cX10_layTwos 100 = .ok (.iastore, 1) := by decide +kernel
theorem dX10_layTwos_101 : decode cX10_layTwos 101 = .ok (.aload_n 0, 1) := by decide +kernel
theorem dX10_layTwos_102 : decode cX10_layTwos 102 = .ok (.getfield 41, 3) := by decide +kernel
theorem dX10_layTwos_105 : decode cX10_layTwos 105 = .ok (.iload 4, 2) := by decide +kernel
theorem dX10_layTwos_107 : decode cX10_layTwos 107 = .ok (.iload_n 3, 1) := by decide +kernel
theorem dX10_layTwos_108 : decode cX10_layTwos 108 = .ok (.iastore, 1) := by decide +kernel
theorem dX10_layTwos_109 : decode cX10_layTwos 109 = .ok (.iload_n 2, 1) := by decide +kernel
theorem dX10_layTwos_110 : decode cX10_layTwos 110 = .ok (.iconst 1, 1) := by decide +kernel
theorem dX10_layTwos_111 : decode cX10_layTwos 111 = .ok (.iload 4, 2) := by decide +kernel
theorem dX10_layTwos_113 : decode cX10_layTwos 113 = .ok (.ishl, 1) := by decide +kernel
theorem dX10_layTwos_114 : decode cX10_layTwos 114 = .ok (.iconst (-1), 1) := by decide +kernel
theorem dX10_layTwos_115 : decode cX10_layTwos 115 = .ok (.ixor, 1) := by decide +kernel
theorem dX10_layTwos_116 : decode cX10_layTwos 116 = .ok (.iand, 1) := by decide +kernel
theorem dX10_layTwos_117 : decode cX10_layTwos 117 = .ok (.istore_n 2, 1) := by decide +kernel
theorem dX10_layTwos_118 : decode cX10_layTwos 118 = .ok (.goto (-55), 3) := by decide +kernel
theorem dX10_layTwos_121 : decode cX10_layTwos 121 = .ok (.aload_n 0, 1) := by decide +kernel
theorem dX10_layTwos_122 : decode cX10_layTwos 122 = .ok (.getfield 38, 3) := by decide +kernel
theorem dX10_layTwos_125 : decode cX10_layTwos 125 = .ok (.iload_n 1, 1) := by decide +kernel
theorem dX10_layTwos_126 : decode cX10_layTwos 126 = .ok (.iaload, 1) := by decide +kernel
theorem dX10_layTwos_127 : decode cX10_layTwos 127 = .ok (.ireturn, 1) := by decide +kernel
theorem dX10_twos_0 : decode cX10_twos 0 = .ok (.iload_n 1, 1) := by decide +kernel
theorem dX10_twos_1 : decode cX10_twos 1 = .ok (.ifCond .eq 17, 3) := by decide +kernel
theorem dX10_twos_4 : decode cX10_twos 4 = .ok (.iload_n 1, 1) := by decide +kernel
theorem dX10_twos_5 : decode cX10_twos 5 = .ok (.bipush 10, 2) := by decide +kernel
theorem dX10_twos_7 : decode cX10_twos 7 = .ok (.bipush 15, 2) := by decide +kernel
theorem dX10_twos_9 : decode cX10_twos 9 = .ok (.invokestatic 71, 3) := by decide +kernel
theorem dX10_twos_12 : decode cX10_twos 12 = .ok (.ifCond .ne 6, 3) := by decide +kernel
theorem dX10_twos_15 : decode cX10_twos 15 = .ok (.bipush (-102), 2) := by decide +kernel
theorem dX10_twos_17 : decode cX10_twos 17 = .ok (.ireturn, 1) := by decide +kernel
theorem dX10_twos_18 : decode cX10_twos 18 = .ok (.aload_n 0, 1) := by decide +kernel
theorem dX10_twos_19 : decode cX10_twos 19 = .ok (.getfield 101, 3) := by decide +kernel
theorem dX10_twos_22 : decode cX10_twos 22 = .ok (.ifCond .ne 6, 3) := by decide +kernel
theorem dX10_twos_25 : decode cX10_twos 25 = .ok (.bipush (-103), 2) := by decide +kernel
theorem dX10_twos_27 : decode cX10_twos 27 = .ok (.ireturn, 1) := by decide +kernel
theorem dX10_twos_28 : decode cX10_twos 28 = .ok (.aload_n 0, 1) := by decide +kernel
theorem dX10_twos_29 : decode cX10_twos 29 = .ok (.invokevirtual 221, 3) := by decide +kernel
theorem dX10_twos_32 : decode cX10_twos 32 = .ok (.istore_n 2, 1) := by decide +kernel
theorem dX10_twos_33 : decode cX10_twos 33 = .ok (.iload_n 1, 1) := by decide +kernel
theorem dX10_twos_34 : decode cX10_twos 34 = .ok (.ifCond .ne 7, 3) := by decide +kernel
theorem dX10_twos_37 : decode cX10_twos 37 = .ok (.iload_n 2, 1) := by decide +kernel
theorem dX10_twos_38 : decode cX10_twos 38 = .ok (.goto 12, 3) := by decide +kernel
theorem dX10_twos_41 : decode cX10_twos 41 = .ok (.aload_n 0, 1) := by decide +kernel
theorem dX10_twos_42 : decode cX10_twos 42 = .ok (.getfield 41, 3) := by decide +kernel
theorem dX10_twos_45 : decode cX10_twos 45 = .ok (.iload_n 1, 1) := by decide +kernel
theorem dX10_twos_46 : decode cX10_twos 46 = .ok (.bipush 10, 2) := by decide +kernel
theorem dX10_twos_48 : decode cX10_twos 48 = .ok (.isub, 1) := by decide +kernel
theorem dX10_twos_49 : decode cX10_twos 49 = .ok (.iaload, 1) := by decide +kernel
theorem dX10_twos_50 : decode cX10_twos 50 = .ok (.ireturn, 1) := by decide +kernel
theorem dX10_patchHouse_0 : decode cX10_patchHouse 0 = .ok (.iconst 0, 1) := by decide +kernel
theorem dX10_patchHouse_1 : decode cX10_patchHouse 1 = .ok (.istore_n 3, 1) := by decide +kernel
theorem dX10_patchHouse_2 : decode cX10_patchHouse 2 = .ok (.iload_n 3, 1) := by decide +kernel
theorem dX10_patchHouse_3 : decode cX10_patchHouse 3 = .ok (.bipush 49, 2) := by decide +kernel
theorem dX10_patchHouse_5 : decode cX10_patchHouse 5 = .ok (.if_icmp .ge 17, 3) := by decide +kernel
theorem dX10_patchHouse_8 : decode cX10_patchHouse 8 = .ok (.aload_n 0, 1) := by decide +kernel
theorem dX10_patchHouse_9 : decode cX10_patchHouse 9 = .ok (.getfield 47, 3) := by decide +kernel
theorem dX10_patchHouse_12 : decode cX10_patchHouse 12 = .ok (.iload_n 3, 1) := by decide +kernel
theorem dX10_patchHouse_13 : decode cX10_patchHouse 13 = .ok (.ldc 189, 2) := by decide +kernel
theorem dX10_patchHouse_15 : decode cX10_patchHouse 15 = .ok (.iastore, 1) := by decide +kernel
theorem dX10_patchHouse_16 : decode cX10_patchHouse 16 = .ok (.iinc 3 1, 3) := by decide +kernel
theorem dX10_patchHouse_19 : decode cX10_patchHouse 19 = .ok (.goto (-17), 3) := by decide +kernel
theorem dX10_patchHouse_22 : decode cX10_patchHouse 22 = .ok (.iconst 0, 1) := by decide +kernel
theorem dX10_patchHouse_23 : decode cX10_patchHouse 23 = .ok (.istore_n 3, 1) := by decide +kernel
theorem dX10_patchHouse_24 : decode cX10_patchHouse 24 = .ok (.iload_n 3, 1) := by decide +kernel
theorem dX10_patchHouse_25 : decode cX10_patchHouse 25 = .ok (.bipush 49, 2) := by decide +kernel
theorem dX10_patchHouse_27 : decode cX10_patchHouse 27 = .ok (.if_icmp .ge 136, 3) := by decide +kernel
theorem dX10_patchHouse_30 : decode cX10_patchHouse 30 = .ok (.aload_n 0, 1) := by decide +kernel
theorem dX10_patchHouse_31 : decode cX10_patchHouse 31 = .ok (.getfield 44, 3) := by decide +kernel
theorem dX10_patchHouse_34 : decode cX10_patchHouse 34 = .ok (.iload_n 3, 1) := by decide +kernel
theorem dX10_patchHouse_35 : decode cX10_patchHouse 35 = .ok (.iaload, 1) := by decide +kernel
theorem dX10_patchHouse_36 : decode cX10_patchHouse 36 = .ok (.ldc 189, 2) := by decide +kernel
theorem dX10_patchHouse_38 : decode cX10_patchHouse 38 = .ok (.if_icmp .ge 119, 3) := by decide +kernel
theorem dX10_patchHouse_41 : decode cX10_patchHouse 41 = .ok (.iload_n 2, 1) := by decide +kernel
theorem dX10_patchHouse_42 : decode cX10_patchHouse 42 = .ok (.iconst 2, 1) := by decide +kernel
theorem dX10_patchHouse_43 : decode cX10_patchHouse 43 = .ok (.iload_n 3, 1) := by decide +kernel
theorem dX10_patchHouse_44 : decode cX10_patchHouse 44 = .ok (.bipush 7, 2) := by decide +kernel
theorem dX10_patchHouse_46 : decode cX10_patchHouse 46 = .ok (.idiv, 1) := by decide +kernel
theorem dX10_patchHouse_47 : decode cX10_patchHouse 47 = .ok (.imul, 1) := by decide +kernel
theorem dX10_patchHouse_48 : decode cX10_patchHouse 48 = .ok (.isub, 1) := by decide +kernel
theorem dX10_patchHouse_49 : decode cX10_patchHouse 49 = .ok (.istore 4, 2) := by decide +kernel
theorem dX10_patchHouse_51 : decode cX10_patchHouse 51 = .ok (.iconst 0, 1) := by decide +kernel
theorem dX10_patchHouse_52 : decode cX10_patchHouse 52 = .ok (.istore 5, 2) := by decide +kernel
theorem dX10_patchHouse_54 : decode cX10_patchHouse 54 = .ok (.aload_n 0, 1) := by decide +kernel
theorem dX10_patchHouse_55 : decode cX10_patchHouse 55 = .ok (.getfield 13, 3) := by decide +kernel
theorem dX10_patchHouse_58 : decode cX10_patchHouse 58 = .ok (.iload_n 1, 1) := by decide +kernel
theorem dX10_patchHouse_59 : decode cX10_patchHouse 59 = .ok (.iaload, 1) := by decide +kernel
theorem dX10_patchHouse_60 : decode cX10_patchHouse 60 = .ok (.iload 5, 2) := by decide +kernel
theorem dX10_patchHouse_62 : decode cX10_patchHouse 62 = .ok (.iadd, 1) := by decide +kernel
theorem dX10_patchHouse_63 : decode cX10_patchHouse 63 = .ok (.bipush 20, 2) := by decide +kernel
theorem dX10_patchHouse_65 : decode cX10_patchHouse 65 = .ok (.if_icmp .gt 92, 3) := by decide +kernel
theorem dX10_patchHouse_68 : decode cX10_patchHouse 68 = .ok (.aload_n 0, 1) := by decide +kernel
theorem dX10_patchHouse_69 : decode cX10_patchHouse 69 = .ok (.getfield 13, 3) := by decide +kernel
theorem dX10_patchHouse_72 : decode cX10_patchHouse 72 = .ok (.iload_n 1, 1) := by decide +kernel
theorem dX10_patchHouse_73 : decode cX10_patchHouse 73 = .ok (.iaload, 1) := by decide +kernel
theorem dX10_patchHouse_74 : decode cX10_patchHouse 74 = .ok (.iload 5, 2) := by decide +kernel
theorem dX10_patchHouse_76 : decode cX10_patchHouse 76 = .ok (.iadd, 1) := by decide +kernel
theorem dX10_patchHouse_77 : decode cX10_patchHouse 77 = .ok (.istore 6, 2) := by decide +kernel
theorem dX10_patchHouse_79 : decode cX10_patchHouse 79 = .ok (.iload_n 3, 1) := by decide +kernel
theorem dX10_patchHouse_80 : decode cX10_patchHouse 80 = .ok (.iload 6, 2) := by decide +kernel
theorem dX10_patchHouse_82 : decode cX10_patchHouse 82 = .ok (.bipush 10, 2) := by decide +kernel
theorem dX10_patchHouse_84 : decode cX10_patchHouse 84 = .ok (.if_icmp .lt 8, 3) := by decide +kernel
theorem dX10_patchHouse_87 : decode cX10_patchHouse 87 = .ok (.bipush 7, 2) := by decide +kernel
theorem dX10_patchHouse_89 : decode cX10_patchHouse 89 = .ok (.goto 4, 3) := by decide +kernel
theorem dX10_patchHouse_92 : decode cX10_patchHouse 92 = .ok (.iconst 0, 1) := by decide +kernel
theorem dX10_patchHouse_93 : decode cX10_patchHouse 93 = .ok (.iadd, 1) := by decide +kernel
theorem dX10_patchHouse_94 : decode cX10_patchHouse 94 = .ok (.iload 6, 2) := by decide +kernel
theorem dX10_patchHouse_96 : decode cX10_patchHouse 96 = .ok (.iload 4, 2) := by decide +kernel
theorem dX10_patchHouse_98 : decode cX10_patchHouse 98 = .ok (.if_icmp .ge 7, 3) := by decide +kernel
theorem dX10_patchHouse_101 : decode cX10_patchHouse 101 = .ok (.iconst 1, 1) := by decide +kernel
theorem dX10_patchHouse_102 : decode cX10_patchHouse 102 = .ok (.goto 4, 3) := by decide +kernel
theorem dX10_patchHouse_105 : decode cX10_patchHouse 105 = .ok (.iconst 0, 1) := by decide +kernel
theorem dX10_patchHouse_106 : decode cX10_patchHouse 106 = .ok (.iadd, 1) := by decide +kernel
theorem dX10_patchHouse_107 : decode cX10_patchHouse 107 = .ok (.istore 7, 2) := by decide +kernel
theorem dX10_patchHouse_109 : decode cX10_patchHouse 109 = .ok (.aload_n 0, 1) := by decide +kernel
theorem dX10_patchHouse_110 : decode cX10_patchHouse 110 = .ok (.getfield 44, 3) := by decide +kernel
theorem dX10_patchHouse_113 : decode cX10_patchHouse 113 = .ok (.iload_n 3, 1) := by decide +kernel
theorem dX10_patchHouse_114 : decode cX10_patchHouse 114 = .ok (.iaload, 1) := by decide +kernel
theorem dX10_patchHouse_115 : decode cX10_patchHouse 115 = .ok (.iload 5, 2) := by decide +kernel
theorem dX10_patchHouse_117 : decode cX10_patchHouse 117 = .ok (.iadd, 1) := by decide +kernel
theorem dX10_patchHouse_118 : decode cX10_patchHouse 118 = .ok (.istore 8, 2) := by decide +kernel
theorem dX10_patchHouse_120 : decode cX10_patchHouse 120 = .ok (.aload_n 0, 1) := by decide +kernel
theorem dX10_patchHouse_121 : decode cX10_patchHouse 121 = .ok (.getfield 47, 3) := by decide +kernel
theorem dX10_patchHouse_124 : decode cX10_patchHouse 124 = .ok (.iload 7, 2) := by decide +kernel
theorem dX10_patchHouse_126 : decode cX10_patchHouse 126 = .ok (.iload 8, 2) := by decide +kernel
theorem dX10_patchHouse_128 : decode cX10_patchHouse 128 = .ok (.aload_n 0, 1) := by decide +kernel
theorem dX10_patchHouse_129 : decode cX10_patchHouse 129 = .ok (.getfield 47, 3) := by decide +kernel
theorem dX10_patchHouse_132 : decode cX10_patchHouse 132 = .ok (.iload 7, 2) := by decide +kernel
theorem dX10_patchHouse_134 : decode cX10_patchHouse 134 = .ok (.iaload, 1) := by decide +kernel
theorem dX10_patchHouse_135 : decode cX10_patchHouse 135 = .ok (.if_icmp .ge 8, 3) := by decide +kernel
theorem dX10_patchHouse_138 : decode cX10_patchHouse 138 = .ok (.iload 8, 2) := by decide +kernel
theorem dX10_patchHouse_140 : decode cX10_patchHouse 140 = .ok (.goto 10, 3) := by decide +kernel
theorem dX10_patchHouse_143 : decode cX10_patchHouse 143 = .ok (.aload_n 0, 1) := by decide +kernel
theorem dX10_patchHouse_144 : decode cX10_patchHouse 144 = .ok (.getfield 47, 3) := by decide +kernel
theorem dX10_patchHouse_147 : decode cX10_patchHouse 147 = .ok (.iload 7, 2) := by decide +kernel
theorem dX10_patchHouse_149 : decode cX10_patchHouse 149 = .ok (.iaload, 1) := by decide +kernel
theorem dX10_patchHouse_150 : decode cX10_patchHouse 150 = .ok (.iastore, 1) := by decide +kernel
theorem dX10_patchHouse_151 : decode cX10_patchHouse 151 = .ok (.iinc 5 1, 3) := by decide +kernel
theorem dX10_patchHouse_154 : decode cX10_patchHouse 154 = .ok (.goto (-100), 3) := by decide +kernel
theorem dX10_patchHouse_157 : decode cX10_patchHouse 157 = .ok (.iinc 3 1, 3) := by decide +kernel
theorem dX10_patchHouse_160 : decode cX10_patchHouse 160 = .ok (.goto (-136), 3) := by decide +kernel
theorem dX10_patchHouse_163 : decode cX10_patchHouse 163 = .ok (.iconst 0, 1) := by decide +kernel
theorem dX10_patchHouse_164 : decode cX10_patchHouse 164 = .ok (.istore_n 3, 1) := by decide +kernel
theorem dX10_patchHouse_165 : decode cX10_patchHouse 165 = .ok (.iload_n 3, 1) := by decide +kernel
theorem dX10_patchHouse_166 : decode cX10_patchHouse 166 = .ok (.bipush 49, 2) := by decide +kernel
theorem dX10_patchHouse_168 : decode cX10_patchHouse 168 = .ok (.if_icmp .ge 21, 3) := by decide +kernel
theorem dX10_patchHouse_171 : decode cX10_patchHouse 171 = .ok (.aload_n 0, 1) := by decide +kernel
theorem dX10_patchHouse_172 : decode cX10_patchHouse 172 = .ok (.getfield 44, 3) := by decide +kernel
theorem dX10_patchHouse_175 : decode cX10_patchHouse 175 = .ok (.iload_n 3, 1) := by decide +kernel
theorem dX10_patchHouse_176 : decode cX10_patchHouse 176 = .ok (.aload_n 0, 1) := by decide +kernel
theorem dX10_patchHouse_177 : decode cX10_patchHouse 177 = .ok (.getfield 47, 3) := by decide +kernel
theorem dX10_patchHouse_180 : decode cX10_patchHouse 180 = .ok (.iload_n 3, 1) := by decide +kernel
theorem dX10_patchHouse_181 : decode cX10_patchHouse 181 = .ok (.iaload, 1) := by decide +kernel
theorem dX10_patchHouse_182 : decode cX10_patchHouse 182 = .ok (.iastore, 1) := by decide +kernel
theorem dX10_patchHouse_183 : decode cX10_patchHouse 183 = .ok (.iinc 3 1, 3) := by decide +kernel
theorem dX10_patchHouse_186 : decode cX10_patchHouse 186 = .ok (.goto (-21), 3) := by decide +kernel
theorem dX10_patchHouse_189 : decode cX10_patchHouse 189 = .ok (.return_, 1) := by decide +kernel
theorem dX10_patchNow_0 : decode cX10_patchNow 0 = .ok (.iconst 0, 1) := by decide +kernel
theorem dX10_patchNow_1 : decode cX10_patchNow 1 = .ok (.istore 4, 2) := by decide +kernel
theorem dX10_patchNow_3 : decode cX10_patchNow 3 = .ok (.iload 4, 2) := by decide +kernel
theorem dX10_patchNow_5 : decode cX10_patchNow 5 = .ok (.bipush 49, 2) := by decide +kernel
theorem dX10_patchNow_7 : decode cX10_patchNow 7 = .ok (.if_icmp .ge 27, 3) := by decide +kernel
theorem dX10_patchNow_10 : decode cX10_patchNow 10 = .ok (.aload_n 0, 1) := by decide +kernel
theorem dX10_patchNow_11 : decode cX10_patchNow 11 = .ok (.getfield 44, 3) := by decide +kernel
theorem dX10_patchNow_14 : decode cX10_patchNow 14 = .ok (.iload 4, 2) := by decide +kernel
theorem dX10_patchNow_16 : decode cX10_patchNow 16 = .ok (.iload 4, 2) := by decide +kernel
theorem dX10_patchNow_18 : decode cX10_patchNow 18 = .ok (.ifCond .ne 7, 3) := by decide +kernel
theorem dX10_patchNow_21 : decode cX10_patchNow 21 = .ok (.iconst 0, 1) := by decide +kernel
theorem dX10_patchNow_22 : decode cX10_patchNow 22 = .ok (.goto 5, 3) := by decide +kernel
theorem dX10_patchNow_25 : decode cX10_patchNow 25 = .ok (.ldc 189, 2) := by decide +kernel
theorem dX10_patchNow_27 : decode cX10_patchNow 27 = .ok (.iastore, 1) := by decide +kernel
theorem dX10_patchNow_28 : decode cX10_patchNow 28 = .ok (.iinc 4 1, 3) := by decide +kernel
theorem dX10_patchNow_31 : decode cX10_patchNow 31 = .ok (.goto (-28), 3) := by decide +kernel
theorem dX10_patchNow_34 : decode cX10_patchNow 34 = .ok (.iconst 0, 1) := by decide +kernel
theorem dX10_patchNow_35 : decode cX10_patchNow 35 = .ok (.istore 4, 2) := by decide +kernel
theorem dX10_patchNow_37 : decode cX10_patchNow 37 = .ok (.iload 4, 2) := by decide +kernel
theorem dX10_patchNow_39 : decode cX10_patchNow 39 = .ok (.aload_n 0, 1) := by decide +kernel
theorem dX10_patchNow_40 : decode cX10_patchNow 40 = .ok (.getfield 101, 3) := by decide +kernel
theorem dX10_patchNow_43 : decode cX10_patchNow 43 = .ok (.if_icmp .ge 16, 3) := by decide +kernel
theorem dX10_patchNow_46 : decode cX10_patchNow 46 = .ok (.aload_n 0, 1) := by decide +kernel
theorem dX10_patchNow_47 : decode cX10_patchNow 47 = .ok (.iload 4, 2) := by decide +kernel
theorem dX10_patchNow_49 : decode cX10_patchNow 49 = .ok (.iload_n 1, 1) := by decide +kernel
theorem dX10_patchNow_50 : decode cX10_patchNow 50 = .ok (.invokevirtual 224, 3) := by decide +kernel
theorem dX10_patchNow_53 : decode cX10_patchNow 53 = .ok (.iinc 4 1, 3) := by decide +kernel
theorem dX10_patchNow_56 : decode cX10_patchNow 56 = .ok (.goto (-19), 3) := by decide +kernel
theorem dX10_patchNow_59 : decode cX10_patchNow 59 = .ok (.iconst 0, 1) := by decide +kernel
theorem dX10_patchNow_60 : decode cX10_patchNow 60 = .ok (.istore 4, 2) := by decide +kernel
theorem dX10_patchNow_62 : decode cX10_patchNow 62 = .ok (.ldc 189, 2) := by decide +kernel
theorem dX10_patchNow_64 : decode cX10_patchNow 64 = .ok (.istore 5, 2) := by decide +kernel
theorem dX10_patchNow_66 : decode cX10_patchNow 66 = .ok (.iload 5, 2) := by decide +kernel
theorem dX10_patchNow_68 : decode cX10_patchNow 68 = .ok (.iload_n 2, 1) := by decide +kernel
theorem dX10_patchNow_69 : decode cX10_patchNow 69 = .ok (.if_icmp .le 56, 3) := by decide +kernel
theorem dX10_patchNow_72 : decode cX10_patchNow 72 = .ok (.iconst 0, 1) := by decide +kernel
theorem dX10_patchNow_73 : decode cX10_patchNow 73 = .ok (.istore 6, 2) := by decide +kernel
theorem dX10_patchNow_75 : decode cX10_patchNow 75 = .ok (.iload 6, 2) := by decide +kernel
theorem dX10_patchNow_77 : decode cX10_patchNow 77 = .ok (.bipush 7, 2) := by decide +kernel
theorem dX10_patchNow_79 : decode cX10_patchNow 79 = .ok (.if_icmp .ge 40, 3) := by decide +kernel
theorem dX10_patchNow_82 : decode cX10_patchNow 82 = .ok (.aload_n 0, 1) := by decide +kernel
theorem dX10_patchNow_83 : decode cX10_patchNow 83 = .ok (.getfield 44, 3) := by decide +kernel
theorem dX10_patchNow_86 : decode cX10_patchNow 86 = .ok (.bipush 7, 2) := by decide +kernel
theorem dX10_patchNow_88 : decode cX10_patchNow 88 = .ok (.iload 6, 2) := by decide +kernel
theorem dX10_patchNow_90 : decode cX10_patchNow 90 = .ok (.imul, 1) := by decide +kernel
theorem dX10_patchNow_91 : decode cX10_patchNow 91 = .ok (.iload 4, 2) := by decide +kernel
theorem dX10_patchNow_93 : decode cX10_patchNow 93 = .ok (.iadd, 1) := by decide +kernel
theorem dX10_patchNow_94 : decode cX10_patchNow 94 = .ok (.iaload, 1) := by decide +kernel
theorem dX10_patchNow_95 : decode cX10_patchNow 95 = .ok (.istore 7, 2) := by decide +kernel
theorem dX10_patchNow_97 : decode cX10_patchNow 97 = .ok (.iload 7, 2) := by decide +kernel
theorem dX10_patchNow_99 : decode cX10_patchNow 99 = .ok (.iload 5, 2) := by decide +kernel
theorem dX10_patchNow_101 : decode cX10_patchNow 101 = .ok (.if_icmp .ge 8, 3) := by decide +kernel
theorem dX10_patchNow_104 : decode cX10_patchNow 104 = .ok (.iload 7, 2) := by decide +kernel
theorem dX10_patchNow_106 : decode cX10_patchNow 106 = .ok (.goto 5, 3) := by decide +kernel
theorem dX10_patchNow_109 : decode cX10_patchNow 109 = .ok (.iload 5, 2) := by decide +kernel
theorem dX10_patchNow_111 : decode cX10_patchNow 111 = .ok (.istore 5, 2) := by decide +kernel
theorem dX10_patchNow_113 : decode cX10_patchNow 113 = .ok (.iinc 6 1, 3) := by decide +kernel
theorem dX10_patchNow_116 : decode cX10_patchNow 116 = .ok (.goto (-41), 3) := by decide +kernel
theorem dX10_patchNow_119 : decode cX10_patchNow 119 = .ok (.iinc 4 1, 3) := by decide +kernel
theorem dX10_patchNow_122 : decode cX10_patchNow 122 = .ok (.goto (-56), 3) := by decide +kernel
theorem dX10_patchNow_125 : decode cX10_patchNow 125 = .ok (.iload_n 3, 1) := by decide +kernel
theorem dX10_patchNow_126 : decode cX10_patchNow 126 = .ok (.ifCond .ne 10, 3) := by decide +kernel
theorem dX10_patchNow_129 : decode cX10_patchNow 129 = .ok (.iload 4, 2) := by decide +kernel
theorem dX10_patchNow_131 : decode cX10_patchNow 131 = .ok (.iconst 1, 1) := by decide +kernel
theorem dX10_patchNow_132 : decode cX10_patchNow 132 = .ok (.isub, 1) := by decide +kernel
theorem dX10_patchNow_133 : decode cX10_patchNow 133 = .ok (.goto 5, 3) := by decide +kernel
theorem dX10_patchNow_136 : decode cX10_patchNow 136 = .ok (.iload 5, 2) := by decide +kernel
theorem dX10_patchNow_138 : decode cX10_patchNow 138 = .ok (.ireturn, 1) := by decide +kernel
theorem dX10_patch_0 : decode cX10_patch 0 = .ok (.iload_n 1, 1) := by decide +kernel
theorem dX10_patch_1 : decode cX10_patch 1 = .ok (.invokestatic 155, 3) := by decide +kernel
theorem dX10_patch_4 : decode cX10_patch 4 = .ok (.ifCond .eq 22, 3) := by decide +kernel
theorem dX10_patch_7 : decode cX10_patch 7 = .ok (.iload_n 2, 1) := by decide +kernel
theorem dX10_patch_8 : decode cX10_patch 8 = .ok (.iconst 0, 1) := by decide +kernel
theorem dX10_patch_9 : decode cX10_patch 9 = .ok (.bipush 30, 2) := by decide +kernel
theorem dX10_patch_11 : decode cX10_patch 11 = .ok (.invokestatic 71, 3) := by decide +kernel
theorem dX10_patch_14 : decode cX10_patch 14 = .ok (.ifCond .eq 12, 3) := by decide +kernel
theorem dX10_patch_17 : decode cX10_patch 17 = .ok (.iload_n 3, 1) := by decide +kernel
theorem dX10_patch_18 : decode cX10_patch 18 = .ok (.iconst 0, 1) := by decide +kernel
theorem dX10_patch_19 : decode cX10_patch 19 = .ok (.iconst 1, 1) := by decide +kernel
theorem dX10_patch_20 : decode cX10_patch 20 = .ok (.invokestatic 71, 3) := by decide +kernel
theorem dX10_patch_23 : decode cX10_patch 23 = .ok (.ifCond .ne 6, 3) := by decide +kernel
theorem dX10_patch_26 : decode cX10_patch 26 = .ok (.bipush (-102), 2) := by decide +kernel
theorem dX10_patch_28 : decode cX10_patch 28 = .ok (.ireturn, 1) := by decide +kernel
theorem dX10_patch_29 : decode cX10_patch 29 = .ok (.aload_n 0, 1) := by decide +kernel
theorem dX10_patch_30 : decode cX10_patch 30 = .ok (.getfield 101, 3) := by decide +kernel
theorem dX10_patch_33 : decode cX10_patch 33 = .ok (.ifCond .ne 8, 3) := by decide +kernel
theorem dX10_patch_36 : decode cX10_patch 36 = .ok (.bipush (-103), 2) := by decide +kernel
theorem dX10_patch_38 : decode cX10_patch 38 = .ok (.goto 10, 3) := by decide +kernel
theorem dX10_patch_41 : decode cX10_patch 41 = .ok (.aload_n 0, 1) := by decide +kernel
theorem dX10_patch_42 : decode cX10_patch 42 = .ok (.iload_n 1, 1) := by decide +kernel
theorem dX10_patch_43 : decode cX10_patch 43 = .ok (.iload_n 2, 1) := by decide +kernel
theorem dX10_patch_44 : decode cX10_patch 44 = .ok (.iload_n 3, 1) := by decide +kernel
theorem dX10_patch_45 : decode cX10_patch 45 = .ok (.invokevirtual 227, 3) := by decide +kernel
theorem dX10_patch_48 : decode cX10_patch 48 = .ok (.ireturn, 1) := by decide +kernel
theorem dX10_oddsNow_0 : decode cX10_oddsNow 0 = .ok (.aload_n 0, 1) := by decide +kernel
theorem dX10_oddsNow_1 : decode cX10_oddsNow 1 = .ok (.invokevirtual 180, 3) := by decide +kernel
theorem dX10_oddsNow_4 : decode cX10_oddsNow 4 = .ok (.iconst 1, 1) := by decide +kernel
theorem dX10_oddsNow_5 : decode cX10_oddsNow 5 = .ok (.istore 4, 2) := by decide +kernel
theorem dX10_oddsNow_7 : decode cX10_oddsNow 7 = .ok (.iconst 1, 1) := by decide +kernel
theorem dX10_oddsNow_8 : decode cX10_oddsNow 8 = .ok (.istore 5, 2) := by decide +kernel
theorem dX10_oddsNow_10 : decode cX10_oddsNow 10 = .ok (.iconst 0, 1) := by decide +kernel
theorem dX10_oddsNow_11 : decode cX10_oddsNow 11 = .ok (.istore 6, 2) := by decide +kernel
theorem dX10_oddsNow_13 : decode cX10_oddsNow 13 = .ok (.iload 6, 2) := by decide +kernel
theorem dX10_oddsNow_15 : decode cX10_oddsNow 15 = .ok (.iload_n 2, 1) := by decide +kernel
theorem dX10_oddsNow_16 : decode cX10_oddsNow 16 = .ok (.if_icmp .ge 69, 3) := by decide +kernel
theorem dX10_oddsNow_19 : decode cX10_oddsNow 19 = .ok (.aload_n 0, 1) := by decide +kernel
theorem dX10_oddsNow_20 : decode cX10_oddsNow 20 = .ok (.invokevirtual 158, 3) := by decide +kernel
theorem dX10_oddsNow_23 : decode cX10_oddsNow 23 = .ok (.iconst 0, 1) := by decide +kernel
theorem dX10_oddsNow_24 : decode cX10_oddsNow 24 = .ok (.istore 7, 2) := by decide +kernel
theorem dX10_oddsNow_26 : decode cX10_oddsNow 26 = .ok (.iconst 0, 1) := by decide +kernel
theorem dX10_oddsNow_27 : decode cX10_oddsNow 27 = .ok (.istore 8, 2) := by decide +kernel
theorem dX10_oddsNow_29 : decode cX10_oddsNow 29 = .ok (.iload 8, 2) := by decide +kernel
theorem dX10_oddsNow_31 : decode cX10_oddsNow 31 = .ok (.bipush 10, 2) := by decide +kernel
theorem dX10_oddsNow_33 : decode cX10_oddsNow 33 = .ok (.if_icmp .ge 32, 3) := by decide +kernel
theorem dX10_oddsNow_36 : decode cX10_oddsNow 36 = .ok (.iload 7, 2) := by decide +kernel
theorem dX10_oddsNow_38 : decode cX10_oddsNow 38 = .ok (.aload_n 0, 1) := by decide +kernel
theorem dX10_oddsNow_39 : decode cX10_oddsNow 39 = .ok (.iload 8, 2) := by decide +kernel
theorem dX10_oddsNow_41 : decode cX10_oddsNow 41 = .ok (.invokevirtual 137, 3) := by decide +kernel
theorem dX10_oddsNow_44 : decode cX10_oddsNow 44 = .ok (.iload_n 1, 1) := by decide +kernel
theorem dX10_oddsNow_45 : decode cX10_oddsNow 45 = .ok (.invokestatic 122, 3) := by decide +kernel
theorem dX10_oddsNow_48 : decode cX10_oddsNow 48 = .ok (.ifCond .eq 7, 3) := by decide +kernel
theorem dX10_oddsNow_51 : decode cX10_oddsNow 51 = .ok (.iconst 0, 1) := by decide +kernel
theorem dX10_oddsNow_52 : decode cX10_oddsNow 52 = .ok (.goto 4, 3) := by decide +kernel
theorem dX10_oddsNow_55 : decode cX10_oddsNow 55 = .ok (.iconst 1, 1) := by decide +kernel
theorem dX10_oddsNow_56 : decode cX10_oddsNow 56 = .ok (.iadd, 1) := by decide +kernel
theorem dX10_oddsNow_57 : decode cX10_oddsNow 57 = .ok (.istore 7, 2) := by decide +kernel
theorem dX10_oddsNow_59 : decode cX10_oddsNow 59 = .ok (.iinc 8 1, 3) := by decide +kernel
theorem dX10_oddsNow_62 : decode cX10_oddsNow 62 = .ok (.goto (-33), 3) := by decide +kernel
theorem dX10_oddsNow_65 : decode cX10_oddsNow 65 = .ok (.iload 4, 2) := by decide +kernel
theorem dX10_oddsNow_67 : decode cX10_oddsNow 67 = .ok (.iload 7, 2) := by decide +kernel
theorem dX10_oddsNow_69 : decode cX10_oddsNow 69 = .ok (.imul, 1) := by decide +kernel
theorem dX10_oddsNow_70 : decode cX10_oddsNow 70 = .ok (.istore 4, 2) := by decide +kernel
theorem dX10_oddsNow_72 : decode cX10_oddsNow 72 = .ok (.iload 5, 2) := by decide +kernel
theorem dX10_oddsNow_74 : decode cX10_oddsNow 74 = .ok (.bipush 10, 2) := by decide +kernel
theorem dX10_oddsNow_76 : decode cX10_oddsNow 76 = .ok (.imul, 1) := by decide +kernel
theorem dX10_oddsNow_77 : decode cX10_oddsNow 77 = .ok (.istore 5, 2) := by decide +kernel
theorem dX10_oddsNow_79 : decode cX10_oddsNow 79 = .ok (.iinc 6 1, 3) := by decide +kernel
theorem dX10_oddsNow_82 : decode cX10_oddsNow 82 = .ok (.goto (-69), 3) := by decide +kernel
theorem dX10_oddsNow_85 : decode cX10_oddsNow 85 = .ok (.aload_n 0, 1) := by decide +kernel
theorem dX10_oddsNow_86 : decode cX10_oddsNow 86 = .ok (.invokevirtual 183, 3) := by decide +kernel
theorem dX10_oddsNow_89 : decode cX10_oddsNow 89 = .ok (.iload 4, 2) := by decide +kernel
theorem dX10_oddsNow_91 : decode cX10_oddsNow 91 = .ok (.iload 5, 2) := by decide +kernel
theorem dX10_oddsNow_93 : decode cX10_oddsNow 93 = .ok (.invokestatic 231, 3) := by decide +kernel
theorem dX10_oddsNow_96 : decode cX10_oddsNow 96 = .ok (.istore 6, 2) := by decide +kernel
theorem dX10_oddsNow_98 : decode cX10_oddsNow 98 = .ok (.iload_n 3, 1) := by decide +kernel
theorem dX10_oddsNow_99 : decode cX10_oddsNow 99 = .ok (.ifCond .ne 11, 3) := by decide +kernel
theorem dX10_oddsNow_102 : decode cX10_oddsNow 102 = .ok (.iload 4, 2) := by decide +kernel
theorem dX10_oddsNow_104 : decode cX10_oddsNow 104 = .ok (.iload 6, 2) := by decide +kernel
theorem dX10_oddsNow_106 : decode cX10_oddsNow 106 = .ok (.idiv, 1) := by decide +kernel
theorem dX10_oddsNow_107 : decode cX10_oddsNow 107 = .ok (.goto 8, 3) := by decide +kernel
theorem dX10_oddsNow_110 : decode cX10_oddsNow 110 = .ok (.iload 5, 2) := by decide +kernel
theorem dX10_oddsNow_112 : decode cX10_oddsNow 112 = .ok (.iload 6, 2) := by decide +kernel
theorem dX10_oddsNow_114 : decode cX10_oddsNow 114 = .ok (.idiv, 1) := by decide +kernel
theorem dX10_oddsNow_115 : decode cX10_oddsNow 115 = .ok (.ireturn, 1) := by decide +kernel
theorem dX10_odds_0 : decode cX10_odds 0 = .ok (.aload_n 0, 1) := by decide +kernel
theorem dX10_odds_1 : decode cX10_odds 1 = .ok (.iload_n 1, 1) := by decide +kernel
theorem dX10_odds_2 : decode cX10_odds 2 = .ok (.invokevirtual 149, 3) := by decide +kernel
theorem dX10_odds_5 : decode cX10_odds 5 = .ok (.ifCond .ne 6, 3) := by decide +kernel
theorem dX10_odds_8 : decode cX10_odds 8 = .ok (.bipush (-101), 2) := by decide +kernel
theorem dX10_odds_10 : decode cX10_odds 10 = .ok (.ireturn, 1) := by decide +kernel
theorem dX10_odds_11 : decode cX10_odds 11 = .ok (.iload_n 2, 1) := by decide +kernel
theorem dX10_odds_12 : decode cX10_odds 12 = .ok (.iconst 1, 1) := by decide +kernel
theorem dX10_odds_13 : decode cX10_odds 13 = .ok (.bipush 7, 2) := by decide +kernel
theorem dX10_odds_15 : decode cX10_odds 15 = .ok (.invokestatic 71, 3) := by decide +kernel
theorem dX10_odds_18 : decode cX10_odds 18 = .ok (.ifCond .eq 22, 3) := by decide +kernel
theorem dX10_odds_21 : decode cX10_odds 21 = .ok (.iload_n 3, 1) := by decide +kernel
theorem dX10_odds_22 : decode cX10_odds 22 = .ok (.iconst 0, 1) := by decide +kernel
theorem dX10_odds_23 : decode cX10_odds 23 = .ok (.iconst 1, 1) := by decide +kernel
theorem dX10_odds_24 : decode cX10_odds 24 = .ok (.invokestatic 71, 3) := by decide +kernel
theorem dX10_odds_27 : decode cX10_odds 27 = .ok (.ifCond .eq 13, 3) := by decide +kernel
theorem dX10_odds_30 : decode cX10_odds 30 = .ok (.aload_n 0, 1) := by decide +kernel
theorem dX10_odds_31 : decode cX10_odds 31 = .ok (.iload_n 1, 1) := by decide +kernel
theorem dX10_odds_32 : decode cX10_odds 32 = .ok (.iload_n 2, 1) := by decide +kernel
theorem dX10_odds_33 : decode cX10_odds 33 = .ok (.iload_n 3, 1) := by decide +kernel
theorem dX10_odds_34 : decode cX10_odds 34 = .ok (.invokevirtual 234, 3) := by decide +kernel
theorem dX10_odds_37 : decode cX10_odds 37 = .ok (.goto 5, 3) := by decide +kernel
theorem dX10_odds_40 : decode cX10_odds 40 = .ok (.bipush (-102), 2) := by decide +kernel
theorem dX10_odds_42 : decode cX10_odds 42 = .ok (.ireturn, 1) := by decide +kernel
theorem dX10_see_0 : decode cX10_see 0 = .ok (.aload_n 0, 1) := by decide +kernel
theorem dX10_see_1 : decode cX10_see 1 = .ok (.iload_n 1, 1) := by decide +kernel
theorem dX10_see_2 : decode cX10_see 2 = .ok (.invokevirtual 149, 3) := by decide +kernel
theorem dX10_see_5 : decode cX10_see 5 = .ok (.ifCond .ne 6, 3) := by decide +kernel
theorem dX10_see_8 : decode cX10_see 8 = .ok (.bipush (-101), 2) := by decide +kernel
theorem dX10_see_10 : decode cX10_see 10 = .ok (.ireturn, 1) := by decide +kernel
theorem dX10_see_11 : decode cX10_see 11 = .ok (.iload_n 2, 1) := by decide +kernel
theorem dX10_see_12 : decode cX10_see 12 = .ok (.iconst 1, 1) := by decide +kernel
theorem dX10_see_13 : decode cX10_see 13 = .ok (.bipush 9, 2) := by decide +kernel
theorem dX10_see_15 : decode cX10_see 15 = .ok (.invokestatic 71, 3) := by decide +kernel
theorem dX10_see_18 : decode cX10_see 18 = .ok (.ifCond .eq 13, 3) := by decide +kernel
theorem dX10_see_21 : decode cX10_see 21 = .ok (.iload_n 3, 1) := by decide +kernel
theorem dX10_see_22 : decode cX10_see 22 = .ok (.iconst 0, 1) := by decide +kernel
theorem dX10_see_23 : decode cX10_see 23 = .ok (.bipush 20, 2) := by decide +kernel
theorem dX10_see_25 : decode cX10_see 25 = .ok (.invokestatic 71, 3) := by decide +kernel
theorem dX10_see_28 : decode cX10_see 28 = .ok (.ifCond .ne 6, 3) := by decide +kernel
theorem dX10_see_31 : decode cX10_see 31 = .ok (.bipush (-102), 2) := by decide +kernel
theorem dX10_see_33 : decode cX10_see 33 = .ok (.ireturn, 1) := by decide +kernel
theorem dX10_see_34 : decode cX10_see 34 = .ok (.aload_n 0, 1) := by decide +kernel
theorem dX10_see_35 : decode cX10_see 35 = .ok (.getfield 116, 3) := by decide +kernel
theorem dX10_see_38 : decode cX10_see 38 = .ok (.bipush 6, 2) := by decide +kernel
theorem dX10_see_40 : decode cX10_see 40 = .ok (.if_icmp .ne 6, 3) := by decide +kernel
theorem dX10_see_43 : decode cX10_see 43 = .ok (.bipush (-104), 2) := by decide +kernel
theorem dX10_see_45 : decode cX10_see 45 = .ok (.ireturn, 1) := by decide +kernel
theorem dX10_see_46 : decode cX10_see 46 = .ok (.aload_n 0, 1) := by decide +kernel
theorem dX10_see_47 : decode cX10_see 47 = .ok (.getfield 19, 3) := by decide +kernel
theorem dX10_see_50 : decode cX10_see 50 = .ok (.aload_n 0, 1) := by decide +kernel
theorem dX10_see_51 : decode cX10_see 51 = .ok (.getfield 116, 3) := by decide +kernel
theorem dX10_see_54 : decode cX10_see 54 = .ok (.iload_n 1, 1) := by decide +kernel
theorem dX10_see_55 : decode cX10_see 55 = .ok (.iastore, 1) := by decide +kernel
theorem dX10_see_56 : decode cX10_see 56 = .ok (.aload_n 0, 1) := by decide +kernel
theorem dX10_see_57 : decode cX10_see 57 = .ok (.getfield 22, 3) := by decide +kernel
theorem dX10_see_60 : decode cX10_see 60 = .ok (.aload_n 0, 1) := by decide +kernel
theorem dX10_see_61 : decode cX10_see 61 = .ok (.getfield 116, 3) := by decide +kernel
theorem dX10_see_64 : decode cX10_see 64 = .ok (.iload_n 2, 1) := by decide +kernel
theorem dX10_see_65 : decode cX10_see 65 = .ok (.iastore, 1) := by decide +kernel
theorem dX10_see_66 : decode cX10_see 66 = .ok (.aload_n 0, 1) := by decide +kernel
theorem dX10_see_67 : decode cX10_see 67 = .ok (.getfield 25, 3) := by decide +kernel
theorem dX10_see_70 : decode cX10_see 70 = .ok (.aload_n 0, 1) := by decide +kernel
theorem dX10_see_71 : decode cX10_see 71 = .ok (.getfield 116, 3) := by decide +kernel
theorem dX10_see_74 : decode cX10_see 74 = .ok (.iload_n 3, 1) := by decide +kernel
theorem dX10_see_75 : decode cX10_see 75 = .ok (.iastore, 1) := by decide +kernel
theorem dX10_see_76 : decode cX10_see 76 = .ok (.aload_n 0, 1) := by decide +kernel
theorem dX10_see_77 : decode cX10_see 77 = .ok (.dup, 1) := by decide +kernel
theorem dX10_see_78 : decode cX10_see 78 = .ok (.getfield 116, 3) := by decide +kernel
theorem dX10_see_81 : decode cX10_see 81 = .ok (.iconst 1, 1) := by decide +kernel
theorem dX10_see_82 : decode cX10_see 82 = .ok (.iadd, 1) := by decide +kernel
theorem dX10_see_83 : decode cX10_see 83 = .ok (.putfield 116, 3) := by decide +kernel
theorem dX10_see_86 : decode cX10_see 86 = .ok (.aload_n 0, 1) := by decide +kernel
theorem dX10_see_87 : decode cX10_see 87 = .ok (.getfield 116, 3) := by decide +kernel
theorem dX10_see_90 : decode cX10_see 90 = .ok (.ireturn, 1) := by decide +kernel
theorem dX10_forget_0 : decode cX10_forget 0 = .ok (.aload_n 0, 1) := by decide +kernel
theorem dX10_forget_1 : decode cX10_forget 1 = .ok (.getfield 116, 3) := by decide +kernel
theorem dX10_forget_4 : decode cX10_forget 4 = .ok (.istore_n 1, 1) := by decide +kernel
theorem dX10_forget_5 : decode cX10_forget 5 = .ok (.aload_n 0, 1) := by decide +kernel
theorem dX10_forget_6 : decode cX10_forget 6 = .ok (.iconst 0, 1) := by decide +kernel
theorem dX10_forget_7 : decode cX10_forget 7 = .ok (.putfield 116, 3) := by decide +kernel
theorem dX10_forget_10 : decode cX10_forget 10 = .ok (.iload_n 1, 1) := by decide +kernel
theorem dX10_forget_11 : decode cX10_forget 11 = .ok (.ireturn, 1) := by decide +kernel
theorem dX10_reedBehind_0 : decode cX10_reedBehind 0 = .ok (.aload_n 0, 1) := by decide +kernel
theorem dX10_reedBehind_1 : decode cX10_reedBehind 1 = .ok (.getfield 13, 3) := by decide +kernel
theorem dX10_reedBehind_4 : decode cX10_reedBehind 4 = .ok (.iload_n 1, 1) := by decide +kernel
theorem dX10_reedBehind_5 : decode cX10_reedBehind 5 = .ok (.iaload, 1) := by decide +kernel
theorem dX10_reedBehind_6 : decode cX10_reedBehind 6 = .ok (.istore 4, 2) := by decide +kernel
theorem dX10_reedBehind_8 : decode cX10_reedBehind 8 = .ok (.iconst 0, 1) := by decide +kernel
theorem dX10_reedBehind_9 : decode cX10_reedBehind 9 = .ok (.istore 5, 2) := by decide +kernel
theorem dX10_reedBehind_11 : decode cX10_reedBehind 11 = .ok (.iload 5, 2) := by decide +kernel
theorem dX10_reedBehind_13 : decode cX10_reedBehind 13 = .ok (.iload_n 3, 1) := by decide +kernel
theorem dX10_reedBehind_14 : decode cX10_reedBehind 14 = .ok (.if_icmp .ge 53, 3) := by decide +kernel
theorem dX10_reedBehind_17 : decode cX10_reedBehind 17 = .ok (.aload_n 0, 1) := by decide +kernel
theorem dX10_reedBehind_18 : decode cX10_reedBehind 18 = .ok (.getfield 7, 3) := by decide +kernel
theorem dX10_reedBehind_21 : decode cX10_reedBehind 21 = .ok (.iload_n 1, 1) := by decide +kernel
theorem dX10_reedBehind_22 : decode cX10_reedBehind 22 = .ok (.iaload, 1) := by decide +kernel
theorem dX10_reedBehind_23 : decode cX10_reedBehind 23 = .ok (.iload 4, 2) := by decide +kernel
theorem dX10_reedBehind_25 : decode cX10_reedBehind 25 = .ok (.iload_n 2, 1) := by decide +kernel
theorem dX10_reedBehind_26 : decode cX10_reedBehind 26 = .ok (.iload 5, 2) := by decide +kernel
theorem dX10_reedBehind_28 : decode cX10_reedBehind 28 = .ok (.ifCond .ne 18, 3) := by decide +kernel
theorem dX10_reedBehind_31 : decode cX10_reedBehind 31 = .ok (.aload_n 0, 1) := by decide +kernel
theorem dX10_reedBehind_32 : decode cX10_reedBehind 32 = .ok (.getfield 104, 3) := by decide +kernel
theorem dX10_reedBehind_35 : decode cX10_reedBehind 35 = .ok (.iload_n 1, 1) := by decide +kernel
theorem dX10_reedBehind_36 : decode cX10_reedBehind 36 = .ok (.invokestatic 122, 3) := by decide +kernel
theorem dX10_reedBehind_39 : decode cX10_reedBehind 39 = .ok (.ifCond .eq 7, 3) := by decide +kernel
theorem dX10_reedBehind_42 : decode cX10_reedBehind 42 = .ok (.iconst 1, 1) := by decide +kernel
theorem dX10_reedBehind_43 : decode cX10_reedBehind 43 = .ok (.goto 4, 3) := by decide +kernel
theorem dX10_reedBehind_46 : decode cX10_reedBehind 46 = .ok (.iconst 0, 1) := by decide +kernel
theorem dX10_reedBehind_47 : decode cX10_reedBehind 47 = .ok (.aload_n 0, 1) := by decide +kernel
theorem dX10_reedBehind_48 : decode cX10_reedBehind 48 = .ok (.getfield 107, 3) := by decide +kernel
theorem dX10_reedBehind_51 : decode cX10_reedBehind 51 = .ok (.iconst 1, 1) := by decide +kernel
theorem dX10_reedBehind_52 : decode cX10_reedBehind 52 = .ok (.iadd, 1) := by decide +kernel
theorem dX10_reedBehind_53 : decode cX10_reedBehind 53 = .ok (.iload 5, 2) := by decide +kernel
theorem dX10_reedBehind_55 : decode cX10_reedBehind 55 = .ok (.iadd, 1) := by decide +kernel
theorem dX10_reedBehind_56 : decode cX10_reedBehind 56 = .ok (.invokestatic 126, 3) := by decide +kernel
theorem dX10_reedBehind_59 : decode cX10_reedBehind 59 = .ok (.istore 4, 2) := by decide +kernel
theorem dX10_reedBehind_61 : decode cX10_reedBehind 61 = .ok (.iinc 5 1, 3) := by decide +kernel
theorem dX10_reedBehind_64 : decode cX10_reedBehind 64 = .ok (.goto (-53), 3) := by decide +kernel
theorem dX10_reedBehind_67 : decode cX10_reedBehind 67 = .ok (.iload 4, 2) := by decide +kernel
theorem dX10_reedBehind_69 : decode cX10_reedBehind 69 = .ok (.ireturn, 1) := by decide +kernel
theorem dX10_worriesOf_0 : decode cX10_worriesOf 0 = .ok (.iconst 0, 1) := by decide +kernel
theorem dX10_worriesOf_1 : decode cX10_worriesOf 1 = .ok (.istore_n 2, 1) := by decide +kernel
theorem dX10_worriesOf_2 : decode cX10_worriesOf 2 = .ok (.iconst 0, 1) := by decide +kernel
theorem dX10_worriesOf_3 : decode cX10_worriesOf 3 = .ok (.istore_n 3, 1) := by decide +kernel
theorem dX10_worriesOf_4 : decode cX10_worriesOf 4 = .ok (.iload_n 3, 1) := by decide +kernel
theorem dX10_worriesOf_5 : decode cX10_worriesOf 5 = .ok (.bipush 9, 2) := by decide +kernel
theorem dX10_worriesOf_7 : decode cX10_worriesOf 7 = .ok (.if_icmp .gt 91, 3) := by decide +kernel
theorem dX10_worriesOf_10 : decode cX10_worriesOf 10 = .ok (.iconst 1, 1) := by decide +kernel
theorem dX10_worriesOf_11 : decode cX10_worriesOf 11 = .ok (.istore 4, 2) := by decide +kernel
theorem dX10_worriesOf_13 : decode cX10_worriesOf 13 = .ok (.iconst 0, 1) := by decide +kernel
theorem dX10_worriesOf_14 : decode cX10_worriesOf 14 = .ok (.istore 5, 2) := by decide +kernel
theorem dX10_worriesOf_16 : decode cX10_worriesOf 16 = .ok (.iload 5, 2) := by decide +kernel
theorem dX10_worriesOf_18 : decode cX10_worriesOf 18 = .ok (.aload_n 0, 1) := by decide +kernel
theorem dX10_worriesOf_19 : decode cX10_worriesOf 19 = .ok (.getfield 116, 3) := by decide +kernel
theorem dX10_worriesOf_22 : decode cX10_worriesOf 22 = .ok (.if_icmp .ge 55, 3) := by decide +kernel
theorem dX10_worriesOf_25 : decode cX10_worriesOf 25 = .ok (.iload 4, 2) := by decide +kernel
theorem dX10_worriesOf_27 : decode cX10_worriesOf 27 = .ok (.ifCond .eq 41, 3) := by decide +kernel
theorem dX10_worriesOf_30 : decode cX10_worriesOf 30 = .ok (.aload_n 0, 1) := by decide +kernel
theorem dX10_worriesOf_31 : decode cX10_worriesOf 31 = .ok (.getfield 19, 3) := by decide +kernel
theorem dX10_worriesOf_34 : decode cX10_worriesOf 34 = .ok (.iload 5, 2) := by decide +kernel
theorem dX10_worriesOf_36 : decode cX10_worriesOf 36 = .ok (.iaload, 1) := by decide +kernel
theorem dX10_worriesOf_37 : decode cX10_worriesOf 37 = .ok (.iload_n 1, 1) := by decide +kernel
theorem dX10_worriesOf_38 : decode cX10_worriesOf 38 = .ok (.if_icmp .ne 26, 3) := by decide +kernel
theorem dX10_worriesOf_41 : decode cX10_worriesOf 41 = .ok (.aload_n 0, 1) := by decide +kernel
theorem dX10_worriesOf_42 : decode cX10_worriesOf 42 = .ok (.iload_n 1, 1) := by decide +kernel
theorem dX10_worriesOf_43 : decode cX10_worriesOf 43 = .ok (.iload_n 3, 1) := by decide +kernel
theorem dX10_worriesOf_44 : decode cX10_worriesOf 44 = .ok (.aload_n 0, 1) := by decide +kernel
theorem dX10_worriesOf_45 : decode cX10_worriesOf 45 = .ok (.getfield 22, 3) := by decide +kernel
theorem dX10_worriesOf_48 : decode cX10_worriesOf 48 = .ok (.iload 5, 2) := by decide +kernel
theorem dX10_worriesOf_50 : decode cX10_worriesOf 50 = .ok (.iaload, 1) := by decide +kernel
theorem dX10_worriesOf_51 : decode cX10_worriesOf 51 = .ok (.invokevirtual 237, 3) := by decide +kernel
theorem dX10_worriesOf_54 : decode cX10_worriesOf 54 = .ok (.aload_n 0, 1) := by decide +kernel
theorem dX10_worriesOf_55 : decode cX10_worriesOf 55 = .ok (.getfield 25, 3) := by decide +kernel
theorem dX10_worriesOf_58 : decode cX10_worriesOf 58 = .ok (.iload 5, 2) := by decide +kernel
theorem dX10_worriesOf_60 : decode cX10_worriesOf 60 = .ok (.iaload, 1) := by decide +kernel
theorem dX10_worriesOf_61 : decode cX10_worriesOf 61 = .ok (.if_icmp .ne 7, 3) := by decide +kernel
theorem dX10_worriesOf_64 : decode cX10_worriesOf 64 = .ok (.iconst 1, 1) := by decide +kernel
theorem dX10_worriesOf_65 : decode cX10_worriesOf 65 = .ok (.goto 4, 3) := by decide +kernel
theorem dX10_worriesOf_68 : decode cX10_worriesOf 68 = .ok (.iconst 0, 1) := by decide +kernel
theorem dX10_worriesOf_69 : decode cX10_worriesOf 69 = .ok (.istore 4, 2) := by decide +kernel
theorem dX10_worriesOf_71 : decode cX10_worriesOf 71 = .ok (.iinc 5 1, 3) := by decide +kernel
theorem dX10_worriesOf_74 : decode cX10_worriesOf 74 = .ok (.goto (-58), 3) := by decide +kernel
theorem dX10_worriesOf_77 : decode cX10_worriesOf 77 = .ok (.iload_n 2, 1) := by decide +kernel
theorem dX10_worriesOf_78 : decode cX10_worriesOf 78 = .ok (.iload 4, 2) := by decide +kernel
theorem dX10_worriesOf_80 : decode cX10_worriesOf 80 = .ok (.ifCond .eq 9, 3) := by decide +kernel
theorem dX10_worriesOf_83 : decode cX10_worriesOf 83 = .ok (.iconst 1, 1) := by decide +kernel
theorem dX10_worriesOf_84 : decode cX10_worriesOf 84 = .ok (.iload_n 3, 1) := by decide +kernel
theorem dX10_worriesOf_85 : decode cX10_worriesOf 85 = .ok (.ishl, 1) := by decide +kernel
theorem dX10_worriesOf_86 : decode cX10_worriesOf 86 = .ok (.goto 4, 3) := by decide +kernel
theorem dX10_worriesOf_89 : decode cX10_worriesOf 89 = .ok (.iconst 0, 1) := by decide +kernel
theorem dX10_worriesOf_90 : decode cX10_worriesOf 90 = .ok (.ior, 1) := by decide +kernel
theorem dX10_worriesOf_91 : decode cX10_worriesOf 91 = .ok (.istore_n 2, 1) := by decide +kernel
theorem dX10_worriesOf_92 : decode cX10_worriesOf 92 = .ok (.iinc 3 1, 3) := by decide +kernel
theorem dX10_worriesOf_95 : decode cX10_worriesOf 95 = .ok (.goto (-91), 3) := by decide +kernel
theorem dX10_worriesOf_98 : decode cX10_worriesOf 98 = .ok (.iload_n 2, 1) := by decide +kernel
theorem dX10_worriesOf_99 : decode cX10_worriesOf 99 = .ok (.ireturn, 1) := by decide +kernel
theorem dX10_worstBy_0 : decode cX10_worstBy 0 = .ok (.iconst 0, 1) := by decide +kernel
theorem dX10_worstBy_1 : decode cX10_worstBy 1 = .ok (.istore 4, 2) := by decide +kernel
theorem dX10_worstBy_3 : decode cX10_worstBy 3 = .ok (.iload 4, 2) := by decide +kernel
theorem dX10_worstBy_5 : decode cX10_worstBy 5 = .ok (.bipush 20, 2) := by decide +kernel
theorem dX10_worstBy_7 : decode cX10_worstBy 7 = .ok (.if_icmp .gt 17, 3) := by decide +kernel
theorem dX10_worstBy_10 : decode cX10_worstBy 10 = .ok (.aload_n 0, 1) := by decide +kernel
theorem dX10_worstBy_11 : decode cX10_worstBy 11 = .ok (.getfield 50, 3) := by decide +kernel
theorem dX10_worstBy_14 : decode cX10_worstBy 14 = .ok (.iload 4, 2) := by decide +kernel
theorem dX10_worstBy_16 : decode cX10_worstBy 16 = .ok (.iconst 0, 1) := by decide +kernel
theorem dX10_worstBy_17 : decode cX10_worstBy 17 = .ok (.iastore, 1) := by decide +kernel
theorem dX10_worstBy_18 : decode cX10_worstBy 18 = .ok (.iinc 4 1, 3) := by decide +kernel
theorem dX10_worstBy_21 : decode cX10_worstBy 21 = .ok (.goto (-18), 3) := by decide +kernel
theorem dX10_worstBy_24 : decode cX10_worstBy 24 = .ok (.iconst 0, 1) := by decide +kernel
theorem dX10_worstBy_25 : decode cX10_worstBy 25 = .ok (.istore 4, 2) := by decide +kernel
theorem dX10_worstBy_27 : decode cX10_worstBy 27 = .ok (.iconst 0, 1) := by decide +kernel
theorem dX10_worstBy_28 : decode cX10_worstBy 28 = .ok (.istore 5, 2) := by decide +kernel
theorem dX10_worstBy_30 : decode cX10_worstBy 30 = .ok (.iload 5, 2) := by decide +kernel
theorem dX10_worstBy_32 : decode cX10_worstBy 32 = .ok (.bipush 9, 2) := by decide +kernel
theorem dX10_worstBy_34 : decode cX10_worstBy 34 = .ok (.if_icmp .gt 65, 3) := by decide +kernel
theorem dX10_worstBy_37 : decode cX10_worstBy 37 = .ok (.iload_n 2, 1) := by decide +kernel
theorem dX10_worstBy_38 : decode cX10_worstBy 38 = .ok (.iload 5, 2) := by decide +kernel
theorem dX10_worstBy_40 : decode cX10_worstBy 40 = .ok (.invokestatic 122, 3) := by decide +kernel
theorem dX10_worstBy_43 : decode cX10_worstBy 43 = .ok (.ifCond .eq 50, 3) := by decide +kernel
theorem dX10_worstBy_46 : decode cX10_worstBy 46 = .ok (.aload_n 0, 1) := by decide +kernel
theorem dX10_worstBy_47 : decode cX10_worstBy 47 = .ok (.iload_n 1, 1) := by decide +kernel
theorem dX10_worstBy_48 : decode cX10_worstBy 48 = .ok (.iload 5, 2) := by decide +kernel
theorem dX10_worstBy_50 : decode cX10_worstBy 50 = .ok (.iload_n 3, 1) := by decide +kernel
theorem dX10_worstBy_51 : decode cX10_worstBy 51 = .ok (.invokevirtual 237, 3) := by decide +kernel
theorem dX10_worstBy_54 : decode cX10_worstBy 54 = .ok (.istore 6, 2) := by decide +kernel
theorem dX10_worstBy_56 : decode cX10_worstBy 56 = .ok (.aload_n 0, 1) := by decide +kernel
theorem dX10_worstBy_57 : decode cX10_worstBy 57 = .ok (.getfield 50, 3) := by decide +kernel
theorem dX10_worstBy_60 : decode cX10_worstBy 60 = .ok (.iload 6, 2) := by decide +kernel
theorem dX10_worstBy_62 : decode cX10_worstBy 62 = .ok (.dup2, 1) := by decide +kernel
theorem dX10_worstBy_63 : decode cX10_worstBy 63 = .ok (.iaload, 1) := by decide +kernel
theorem dX10_worstBy_64 : decode cX10_worstBy 64 = .ok (.iconst 1, 1) := by decide +kernel
theorem dX10_worstBy_65 : decode cX10_worstBy 65 = .ok (.iadd, 1) := by decide +kernel
theorem dX10_worstBy_66 : decode cX10_worstBy 66 = .ok (.iastore, 1) := by decide +kernel
theorem dX10_worstBy_67 : decode cX10_worstBy 67 = .ok (.aload_n 0, 1) := by decide +kernel
theorem dX10_worstBy_68 : decode cX10_worstBy 68 = .ok (.getfield 50, 3) := by decide +kernel
theorem dX10_worstBy_71 : decode cX10_worstBy 71 = .ok (.iload 6, 2) := by decide +kernel
theorem dX10_worstBy_73 : decode cX10_worstBy 73 = .ok (.iaload, 1) := by decide +kernel
theorem dX10_worstBy_74 : decode cX10_worstBy 74 = .ok (.iload 4, 2) := by decide +kernel
theorem dX10_worstBy_76 : decode cX10_worstBy 76 = .ok (.if_icmp .le 13, 3) := by decide +kernel
theorem dX10_worstBy_79 : decode cX10_worstBy 79 = .ok (.aload_n 0, 1) := by decide +kernel
theorem dX10_worstBy_80 : decode cX10_worstBy 80 = .ok (.getfield 50, 3) := by decide +kernel
theorem dX10_worstBy_83 : decode cX10_worstBy 83 = .ok (.iload 6, 2) := by decide +kernel
theorem dX10_worstBy_85 : decode cX10_worstBy 85 = .ok (.iaload, 1) := by decide +kernel
theorem dX10_worstBy_86 : decode cX10_worstBy 86 = .ok (.goto 5, 3) := by decide +kernel
theorem dX10_worstBy_89 : decode cX10_worstBy 89 = .ok (.iload 4, 2) := by decide +kernel
theorem dX10_worstBy_91 : decode cX10_worstBy 91 = .ok (.istore 4, 2) := by decide +kernel
theorem dX10_worstBy_93 : decode cX10_worstBy 93 = .ok (.iinc 5 1, 3) := by decide +kernel
theorem dX10_worstBy_96 : decode cX10_worstBy 96 = .ok (.goto (-66), 3) := by decide +kernel
theorem dX10_worstBy_99 : decode cX10_worstBy 99 = .ok (.iload 4, 2) := by decide +kernel
theorem dX10_worstBy_101 : decode cX10_worstBy 101 = .ok (.ireturn, 1) := by decide +kernel
theorem dX10_lookFor_0 : decode cX10_lookFor 0 = .ok (.aload_n 0, 1) := by decide +kernel
theorem dX10_lookFor_1 : decode cX10_lookFor 1 = .ok (.iload_n 1, 1) := by decide +kernel
theorem dX10_lookFor_2 : decode cX10_lookFor 2 = .ok (.invokevirtual 143, 3) := by decide +kernel
theorem dX10_lookFor_5 : decode cX10_lookFor 5 = .ok (.istore_n 2, 1) := by decide +kernel
theorem dX10_lookFor_6 : decode cX10_lookFor 6 = .ok (.iconst (-1), 1) := by decide +kernel
theorem dX10_lookFor_7 : decode cX10_lookFor 7 = .ok (.istore_n 3, 1) := by decide +kernel
theorem dX10_lookFor_8 : decode cX10_lookFor 8 = .ok (.ldc 189, 2) := by decide +kernel
theorem dX10_lookFor_10 : decode cX10_lookFor 10 = .ok (.istore 4, 2) := by decide +kernel
theorem dX10_lookFor_12 : decode cX10_lookFor 12 = .ok (.iconst 1, 1) := by decide +kernel
theorem dX10_lookFor_13 : decode cX10_lookFor 13 = .ok (.istore 5, 2) := by decide +kernel
theorem dX10_lookFor_15 : decode cX10_lookFor 15 = .ok (.iload 5, 2) := by decide +kernel
theorem dX10_lookFor_17 : decode cX10_lookFor 17 = .ok (.bipush 9, 2) := by decide +kernel
theorem dX10_lookFor_19 : decode cX10_lookFor 19 = .ok (.if_icmp .gt 53, 3) := by decide +kernel
theorem dX10_lookFor_22 : decode cX10_lookFor 22 = .ok (.iload_n 2, 1) := by decide +kernel
theorem dX10_lookFor_23 : decode cX10_lookFor 23 = .ok (.ifCond .eq 49, 3) := by decide +kernel
theorem dX10_lookFor_26 : decode cX10_lookFor 26 = .ok (.aload_n 0, 1) := by decide +kernel
theorem dX10_lookFor_27 : decode cX10_lookFor 27 = .ok (.iload_n 1, 1) := by decide +kernel
theorem dX10_lookFor_28 : decode cX10_lookFor 28 = .ok (.iload_n 2, 1) := by decide +kernel
theorem dX10_lookFor_29 : decode cX10_lookFor 29 = .ok (.iload 5, 2) := by decide +kernel
theorem dX10_lookFor_31 : decode cX10_lookFor 31 = .ok (.invokevirtual 240, 3) := by decide +kernel
theorem dX10_lookFor_34 : decode cX10_lookFor 34 = .ok (.istore 6, 2) := by decide +kernel
theorem dX10_lookFor_36 : decode cX10_lookFor 36 = .ok (.iload 6, 2) := by decide +kernel
theorem dX10_lookFor_38 : decode cX10_lookFor 38 = .ok (.iload 4, 2) := by decide +kernel
theorem dX10_lookFor_40 : decode cX10_lookFor 40 = .ok (.if_icmp .ge 8, 3) := by decide +kernel
theorem dX10_lookFor_43 : decode cX10_lookFor 43 = .ok (.iload 5, 2) := by decide +kernel
theorem dX10_lookFor_45 : decode cX10_lookFor 45 = .ok (.goto 4, 3) := by decide +kernel
theorem dX10_lookFor_48 : decode cX10_lookFor 48 = .ok (.iload_n 3, 1) := by decide +kernel
theorem dX10_lookFor_49 : decode cX10_lookFor 49 = .ok (.istore_n 3, 1) := by decide +kernel
theorem dX10_lookFor_50 : decode cX10_lookFor 50 = .ok (.iload 6, 2) := by decide +kernel
theorem dX10_lookFor_52 : decode cX10_lookFor 52 = .ok (.iload 4, 2) := by decide +kernel
theorem dX10_lookFor_54 : decode cX10_lookFor 54 = .ok (.if_icmp .ge 8, 3) := by decide +kernel
theorem dX10_lookFor_57 : decode cX10_lookFor 57 = .ok (.iload 6, 2) := by decide +kernel
theorem dX10_lookFor_59 : decode cX10_lookFor 59 = .ok (.goto 5, 3) := by decide +kernel
theorem dX10_lookFor_62 : decode cX10_lookFor 62 = .ok (.iload 4, 2) := by decide +kernel
theorem dX10_lookFor_64 : decode cX10_lookFor 64 = .ok (.istore 4, 2) := by decide +kernel
theorem dX10_lookFor_66 : decode cX10_lookFor 66 = .ok (.iinc 5 1, 3) := by decide +kernel
theorem dX10_lookFor_69 : decode cX10_lookFor 69 = .ok (.goto (-54), 3) := by decide +kernel
theorem dX10_lookFor_72 : decode cX10_lookFor 72 = .ok (.iload_n 3, 1) := by decide +kernel
theorem dX10_lookFor_73 : decode cX10_lookFor 73 = .ok (.ireturn, 1) := by decide +kernel
theorem dX10_draw_0 : decode cX10_draw 0 = .ok (.aload_n 0, 1) := by decide +kernel
theorem dX10_draw_1 : decode cX10_draw 1 = .ok (.ldc2_w 243, 3) := by decide +kernel
theorem dX10_draw_4 : decode cX10_draw 4 = .ok (.aload_n 0, 1) := by decide +kernel
theorem dX10_draw_5 : decode cX10_draw 5 = .ok (.getfield 245, 3) := by decide +kernel
theorem dX10_draw_8 : decode cX10_draw 8 = .ok (.lmul, 1) := by decide +kernel
theorem dX10_draw_9 : decode cX10_draw 9 = .ok (.ldc2_w 249, 3) := by decide +kernel
theorem dX10_draw_12 : decode cX10_draw 12 = .ok (.ladd, 1) := by decide +kernel
theorem dX10_draw_13 : decode cX10_draw 13 = .ok (.ldc2_w 251, 3) := by decide +kernel
theorem dX10_draw_16 : decode cX10_draw 16 = .ok (.land, 1) := by decide +kernel
theorem dX10_draw_17 : decode cX10_draw 17 = .ok (.putfield 245, 3) := by decide +kernel
theorem dX10_draw_20 : decode cX10_draw 20 = .ok (.aload_n 0, 1) := by decide +kernel
theorem dX10_draw_21 : decode cX10_draw 21 = .ok (.getfield 245, 3) := by decide +kernel
theorem dX10_draw_24 : decode cX10_draw 24 = .ok (.ldc2_w 253, 3) := by decide +kernel
theorem dX10_draw_27 : decode cX10_draw 27 = .ok (.ldiv, 1) := by decide +kernel
theorem dX10_draw_28 : decode cX10_draw 28 = .ok (.iload_n 1, 1) := by decide +kernel
theorem dX10_draw_29 : decode cX10_draw 29 = .ok (.i2l, 1) := by decide +kernel
theorem dX10_draw_30 : decode cX10_draw 30 = .ok (.lrem, 1) := by decide +kernel
theorem dX10_draw_31 : decode cX10_draw 31 = .ok (.l2i, 1) := by decide +kernel
theorem dX10_draw_32 : decode cX10_draw 32 = .ok (.ireturn, 1) := by decide +kernel
theorem dX10_agesNow_0 : decode cX10_agesNow 0 = .ok (.aload_n 0, 1) := by decide +kernel
theorem dX10_agesNow_1 : decode cX10_agesNow 1 = .ok (.invokevirtual 180, 3) := by decide +kernel
theorem dX10_agesNow_4 : decode cX10_agesNow 4 = .ok (.aload_n 0, 1) := by decide +kernel
theorem dX10_agesNow_5 : decode cX10_agesNow 5 = .ok (.iload_n 2, 1) := by decide +kernel
theorem dX10_agesNow_6 : decode cX10_agesNow 6 = .ok (.i2l, 1) := by decide +kernel
theorem dX10_agesNow_7 : decode cX10_agesNow 7 = .ok (.putfield 245, 3) := by decide +kernel
theorem dX10_agesNow_10 : decode cX10_agesNow 10 = .ok (.iconst 0, 1) := by decide +kernel
theorem dX10_agesNow_11 : decode cX10_agesNow 11 = .ok (.istore 4, 2) := by decide +kernel
theorem dX10_agesNow_13 : decode cX10_agesNow 13 = .ok (.iconst 0, 1) := by decide +kernel
theorem dX10_agesNow_14 : decode cX10_agesNow 14 = .ok (.istore 5, 2) := by decide +kernel
theorem dX10_agesNow_16 : decode cX10_agesNow 16 = .ok (.iload 5, 2) := by decide +kernel
theorem dX10_agesNow_18 : decode cX10_agesNow 18 = .ok (.iload_n 1, 1) := by decide +kernel
theorem dX10_agesNow_19 : decode cX10_agesNow 19 = .ok (.if_icmp .ge 70, 3) := by decide +kernel
theorem dX10_agesNow_22 : decode cX10_agesNow 22 = .ok (.aload_n 0, 1) := by decide +kernel
theorem dX10_agesNow_23 : decode cX10_agesNow 23 = .ok (.aload_n 0, 1) := by decide +kernel
theorem dX10_agesNow_24 : decode cX10_agesNow 24 = .ok (.getfield 101, 3) := by decide +kernel
theorem dX10_agesNow_27 : decode cX10_agesNow 27 = .ok (.invokevirtual 255, 3) := by decide +kernel
theorem dX10_agesNow_30 : decode cX10_agesNow 30 = .ok (.istore 6, 2) := by decide +kernel
theorem dX10_agesNow_32 : decode cX10_agesNow 32 = .ok (.aload_n 0, 1) := by decide +kernel
theorem dX10_agesNow_33 : decode cX10_agesNow 33 = .ok (.iconst 2, 1) := by decide +kernel
theorem dX10_agesNow_34 : decode cX10_agesNow 34 = .ok (.invokevirtual 255, 3) := by decide +kernel
theorem dX10_agesNow_37 : decode cX10_agesNow 37 = .ok (.ifCond .ne 12, 3) := by decide +kernel
theorem dX10_agesNow_40 : decode cX10_agesNow 40 = .ok (.aload_n 0, 1) := by decide +kernel
theorem dX10_agesNow_41 : decode cX10_agesNow 41 = .ok (.iload 6, 2) := by decide +kernel
theorem dX10_agesNow_43 : decode cX10_agesNow 43 = .ok (.invokevirtual 164, 3) := by decide +kernel
theorem dX10_agesNow_46 : decode cX10_agesNow 46 = .ok (.goto 18, 3) := by decide +kernel
theorem dX10_agesNow_49 : decode cX10_agesNow 49 = .ok (.aload_n 0, 1) := by decide +kernel
theorem dX10_agesNow_50 : decode cX10_agesNow 50 = .ok (.iload 6, 2) := by decide +kernel
theorem dX10_agesNow_52 : decode cX10_agesNow 52 = .ok (.invokevirtual 168, 3) := by decide +kernel
theorem dX10_agesNow_55 : decode cX10_agesNow 55 = .ok (.ifCond .eq 9, 3) := by decide +kernel
theorem dX10_agesNow_58 : decode cX10_agesNow 58 = .ok (.aload_n 0, 1) := by decide +kernel
theorem dX10_agesNow_59 : decode cX10_agesNow 59 = .ok (.iload 6, 2) := by decide +kernel
theorem dX10_agesNow_61 : decode cX10_agesNow 61 = .ok (.invokevirtual 171, 3) := by decide +kernel
theorem dX10_agesNow_64 : decode cX10_agesNow 64 = .ok (.aload_n 0, 1) := by decide +kernel
theorem dX10_agesNow_65 : decode cX10_agesNow 65 = .ok (.invokevirtual 158, 3) := by decide +kernel
theorem dX10_agesNow_68 : decode cX10_agesNow 68 = .ok (.iload 4, 2) := by decide +kernel
theorem dX10_agesNow_70 : decode cX10_agesNow 70 = .ok (.aload_n 0, 1) := by decide +kernel
theorem dX10_agesNow_71 : decode cX10_agesNow 71 = .ok (.aload_n 0, 1) := by decide +kernel
theorem dX10_agesNow_72 : decode cX10_agesNow 72 = .ok (.bipush 16, 2) := by decide +kernel
theorem dX10_agesNow_74 : decode cX10_agesNow 74 = .ok (.invokevirtual 255, 3) := by decide +kernel
theorem dX10_agesNow_77 : decode cX10_agesNow 77 = .ok (.invokevirtual 161, 3) := by decide +kernel
theorem dX10_agesNow_80 : decode cX10_agesNow 80 = .ok (.iadd, 1) := by decide +kernel
theorem dX10_agesNow_81 : decode cX10_agesNow 81 = .ok (.istore 4, 2) := by decide +kernel
theorem dX10_agesNow_83 : decode cX10_agesNow 83 = .ok (.iinc 5 1, 3) := by decide +kernel
theorem dX10_agesNow_86 : decode cX10_agesNow 86 = .ok (.goto (-70), 3) := by decide +kernel
theorem dX10_agesNow_89 : decode cX10_agesNow 89 = .ok (.aload_n 0, 1) := by decide +kernel
theorem dX10_agesNow_90 : decode cX10_agesNow 90 = .ok (.invokevirtual 196, 3) := by decide +kernel
theorem dX10_agesNow_93 : decode cX10_agesNow 93 = .ok (.istore 5, 2) := by decide +kernel
theorem dX10_agesNow_95 : decode cX10_agesNow 95 = .ok (.aload_n 0, 1) := by decide +kernel
theorem dX10_agesNow_96 : decode cX10_agesNow 96 = .ok (.invokevirtual 183, 3) := by decide +kernel
theorem dX10_agesNow_99 : decode cX10_agesNow 99 = .ok (.iload_n 3, 1) := by decide +kernel
theorem dX10_agesNow_100 : decode cX10_agesNow 100 = .ok (.ifCond .ne 8, 3) := by decide +kernel
theorem dX10_agesNow_103 : decode cX10_agesNow 103 = .ok (.iload 4, 2) := by decide +kernel
theorem dX10_agesNow_105 : decode cX10_agesNow 105 = .ok (.goto 18, 3) := by decide +kernel
theorem dX10_agesNow_108 : decode cX10_agesNow 108 = .ok (.iload_n 3, 1) := by decide +kernel
theorem dX10_agesNow_109 : decode cX10_agesNow 109 = .ok (.iconst 1, 1) := by decide +kernel
theorem dX10_agesNow_110 : decode cX10_agesNow 110 = .ok (.if_icmp .ne 8, 3) := by decide +kernel
theorem dX10_agesNow_113 : decode cX10_agesNow 113 = .ok (.iload 5, 2) := by decide +kernel
theorem dX10_agesNow_115 : decode cX10_agesNow 115 = .ok (.goto 8, 3) := by decide +kernel
theorem dX10_agesNow_118 : decode cX10_agesNow 118 = .ok (.aload_n 0, 1) := by decide +kernel
theorem dX10_agesNow_119 : decode cX10_agesNow 119 = .ok (.getfield 245, 3) := by decide +kernel
theorem dX10_agesNow_122 : decode cX10_agesNow 122 = .ok (.l2i, 1) := by decide +kernel
theorem dX10_agesNow_123 : decode cX10_agesNow 123 = .ok (.ireturn, 1) := by decide +kernel
theorem dX10_ages_0 : decode cX10_ages 0 = .ok (.iload_n 1, 1) := by decide +kernel
theorem dX10_ages_1 : decode cX10_ages 1 = .ok (.iconst 1, 1) := by decide +kernel
theorem dX10_ages_2 : decode cX10_ages 2 = .ok (.bipush 60, 2) := by decide +kernel
theorem dX10_ages_4 : decode cX10_ages 4 = .ok (.invokestatic 71, 3) := by decide +kernel
theorem dX10_ages_7 : decode cX10_ages 7 = .ok (.ifCond .eq 16, 3) := by decide +kernel
theorem dX10_ages_10 : decode cX10_ages 10 = .ok (.iload_n 2, 1) := by decide +kernel
theorem dX10_ages_11 : decode cX10_ages 11 = .ok (.ifCond .lt 12, 3) := by decide +kernel
theorem dX10_ages_14 : decode cX10_ages 14 = .ok (.iload_n 3, 1) := by decide +kernel
theorem dX10_ages_15 : decode cX10_ages 15 = .ok (.iconst 0, 1) := by decide +kernel
theorem dX10_ages_16 : decode cX10_ages 16 = .ok (.iconst 2, 1) := by decide +kernel
theorem dX10_ages_17 : decode cX10_ages 17 = .ok (.invokestatic 71, 3) := by decide +kernel
theorem dX10_ages_20 : decode cX10_ages 20 = .ok (.ifCond .ne 6, 3) := by decide +kernel
theorem dX10_ages_23 : decode cX10_ages 23 = .ok (.bipush (-102), 2) := by decide +kernel
theorem dX10_ages_25 : decode cX10_ages 25 = .ok (.ireturn, 1) := by decide +kernel
theorem dX10_ages_26 : decode cX10_ages 26 = .ok (.aload_n 0, 1) := by decide +kernel
theorem dX10_ages_27 : decode cX10_ages 27 = .ok (.getfield 101, 3) := by decide +kernel
theorem dX10_ages_30 : decode cX10_ages 30 = .ok (.ifCond .ne 8, 3) := by decide +kernel
theorem dX10_ages_33 : decode cX10_ages 33 = .ok (.bipush (-103), 2) := by decide +kernel
theorem dX10_ages_35 : decode cX10_ages 35 = .ok (.goto 10, 3) := by decide +kernel
theorem dX10_ages_38 : decode cX10_ages 38 = .ok (.aload_n 0, 1) := by decide +kernel
theorem dX10_ages_39 : decode cX10_ages 39 = .ok (.iload_n 1, 1) := by decide +kernel
theorem dX10_ages_40 : decode cX10_ages 40 = .ok (.iload_n 2, 1) := by decide +kernel
theorem dX10_ages_41 : decode cX10_ages 41 = .ok (.iload_n 3, 1) := by decide +kernel
theorem dX10_ages_42 : decode cX10_ages 42 = .ok (.invokevirtual 258, 3) := by decide +kernel
theorem dX10_ages_45 : decode cX10_ages 45 = .ok (.ireturn, 1) := by decide +kernel
theorem dX10_image_0 : decode cX10_image 0 = .ok (.aload_n 0, 1) := by decide +kernel
theorem dX10_image_1 : decode cX10_image 1 = .ok (.getfield 101, 3) := by decide +kernel
theorem dX10_image_4 : decode cX10_image 4 = .ok (.ifCond .ne 6, 3) := by decide +kernel
theorem dX10_image_7 : decode cX10_image 7 = .ok (.bipush (-103), 2) := by decide +kernel
theorem dX10_image_9 : decode cX10_image 9 = .ok (.ireturn, 1) := by decide +kernel
theorem dX10_image_10 : decode cX10_image 10 = .ok (.aload_n 0, 1) := by decide +kernel
theorem dX10_image_11 : decode cX10_image 11 = .ok (.iconst 1, 1) := by decide +kernel
theorem dX10_image_12 : decode cX10_image 12 = .ok (.putfield 261, 3) := by decide +kernel
theorem dX10_image_15 : decode cX10_image 15 = .ok (.aload_n 0, 1) := by decide +kernel
theorem dX10_image_16 : decode cX10_image 16 = .ok (.aload_n 0, 1) := by decide +kernel
theorem dX10_image_17 : decode cX10_image 17 = .ok (.getfield 113, 3) := by decide +kernel
theorem dX10_image_20 : decode cX10_image 20 = .ok (.putfield 264, 3) := by decide +kernel
theorem dX10_image_23 : decode cX10_image 23 = .ok (.aload_n 0, 1) := by decide +kernel
theorem dX10_image_24 : decode cX10_image 24 = .ok (.aload_n 0, 1) := by decide +kernel
theorem dX10_image_25 : decode cX10_image 25 = .ok (.getfield 104, 3) := by decide +kernel
theorem dX10_image_28 : decode cX10_image 28 = .ok (.putfield 267, 3) := by decide +kernel
theorem dX10_image_31 : decode cX10_image 31 = .ok (.aload_n 0, 1) := by decide +kernel
theorem dX10_image_32 : decode cX10_image 32 = .ok (.aload_n 0, 1) := by decide +kernel
theorem dX10_image_33 : decode cX10_image 33 = .ok (.getfield 107, 3) := by decide +kernel
theorem dX10_image_36 : decode cX10_image 36 = .ok (.putfield 270, 3) := by decide +kernel
theorem dX10_image_39 : decode cX10_image 39 = .ok (.aload_n 0, 1) := by decide +kernel
theorem dX10_image_40 : decode cX10_image 40 = .ok (.aload_n 0, 1) := by decide +kernel
theorem dX10_image_41 : decode cX10_image 41 = .ok (.getfield 110, 3) := by decide +kernel
theorem dX10_image_44 : decode cX10_image 44 = .ok (.putfield 273, 3) := by decide +kernel
theorem dX10_image_47 : decode cX10_image 47 = .ok (.aload_n 0, 1) := by decide +kernel
theorem dX10_image_48 : decode cX10_image 48 = .ok (.aload_n 0, 1) := by decide +kernel
theorem dX10_image_49 : decode cX10_image 49 = .ok (.getfield 116, 3) := by decide +kernel
theorem dX10_image_52 : decode cX10_image 52 = .ok (.putfield 276, 3) := by decide +kernel
theorem dX10_image_55 : decode cX10_image 55 = .ok (.iconst 0, 1) := by decide +kernel
theorem dX10_image_56 : decode cX10_image 56 = .ok (.istore_n 1, 1) := by decide +kernel
theorem dX10_image_57 : decode cX10_image 57 = .ok (.iload_n 1, 1) := by decide +kernel
theorem dX10_image_58 : decode cX10_image 58 = .ok (.bipush 6, 2) := by decide +kernel
theorem dX10_image_60 : decode cX10_image 60 = .ok (.if_icmp .ge 81, 3) := by decide +kernel
theorem dX10_image_63 : decode cX10_image 63 = .ok (.aload_n 0, 1) := by decide +kernel
theorem dX10_image_64 : decode cX10_image 64 = .ok (.getfield 53, 3) := by decide +kernel
theorem dX10_image_67 : decode cX10_image 67 = .ok (.iload_n 1, 1) := by decide +kernel
theorem dX10_image_68 : decode cX10_image 68 = .ok (.aload_n 0, 1) := by decide +kernel
theorem dX10_image_69 : decode cX10_image 69 = .ok (.getfield 7, 3) := by decide +kernel
theorem dX10_image_72 : decode cX10_image 72 = .ok (.iload_n 1, 1) := by decide +kernel
theorem dX10_image_73 : decode cX10_image 73 = .ok (.iaload, 1) := by decide +kernel
theorem dX10_image_74 : decode cX10_image 74 = .ok (.iastore, 1) := by decide +kernel
theorem dX10_image_75 : decode cX10_image 75 = .ok (.aload_n 0, 1) := by decide +kernel
theorem dX10_image_76 : decode cX10_image 76 = .ok (.getfield 56, 3) := by decide +kernel
theorem dX10_image_79 : decode cX10_image 79 = .ok (.iload_n 1, 1) := by decide +kernel
theorem dX10_image_80 : decode cX10_image 80 = .ok (.aload_n 0, 1) := by decide +kernel
theorem dX10_image_81 : decode cX10_image 81 = .ok (.getfield 13, 3) := by decide +kernel
theorem dX10_image_84 : decode cX10_image 84 = .ok (.iload_n 1, 1) := by decide +kernel
theorem dX10_image_85 : decode cX10_image 85 = .ok (.iaload, 1) := by decide +kernel
theorem dX10_image_86 : decode cX10_image 86 = .ok (.iastore, 1) := by decide +kernel
theorem dX10_image_87 : decode cX10_image 87 = .ok (.aload_n 0, 1) := by decide +kernel
theorem dX10_image_88 : decode cX10_image 88 = .ok (.getfield 59, 3) := by decide +kernel
theorem dX10_image_91 : decode cX10_image 91 = .ok (.iload_n 1, 1) := by decide +kernel
theorem dX10_image_92 : decode cX10_image 92 = .ok (.aload_n 0, 1) := by decide +kernel
theorem dX10_image_93 : decode cX10_image 93 = .ok (.getfield 16, 3) := by decide +kernel
theorem dX10_image_96 : decode cX10_image 96 = .ok (.iload_n 1, 1) := by decide +kernel
theorem dX10_image_97 : decode cX10_image 97 = .ok (.iaload, 1) := by decide +kernel
theorem dX10_image_98 : decode cX10_image 98 = .ok (.iastore, 1) := by decide +kernel
theorem dX10_image_99 : decode cX10_image 99 = .ok (.aload_n 0, 1) := by decide +kernel
theorem dX10_image_100 : decode cX10_image 100 = .ok (.getfield 62, 3) := by decide +kernel
theorem dX10_image_103 : decode cX10_image 103 = .ok (.iload_n 1, 1) := by decide +kernel
theorem dX10_image_104 : decode cX10_image 104 = .ok (.aload_n 0, 1) := by decide +kernel
theorem dX10_image_105 : decode cX10_image 105 = .ok (.getfield 19, 3) := by decide +kernel
theorem dX10_image_108 : decode cX10_image 108 = .ok (.iload_n 1, 1) := by decide +kernel
theorem dX10_image_109 : decode cX10_image 109 = .ok (.iaload, 1) := by decide +kernel
theorem dX10_image_110 : decode cX10_image 110 = .ok (.iastore, 1) := by decide +kernel
theorem dX10_image_111 : decode cX10_image 111 = .ok (.aload_n 0, 1) := by decide +kernel
theorem dX10_image_112 : decode cX10_image 112 = .ok (.getfield 65, 3) := by decide +kernel
theorem dX10_image_115 : decode cX10_image 115 = .ok (.iload_n 1, 1) := by decide +kernel
theorem dX10_image_116 : decode cX10_image 116 = .ok (.aload_n 0, 1) := by decide +kernel
theorem dX10_image_117 : decode cX10_image 117 = .ok (.getfield 22, 3) := by decide +kernel
theorem dX10_image_120 : decode cX10_image 120 = .ok (.iload_n 1, 1) := by decide +kernel
theorem dX10_image_121 : decode cX10_image 121 = .ok (.iaload, 1) := by decide +kernel
theorem dX10_image_122 : decode cX10_image 122 = .ok (.iastore, 1) := by decide +kernel
theorem dX10_image_123 : decode cX10_image 123 = .ok (.aload_n 0, 1) := by decide +kernel
theorem dX10_image_124 : decode cX10_image 124 = .ok (.getfield 68, 3) := by decide +kernel
theorem dX10_image_127 : decode cX10_image 127 = .ok (.iload_n 1, 1) := by decide +kernel
theorem dX10_image_128 : decode cX10_image 128 = .ok (.aload_n 0, 1) := by decide +kernel
theorem dX10_image_129 : decode cX10_image 129 = .ok (.getfield 25, 3) := by decide +kernel
theorem dX10_image_132 : decode cX10_image 132 = .ok (.iload_n 1, 1) := by decide +kernel
theorem dX10_image_133 : decode cX10_image 133 = .ok (.iaload, 1) := by decide +kernel
theorem dX10_image_134 : decode cX10_image 134 = .ok (.iastore, 1) := by decide +kernel
theorem dX10_image_135 : decode cX10_image 135 = .ok (.iinc 1 1, 3) := by decide +kernel
theorem dX10_image_138 : decode cX10_image 138 = .ok (.goto (-81), 3) := by decide +kernel
theorem dX10_image_141 : decode cX10_image 141 = .ok (.aload_n 0, 1) := by decide +kernel
theorem dX10_image_142 : decode cX10_image 142 = .ok (.getfield 107, 3) := by decide +kernel
theorem dX10_image_145 : decode cX10_image 145 = .ok (.ireturn, 1) := by decide +kernel
theorem dX10_restore_0 : decode cX10_restore 0 = .ok (.aload_n 0, 1) := by decide +kernel
theorem dX10_restore_1 : decode cX10_restore 1 = .ok (.getfield 261, 3) := by decide +kernel
theorem dX10_restore_4 : decode cX10_restore 4 = .ok (.ifCond .eq 14, 3) := by decide +kernel
theorem dX10_restore_7 : decode cX10_restore 7 = .ok (.aload_n 0, 1) := by decide +kernel
theorem dX10_restore_8 : decode cX10_restore 8 = .ok (.getfield 264, 3) := by decide +kernel
theorem dX10_restore_11 : decode cX10_restore 11 = .ok (.aload_n 0, 1) := by decide +kernel
theorem dX10_restore_12 : decode cX10_restore 12 = .ok (.getfield 113, 3) := by decide +kernel
theorem dX10_restore_15 : decode cX10_restore 15 = .ok (.if_icmp .eq 6, 3) := by decide +kernel
theorem dX10_restore_18 : decode cX10_restore 18 = .ok (.bipush (-103), 2) := by decide +kernel
theorem dX10_restore_20 : decode cX10_restore 20 = .ok (.ireturn, 1) := by decide +kernel
theorem dX10_restore_21 : decode cX10_restore 21 = .ok (.aload_n 0, 1) := by decide +kernel
theorem dX10_restore_22 : decode cX10_restore 22 = .ok (.aload_n 0, 1) := by decide +kernel
theorem dX10_restore_23 : decode cX10_restore 23 = .ok (.getfield 267, 3) := by decide +kernel
theorem dX10_restore_26 : decode cX10_restore 26 = .ok (.putfield 104, 3) := by decide +kernel
theorem dX10_restore_29 : decode cX10_restore 29 = .ok (.aload_n 0, 1) := by decide +kernel
theorem dX10_restore_30 : decode cX10_restore 30 = .ok (.aload_n 0, 1) := by decide +kernel
theorem dX10_restore_31 : decode cX10_restore 31 = .ok (.getfield 270, 3) := by decide +kernel
theorem dX10_restore_34 : decode cX10_restore 34 = .ok (.putfield 107, 3) := by decide +kernel
theorem dX10_restore_37 : decode cX10_restore 37 = .ok (.aload_n 0, 1) := by decide +kernel
theorem dX10_restore_38 : decode cX10_restore 38 = .ok (.aload_n 0, 1) := by decide +kernel
theorem dX10_restore_39 : decode cX10_restore 39 = .ok (.getfield 273, 3) := by decide +kernel
theorem dX10_restore_42 : decode cX10_restore 42 = .ok (.putfield 110, 3) := by decide +kernel
theorem dX10_restore_45 : decode cX10_restore 45 = .ok (.aload_n 0, 1) := by decide +kernel
theorem dX10_restore_46 : decode cX10_restore 46 = .ok (.aload_n 0, 1) := by decide +kernel
theorem dX10_restore_47 : decode cX10_restore 47 = .ok (.getfield 276, 3) := by decide +kernel
theorem dX10_restore_50 : decode cX10_restore 50 = .ok (.putfield 116, 3) := by decide +kernel
theorem dX10_restore_53 : decode cX10_restore 53 = .ok (.iconst 0, 1) := by decide +kernel
theorem dX10_restore_54 : decode cX10_restore 54 = .ok (.istore_n 1, 1) := by decide +kernel
theorem dX10_restore_55 : decode cX10_restore 55 = .ok (.iload_n 1, 1) := by decide +kernel
theorem dX10_restore_56 : decode cX10_restore 56 = .ok (.bipush 6, 2) := by decide +kernel
theorem dX10_restore_58 : decode cX10_restore 58 = .ok (.if_icmp .ge 81, 3) := by decide +kernel
theorem dX10_restore_61 : decode cX10_restore 61 = .ok (.aload_n 0, 1) := by decide +kernel
theorem dX10_restore_62 : decode cX10_restore 62 = .ok (.getfield 7, 3) := by decide +kernel
theorem dX10_restore_65 : decode cX10_restore 65 = .ok (.iload_n 1, 1) := by decide +kernel
theorem dX10_restore_66 : decode cX10_restore 66 = .ok (.aload_n 0, 1) := by decide +kernel
theorem dX10_restore_67 : decode cX10_restore 67 = .ok (.getfield 53, 3) := by decide +kernel
theorem dX10_restore_70 : decode cX10_restore 70 = .ok (.iload_n 1, 1) := by decide +kernel
theorem dX10_restore_71 : decode cX10_restore 71 = .ok (.iaload, 1) := by decide +kernel
theorem dX10_restore_72 : decode cX10_restore 72 = .ok (.iastore, 1) := by decide +kernel
theorem dX10_restore_73 : decode cX10_restore 73 = .ok (.aload_n 0, 1) := by decide +kernel
theorem dX10_restore_74 : decode cX10_restore 74 = .ok (.getfield 13, 3) := by decide +kernel
theorem dX10_restore_77 : decode cX10_restore 77 = .ok (.iload_n 1, 1) := by decide +kernel
theorem dX10_restore_78 : decode cX10_restore 78 = .ok (.aload_n 0, 1) := by decide +kernel
theorem dX10_restore_79 : decode cX10_restore 79 = .ok (.getfield 56, 3) := by decide +kernel
theorem dX10_restore_82 : decode cX10_restore 82 = .ok (.iload_n 1, 1) := by decide +kernel
theorem dX10_restore_83 : decode cX10_restore 83 = .ok (.iaload, 1) := by decide +kernel
theorem dX10_restore_84 : decode cX10_restore 84 = .ok (.iastore, 1) := by decide +kernel
theorem dX10_restore_85 : decode cX10_restore 85 = .ok (.aload_n 0, 1) := by decide +kernel
theorem dX10_restore_86 : decode cX10_restore 86 = .ok (.getfield 16, 3) := by decide +kernel
theorem dX10_restore_89 : decode cX10_restore 89 = .ok (.iload_n 1, 1) := by decide +kernel
theorem dX10_restore_90 : decode cX10_restore 90 = .ok (.aload_n 0, 1) := by decide +kernel
theorem dX10_restore_91 : decode cX10_restore 91 = .ok (.getfield 59, 3) := by decide +kernel
theorem dX10_restore_94 : decode cX10_restore 94 = .ok (.iload_n 1, 1) := by decide +kernel
theorem dX10_restore_95 : decode cX10_restore 95 = .ok (.iaload, 1) := by decide +kernel
theorem dX10_restore_96 : decode cX10_restore 96 = .ok (.iastore, 1) := by decide +kernel
theorem dX10_restore_97 : decode cX10_restore 97 = .ok (.aload_n 0, 1) := by decide +kernel
