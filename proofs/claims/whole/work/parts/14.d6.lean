theorem d_Mo_betweenBy_55 : decode M_Mo_betweenBy.2.1 55 = .ok (.iload_n 3, 1) := by decide +kernel
theorem d_Mo_betweenBy_56 : decode M_Mo_betweenBy.2.1 56 = .ok (.ireturn, 1) := by decide +kernel
theorem d_Mo_isTried_0 : decode M_Mo_isTried.2.1 0 = .ok (.iconst 0, 1) := by decide +kernel
theorem d_Mo_isTried_1 : decode M_Mo_isTried.2.1 1 = .ok (.istore_n 3, 1) := by decide +kernel
theorem d_Mo_isTried_2 : decode M_Mo_isTried.2.1 2 = .ok (.iload_n 3, 1) := by decide +kernel
theorem d_Mo_isTried_3 : decode M_Mo_isTried.2.1 3 = .ok (.iload_n 2, 1) := by decide +kernel
theorem d_Mo_isTried_4 : decode M_Mo_isTried.2.1 4 = .ok (.if_icmp .gt 21, 3) := by decide +kernel
theorem d_Mo_isTried_7 : decode M_Mo_isTried.2.1 7 = .ok (.aload_n 0, 1) := by decide +kernel
theorem d_Mo_isTried_8 : decode M_Mo_isTried.2.1 8 = .ok (.getfield 71, 3) := by decide +kernel
theorem d_Mo_isTried_11 : decode M_Mo_isTried.2.1 11 = .ok (.iload_n 3, 1) := by decide +kernel
theorem d_Mo_isTried_12 : decode M_Mo_isTried.2.1 12 = .ok (.iaload, 1) := by decide +kernel
theorem d_Mo_isTried_13 : decode M_Mo_isTried.2.1 13 = .ok (.iload_n 1, 1) := by decide +kernel
theorem d_Mo_isTried_14 : decode M_Mo_isTried.2.1 14 = .ok (.if_icmp .ne 5, 3) := by decide +kernel
theorem d_Mo_isTried_17 : decode M_Mo_isTried.2.1 17 = .ok (.iconst 1, 1) := by decide +kernel
theorem d_Mo_isTried_18 : decode M_Mo_isTried.2.1 18 = .ok (.ireturn, 1) := by decide +kernel
theorem d_Mo_isTried_19 : decode M_Mo_isTried.2.1 19 = .ok (.iinc 3 1, 3) := by decide +kernel
theorem d_Mo_isTried_22 : decode M_Mo_isTried.2.1 22 = .ok (.goto (-20), 3) := by decide +kernel
theorem d_Mo_isTried_25 : decode M_Mo_isTried.2.1 25 = .ok (.iconst 0, 1) := by decide +kernel
theorem d_Mo_isTried_26 : decode M_Mo_isTried.2.1 26 = .ok (.ireturn, 1) := by decide +kernel
theorem d_Mo_laysRow_0 : decode M_Mo_laysRow.2.1 0 = .ok (.aload_n 0, 1) := by decide +kernel
theorem d_Mo_laysRow_1 : decode M_Mo_laysRow.2.1 1 = .ok (.iload_n 2, 1) := by decide +kernel
theorem d_Mo_laysRow_2 : decode M_Mo_laysRow.2.1 2 = .ok (.invokevirtual 422, 3) := by decide +kernel
theorem d_Mo_laysRow_5 : decode M_Mo_laysRow.2.1 5 = .ok (.iconst 0, 1) := by decide +kernel
theorem d_Mo_laysRow_6 : decode M_Mo_laysRow.2.1 6 = .ok (.istore_n 3, 1) := by decide +kernel
theorem d_Mo_laysRow_7 : decode M_Mo_laysRow.2.1 7 = .ok (.aload_n 0, 1) := by decide +kernel
theorem d_Mo_laysRow_8 : decode M_Mo_laysRow.2.1 8 = .ok (.getfield 71, 3) := by decide +kernel
theorem d_Mo_laysRow_11 : decode M_Mo_laysRow.2.1 11 = .ok (.iconst 0, 1) := by decide +kernel
theorem d_Mo_laysRow_12 : decode M_Mo_laysRow.2.1 12 = .ok (.iload_n 1, 1) := by decide +kernel
theorem d_Mo_laysRow_13 : decode M_Mo_laysRow.2.1 13 = .ok (.iastore, 1) := by decide +kernel
theorem d_Mo_laysRow_14 : decode M_Mo_laysRow.2.1 14 = .ok (.aload_n 0, 1) := by decide +kernel
theorem d_Mo_laysRow_15 : decode M_Mo_laysRow.2.1 15 = .ok (.getfield 74, 3) := by decide +kernel
theorem d_Mo_laysRow_18 : decode M_Mo_laysRow.2.1 18 = .ok (.iconst 0, 1) := by decide +kernel
theorem d_Mo_laysRow_19 : decode M_Mo_laysRow.2.1 19 = .ok (.iconst (-1), 1) := by decide +kernel
theorem d_Mo_laysRow_20 : decode M_Mo_laysRow.2.1 20 = .ok (.iastore, 1) := by decide +kernel
theorem d_Mo_laysRow_21 : decode M_Mo_laysRow.2.1 21 = .ok (.aload_n 0, 1) := by decide +kernel
theorem d_Mo_laysRow_22 : decode M_Mo_laysRow.2.1 22 = .ok (.getfield 71, 3) := by decide +kernel
theorem d_Mo_laysRow_25 : decode M_Mo_laysRow.2.1 25 = .ok (.iload_n 3, 1) := by decide +kernel
theorem d_Mo_laysRow_26 : decode M_Mo_laysRow.2.1 26 = .ok (.iaload, 1) := by decide +kernel
theorem d_Mo_laysRow_27 : decode M_Mo_laysRow.2.1 27 = .ok (.iload_n 2, 1) := by decide +kernel
theorem d_Mo_laysRow_28 : decode M_Mo_laysRow.2.1 28 = .ok (.if_icmp .eq 131, 3) := by decide +kernel
theorem d_Mo_laysRow_31 : decode M_Mo_laysRow.2.1 31 = .ok (.aload_n 0, 1) := by decide +kernel
theorem d_Mo_laysRow_32 : decode M_Mo_laysRow.2.1 32 = .ok (.getfield 74, 3) := by decide +kernel
theorem d_Mo_laysRow_35 : decode M_Mo_laysRow.2.1 35 = .ok (.iload_n 3, 1) := by decide +kernel
theorem d_Mo_laysRow_36 : decode M_Mo_laysRow.2.1 36 = .ok (.dup2, 1) := by decide +kernel
theorem d_Mo_laysRow_37 : decode M_Mo_laysRow.2.1 37 = .ok (.iaload, 1) := by decide +kernel
theorem d_Mo_laysRow_38 : decode M_Mo_laysRow.2.1 38 = .ok (.iconst 1, 1) := by decide +kernel
theorem d_Mo_laysRow_39 : decode M_Mo_laysRow.2.1 39 = .ok (.iadd, 1) := by decide +kernel
theorem d_Mo_laysRow_40 : decode M_Mo_laysRow.2.1 40 = .ok (.iastore, 1) := by decide +kernel
theorem d_Mo_laysRow_41 : decode M_Mo_laysRow.2.1 41 = .ok (.aload_n 0, 1) := by decide +kernel
theorem d_Mo_laysRow_42 : decode M_Mo_laysRow.2.1 42 = .ok (.getfield 74, 3) := by decide +kernel
theorem d_Mo_laysRow_45 : decode M_Mo_laysRow.2.1 45 = .ok (.iload_n 3, 1) := by decide +kernel
theorem d_Mo_laysRow_46 : decode M_Mo_laysRow.2.1 46 = .ok (.iaload, 1) := by decide +kernel
theorem d_Mo_laysRow_47 : decode M_Mo_laysRow.2.1 47 = .ok (.istore 4, 2) := by decide +kernel
theorem d_Mo_laysRow_49 : decode M_Mo_laysRow.2.1 49 = .ok (.iload 4, 2) := by decide +kernel
theorem d_Mo_laysRow_51 : decode M_Mo_laysRow.2.1 51 = .ok (.aload_n 0, 1) := by decide +kernel
theorem d_Mo_laysRow_52 : decode M_Mo_laysRow.2.1 52 = .ok (.getfield 7, 3) := by decide +kernel
theorem d_Mo_laysRow_55 : decode M_Mo_laysRow.2.1 55 = .ok (.iconst 0, 1) := by decide +kernel
theorem d_Mo_laysRow_56 : decode M_Mo_laysRow.2.1 56 = .ok (.iaload, 1) := by decide +kernel
theorem d_Mo_laysRow_57 : decode M_Mo_laysRow.2.1 57 = .ok (.if_icmp .ne 9, 3) := by decide +kernel
theorem d_Mo_laysRow_60 : decode M_Mo_laysRow.2.1 60 = .ok (.iinc 3 (-1), 3) := by decide +kernel
theorem d_Mo_laysRow_63 : decode M_Mo_laysRow.2.1 63 = .ok (.goto (-42), 3) := by decide +kernel
theorem d_Mo_laysRow_66 : decode M_Mo_laysRow.2.1 66 = .ok (.aload_n 0, 1) := by decide +kernel
theorem d_Mo_laysRow_67 : decode M_Mo_laysRow.2.1 67 = .ok (.iload 4, 2) := by decide +kernel
theorem d_Mo_laysRow_69 : decode M_Mo_laysRow.2.1 69 = .ok (.iload_n 3, 1) := by decide +kernel
theorem d_Mo_laysRow_70 : decode M_Mo_laysRow.2.1 70 = .ok (.invokevirtual 425, 3) := by decide +kernel
theorem d_Mo_laysRow_73 : decode M_Mo_laysRow.2.1 73 = .ok (.ifCond .ne 54, 3) := by decide +kernel
theorem d_Mo_laysRow_76 : decode M_Mo_laysRow.2.1 76 = .ok (.aload_n 0, 1) := by decide +kernel
theorem d_Mo_laysRow_77 : decode M_Mo_laysRow.2.1 77 = .ok (.getfield 68, 3) := by decide +kernel
theorem d_Mo_laysRow_80 : decode M_Mo_laysRow.2.1 80 = .ok (.iload 4, 2) := by decide +kernel
theorem d_Mo_laysRow_82 : decode M_Mo_laysRow.2.1 82 = .ok (.iaload, 1) := by decide +kernel
theorem d_Mo_laysRow_83 : decode M_Mo_laysRow.2.1 83 = .ok (.ldc_w 418, 3) := by decide +kernel
theorem d_Mo_laysRow_86 : decode M_Mo_laysRow.2.1 86 = .ok (.if_icmp .ge 41, 3) := by decide +kernel
theorem d_Mo_laysRow_89 : decode M_Mo_laysRow.2.1 89 = .ok (.aload_n 0, 1) := by decide +kernel
theorem d_Mo_laysRow_90 : decode M_Mo_laysRow.2.1 90 = .ok (.aload_n 0, 1) := by decide +kernel
theorem d_Mo_laysRow_91 : decode M_Mo_laysRow.2.1 91 = .ok (.getfield 71, 3) := by decide +kernel
theorem d_Mo_laysRow_94 : decode M_Mo_laysRow.2.1 94 = .ok (.iload_n 3, 1) := by decide +kernel
theorem d_Mo_laysRow_95 : decode M_Mo_laysRow.2.1 95 = .ok (.iaload, 1) := by decide +kernel
theorem d_Mo_laysRow_96 : decode M_Mo_laysRow.2.1 96 = .ok (.iload 4, 2) := by decide +kernel
theorem d_Mo_laysRow_98 : decode M_Mo_laysRow.2.1 98 = .ok (.invokevirtual 428, 3) := by decide +kernel
theorem d_Mo_laysRow_101 : decode M_Mo_laysRow.2.1 101 = .ok (.aload_n 0, 1) := by decide +kernel
theorem d_Mo_laysRow_102 : decode M_Mo_laysRow.2.1 102 = .ok (.getfield 68, 3) := by decide +kernel
theorem d_Mo_laysRow_105 : decode M_Mo_laysRow.2.1 105 = .ok (.iload 4, 2) := by decide +kernel
theorem d_Mo_laysRow_107 : decode M_Mo_laysRow.2.1 107 = .ok (.iaload, 1) := by decide +kernel
theorem d_Mo_laysRow_108 : decode M_Mo_laysRow.2.1 108 = .ok (.iadd, 1) := by decide +kernel
theorem d_Mo_laysRow_109 : decode M_Mo_laysRow.2.1 109 = .ok (.aload_n 0, 1) := by decide +kernel
theorem d_Mo_laysRow_110 : decode M_Mo_laysRow.2.1 110 = .ok (.getfield 68, 3) := by decide +kernel
theorem d_Mo_laysRow_113 : decode M_Mo_laysRow.2.1 113 = .ok (.aload_n 0, 1) := by decide +kernel
theorem d_Mo_laysRow_114 : decode M_Mo_laysRow.2.1 114 = .ok (.getfield 71, 3) := by decide +kernel
theorem d_Mo_laysRow_117 : decode M_Mo_laysRow.2.1 117 = .ok (.iload_n 3, 1) := by decide +kernel
theorem d_Mo_laysRow_118 : decode M_Mo_laysRow.2.1 118 = .ok (.iaload, 1) := by decide +kernel
theorem d_Mo_laysRow_119 : decode M_Mo_laysRow.2.1 119 = .ok (.iaload, 1) := by decide +kernel
theorem d_Mo_laysRow_120 : decode M_Mo_laysRow.2.1 120 = .ok (.if_icmp .ne 7, 3) := by decide +kernel
theorem d_Mo_laysRow_123 : decode M_Mo_laysRow.2.1 123 = .ok (.iconst 1, 1) := by decide +kernel
theorem d_Mo_laysRow_124 : decode M_Mo_laysRow.2.1 124 = .ok (.goto 4, 3) := by decide +kernel
theorem d_Mo_laysRow_127 : decode M_Mo_laysRow.2.1 127 = .ok (.iconst 0, 1) := by decide +kernel
theorem d_Mo_laysRow_128 : decode M_Mo_laysRow.2.1 128 = .ok (.istore 5, 2) := by decide +kernel
theorem d_Mo_laysRow_130 : decode M_Mo_laysRow.2.1 130 = .ok (.iload 5, 2) := by decide +kernel
theorem d_Mo_laysRow_132 : decode M_Mo_laysRow.2.1 132 = .ok (.ifCond .ne 6, 3) := by decide +kernel
theorem d_Mo_laysRow_135 : decode M_Mo_laysRow.2.1 135 = .ok (.goto (-114), 3) := by decide +kernel
theorem d_Mo_laysRow_138 : decode M_Mo_laysRow.2.1 138 = .ok (.iinc 3 1, 3) := by decide +kernel
theorem d_Mo_laysRow_141 : decode M_Mo_laysRow.2.1 141 = .ok (.aload_n 0, 1) := by decide +kernel
theorem d_Mo_laysRow_142 : decode M_Mo_laysRow.2.1 142 = .ok (.getfield 71, 3) := by decide +kernel
theorem d_Mo_laysRow_145 : decode M_Mo_laysRow.2.1 145 = .ok (.iload_n 3, 1) := by decide +kernel
theorem d_Mo_laysRow_146 : decode M_Mo_laysRow.2.1 146 = .ok (.iload 4, 2) := by decide +kernel
theorem d_Mo_laysRow_148 : decode M_Mo_laysRow.2.1 148 = .ok (.iastore, 1) := by decide +kernel
theorem d_Mo_laysRow_149 : decode M_Mo_laysRow.2.1 149 = .ok (.aload_n 0, 1) := by decide +kernel
theorem d_Mo_laysRow_150 : decode M_Mo_laysRow.2.1 150 = .ok (.getfield 74, 3) := by decide +kernel
theorem d_Mo_laysRow_153 : decode M_Mo_laysRow.2.1 153 = .ok (.iload_n 3, 1) := by decide +kernel
theorem d_Mo_laysRow_154 : decode M_Mo_laysRow.2.1 154 = .ok (.iconst (-1), 1) := by decide +kernel
theorem d_Mo_laysRow_155 : decode M_Mo_laysRow.2.1 155 = .ok (.iastore, 1) := by decide +kernel
theorem d_Mo_laysRow_156 : decode M_Mo_laysRow.2.1 156 = .ok (.goto (-135), 3) := by decide +kernel
theorem d_Mo_laysRow_159 : decode M_Mo_laysRow.2.1 159 = .ok (.aload_n 0, 1) := by decide +kernel
theorem d_Mo_laysRow_160 : decode M_Mo_laysRow.2.1 160 = .ok (.iload_n 3, 1) := by decide +kernel
theorem d_Mo_laysRow_161 : decode M_Mo_laysRow.2.1 161 = .ok (.iconst 1, 1) := by decide +kernel
theorem d_Mo_laysRow_162 : decode M_Mo_laysRow.2.1 162 = .ok (.iadd, 1) := by decide +kernel
theorem d_Mo_laysRow_163 : decode M_Mo_laysRow.2.1 163 = .ok (.putfield 431, 3) := by decide +kernel
theorem d_Mo_laysRow_166 : decode M_Mo_laysRow.2.1 166 = .ok (.return_, 1) := by decide +kernel
theorem d_Mo_way_0 : decode M_Mo_way.2.1 0 = .ok (.aload_n 0, 1) := by decide +kernel
theorem d_Mo_way_1 : decode M_Mo_way.2.1 1 = .ok (.iload_n 1, 1) := by decide +kernel
theorem d_Mo_way_2 : decode M_Mo_way.2.1 2 = .ok (.iload_n 2, 1) := by decide +kernel
theorem d_Mo_way_3 : decode M_Mo_way.2.1 3 = .ok (.invokevirtual 349, 3) := by decide +kernel
theorem d_Mo_way_6 : decode M_Mo_way.2.1 6 = .ok (.ifCond .ne 9, 3) := by decide +kernel
theorem d_Mo_way_9 : decode M_Mo_way.2.1 9 = .ok (.aload_n 0, 1) := by decide +kernel
theorem d_Mo_way_10 : decode M_Mo_way.2.1 10 = .ok (.iconst 1, 1) := by decide +kernel
theorem d_Mo_way_11 : decode M_Mo_way.2.1 11 = .ok (.invokevirtual 111, 3) := by decide +kernel
theorem d_Mo_way_14 : decode M_Mo_way.2.1 14 = .ok (.ireturn, 1) := by decide +kernel
theorem d_Mo_way_15 : decode M_Mo_way.2.1 15 = .ok (.aload_n 0, 1) := by decide +kernel
theorem d_Mo_way_16 : decode M_Mo_way.2.1 16 = .ok (.iload_n 2, 1) := by decide +kernel
theorem d_Mo_way_17 : decode M_Mo_way.2.1 17 = .ok (.invokevirtual 422, 3) := by decide +kernel
theorem d_Mo_way_20 : decode M_Mo_way.2.1 20 = .ok (.aload_n 0, 1) := by decide +kernel
theorem d_Mo_way_21 : decode M_Mo_way.2.1 21 = .ok (.getfield 68, 3) := by decide +kernel
theorem d_Mo_way_24 : decode M_Mo_way.2.1 24 = .ok (.iload_n 1, 1) := by decide +kernel
theorem d_Mo_way_25 : decode M_Mo_way.2.1 25 = .ok (.iaload, 1) := by decide +kernel
theorem d_Mo_way_26 : decode M_Mo_way.2.1 26 = .ok (.ldc_w 418, 3) := by decide +kernel
theorem d_Mo_way_29 : decode M_Mo_way.2.1 29 = .ok (.if_icmp .lt 12, 3) := by decide +kernel
theorem d_Mo_way_32 : decode M_Mo_way.2.1 32 = .ok (.aload_n 0, 1) := by decide +kernel
theorem d_Mo_way_33 : decode M_Mo_way.2.1 33 = .ok (.bipush 6, 2) := by decide +kernel
theorem d_Mo_way_35 : decode M_Mo_way.2.1 35 = .ok (.invokevirtual 111, 3) := by decide +kernel
theorem d_Mo_way_38 : decode M_Mo_way.2.1 38 = .ok (.goto 13, 3) := by decide +kernel
theorem d_Mo_way_41 : decode M_Mo_way.2.1 41 = .ok (.aload_n 0, 1) := by decide +kernel
theorem d_Mo_way_42 : decode M_Mo_way.2.1 42 = .ok (.aload_n 0, 1) := by decide +kernel
theorem d_Mo_way_43 : decode M_Mo_way.2.1 43 = .ok (.getfield 68, 3) := by decide +kernel
theorem d_Mo_way_46 : decode M_Mo_way.2.1 46 = .ok (.iload_n 1, 1) := by decide +kernel
theorem d_Mo_way_47 : decode M_Mo_way.2.1 47 = .ok (.iaload, 1) := by decide +kernel
theorem d_Mo_way_48 : decode M_Mo_way.2.1 48 = .ok (.invokevirtual 115, 3) := by decide +kernel
theorem d_Mo_way_51 : decode M_Mo_way.2.1 51 = .ok (.ireturn, 1) := by decide +kernel
theorem d_Mo_wayAt_0 : decode M_Mo_wayAt.2.1 0 = .ok (.aload_n 0, 1) := by decide +kernel
theorem d_Mo_wayAt_1 : decode M_Mo_wayAt.2.1 1 = .ok (.iload_n 1, 1) := by decide +kernel
theorem d_Mo_wayAt_2 : decode M_Mo_wayAt.2.1 2 = .ok (.iload_n 2, 1) := by decide +kernel
theorem d_Mo_wayAt_3 : decode M_Mo_wayAt.2.1 3 = .ok (.invokevirtual 349, 3) := by decide +kernel
theorem d_Mo_wayAt_6 : decode M_Mo_wayAt.2.1 6 = .ok (.ifCond .eq 7, 3) := by decide +kernel
theorem d_Mo_wayAt_9 : decode M_Mo_wayAt.2.1 9 = .ok (.iload_n 3, 1) := by decide +kernel
theorem d_Mo_wayAt_10 : decode M_Mo_wayAt.2.1 10 = .ok (.ifCond .ge 9, 3) := by decide +kernel
theorem d_Mo_wayAt_13 : decode M_Mo_wayAt.2.1 13 = .ok (.aload_n 0, 1) := by decide +kernel
theorem d_Mo_wayAt_14 : decode M_Mo_wayAt.2.1 14 = .ok (.iconst 1, 1) := by decide +kernel
theorem d_Mo_wayAt_15 : decode M_Mo_wayAt.2.1 15 = .ok (.invokevirtual 111, 3) := by decide +kernel
theorem d_Mo_wayAt_18 : decode M_Mo_wayAt.2.1 18 = .ok (.ireturn, 1) := by decide +kernel
theorem d_Mo_wayAt_19 : decode M_Mo_wayAt.2.1 19 = .ok (.aload_n 0, 1) := by decide +kernel
theorem d_Mo_wayAt_20 : decode M_Mo_wayAt.2.1 20 = .ok (.iload_n 2, 1) := by decide +kernel
theorem d_Mo_wayAt_21 : decode M_Mo_wayAt.2.1 21 = .ok (.invokevirtual 422, 3) := by decide +kernel
theorem d_Mo_wayAt_24 : decode M_Mo_wayAt.2.1 24 = .ok (.aload_n 0, 1) := by decide +kernel
theorem d_Mo_wayAt_25 : decode M_Mo_wayAt.2.1 25 = .ok (.getfield 68, 3) := by decide +kernel
theorem d_Mo_wayAt_28 : decode M_Mo_wayAt.2.1 28 = .ok (.iload_n 1, 1) := by decide +kernel
theorem d_Mo_wayAt_29 : decode M_Mo_wayAt.2.1 29 = .ok (.iaload, 1) := by decide +kernel
theorem d_Mo_wayAt_30 : decode M_Mo_wayAt.2.1 30 = .ok (.ldc_w 418, 3) := by decide +kernel
theorem d_Mo_wayAt_33 : decode M_Mo_wayAt.2.1 33 = .ok (.if_icmp .lt 10, 3) := by decide +kernel
theorem d_Mo_wayAt_36 : decode M_Mo_wayAt.2.1 36 = .ok (.aload_n 0, 1) := by decide +kernel
theorem d_Mo_wayAt_37 : decode M_Mo_wayAt.2.1 37 = .ok (.bipush 6, 2) := by decide +kernel
theorem d_Mo_wayAt_39 : decode M_Mo_wayAt.2.1 39 = .ok (.invokevirtual 111, 3) := by decide +kernel
theorem d_Mo_wayAt_42 : decode M_Mo_wayAt.2.1 42 = .ok (.ireturn, 1) := by decide +kernel
theorem d_Mo_wayAt_43 : decode M_Mo_wayAt.2.1 43 = .ok (.aload_n 0, 1) := by decide +kernel
theorem d_Mo_wayAt_44 : decode M_Mo_wayAt.2.1 44 = .ok (.iload_n 1, 1) := by decide +kernel
theorem d_Mo_wayAt_45 : decode M_Mo_wayAt.2.1 45 = .ok (.iload_n 2, 1) := by decide +kernel
theorem d_Mo_wayAt_46 : decode M_Mo_wayAt.2.1 46 = .ok (.invokevirtual 434, 3) := by decide +kernel
theorem d_Mo_wayAt_49 : decode M_Mo_wayAt.2.1 49 = .ok (.iload_n 3, 1) := by decide +kernel
theorem d_Mo_wayAt_50 : decode M_Mo_wayAt.2.1 50 = .ok (.aload_n 0, 1) := by decide +kernel
theorem d_Mo_wayAt_51 : decode M_Mo_wayAt.2.1 51 = .ok (.getfield 431, 3) := by decide +kernel
theorem d_Mo_wayAt_54 : decode M_Mo_wayAt.2.1 54 = .ok (.if_icmp .lt 12, 3) := by decide +kernel
theorem d_Mo_wayAt_57 : decode M_Mo_wayAt.2.1 57 = .ok (.aload_n 0, 1) := by decide +kernel
theorem d_Mo_wayAt_58 : decode M_Mo_wayAt.2.1 58 = .ok (.bipush 6, 2) := by decide +kernel
theorem d_Mo_wayAt_60 : decode M_Mo_wayAt.2.1 60 = .ok (.invokevirtual 111, 3) := by decide +kernel
theorem d_Mo_wayAt_63 : decode M_Mo_wayAt.2.1 63 = .ok (.goto 13, 3) := by decide +kernel
theorem d_Mo_wayAt_66 : decode M_Mo_wayAt.2.1 66 = .ok (.aload_n 0, 1) := by decide +kernel
theorem d_Mo_wayAt_67 : decode M_Mo_wayAt.2.1 67 = .ok (.aload_n 0, 1) := by decide +kernel
theorem d_Mo_wayAt_68 : decode M_Mo_wayAt.2.1 68 = .ok (.getfield 71, 3) := by decide +kernel
theorem d_Mo_wayAt_71 : decode M_Mo_wayAt.2.1 71 = .ok (.iload_n 3, 1) := by decide +kernel
theorem d_Mo_wayAt_72 : decode M_Mo_wayAt.2.1 72 = .ok (.iaload, 1) := by decide +kernel
theorem d_Mo_wayAt_73 : decode M_Mo_wayAt.2.1 73 = .ok (.invokevirtual 115, 3) := by decide +kernel
theorem d_Mo_wayAt_76 : decode M_Mo_wayAt.2.1 76 = .ok (.ireturn, 1) := by decide +kernel
theorem d_Mo_area_0 : decode M_Mo_area.2.1 0 = .ok (.iload_n 1, 1) := by decide +kernel
theorem d_Mo_area_1 : decode M_Mo_area.2.1 1 = .ok (.invokestatic 122, 3) := by decide +kernel
theorem d_Mo_area_4 : decode M_Mo_area.2.1 4 = .ok (.ifCond .eq 17, 3) := by decide +kernel
theorem d_Mo_area_7 : decode M_Mo_area.2.1 7 = .ok (.iload_n 2, 1) := by decide +kernel
theorem d_Mo_area_8 : decode M_Mo_area.2.1 8 = .ok (.i2l, 1) := by decide +kernel
theorem d_Mo_area_9 : decode M_Mo_area.2.1 9 = .ok (.ldc2_w 437, 3) := by decide +kernel
theorem d_Mo_area_12 : decode M_Mo_area.2.1 12 = .ok (.ldc2_w 439, 3) := by decide +kernel
theorem d_Mo_area_15 : decode M_Mo_area.2.1 15 = .ok (.invokestatic 356, 3) := by decide +kernel
theorem d_Mo_area_18 : decode M_Mo_area.2.1 18 = .ok (.ifCond .ne 9, 3) := by decide +kernel
theorem d_Mo_area_21 : decode M_Mo_area.2.1 21 = .ok (.aload_n 0, 1) := by decide +kernel
theorem d_Mo_area_22 : decode M_Mo_area.2.1 22 = .ok (.iconst 1, 1) := by decide +kernel
theorem d_Mo_area_23 : decode M_Mo_area.2.1 23 = .ok (.invokevirtual 118, 3) := by decide +kernel
theorem d_Mo_area_26 : decode M_Mo_area.2.1 26 = .ok (.ireturn, 1) := by decide +kernel
theorem d_Mo_area_27 : decode M_Mo_area.2.1 27 = .ok (.aload_n 0, 1) := by decide +kernel
theorem d_Mo_area_28 : decode M_Mo_area.2.1 28 = .ok (.getfield 24, 3) := by decide +kernel
theorem d_Mo_area_31 : decode M_Mo_area.2.1 31 = .ok (.iload_n 1, 1) := by decide +kernel
theorem d_Mo_area_32 : decode M_Mo_area.2.1 32 = .ok (.iaload, 1) := by decide +kernel
theorem d_Mo_area_33 : decode M_Mo_area.2.1 33 = .ok (.iconst (-1), 1) := by decide +kernel
theorem d_Mo_area_34 : decode M_Mo_area.2.1 34 = .ok (.if_icmp .ne 9, 3) := by decide +kernel
theorem d_Mo_area_37 : decode M_Mo_area.2.1 37 = .ok (.aload_n 0, 1) := by decide +kernel
theorem d_Mo_area_38 : decode M_Mo_area.2.1 38 = .ok (.iconst 2, 1) := by decide +kernel
theorem d_Mo_area_39 : decode M_Mo_area.2.1 39 = .ok (.invokevirtual 118, 3) := by decide +kernel
theorem d_Mo_area_42 : decode M_Mo_area.2.1 42 = .ok (.ireturn, 1) := by decide +kernel
theorem d_Mo_area_43 : decode M_Mo_area.2.1 43 = .ok (.aload_n 0, 1) := by decide +kernel
theorem d_Mo_area_44 : decode M_Mo_area.2.1 44 = .ok (.getfield 24, 3) := by decide +kernel
theorem d_Mo_area_47 : decode M_Mo_area.2.1 47 = .ok (.iload_n 1, 1) := by decide +kernel
theorem d_Mo_area_48 : decode M_Mo_area.2.1 48 = .ok (.iaload, 1) := by decide +kernel
theorem d_Mo_area_49 : decode M_Mo_area.2.1 49 = .ok (.iload_n 2, 1) := by decide +kernel
theorem d_Mo_area_50 : decode M_Mo_area.2.1 50 = .ok (.if_icmp .ge 9, 3) := by decide +kernel
theorem d_Mo_area_53 : decode M_Mo_area.2.1 53 = .ok (.aload_n 0, 1) := by decide +kernel
theorem d_Mo_area_54 : decode M_Mo_area.2.1 54 = .ok (.iconst 3, 1) := by decide +kernel
theorem d_Mo_area_55 : decode M_Mo_area.2.1 55 = .ok (.invokevirtual 118, 3) := by decide +kernel
theorem d_Mo_area_58 : decode M_Mo_area.2.1 58 = .ok (.ireturn, 1) := by decide +kernel
theorem d_Mo_area_59 : decode M_Mo_area.2.1 59 = .ok (.iconst 0, 1) := by decide +kernel
theorem d_Mo_area_60 : decode M_Mo_area.2.1 60 = .ok (.istore_n 3, 1) := by decide +kernel
theorem d_Mo_area_61 : decode M_Mo_area.2.1 61 = .ok (.iload_n 3, 1) := by decide +kernel
theorem d_Mo_area_62 : decode M_Mo_area.2.1 62 = .ok (.iload_n 2, 1) := by decide +kernel
theorem d_Mo_area_63 : decode M_Mo_area.2.1 63 = .ok (.if_icmp .ge 42, 3) := by decide +kernel
theorem d_Mo_area_66 : decode M_Mo_area.2.1 66 = .ok (.aload_n 0, 1) := by decide +kernel
theorem d_Mo_area_67 : decode M_Mo_area.2.1 67 = .ok (.getfield 27, 3) := by decide +kernel
theorem d_Mo_area_70 : decode M_Mo_area.2.1 70 = .ok (.bipush 60, 2) := by decide +kernel
theorem d_Mo_area_72 : decode M_Mo_area.2.1 72 = .ok (.iload_n 1, 1) := by decide +kernel
theorem d_Mo_area_73 : decode M_Mo_area.2.1 73 = .ok (.imul, 1) := by decide +kernel
theorem d_Mo_area_74 : decode M_Mo_area.2.1 74 = .ok (.iload_n 3, 1) := by decide +kernel
theorem d_Mo_area_75 : decode M_Mo_area.2.1 75 = .ok (.iadd, 1) := by decide +kernel
theorem d_Mo_area_76 : decode M_Mo_area.2.1 76 = .ok (.laload, 1) := by decide +kernel
theorem d_Mo_area_77 : decode M_Mo_area.2.1 77 = .ok (.lconst 0, 1) := by decide +kernel
theorem d_Mo_area_78 : decode M_Mo_area.2.1 78 = .ok (.aload_n 0, 1) := by decide +kernel
theorem d_Mo_area_79 : decode M_Mo_area.2.1 79 = .ok (.getfield 7, 3) := by decide +kernel
theorem d_Mo_area_82 : decode M_Mo_area.2.1 82 = .ok (.iconst 0, 1) := by decide +kernel
theorem d_Mo_area_83 : decode M_Mo_area.2.1 83 = .ok (.iaload, 1) := by decide +kernel
theorem d_Mo_area_84 : decode M_Mo_area.2.1 84 = .ok (.i2l, 1) := by decide +kernel
theorem d_Mo_area_85 : decode M_Mo_area.2.1 85 = .ok (.lconst 1, 1) := by decide +kernel
theorem d_Mo_area_86 : decode M_Mo_area.2.1 86 = .ok (.lsub, 1) := by decide +kernel
theorem d_Mo_area_87 : decode M_Mo_area.2.1 87 = .ok (.invokestatic 356, 3) := by decide +kernel
theorem d_Mo_area_90 : decode M_Mo_area.2.1 90 = .ok (.ifCond .ne 9, 3) := by decide +kernel
theorem d_Mo_area_93 : decode M_Mo_area.2.1 93 = .ok (.aload_n 0, 1) := by decide +kernel
theorem d_Mo_area_94 : decode M_Mo_area.2.1 94 = .ok (.iconst 5, 1) := by decide +kernel
theorem d_Mo_area_95 : decode M_Mo_area.2.1 95 = .ok (.invokevirtual 118, 3) := by decide +kernel
theorem d_Mo_area_98 : decode M_Mo_area.2.1 98 = .ok (.ireturn, 1) := by decide +kernel
theorem d_Mo_area_99 : decode M_Mo_area.2.1 99 = .ok (.iinc 3 1, 3) := by decide +kernel
theorem d_Mo_area_102 : decode M_Mo_area.2.1 102 = .ok (.goto (-41), 3) := by decide +kernel
theorem d_Mo_area_105 : decode M_Mo_area.2.1 105 = .ok (.aload_n 0, 1) := by decide +kernel
theorem d_Mo_area_106 : decode M_Mo_area.2.1 106 = .ok (.iconst 0, 1) := by decide +kernel
theorem d_Mo_area_107 : decode M_Mo_area.2.1 107 = .ok (.invokevirtual 315, 3) := by decide +kernel
theorem d_Mo_area_110 : decode M_Mo_area.2.1 110 = .ok (.iconst 0, 1) := by decide +kernel
theorem d_Mo_area_111 : decode M_Mo_area.2.1 111 = .ok (.istore_n 3, 1) := by decide +kernel
theorem d_Mo_area_112 : decode M_Mo_area.2.1 112 = .ok (.iload_n 3, 1) := by decide +kernel
theorem d_Mo_area_113 : decode M_Mo_area.2.1 113 = .ok (.iload_n 2, 1) := by decide +kernel
theorem d_Mo_area_114 : decode M_Mo_area.2.1 114 = .ok (.if_icmp .ge 35, 3) := by decide +kernel
theorem d_Mo_area_117 : decode M_Mo_area.2.1 117 = .ok (.aload_n 0, 1) := by decide +kernel
theorem d_Mo_area_118 : decode M_Mo_area.2.1 118 = .ok (.aload_n 0, 1) := by decide +kernel
theorem d_Mo_area_119 : decode M_Mo_area.2.1 119 = .ok (.getfield 27, 3) := by decide +kernel
theorem d_Mo_area_122 : decode M_Mo_area.2.1 122 = .ok (.bipush 60, 2) := by decide +kernel
theorem d_Mo_area_124 : decode M_Mo_area.2.1 124 = .ok (.iload_n 1, 1) := by decide +kernel
theorem d_Mo_area_125 : decode M_Mo_area.2.1 125 = .ok (.imul, 1) := by decide +kernel
theorem d_Mo_area_126 : decode M_Mo_area.2.1 126 = .ok (.iload_n 3, 1) := by decide +kernel
theorem d_Mo_area_127 : decode M_Mo_area.2.1 127 = .ok (.iadd, 1) := by decide +kernel
theorem d_Mo_area_128 : decode M_Mo_area.2.1 128 = .ok (.laload, 1) := by decide +kernel
theorem d_Mo_area_129 : decode M_Mo_area.2.1 129 = .ok (.l2i, 1) := by decide +kernel
theorem d_Mo_area_130 : decode M_Mo_area.2.1 130 = .ok (.invokevirtual 303, 3) := by decide +kernel
theorem d_Mo_area_133 : decode M_Mo_area.2.1 133 = .ok (.ifCond .ne 10, 3) := by decide +kernel
theorem d_Mo_area_136 : decode M_Mo_area.2.1 136 = .ok (.aload_n 0, 1) := by decide +kernel
theorem d_Mo_area_137 : decode M_Mo_area.2.1 137 = .ok (.bipush 6, 2) := by decide +kernel
theorem d_Mo_area_139 : decode M_Mo_area.2.1 139 = .ok (.invokevirtual 118, 3) := by decide +kernel
theorem d_Mo_area_142 : decode M_Mo_area.2.1 142 = .ok (.ireturn, 1) := by decide +kernel
theorem d_Mo_area_143 : decode M_Mo_area.2.1 143 = .ok (.iinc 3 1, 3) := by decide +kernel
theorem d_Mo_area_146 : decode M_Mo_area.2.1 146 = .ok (.goto (-34), 3) := by decide +kernel
theorem d_Mo_area_149 : decode M_Mo_area.2.1 149 = .ok (.lconst 0, 1) := by decide +kernel
theorem d_Mo_area_150 : decode M_Mo_area.2.1 150 = .ok (.lstore_n 3, 1) := by decide +kernel
theorem d_Mo_area_151 : decode M_Mo_area.2.1 151 = .ok (.iconst 0, 1) := by decide +kernel
theorem d_Mo_area_152 : decode M_Mo_area.2.1 152 = .ok (.istore 5, 2) := by decide +kernel
theorem d_Mo_area_154 : decode M_Mo_area.2.1 154 = .ok (.iload 5, 2) := by decide +kernel
theorem d_Mo_area_156 : decode M_Mo_area.2.1 156 = .ok (.iload_n 2, 1) := by decide +kernel
theorem d_Mo_area_157 : decode M_Mo_area.2.1 157 = .ok (.if_icmp .ge 81, 3) := by decide +kernel
theorem d_Mo_area_160 : decode M_Mo_area.2.1 160 = .ok (.aload_n 0, 1) := by decide +kernel
theorem d_Mo_area_161 : decode M_Mo_area.2.1 161 = .ok (.getfield 27, 3) := by decide +kernel
theorem d_Mo_area_164 : decode M_Mo_area.2.1 164 = .ok (.bipush 60, 2) := by decide +kernel
theorem d_Mo_area_166 : decode M_Mo_area.2.1 166 = .ok (.iload_n 1, 1) := by decide +kernel
theorem d_Mo_area_167 : decode M_Mo_area.2.1 167 = .ok (.imul, 1) := by decide +kernel
theorem d_Mo_area_168 : decode M_Mo_area.2.1 168 = .ok (.iload 5, 2) := by decide +kernel
theorem d_Mo_area_170 : decode M_Mo_area.2.1 170 = .ok (.iadd, 1) := by decide +kernel
theorem d_Mo_area_171 : decode M_Mo_area.2.1 171 = .ok (.laload, 1) := by decide +kernel
theorem d_Mo_area_172 : decode M_Mo_area.2.1 172 = .ok (.l2i, 1) := by decide +kernel
theorem d_Mo_area_173 : decode M_Mo_area.2.1 173 = .ok (.istore 6, 2) := by decide +kernel
theorem d_Mo_area_175 : decode M_Mo_area.2.1 175 = .ok (.aload_n 0, 1) := by decide +kernel
theorem d_Mo_area_176 : decode M_Mo_area.2.1 176 = .ok (.getfield 27, 3) := by decide +kernel
theorem d_Mo_area_179 : decode M_Mo_area.2.1 179 = .ok (.bipush 60, 2) := by decide +kernel
theorem d_Mo_area_181 : decode M_Mo_area.2.1 181 = .ok (.iload_n 1, 1) := by decide +kernel
theorem d_Mo_area_182 : decode M_Mo_area.2.1 182 = .ok (.imul, 1) := by decide +kernel
theorem d_Mo_area_183 : decode M_Mo_area.2.1 183 = .ok (.iload 5, 2) := by decide +kernel
theorem d_Mo_area_185 : decode M_Mo_area.2.1 185 = .ok (.iconst 1, 1) := by decide +kernel
theorem d_Mo_area_186 : decode M_Mo_area.2.1 186 = .ok (.iadd, 1) := by decide +kernel
theorem d_Mo_area_187 : decode M_Mo_area.2.1 187 = .ok (.iload_n 2, 1) := by decide +kernel
theorem d_Mo_area_188 : decode M_Mo_area.2.1 188 = .ok (.irem, 1) := by decide +kernel
theorem d_Mo_area_189 : decode M_Mo_area.2.1 189 = .ok (.iadd, 1) := by decide +kernel
theorem d_Mo_area_190 : decode M_Mo_area.2.1 190 = .ok (.laload, 1) := by decide +kernel
theorem d_Mo_area_191 : decode M_Mo_area.2.1 191 = .ok (.l2i, 1) := by decide +kernel
theorem d_Mo_area_192 : decode M_Mo_area.2.1 192 = .ok (.istore 7, 2) := by decide +kernel
theorem d_Mo_area_194 : decode M_Mo_area.2.1 194 = .ok (.lload_n 3, 1) := by decide +kernel
theorem d_Mo_area_195 : decode M_Mo_area.2.1 195 = .ok (.aload_n 0, 1) := by decide +kernel
theorem d_Mo_area_196 : decode M_Mo_area.2.1 196 = .ok (.getfield 47, 3) := by decide +kernel
theorem d_Mo_area_199 : decode M_Mo_area.2.1 199 = .ok (.iload 6, 2) := by decide +kernel
theorem d_Mo_area_201 : decode M_Mo_area.2.1 201 = .ok (.iaload, 1) := by decide +kernel
theorem d_Mo_area_202 : decode M_Mo_area.2.1 202 = .ok (.i2l, 1) := by decide +kernel
theorem d_Mo_area_203 : decode M_Mo_area.2.1 203 = .ok (.aload_n 0, 1) := by decide +kernel
theorem d_Mo_area_204 : decode M_Mo_area.2.1 204 = .ok (.getfield 50, 3) := by decide +kernel
theorem d_Mo_area_207 : decode M_Mo_area.2.1 207 = .ok (.iload 7, 2) := by decide +kernel
theorem d_Mo_area_209 : decode M_Mo_area.2.1 209 = .ok (.iaload, 1) := by decide +kernel
theorem d_Mo_area_210 : decode M_Mo_area.2.1 210 = .ok (.i2l, 1) := by decide +kernel
theorem d_Mo_area_211 : decode M_Mo_area.2.1 211 = .ok (.lmul, 1) := by decide +kernel
theorem d_Mo_area_212 : decode M_Mo_area.2.1 212 = .ok (.aload_n 0, 1) := by decide +kernel
theorem d_Mo_area_213 : decode M_Mo_area.2.1 213 = .ok (.getfield 50, 3) := by decide +kernel
theorem d_Mo_area_216 : decode M_Mo_area.2.1 216 = .ok (.iload 6, 2) := by decide +kernel
theorem d_Mo_area_218 : decode M_Mo_area.2.1 218 = .ok (.iaload, 1) := by decide +kernel
theorem d_Mo_area_219 : decode M_Mo_area.2.1 219 = .ok (.i2l, 1) := by decide +kernel
theorem d_Mo_area_220 : decode M_Mo_area.2.1 220 = .ok (.aload_n 0, 1) := by decide +kernel
theorem d_Mo_area_221 : decode M_Mo_area.2.1 221 = .ok (.getfield 47, 3) := by decide +kernel
theorem d_Mo_area_224 : decode M_Mo_area.2.1 224 = .ok (.iload 7, 2) := by decide +kernel
theorem d_Mo_area_226 : decode M_Mo_area.2.1 226 = .ok (.iaload, 1) := by decide +kernel
theorem d_Mo_area_227 : decode M_Mo_area.2.1 227 = .ok (.i2l, 1) := by decide +kernel
theorem d_Mo_area_228 : decode M_Mo_area.2.1 228 = .ok (.lmul, 1) := by decide +kernel
theorem d_Mo_area_229 : decode M_Mo_area.2.1 229 = .ok (.lsub, 1) := by decide +kernel
theorem d_Mo_area_230 : decode M_Mo_area.2.1 230 = .ok (.ladd, 1) := by decide +kernel
theorem d_Mo_area_231 : decode M_Mo_area.2.1 231 = .ok (.lstore_n 3, 1) := by decide +kernel
theorem d_Mo_area_232 : decode M_Mo_area.2.1 232 = .ok (.iinc 5 1, 3) := by decide +kernel
theorem d_Mo_area_235 : decode M_Mo_area.2.1 235 = .ok (.goto (-81), 3) := by decide +kernel
theorem d_Mo_area_238 : decode M_Mo_area.2.1 238 = .ok (.aload_n 0, 1) := by decide +kernel
theorem d_Mo_area_239 : decode M_Mo_area.2.1 239 = .ok (.lload_n 3, 1) := by decide +kernel
theorem d_Mo_area_240 : decode M_Mo_area.2.1 240 = .ok (.lconst 0, 1) := by decide +kernel
theorem d_Mo_area_241 : decode M_Mo_area.2.1 241 = .ok (.lcmp, 1) := by decide +kernel
theorem d_Mo_area_242 : decode M_Mo_area.2.1 242 = .ok (.ifCond .ge 8, 3) := by decide +kernel
theorem d_Mo_area_245 : decode M_Mo_area.2.1 245 = .ok (.lload_n 3, 1) := by decide +kernel
theorem d_Mo_area_246 : decode M_Mo_area.2.1 246 = .ok (.lneg, 1) := by decide +kernel
theorem d_Mo_area_247 : decode M_Mo_area.2.1 247 = .ok (.goto 4, 3) := by decide +kernel
theorem d_Mo_area_250 : decode M_Mo_area.2.1 250 = .ok (.lload_n 3, 1) := by decide +kernel
theorem d_Mo_area_251 : decode M_Mo_area.2.1 251 = .ok (.ldc2_w 441, 3) := by decide +kernel
theorem d_Mo_area_254 : decode M_Mo_area.2.1 254 = .ok (.invokevirtual 407, 3) := by decide +kernel
theorem d_Mo_area_257 : decode M_Mo_area.2.1 257 = .ok (.ireturn, 1) := by decide +kernel
theorem d_Mo_settles_0 : decode M_Mo_settles.2.1 0 = .ok (.aload_n 0, 1) := by decide +kernel
theorem d_Mo_settles_1 : decode M_Mo_settles.2.1 1 = .ok (.getfield 86, 3) := by decide +kernel
theorem d_Mo_settles_4 : decode M_Mo_settles.2.1 4 = .ok (.iload_n 1, 1) := by decide +kernel
theorem d_Mo_settles_5 : decode M_Mo_settles.2.1 5 = .ok (.iaload, 1) := by decide +kernel
theorem d_Mo_settles_6 : decode M_Mo_settles.2.1 6 = .ok (.iconst (-1), 1) := by decide +kernel
theorem d_Mo_settles_7 : decode M_Mo_settles.2.1 7 = .ok (.if_icmp .ne 7, 3) := by decide +kernel
theorem d_Mo_settles_10 : decode M_Mo_settles.2.1 10 = .ok (.iconst 1, 1) := by decide +kernel
theorem d_Mo_settles_11 : decode M_Mo_settles.2.1 11 = .ok (.goto 4, 3) := by decide +kernel
theorem d_Mo_settles_14 : decode M_Mo_settles.2.1 14 = .ok (.iconst 0, 1) := by decide +kernel
theorem d_Mo_settles_15 : decode M_Mo_settles.2.1 15 = .ok (.istore_n 3, 1) := by decide +kernel
theorem d_Mo_settles_16 : decode M_Mo_settles.2.1 16 = .ok (.iload_n 3, 1) := by decide +kernel
theorem d_Mo_settles_17 : decode M_Mo_settles.2.1 17 = .ok (.ifCond .ne 33, 3) := by decide +kernel
theorem d_Mo_settles_20 : decode M_Mo_settles.2.1 20 = .ok (.iload_n 1, 1) := by decide +kernel
theorem d_Mo_settles_21 : decode M_Mo_settles.2.1 21 = .ok (.iconst 2, 1) := by decide +kernel
theorem d_Mo_settles_22 : decode M_Mo_settles.2.1 22 = .ok (.irem, 1) := by decide +kernel
theorem d_Mo_settles_23 : decode M_Mo_settles.2.1 23 = .ok (.ifCond .ne 16, 3) := by decide +kernel
theorem d_Mo_settles_26 : decode M_Mo_settles.2.1 26 = .ok (.iload_n 2, 1) := by decide +kernel
theorem d_Mo_settles_27 : decode M_Mo_settles.2.1 27 = .ok (.aload_n 0, 1) := by decide +kernel
theorem d_Mo_settles_28 : decode M_Mo_settles.2.1 28 = .ok (.getfield 80, 3) := by decide +kernel
theorem d_Mo_settles_31 : decode M_Mo_settles.2.1 31 = .ok (.iload_n 1, 1) := by decide +kernel
theorem d_Mo_settles_32 : decode M_Mo_settles.2.1 32 = .ok (.iaload, 1) := by decide +kernel
theorem d_Mo_settles_33 : decode M_Mo_settles.2.1 33 = .ok (.if_icmp .lt 17, 3) := by decide +kernel
theorem d_Mo_settles_36 : decode M_Mo_settles.2.1 36 = .ok (.goto 13, 3) := by decide +kernel
theorem d_Mo_settles_39 : decode M_Mo_settles.2.1 39 = .ok (.iload_n 2, 1) := by decide +kernel
theorem d_Mo_settles_40 : decode M_Mo_settles.2.1 40 = .ok (.aload_n 0, 1) := by decide +kernel
theorem d_Mo_settles_41 : decode M_Mo_settles.2.1 41 = .ok (.getfield 80, 3) := by decide +kernel
theorem d_Mo_settles_44 : decode M_Mo_settles.2.1 44 = .ok (.iload_n 1, 1) := by decide +kernel
theorem d_Mo_settles_45 : decode M_Mo_settles.2.1 45 = .ok (.iaload, 1) := by decide +kernel
theorem d_Mo_settles_46 : decode M_Mo_settles.2.1 46 = .ok (.if_icmp .gt 4, 3) := by decide +kernel
theorem d_Mo_settles_49 : decode M_Mo_settles.2.1 49 = .ok (.return_, 1) := by decide +kernel
theorem d_Mo_settles_50 : decode M_Mo_settles.2.1 50 = .ok (.aload_n 0, 1) := by decide +kernel
theorem d_Mo_settles_51 : decode M_Mo_settles.2.1 51 = .ok (.getfield 80, 3) := by decide +kernel
theorem d_Mo_settles_54 : decode M_Mo_settles.2.1 54 = .ok (.iload_n 1, 1) := by decide +kernel
theorem d_Mo_settles_55 : decode M_Mo_settles.2.1 55 = .ok (.iload_n 2, 1) := by decide +kernel
theorem d_Mo_settles_56 : decode M_Mo_settles.2.1 56 = .ok (.iastore, 1) := by decide +kernel
theorem d_Mo_settles_57 : decode M_Mo_settles.2.1 57 = .ok (.aload_n 0, 1) := by decide +kernel
theorem d_Mo_settles_58 : decode M_Mo_settles.2.1 58 = .ok (.getfield 86, 3) := by decide +kernel
theorem d_Mo_settles_61 : decode M_Mo_settles.2.1 61 = .ok (.iload_n 1, 1) := by decide +kernel
theorem d_Mo_settles_62 : decode M_Mo_settles.2.1 62 = .ok (.aload_n 0, 1) := by decide +kernel
theorem d_Mo_settles_63 : decode M_Mo_settles.2.1 63 = .ok (.getfield 77, 3) := by decide +kernel
theorem d_Mo_settles_66 : decode M_Mo_settles.2.1 66 = .ok (.iload_n 1, 1) := by decide +kernel
theorem d_Mo_settles_67 : decode M_Mo_settles.2.1 67 = .ok (.iaload, 1) := by decide +kernel
theorem d_Mo_settles_68 : decode M_Mo_settles.2.1 68 = .ok (.iastore, 1) := by decide +kernel
theorem d_Mo_settles_69 : decode M_Mo_settles.2.1 69 = .ok (.return_, 1) := by decide +kernel
theorem d_Mo_beginsAt_0 : decode M_Mo_beginsAt.2.1 0 = .ok (.aload_n 0, 1) := by decide +kernel
theorem d_Mo_beginsAt_1 : decode M_Mo_beginsAt.2.1 1 = .ok (.getfield 83, 3) := by decide +kernel
theorem d_Mo_beginsAt_4 : decode M_Mo_beginsAt.2.1 4 = .ok (.iload_n 1, 1) := by decide +kernel
theorem d_Mo_beginsAt_5 : decode M_Mo_beginsAt.2.1 5 = .ok (.aload_n 0, 1) := by decide +kernel
theorem d_Mo_beginsAt_6 : decode M_Mo_beginsAt.2.1 6 = .ok (.getfield 7, 3) := by decide +kernel
theorem d_Mo_beginsAt_9 : decode M_Mo_beginsAt.2.1 9 = .ok (.bipush 6, 2) := by decide +kernel
theorem d_Mo_beginsAt_11 : decode M_Mo_beginsAt.2.1 11 = .ok (.iaload, 1) := by decide +kernel
theorem d_Mo_beginsAt_12 : decode M_Mo_beginsAt.2.1 12 = .ok (.iastore, 1) := by decide +kernel
theorem d_Mo_beginsAt_13 : decode M_Mo_beginsAt.2.1 13 = .ok (.aload_n 0, 1) := by decide +kernel
theorem d_Mo_beginsAt_14 : decode M_Mo_beginsAt.2.1 14 = .ok (.getfield 77, 3) := by decide +kernel
theorem d_Mo_beginsAt_17 : decode M_Mo_beginsAt.2.1 17 = .ok (.iload_n 1, 1) := by decide +kernel
theorem d_Mo_beginsAt_18 : decode M_Mo_beginsAt.2.1 18 = .ok (.iconst (-1), 1) := by decide +kernel
theorem d_Mo_beginsAt_19 : decode M_Mo_beginsAt.2.1 19 = .ok (.iastore, 1) := by decide +kernel
theorem d_Mo_beginsAt_20 : decode M_Mo_beginsAt.2.1 20 = .ok (.aload_n 0, 1) := by decide +kernel
theorem d_Mo_beginsAt_21 : decode M_Mo_beginsAt.2.1 21 = .ok (.getfield 86, 3) := by decide +kernel
theorem d_Mo_beginsAt_24 : decode M_Mo_beginsAt.2.1 24 = .ok (.iload_n 1, 1) := by decide +kernel
theorem d_Mo_beginsAt_25 : decode M_Mo_beginsAt.2.1 25 = .ok (.iconst (-1), 1) := by decide +kernel
theorem d_Mo_beginsAt_26 : decode M_Mo_beginsAt.2.1 26 = .ok (.iastore, 1) := by decide +kernel
theorem d_Mo_beginsAt_27 : decode M_Mo_beginsAt.2.1 27 = .ok (.return_, 1) := by decide +kernel
theorem d_Mo_playing_0 : decode M_Mo_playing.2.1 0 = .ok (.iload_n 1, 1) := by decide +kernel
theorem d_Mo_playing_1 : decode M_Mo_playing.2.1 1 = .ok (.ifCond .ne 11, 3) := by decide +kernel
theorem d_Mo_playing_4 : decode M_Mo_playing.2.1 4 = .ok (.aload_n 0, 1) := by decide +kernel
theorem d_Mo_playing_5 : decode M_Mo_playing.2.1 5 = .ok (.invokevirtual 328, 3) := by decide +kernel
theorem d_Mo_playing_8 : decode M_Mo_playing.2.1 8 = .ok (.invokestatic 363, 3) := by decide +kernel
theorem d_Mo_playing_11 : decode M_Mo_playing.2.1 11 = .ok (.ireturn, 1) := by decide +kernel
theorem d_Mo_playing_12 : decode M_Mo_playing.2.1 12 = .ok (.iconst 0, 1) := by decide +kernel
theorem d_Mo_playing_13 : decode M_Mo_playing.2.1 13 = .ok (.istore_n 2, 1) := by decide +kernel
theorem d_Mo_playing_14 : decode M_Mo_playing.2.1 14 = .ok (.aload_n 0, 1) := by decide +kernel
theorem d_Mo_playing_15 : decode M_Mo_playing.2.1 15 = .ok (.iconst 0, 1) := by decide +kernel
theorem d_Mo_playing_16 : decode M_Mo_playing.2.1 16 = .ok (.invokevirtual 443, 3) := by decide +kernel
theorem d_Mo_playing_19 : decode M_Mo_playing.2.1 19 = .ok (.aload_n 0, 1) := by decide +kernel
theorem d_Mo_playing_20 : decode M_Mo_playing.2.1 20 = .ok (.getfield 7, 3) := by decide +kernel
theorem d_Mo_playing_23 : decode M_Mo_playing.2.1 23 = .ok (.bipush 6, 2) := by decide +kernel
theorem d_Mo_playing_25 : decode M_Mo_playing.2.1 25 = .ok (.aload_n 0, 1) := by decide +kernel
theorem d_Mo_playing_26 : decode M_Mo_playing.2.1 26 = .ok (.getfield 83, 3) := by decide +kernel
theorem d_Mo_playing_29 : decode M_Mo_playing.2.1 29 = .ok (.iload_n 2, 1) := by decide +kernel
theorem d_Mo_playing_30 : decode M_Mo_playing.2.1 30 = .ok (.iaload, 1) := by decide +kernel
theorem d_Mo_playing_31 : decode M_Mo_playing.2.1 31 = .ok (.iastore, 1) := by decide +kernel
theorem d_Mo_playing_32 : decode M_Mo_playing.2.1 32 = .ok (.aload_n 0, 1) := by decide +kernel
theorem d_Mo_playing_33 : decode M_Mo_playing.2.1 33 = .ok (.getfield 77, 3) := by decide +kernel
theorem d_Mo_playing_36 : decode M_Mo_playing.2.1 36 = .ok (.iload_n 2, 1) := by decide +kernel
theorem d_Mo_playing_37 : decode M_Mo_playing.2.1 37 = .ok (.dup2, 1) := by decide +kernel
theorem d_Mo_playing_38 : decode M_Mo_playing.2.1 38 = .ok (.iaload, 1) := by decide +kernel
theorem d_Mo_playing_39 : decode M_Mo_playing.2.1 39 = .ok (.iconst 1, 1) := by decide +kernel
theorem d_Mo_playing_40 : decode M_Mo_playing.2.1 40 = .ok (.iadd, 1) := by decide +kernel
theorem d_Mo_playing_41 : decode M_Mo_playing.2.1 41 = .ok (.iastore, 1) := by decide +kernel
theorem d_Mo_playing_42 : decode M_Mo_playing.2.1 42 = .ok (.aload_n 0, 1) := by decide +kernel
theorem d_Mo_playing_43 : decode M_Mo_playing.2.1 43 = .ok (.getfield 77, 3) := by decide +kernel
theorem d_Mo_playing_46 : decode M_Mo_playing.2.1 46 = .ok (.iload_n 2, 1) := by decide +kernel
theorem d_Mo_playing_47 : decode M_Mo_playing.2.1 47 = .ok (.iaload, 1) := by decide +kernel
theorem d_Mo_playing_48 : decode M_Mo_playing.2.1 48 = .ok (.istore_n 3, 1) := by decide +kernel
theorem d_Mo_playing_49 : decode M_Mo_playing.2.1 49 = .ok (.iload_n 3, 1) := by decide +kernel
theorem d_Mo_playing_50 : decode M_Mo_playing.2.1 50 = .ok (.aload_n 0, 1) := by decide +kernel
theorem d_Mo_playing_51 : decode M_Mo_playing.2.1 51 = .ok (.getfield 7, 3) := by decide +kernel
theorem d_Mo_playing_54 : decode M_Mo_playing.2.1 54 = .ok (.iconst 2, 1) := by decide +kernel
theorem d_Mo_playing_55 : decode M_Mo_playing.2.1 55 = .ok (.iaload, 1) := by decide +kernel
theorem d_Mo_playing_56 : decode M_Mo_playing.2.1 56 = .ok (.if_icmp .le 29, 3) := by decide +kernel
theorem d_Mo_playing_59 : decode M_Mo_playing.2.1 59 = .ok (.iload_n 2, 1) := by decide +kernel
theorem d_Mo_playing_60 : decode M_Mo_playing.2.1 60 = .ok (.ifCond .ne 6, 3) := by decide +kernel
theorem d_Mo_playing_63 : decode M_Mo_playing.2.1 63 = .ok (.goto 105, 3) := by decide +kernel
theorem d_Mo_playing_66 : decode M_Mo_playing.2.1 66 = .ok (.iinc 2 (-1), 3) := by decide +kernel
theorem d_Mo_playing_69 : decode M_Mo_playing.2.1 69 = .ok (.aload_n 0, 1) := by decide +kernel
theorem d_Mo_playing_70 : decode M_Mo_playing.2.1 70 = .ok (.iload_n 2, 1) := by decide +kernel
theorem d_Mo_playing_71 : decode M_Mo_playing.2.1 71 = .ok (.aload_n 0, 1) := by decide +kernel
theorem d_Mo_playing_72 : decode M_Mo_playing.2.1 72 = .ok (.getfield 80, 3) := by decide +kernel
theorem d_Mo_playing_75 : decode M_Mo_playing.2.1 75 = .ok (.iload_n 2, 1) := by decide +kernel
theorem d_Mo_playing_76 : decode M_Mo_playing.2.1 76 = .ok (.iconst 1, 1) := by decide +kernel
theorem d_Mo_playing_77 : decode M_Mo_playing.2.1 77 = .ok (.iadd, 1) := by decide +kernel
theorem d_Mo_playing_78 : decode M_Mo_playing.2.1 78 = .ok (.iaload, 1) := by decide +kernel
theorem d_Mo_playing_79 : decode M_Mo_playing.2.1 79 = .ok (.invokevirtual 446, 3) := by decide +kernel
theorem d_Mo_playing_82 : decode M_Mo_playing.2.1 82 = .ok (.goto (-63), 3) := by decide +kernel
theorem d_Mo_playing_85 : decode M_Mo_playing.2.1 85 = .ok (.iload_n 3, 1) := by decide +kernel
theorem d_Mo_playing_86 : decode M_Mo_playing.2.1 86 = .ok (.aload_n 0, 1) := by decide +kernel
theorem d_Mo_playing_87 : decode M_Mo_playing.2.1 87 = .ok (.getfield 7, 3) := by decide +kernel
theorem d_Mo_playing_90 : decode M_Mo_playing.2.1 90 = .ok (.iconst 2, 1) := by decide +kernel
theorem d_Mo_playing_91 : decode M_Mo_playing.2.1 91 = .ok (.iaload, 1) := by decide +kernel
theorem d_Mo_playing_92 : decode M_Mo_playing.2.1 92 = .ok (.if_icmp .ge 7, 3) := by decide +kernel
theorem d_Mo_playing_95 : decode M_Mo_playing.2.1 95 = .ok (.iconst 1, 1) := by decide +kernel
theorem d_Mo_playing_96 : decode M_Mo_playing.2.1 96 = .ok (.goto 4, 3) := by decide +kernel
theorem d_Mo_playing_99 : decode M_Mo_playing.2.1 99 = .ok (.iconst 0, 1) := by decide +kernel
theorem d_Mo_playing_100 : decode M_Mo_playing.2.1 100 = .ok (.istore 4, 2) := by decide +kernel
theorem d_Mo_playing_102 : decode M_Mo_playing.2.1 102 = .ok (.iload 4, 2) := by decide +kernel
theorem d_Mo_playing_104 : decode M_Mo_playing.2.1 104 = .ok (.ifCond .eq 31, 3) := by decide +kernel
theorem d_Mo_playing_107 : decode M_Mo_playing.2.1 107 = .ok (.iload_n 2, 1) := by decide +kernel
theorem d_Mo_playing_108 : decode M_Mo_playing.2.1 108 = .ok (.iconst 2, 1) := by decide +kernel
theorem d_Mo_playing_109 : decode M_Mo_playing.2.1 109 = .ok (.irem, 1) := by decide +kernel
theorem d_Mo_playing_110 : decode M_Mo_playing.2.1 110 = .ok (.ifCond .ne 14, 3) := by decide +kernel
theorem d_Mo_playing_113 : decode M_Mo_playing.2.1 113 = .ok (.aload_n 0, 1) := by decide +kernel
theorem d_Mo_playing_114 : decode M_Mo_playing.2.1 114 = .ok (.iload_n 3, 1) := by decide +kernel
theorem d_Mo_playing_115 : decode M_Mo_playing.2.1 115 = .ok (.invokevirtual 360, 3) := by decide +kernel
theorem d_Mo_playing_118 : decode M_Mo_playing.2.1 118 = .ok (.ifCond .eq (-99), 3) := by decide +kernel
theorem d_Mo_playing_121 : decode M_Mo_playing.2.1 121 = .ok (.goto 14, 3) := by decide +kernel
theorem d_Mo_playing_124 : decode M_Mo_playing.2.1 124 = .ok (.aload_n 0, 1) := by decide +kernel
theorem d_Mo_playing_125 : decode M_Mo_playing.2.1 125 = .ok (.iload_n 3, 1) := by decide +kernel
theorem d_Mo_playing_126 : decode M_Mo_playing.2.1 126 = .ok (.invokevirtual 366, 3) := by decide +kernel
theorem d_Mo_playing_129 : decode M_Mo_playing.2.1 129 = .ok (.ifCond .ne 6, 3) := by decide +kernel
theorem d_Mo_playing_132 : decode M_Mo_playing.2.1 132 = .ok (.goto (-113), 3) := by decide +kernel
theorem d_Mo_playing_135 : decode M_Mo_playing.2.1 135 = .ok (.iload_n 2, 1) := by decide +kernel
theorem d_Mo_playing_136 : decode M_Mo_playing.2.1 136 = .ok (.iconst 1, 1) := by decide +kernel
theorem d_Mo_playing_137 : decode M_Mo_playing.2.1 137 = .ok (.iadd, 1) := by decide +kernel
theorem d_Mo_playing_138 : decode M_Mo_playing.2.1 138 = .ok (.iload_n 1, 1) := by decide +kernel
theorem d_Mo_playing_139 : decode M_Mo_playing.2.1 139 = .ok (.if_icmp .ne 18, 3) := by decide +kernel
theorem d_Mo_playing_142 : decode M_Mo_playing.2.1 142 = .ok (.aload_n 0, 1) := by decide +kernel
theorem d_Mo_playing_143 : decode M_Mo_playing.2.1 143 = .ok (.iload_n 2, 1) := by decide +kernel
theorem d_Mo_playing_144 : decode M_Mo_playing.2.1 144 = .ok (.aload_n 0, 1) := by decide +kernel
theorem d_Mo_playing_145 : decode M_Mo_playing.2.1 145 = .ok (.invokevirtual 328, 3) := by decide +kernel
theorem d_Mo_playing_148 : decode M_Mo_playing.2.1 148 = .ok (.invokestatic 363, 3) := by decide +kernel
theorem d_Mo_playing_151 : decode M_Mo_playing.2.1 151 = .ok (.invokevirtual 446, 3) := by decide +kernel
theorem d_Mo_playing_154 : decode M_Mo_playing.2.1 154 = .ok (.goto 11, 3) := by decide +kernel
theorem d_Mo_playing_157 : decode M_Mo_playing.2.1 157 = .ok (.iinc 2 1, 3) := by decide +kernel
theorem d_Mo_playing_160 : decode M_Mo_playing.2.1 160 = .ok (.aload_n 0, 1) := by decide +kernel
theorem d_Mo_playing_161 : decode M_Mo_playing.2.1 161 = .ok (.iload_n 2, 1) := by decide +kernel
theorem d_Mo_playing_162 : decode M_Mo_playing.2.1 162 = .ok (.invokevirtual 443, 3) := by decide +kernel
theorem d_Mo_playing_165 : decode M_Mo_playing.2.1 165 = .ok (.goto (-146), 3) := by decide +kernel
theorem d_Mo_playing_168 : decode M_Mo_playing.2.1 168 = .ok (.aload_n 0, 1) := by decide +kernel
theorem d_Mo_playing_169 : decode M_Mo_playing.2.1 169 = .ok (.getfield 7, 3) := by decide +kernel
theorem d_Mo_playing_172 : decode M_Mo_playing.2.1 172 = .ok (.bipush 6, 2) := by decide +kernel
theorem d_Mo_playing_174 : decode M_Mo_playing.2.1 174 = .ok (.aload_n 0, 1) := by decide +kernel
theorem d_Mo_playing_175 : decode M_Mo_playing.2.1 175 = .ok (.getfield 83, 3) := by decide +kernel
theorem d_Mo_playing_178 : decode M_Mo_playing.2.1 178 = .ok (.iconst 0, 1) := by decide +kernel
theorem d_Mo_playing_179 : decode M_Mo_playing.2.1 179 = .ok (.iaload, 1) := by decide +kernel
theorem d_Mo_playing_180 : decode M_Mo_playing.2.1 180 = .ok (.iastore, 1) := by decide +kernel
theorem d_Mo_playing_181 : decode M_Mo_playing.2.1 181 = .ok (.aload_n 0, 1) := by decide +kernel
theorem d_Mo_playing_182 : decode M_Mo_playing.2.1 182 = .ok (.getfield 80, 3) := by decide +kernel
theorem d_Mo_playing_185 : decode M_Mo_playing.2.1 185 = .ok (.iconst 0, 1) := by decide +kernel
theorem d_Mo_playing_186 : decode M_Mo_playing.2.1 186 = .ok (.iaload, 1) := by decide +kernel
theorem d_Mo_playing_187 : decode M_Mo_playing.2.1 187 = .ok (.ireturn, 1) := by decide +kernel
theorem d_Mo_game_0 : decode M_Mo_game.2.1 0 = .ok (.iload_n 1, 1) := by decide +kernel
theorem d_Mo_game_1 : decode M_Mo_game.2.1 1 = .ok (.i2l, 1) := by decide +kernel
theorem d_Mo_game_2 : decode M_Mo_game.2.1 2 = .ok (.lconst 0, 1) := by decide +kernel
theorem d_Mo_game_3 : decode M_Mo_game.2.1 3 = .ok (.ldc2_w 449, 3) := by decide +kernel
theorem d_Mo_game_6 : decode M_Mo_game.2.1 6 = .ok (.invokestatic 356, 3) := by decide +kernel
theorem d_Mo_game_9 : decode M_Mo_game.2.1 9 = .ok (.ifCond .ne 9, 3) := by decide +kernel
theorem d_Mo_game_12 : decode M_Mo_game.2.1 12 = .ok (.aload_n 0, 1) := by decide +kernel
theorem d_Mo_game_13 : decode M_Mo_game.2.1 13 = .ok (.iconst 1, 1) := by decide +kernel
theorem d_Mo_game_14 : decode M_Mo_game.2.1 14 = .ok (.invokevirtual 111, 3) := by decide +kernel
theorem d_Mo_game_17 : decode M_Mo_game.2.1 17 = .ok (.ireturn, 1) := by decide +kernel
theorem d_Mo_game_18 : decode M_Mo_game.2.1 18 = .ok (.aload_n 0, 1) := by decide +kernel
theorem d_Mo_game_19 : decode M_Mo_game.2.1 19 = .ok (.aload_n 0, 1) := by decide +kernel
theorem d_Mo_game_20 : decode M_Mo_game.2.1 20 = .ok (.iload_n 1, 1) := by decide +kernel
theorem d_Mo_game_21 : decode M_Mo_game.2.1 21 = .ok (.invokevirtual 451, 3) := by decide +kernel
theorem d_Mo_game_24 : decode M_Mo_game.2.1 24 = .ok (.invokevirtual 115, 3) := by decide +kernel
theorem d_Mo_game_27 : decode M_Mo_game.2.1 27 = .ok (.ireturn, 1) := by decide +kernel
theorem d_Mo_moveOf_0 : decode M_Mo_moveOf.2.1 0 = .ok (.iload_n 1, 1) := by decide +kernel
theorem d_Mo_moveOf_1 : decode M_Mo_moveOf.2.1 1 = .ok (.i2l, 1) := by decide +kernel
theorem d_Mo_moveOf_2 : decode M_Mo_moveOf.2.1 2 = .ok (.lconst 1, 1) := by decide +kernel
theorem d_Mo_moveOf_3 : decode M_Mo_moveOf.2.1 3 = .ok (.ldc2_w 449, 3) := by decide +kernel
theorem d_Mo_moveOf_6 : decode M_Mo_moveOf.2.1 6 = .ok (.invokestatic 356, 3) := by decide +kernel
theorem d_Mo_moveOf_9 : decode M_Mo_moveOf.2.1 9 = .ok (.ifCond .ne 9, 3) := by decide +kernel
theorem d_Mo_moveOf_12 : decode M_Mo_moveOf.2.1 12 = .ok (.aload_n 0, 1) := by decide +kernel
theorem d_Mo_moveOf_13 : decode M_Mo_moveOf.2.1 13 = .ok (.iconst 1, 1) := by decide +kernel
theorem d_Mo_moveOf_14 : decode M_Mo_moveOf.2.1 14 = .ok (.invokevirtual 111, 3) := by decide +kernel
theorem d_Mo_moveOf_17 : decode M_Mo_moveOf.2.1 17 = .ok (.ireturn, 1) := by decide +kernel
theorem d_Mo_moveOf_18 : decode M_Mo_moveOf.2.1 18 = .ok (.aload_n 0, 1) := by decide +kernel
theorem d_Mo_moveOf_19 : decode M_Mo_moveOf.2.1 19 = .ok (.iload_n 1, 1) := by decide +kernel
theorem d_Mo_moveOf_20 : decode M_Mo_moveOf.2.1 20 = .ok (.invokevirtual 451, 3) := by decide +kernel
theorem d_Mo_moveOf_23 : decode M_Mo_moveOf.2.1 23 = .ok (.pop, 1) := by decide +kernel
theorem d_Mo_moveOf_24 : decode M_Mo_moveOf.2.1 24 = .ok (.aload_n 0, 1) := by decide +kernel
theorem d_Mo_moveOf_25 : decode M_Mo_moveOf.2.1 25 = .ok (.getfield 86, 3) := by decide +kernel
theorem d_Mo_moveOf_28 : decode M_Mo_moveOf.2.1 28 = .ok (.iconst 0, 1) := by decide +kernel
theorem d_Mo_moveOf_29 : decode M_Mo_moveOf.2.1 29 = .ok (.iaload, 1) := by decide +kernel
theorem d_Mo_moveOf_30 : decode M_Mo_moveOf.2.1 30 = .ok (.aload_n 0, 1) := by decide +kernel
theorem d_Mo_moveOf_31 : decode M_Mo_moveOf.2.1 31 = .ok (.getfield 7, 3) := by decide +kernel
theorem d_Mo_moveOf_34 : decode M_Mo_moveOf.2.1 34 = .ok (.iconst 2, 1) := by decide +kernel
theorem d_Mo_moveOf_35 : decode M_Mo_moveOf.2.1 35 = .ok (.iaload, 1) := by decide +kernel
theorem d_Mo_moveOf_36 : decode M_Mo_moveOf.2.1 36 = .ok (.if_icmp .ne 12, 3) := by decide +kernel
theorem d_Mo_moveOf_39 : decode M_Mo_moveOf.2.1 39 = .ok (.aload_n 0, 1) := by decide +kernel
theorem d_Mo_moveOf_40 : decode M_Mo_moveOf.2.1 40 = .ok (.bipush 6, 2) := by decide +kernel
theorem d_Mo_moveOf_42 : decode M_Mo_moveOf.2.1 42 = .ok (.invokevirtual 111, 3) := by decide +kernel
theorem d_Mo_moveOf_45 : decode M_Mo_moveOf.2.1 45 = .ok (.goto 13, 3) := by decide +kernel
theorem d_Mo_moveOf_48 : decode M_Mo_moveOf.2.1 48 = .ok (.aload_n 0, 1) := by decide +kernel
theorem d_Mo_moveOf_49 : decode M_Mo_moveOf.2.1 49 = .ok (.aload_n 0, 1) := by decide +kernel
theorem d_Mo_moveOf_50 : decode M_Mo_moveOf.2.1 50 = .ok (.getfield 86, 3) := by decide +kernel
theorem d_Mo_moveOf_53 : decode M_Mo_moveOf.2.1 53 = .ok (.iconst 0, 1) := by decide +kernel
theorem d_Mo_moveOf_54 : decode M_Mo_moveOf.2.1 54 = .ok (.iaload, 1) := by decide +kernel
theorem d_Mo_moveOf_55 : decode M_Mo_moveOf.2.1 55 = .ok (.invokevirtual 115, 3) := by decide +kernel
theorem d_Mo_moveOf_58 : decode M_Mo_moveOf.2.1 58 = .ok (.ireturn, 1) := by decide +kernel
theorem d_Mo_misread_0 : decode M_Mo_misread.2.1 0 = .ok (.iload_n 1, 1) := by decide +kernel
theorem d_Mo_misread_1 : decode M_Mo_misread.2.1 1 = .ok (.i2l, 1) := by decide +kernel
theorem d_Mo_misread_2 : decode M_Mo_misread.2.1 2 = .ok (.lconst 0, 1) := by decide +kernel
theorem d_Mo_misread_3 : decode M_Mo_misread.2.1 3 = .ok (.ldc2_w 454, 3) := by decide +kernel
theorem d_Mo_misread_6 : decode M_Mo_misread.2.1 6 = .ok (.invokestatic 356, 3) := by decide +kernel
theorem d_Mo_misread_9 : decode M_Mo_misread.2.1 9 = .ok (.ifCond .eq 15, 3) := by decide +kernel
theorem d_Mo_misread_12 : decode M_Mo_misread.2.1 12 = .ok (.iload_n 2, 1) := by decide +kernel
theorem d_Mo_misread_13 : decode M_Mo_misread.2.1 13 = .ok (.i2l, 1) := by decide +kernel
theorem d_Mo_misread_14 : decode M_Mo_misread.2.1 14 = .ok (.lconst 0, 1) := by decide +kernel
theorem d_Mo_misread_15 : decode M_Mo_misread.2.1 15 = .ok (.ldc2_w 454, 3) := by decide +kernel
theorem d_Mo_misread_18 : decode M_Mo_misread.2.1 18 = .ok (.invokestatic 356, 3) := by decide +kernel
theorem d_Mo_misread_21 : decode M_Mo_misread.2.1 21 = .ok (.ifCond .ne 9, 3) := by decide +kernel
theorem d_Mo_misread_24 : decode M_Mo_misread.2.1 24 = .ok (.aload_n 0, 1) := by decide +kernel
theorem d_Mo_misread_25 : decode M_Mo_misread.2.1 25 = .ok (.iconst 1, 1) := by decide +kernel
theorem d_Mo_misread_26 : decode M_Mo_misread.2.1 26 = .ok (.invokevirtual 118, 3) := by decide +kernel
theorem d_Mo_misread_29 : decode M_Mo_misread.2.1 29 = .ok (.ireturn, 1) := by decide +kernel
theorem d_Mo_misread_30 : decode M_Mo_misread.2.1 30 = .ok (.lconst 1, 1) := by decide +kernel
theorem d_Mo_misread_31 : decode M_Mo_misread.2.1 31 = .ok (.lstore_n 3, 1) := by decide +kernel
theorem d_Mo_misread_32 : decode M_Mo_misread.2.1 32 = .ok (.iconst 0, 1) := by decide +kernel
theorem d_Mo_misread_33 : decode M_Mo_misread.2.1 33 = .ok (.istore 5, 2) := by decide +kernel
theorem d_Mo_misread_35 : decode M_Mo_misread.2.1 35 = .ok (.iload 5, 2) := by decide +kernel
theorem d_Mo_misread_37 : decode M_Mo_misread.2.1 37 = .ok (.bipush 13, 2) := by decide +kernel
theorem d_Mo_misread_39 : decode M_Mo_misread.2.1 39 = .ok (.if_icmp .ge 26, 3) := by decide +kernel
theorem d_Mo_misread_42 : decode M_Mo_misread.2.1 42 = .ok (.aload_n 0, 1) := by decide +kernel
theorem d_Mo_misread_43 : decode M_Mo_misread.2.1 43 = .ok (.getfield 89, 3) := by decide +kernel
theorem d_Mo_misread_46 : decode M_Mo_misread.2.1 46 = .ok (.iload 5, 2) := by decide +kernel
theorem d_Mo_misread_48 : decode M_Mo_misread.2.1 48 = .ok (.iload 5, 2) := by decide +kernel
theorem d_Mo_misread_50 : decode M_Mo_misread.2.1 50 = .ok (.ifCond .ne 7, 3) := by decide +kernel
theorem d_Mo_misread_53 : decode M_Mo_misread.2.1 53 = .ok (.lconst 1, 1) := by decide +kernel
theorem d_Mo_misread_54 : decode M_Mo_misread.2.1 54 = .ok (.goto 4, 3) := by decide +kernel
theorem d_Mo_misread_57 : decode M_Mo_misread.2.1 57 = .ok (.lconst 0, 1) := by decide +kernel
theorem d_Mo_misread_58 : decode M_Mo_misread.2.1 58 = .ok (.lastore, 1) := by decide +kernel
theorem d_Mo_misread_59 : decode M_Mo_misread.2.1 59 = .ok (.iinc 5 1, 3) := by decide +kernel
theorem d_Mo_misread_62 : decode M_Mo_misread.2.1 62 = .ok (.goto (-27), 3) := by decide +kernel
theorem d_Mo_misread_65 : decode M_Mo_misread.2.1 65 = .ok (.iconst 0, 1) := by decide +kernel
theorem d_Mo_misread_66 : decode M_Mo_misread.2.1 66 = .ok (.istore 5, 2) := by decide +kernel
theorem d_Mo_misread_68 : decode M_Mo_misread.2.1 68 = .ok (.iload 5, 2) := by decide +kernel
theorem d_Mo_misread_70 : decode M_Mo_misread.2.1 70 = .ok (.iload_n 1, 1) := by decide +kernel
theorem d_Mo_misread_71 : decode M_Mo_misread.2.1 71 = .ok (.if_icmp .ge 82, 3) := by decide +kernel
theorem d_Mo_misread_74 : decode M_Mo_misread.2.1 74 = .ok (.bipush 12, 2) := by decide +kernel
theorem d_Mo_misread_76 : decode M_Mo_misread.2.1 76 = .ok (.istore 6, 2) := by decide +kernel
theorem d_Mo_misread_78 : decode M_Mo_misread.2.1 78 = .ok (.iload 6, 2) := by decide +kernel
theorem d_Mo_misread_80 : decode M_Mo_misread.2.1 80 = .ok (.ifCond .lt 61, 3) := by decide +kernel
theorem d_Mo_misread_83 : decode M_Mo_misread.2.1 83 = .ok (.aload_n 0, 1) := by decide +kernel
theorem d_Mo_misread_84 : decode M_Mo_misread.2.1 84 = .ok (.getfield 89, 3) := by decide +kernel
theorem d_Mo_misread_87 : decode M_Mo_misread.2.1 87 = .ok (.iload 6, 2) := by decide +kernel
theorem d_Mo_misread_89 : decode M_Mo_misread.2.1 89 = .ok (.aload_n 0, 1) := by decide +kernel
theorem d_Mo_misread_90 : decode M_Mo_misread.2.1 90 = .ok (.getfield 89, 3) := by decide +kernel
theorem d_Mo_misread_93 : decode M_Mo_misread.2.1 93 = .ok (.iload 6, 2) := by decide +kernel
theorem d_Mo_misread_95 : decode M_Mo_misread.2.1 95 = .ok (.laload, 1) := by decide +kernel
theorem d_Mo_misread_96 : decode M_Mo_misread.2.1 96 = .ok (.bipush 16, 2) := by decide +kernel
theorem d_Mo_misread_98 : decode M_Mo_misread.2.1 98 = .ok (.aload_n 0, 1) := by decide +kernel
theorem d_Mo_misread_99 : decode M_Mo_misread.2.1 99 = .ok (.getfield 7, 3) := by decide +kernel
theorem d_Mo_misread_102 : decode M_Mo_misread.2.1 102 = .ok (.iconst 3, 1) := by decide +kernel
theorem d_Mo_misread_103 : decode M_Mo_misread.2.1 103 = .ok (.iaload, 1) := by decide +kernel
theorem d_Mo_misread_104 : decode M_Mo_misread.2.1 104 = .ok (.isub, 1) := by decide +kernel
theorem d_Mo_misread_105 : decode M_Mo_misread.2.1 105 = .ok (.i2l, 1) := by decide +kernel
theorem d_Mo_misread_106 : decode M_Mo_misread.2.1 106 = .ok (.lmul, 1) := by decide +kernel
theorem d_Mo_misread_107 : decode M_Mo_misread.2.1 107 = .ok (.iload 6, 2) := by decide +kernel
theorem d_Mo_misread_109 : decode M_Mo_misread.2.1 109 = .ok (.ifCond .ne 7, 3) := by decide +kernel
theorem d_Mo_misread_112 : decode M_Mo_misread.2.1 112 = .ok (.lconst 0, 1) := by decide +kernel
theorem d_Mo_misread_113 : decode M_Mo_misread.2.1 113 = .ok (.goto 20, 3) := by decide +kernel
theorem d_Mo_misread_116 : decode M_Mo_misread.2.1 116 = .ok (.aload_n 0, 1) := by decide +kernel
theorem d_Mo_misread_117 : decode M_Mo_misread.2.1 117 = .ok (.getfield 89, 3) := by decide +kernel
theorem d_Mo_misread_120 : decode M_Mo_misread.2.1 120 = .ok (.iload 6, 2) := by decide +kernel
theorem d_Mo_misread_122 : decode M_Mo_misread.2.1 122 = .ok (.iconst 1, 1) := by decide +kernel
theorem d_Mo_misread_123 : decode M_Mo_misread.2.1 123 = .ok (.isub, 1) := by decide +kernel
theorem d_Mo_misread_124 : decode M_Mo_misread.2.1 124 = .ok (.laload, 1) := by decide +kernel
theorem d_Mo_misread_125 : decode M_Mo_misread.2.1 125 = .ok (.aload_n 0, 1) := by decide +kernel
theorem d_Mo_misread_126 : decode M_Mo_misread.2.1 126 = .ok (.getfield 7, 3) := by decide +kernel
theorem d_Mo_misread_129 : decode M_Mo_misread.2.1 129 = .ok (.iconst 3, 1) := by decide +kernel
theorem d_Mo_misread_130 : decode M_Mo_misread.2.1 130 = .ok (.iaload, 1) := by decide +kernel
theorem d_Mo_misread_131 : decode M_Mo_misread.2.1 131 = .ok (.i2l, 1) := by decide +kernel
theorem d_Mo_misread_132 : decode M_Mo_misread.2.1 132 = .ok (.lmul, 1) := by decide +kernel
theorem d_Mo_misread_133 : decode M_Mo_misread.2.1 133 = .ok (.ladd, 1) := by decide +kernel
theorem d_Mo_misread_134 : decode M_Mo_misread.2.1 134 = .ok (.lastore, 1) := by decide +kernel
theorem d_Mo_misread_135 : decode M_Mo_misread.2.1 135 = .ok (.iinc 6 (-1), 3) := by decide +kernel
theorem d_Mo_misread_138 : decode M_Mo_misread.2.1 138 = .ok (.goto (-60), 3) := by decide +kernel
theorem d_Mo_misread_141 : decode M_Mo_misread.2.1 141 = .ok (.lload_n 3, 1) := by decide +kernel
theorem d_Mo_misread_142 : decode M_Mo_misread.2.1 142 = .ok (.ldc2_w 381, 3) := by decide +kernel
theorem d_Mo_misread_145 : decode M_Mo_misread.2.1 145 = .ok (.lmul, 1) := by decide +kernel
theorem d_Mo_misread_146 : decode M_Mo_misread.2.1 146 = .ok (.lstore_n 3, 1) := by decide +kernel
theorem d_Mo_misread_147 : decode M_Mo_misread.2.1 147 = .ok (.iinc 5 1, 3) := by decide +kernel
theorem d_Mo_misread_150 : decode M_Mo_misread.2.1 150 = .ok (.goto (-82), 3) := by decide +kernel
theorem d_Mo_misread_153 : decode M_Mo_misread.2.1 153 = .ok (.lconst 0, 1) := by decide +kernel
theorem d_Mo_misread_154 : decode M_Mo_misread.2.1 154 = .ok (.lstore 5, 2) := by decide +kernel
theorem d_Mo_misread_156 : decode M_Mo_misread.2.1 156 = .ok (.iload_n 2, 1) := by decide +kernel
theorem d_Mo_misread_157 : decode M_Mo_misread.2.1 157 = .ok (.istore 7, 2) := by decide +kernel
theorem d_Mo_misread_159 : decode M_Mo_misread.2.1 159 = .ok (.iload 7, 2) := by decide +kernel
theorem d_Mo_misread_161 : decode M_Mo_misread.2.1 161 = .ok (.bipush 13, 2) := by decide +kernel
theorem d_Mo_misread_163 : decode M_Mo_misread.2.1 163 = .ok (.if_icmp .ge 21, 3) := by decide +kernel
theorem d_Mo_misread_166 : decode M_Mo_misread.2.1 166 = .ok (.lload 5, 2) := by decide +kernel
theorem d_Mo_misread_168 : decode M_Mo_misread.2.1 168 = .ok (.aload_n 0, 1) := by decide +kernel
theorem d_Mo_misread_169 : decode M_Mo_misread.2.1 169 = .ok (.getfield 89, 3) := by decide +kernel
theorem d_Mo_misread_172 : decode M_Mo_misread.2.1 172 = .ok (.iload 7, 2) := by decide +kernel
theorem d_Mo_misread_174 : decode M_Mo_misread.2.1 174 = .ok (.laload, 1) := by decide +kernel
theorem d_Mo_misread_175 : decode M_Mo_misread.2.1 175 = .ok (.ladd, 1) := by decide +kernel
theorem d_Mo_misread_176 : decode M_Mo_misread.2.1 176 = .ok (.lstore 5, 2) := by decide +kernel
theorem d_Mo_misread_178 : decode M_Mo_misread.2.1 178 = .ok (.iinc 7 1, 3) := by decide +kernel
theorem d_Mo_misread_181 : decode M_Mo_misread.2.1 181 = .ok (.goto (-22), 3) := by decide +kernel
theorem d_Mo_misread_184 : decode M_Mo_misread.2.1 184 = .ok (.aload_n 0, 1) := by decide +kernel
theorem d_Mo_misread_185 : decode M_Mo_misread.2.1 185 = .ok (.lload 5, 2) := by decide +kernel
theorem d_Mo_misread_187 : decode M_Mo_misread.2.1 187 = .ok (.lload_n 3, 1) := by decide +kernel
theorem d_Mo_misread_188 : decode M_Mo_misread.2.1 188 = .ok (.invokevirtual 407, 3) := by decide +kernel
theorem d_Mo_misread_191 : decode M_Mo_misread.2.1 191 = .ok (.ireturn, 1) := by decide +kernel
theorem d_Mo_share_0 : decode M_Mo_share.2.1 0 = .ok (.aload_n 0, 1) := by decide +kernel
theorem d_Mo_share_1 : decode M_Mo_share.2.1 1 = .ok (.iload_n 1, 1) := by decide +kernel
theorem d_Mo_share_2 : decode M_Mo_share.2.1 2 = .ok (.invokevirtual 340, 3) := by decide +kernel
theorem d_Mo_share_5 : decode M_Mo_share.2.1 5 = .ok (.ifCond .ne 9, 3) := by decide +kernel
theorem d_Mo_share_8 : decode M_Mo_share.2.1 8 = .ok (.aload_n 0, 1) := by decide +kernel
theorem d_Mo_share_9 : decode M_Mo_share.2.1 9 = .ok (.iconst 1, 1) := by decide +kernel
theorem d_Mo_share_10 : decode M_Mo_share.2.1 10 = .ok (.invokevirtual 118, 3) := by decide +kernel
theorem d_Mo_share_13 : decode M_Mo_share.2.1 13 = .ok (.ireturn, 1) := by decide +kernel
theorem d_Mo_share_14 : decode M_Mo_share.2.1 14 = .ok (.iconst 0, 1) := by decide +kernel
theorem d_Mo_share_15 : decode M_Mo_share.2.1 15 = .ok (.istore_n 2, 1) := by decide +kernel
theorem d_Mo_share_16 : decode M_Mo_share.2.1 16 = .ok (.iconst 0, 1) := by decide +kernel
theorem d_Mo_share_17 : decode M_Mo_share.2.1 17 = .ok (.istore_n 3, 1) := by decide +kernel
theorem d_Mo_share_18 : decode M_Mo_share.2.1 18 = .ok (.iconst 0, 1) := by decide +kernel
theorem d_Mo_share_19 : decode M_Mo_share.2.1 19 = .ok (.istore 4, 2) := by decide +kernel
theorem d_Mo_share_21 : decode M_Mo_share.2.1 21 = .ok (.iload 4, 2) := by decide +kernel
theorem d_Mo_share_23 : decode M_Mo_share.2.1 23 = .ok (.aload_n 0, 1) := by decide +kernel
theorem d_Mo_share_24 : decode M_Mo_share.2.1 24 = .ok (.getfield 7, 3) := by decide +kernel
theorem d_Mo_share_27 : decode M_Mo_share.2.1 27 = .ok (.iconst 2, 1) := by decide +kernel
theorem d_Mo_share_28 : decode M_Mo_share.2.1 28 = .ok (.iaload, 1) := by decide +kernel
theorem d_Mo_share_29 : decode M_Mo_share.2.1 29 = .ok (.if_icmp .ge 55, 3) := by decide +kernel
theorem d_Mo_share_32 : decode M_Mo_share.2.1 32 = .ok (.aload_n 0, 1) := by decide +kernel
theorem d_Mo_share_33 : decode M_Mo_share.2.1 33 = .ok (.iload 4, 2) := by decide +kernel
theorem d_Mo_share_35 : decode M_Mo_share.2.1 35 = .ok (.invokevirtual 300, 3) := by decide +kernel
theorem d_Mo_share_38 : decode M_Mo_share.2.1 38 = .ok (.ifCond .eq 12, 3) := by decide +kernel
theorem d_Mo_share_41 : decode M_Mo_share.2.1 41 = .ok (.aload_n 0, 1) := by decide +kernel
theorem d_Mo_share_42 : decode M_Mo_share.2.1 42 = .ok (.iload 4, 2) := by decide +kernel
theorem d_Mo_share_44 : decode M_Mo_share.2.1 44 = .ok (.invokevirtual 375, 3) := by decide +kernel
theorem d_Mo_share_47 : decode M_Mo_share.2.1 47 = .ok (.goto 4, 3) := by decide +kernel
theorem d_Mo_share_50 : decode M_Mo_share.2.1 50 = .ok (.iconst 0, 1) := by decide +kernel
theorem d_Mo_share_51 : decode M_Mo_share.2.1 51 = .ok (.istore 5, 2) := by decide +kernel
theorem d_Mo_share_53 : decode M_Mo_share.2.1 53 = .ok (.iload_n 2, 1) := by decide +kernel
theorem d_Mo_share_54 : decode M_Mo_share.2.1 54 = .ok (.aload_n 0, 1) := by decide +kernel
theorem d_Mo_share_55 : decode M_Mo_share.2.1 55 = .ok (.iload 4, 2) := by decide +kernel
theorem d_Mo_share_57 : decode M_Mo_share.2.1 57 = .ok (.iconst 0, 1) := by decide +kernel
theorem d_Mo_share_58 : decode M_Mo_share.2.1 58 = .ok (.invokevirtual 287, 3) := by decide +kernel
theorem d_Mo_share_61 : decode M_Mo_share.2.1 61 = .ok (.iload_n 1, 1) := by decide +kernel
theorem d_Mo_share_62 : decode M_Mo_share.2.1 62 = .ok (.if_icmp .ne 8, 3) := by decide +kernel
theorem d_Mo_share_65 : decode M_Mo_share.2.1 65 = .ok (.iload 5, 2) := by decide +kernel
theorem d_Mo_share_67 : decode M_Mo_share.2.1 67 = .ok (.goto 4, 3) := by decide +kernel
theorem d_Mo_share_70 : decode M_Mo_share.2.1 70 = .ok (.iconst 0, 1) := by decide +kernel
theorem d_Mo_share_71 : decode M_Mo_share.2.1 71 = .ok (.iadd, 1) := by decide +kernel
theorem d_Mo_share_72 : decode M_Mo_share.2.1 72 = .ok (.istore_n 2, 1) := by decide +kernel
theorem d_Mo_share_73 : decode M_Mo_share.2.1 73 = .ok (.iload_n 3, 1) := by decide +kernel
theorem d_Mo_share_74 : decode M_Mo_share.2.1 74 = .ok (.iload 5, 2) := by decide +kernel
theorem d_Mo_share_76 : decode M_Mo_share.2.1 76 = .ok (.iadd, 1) := by decide +kernel
theorem d_Mo_share_77 : decode M_Mo_share.2.1 77 = .ok (.istore_n 3, 1) := by decide +kernel
theorem d_Mo_share_78 : decode M_Mo_share.2.1 78 = .ok (.iinc 4 1, 3) := by decide +kernel
theorem d_Mo_share_81 : decode M_Mo_share.2.1 81 = .ok (.goto (-60), 3) := by decide +kernel
theorem d_Mo_share_84 : decode M_Mo_share.2.1 84 = .ok (.iload_n 3, 1) := by decide +kernel
theorem d_Mo_share_85 : decode M_Mo_share.2.1 85 = .ok (.ifCond .ne 12, 3) := by decide +kernel
theorem d_Mo_share_88 : decode M_Mo_share.2.1 88 = .ok (.aload_n 0, 1) := by decide +kernel
theorem d_Mo_share_89 : decode M_Mo_share.2.1 89 = .ok (.bipush 6, 2) := by decide +kernel
theorem d_Mo_share_91 : decode M_Mo_share.2.1 91 = .ok (.invokevirtual 118, 3) := by decide +kernel
theorem d_Mo_share_94 : decode M_Mo_share.2.1 94 = .ok (.goto 11, 3) := by decide +kernel
theorem d_Mo_share_97 : decode M_Mo_share.2.1 97 = .ok (.aload_n 0, 1) := by decide +kernel
theorem d_Mo_share_98 : decode M_Mo_share.2.1 98 = .ok (.iload_n 2, 1) := by decide +kernel
theorem d_Mo_share_99 : decode M_Mo_share.2.1 99 = .ok (.i2l, 1) := by decide +kernel
theorem d_Mo_share_100 : decode M_Mo_share.2.1 100 = .ok (.iload_n 3, 1) := by decide +kernel
theorem d_Mo_share_101 : decode M_Mo_share.2.1 101 = .ok (.i2l, 1) := by decide +kernel
theorem d_Mo_share_102 : decode M_Mo_share.2.1 102 = .ok (.invokevirtual 407, 3) := by decide +kernel
theorem d_Mo_share_105 : decode M_Mo_share.2.1 105 = .ok (.ireturn, 1) := by decide +kernel
theorem d_Mo_copyPlaces_0 : decode M_Mo_copyPlaces.2.1 0 = .ok (.iload_n 1, 1) := by decide +kernel
theorem d_Mo_copyPlaces_1 : decode M_Mo_copyPlaces.2.1 1 = .ok (.invokestatic 122, 3) := by decide +kernel
theorem d_Mo_copyPlaces_4 : decode M_Mo_copyPlaces.2.1 4 = .ok (.ifCond .ne 9, 3) := by decide +kernel
theorem d_Mo_copyPlaces_7 : decode M_Mo_copyPlaces.2.1 7 = .ok (.aload_n 0, 1) := by decide +kernel
theorem d_Mo_copyPlaces_8 : decode M_Mo_copyPlaces.2.1 8 = .ok (.iconst 1, 1) := by decide +kernel
theorem d_Mo_copyPlaces_9 : decode M_Mo_copyPlaces.2.1 9 = .ok (.invokevirtual 111, 3) := by decide +kernel
theorem d_Mo_copyPlaces_12 : decode M_Mo_copyPlaces.2.1 12 = .ok (.ireturn, 1) := by decide +kernel
theorem d_Mo_copyPlaces_13 : decode M_Mo_copyPlaces.2.1 13 = .ok (.aload_n 0, 1) := by decide +kernel
theorem d_Mo_copyPlaces_14 : decode M_Mo_copyPlaces.2.1 14 = .ok (.getfield 24, 3) := by decide +kernel
theorem d_Mo_copyPlaces_17 : decode M_Mo_copyPlaces.2.1 17 = .ok (.iload_n 1, 1) := by decide +kernel
theorem d_Mo_copyPlaces_18 : decode M_Mo_copyPlaces.2.1 18 = .ok (.iaload, 1) := by decide +kernel
theorem d_Mo_copyPlaces_19 : decode M_Mo_copyPlaces.2.1 19 = .ok (.iconst (-1), 1) := by decide +kernel
theorem d_Mo_copyPlaces_20 : decode M_Mo_copyPlaces.2.1 20 = .ok (.if_icmp .ne 9, 3) := by decide +kernel
theorem d_Mo_copyPlaces_23 : decode M_Mo_copyPlaces.2.1 23 = .ok (.aload_n 0, 1) := by decide +kernel
theorem d_Mo_copyPlaces_24 : decode M_Mo_copyPlaces.2.1 24 = .ok (.iconst 2, 1) := by decide +kernel
theorem d_Mo_copyPlaces_25 : decode M_Mo_copyPlaces.2.1 25 = .ok (.invokevirtual 111, 3) := by decide +kernel
theorem d_Mo_copyPlaces_28 : decode M_Mo_copyPlaces.2.1 28 = .ok (.ireturn, 1) := by decide +kernel
theorem d_Mo_copyPlaces_29 : decode M_Mo_copyPlaces.2.1 29 = .ok (.aload_n 0, 1) := by decide +kernel
theorem d_Mo_copyPlaces_30 : decode M_Mo_copyPlaces.2.1 30 = .ok (.getfield 24, 3) := by decide +kernel
theorem d_Mo_copyPlaces_33 : decode M_Mo_copyPlaces.2.1 33 = .ok (.iload_n 1, 1) := by decide +kernel
theorem d_Mo_copyPlaces_34 : decode M_Mo_copyPlaces.2.1 34 = .ok (.iaload, 1) := by decide +kernel
theorem d_Mo_copyPlaces_35 : decode M_Mo_copyPlaces.2.1 35 = .ok (.iconst 2, 1) := by decide +kernel
theorem d_Mo_copyPlaces_36 : decode M_Mo_copyPlaces.2.1 36 = .ok (.aload_n 0, 1) := by decide +kernel
theorem d_Mo_copyPlaces_37 : decode M_Mo_copyPlaces.2.1 37 = .ok (.getfield 7, 3) := by decide +kernel
theorem d_Mo_copyPlaces_40 : decode M_Mo_copyPlaces.2.1 40 = .ok (.iconst 0, 1) := by decide +kernel
theorem d_Mo_copyPlaces_41 : decode M_Mo_copyPlaces.2.1 41 = .ok (.iaload, 1) := by decide +kernel
theorem d_Mo_copyPlaces_42 : decode M_Mo_copyPlaces.2.1 42 = .ok (.imul, 1) := by decide +kernel
theorem d_Mo_copyPlaces_43 : decode M_Mo_copyPlaces.2.1 43 = .ok (.if_icmp .ge 9, 3) := by decide +kernel
theorem d_Mo_copyPlaces_46 : decode M_Mo_copyPlaces.2.1 46 = .ok (.aload_n 0, 1) := by decide +kernel
theorem d_Mo_copyPlaces_47 : decode M_Mo_copyPlaces.2.1 47 = .ok (.iconst 3, 1) := by decide +kernel
theorem d_Mo_copyPlaces_48 : decode M_Mo_copyPlaces.2.1 48 = .ok (.invokevirtual 111, 3) := by decide +kernel
theorem d_Mo_copyPlaces_51 : decode M_Mo_copyPlaces.2.1 51 = .ok (.ireturn, 1) := by decide +kernel
theorem d_Mo_copyPlaces_52 : decode M_Mo_copyPlaces.2.1 52 = .ok (.aload_n 0, 1) := by decide +kernel
theorem d_Mo_copyPlaces_53 : decode M_Mo_copyPlaces.2.1 53 = .ok (.invokevirtual 328, 3) := by decide +kernel
theorem d_Mo_copyPlaces_56 : decode M_Mo_copyPlaces.2.1 56 = .ok (.invokestatic 363, 3) := by decide +kernel
theorem d_Mo_copyPlaces_59 : decode M_Mo_copyPlaces.2.1 59 = .ok (.aload_n 0, 1) := by decide +kernel
theorem d_Mo_copyPlaces_60 : decode M_Mo_copyPlaces.2.1 60 = .ok (.getfield 7, 3) := by decide +kernel
theorem d_Mo_copyPlaces_63 : decode M_Mo_copyPlaces.2.1 63 = .ok (.iconst 0, 1) := by decide +kernel
theorem d_Mo_copyPlaces_64 : decode M_Mo_copyPlaces.2.1 64 = .ok (.iaload, 1) := by decide +kernel
theorem d_Mo_copyPlaces_65 : decode M_Mo_copyPlaces.2.1 65 = .ok (.if_icmp .ge 10, 3) := by decide +kernel
theorem d_Mo_copyPlaces_68 : decode M_Mo_copyPlaces.2.1 68 = .ok (.aload_n 0, 1) := by decide +kernel
theorem d_Mo_copyPlaces_69 : decode M_Mo_copyPlaces.2.1 69 = .ok (.bipush 6, 2) := by decide +kernel
theorem d_Mo_copyPlaces_71 : decode M_Mo_copyPlaces.2.1 71 = .ok (.invokevirtual 111, 3) := by decide +kernel
theorem d_Mo_copyPlaces_74 : decode M_Mo_copyPlaces.2.1 74 = .ok (.ireturn, 1) := by decide +kernel
theorem d_Mo_copyPlaces_75 : decode M_Mo_copyPlaces.2.1 75 = .ok (.iconst 0, 1) := by decide +kernel
theorem d_Mo_copyPlaces_76 : decode M_Mo_copyPlaces.2.1 76 = .ok (.istore_n 2, 1) := by decide +kernel
theorem d_Mo_copyPlaces_77 : decode M_Mo_copyPlaces.2.1 77 = .ok (.iload_n 2, 1) := by decide +kernel
theorem d_Mo_copyPlaces_78 : decode M_Mo_copyPlaces.2.1 78 = .ok (.aload_n 0, 1) := by decide +kernel
theorem d_Mo_copyPlaces_79 : decode M_Mo_copyPlaces.2.1 79 = .ok (.getfield 7, 3) := by decide +kernel
theorem d_Mo_copyPlaces_82 : decode M_Mo_copyPlaces.2.1 82 = .ok (.iconst 0, 1) := by decide +kernel
theorem d_Mo_copyPlaces_83 : decode M_Mo_copyPlaces.2.1 83 = .ok (.iaload, 1) := by decide +kernel
theorem d_Mo_copyPlaces_84 : decode M_Mo_copyPlaces.2.1 84 = .ok (.if_icmp .ge 69, 3) := by decide +kernel
theorem d_Mo_copyPlaces_87 : decode M_Mo_copyPlaces.2.1 87 = .ok (.aload_n 0, 1) := by decide +kernel
theorem d_Mo_copyPlaces_88 : decode M_Mo_copyPlaces.2.1 88 = .ok (.getfield 27, 3) := by decide +kernel
theorem d_Mo_copyPlaces_91 : decode M_Mo_copyPlaces.2.1 91 = .ok (.bipush 60, 2) := by decide +kernel
theorem d_Mo_copyPlaces_93 : decode M_Mo_copyPlaces.2.1 93 = .ok (.iload_n 1, 1) := by decide +kernel
theorem d_Mo_copyPlaces_94 : decode M_Mo_copyPlaces.2.1 94 = .ok (.imul, 1) := by decide +kernel
theorem d_Mo_copyPlaces_95 : decode M_Mo_copyPlaces.2.1 95 = .ok (.iconst 2, 1) := by decide +kernel
theorem d_Mo_copyPlaces_96 : decode M_Mo_copyPlaces.2.1 96 = .ok (.iload_n 2, 1) := by decide +kernel
theorem d_Mo_copyPlaces_97 : decode M_Mo_copyPlaces.2.1 97 = .ok (.imul, 1) := by decide +kernel
theorem d_Mo_copyPlaces_98 : decode M_Mo_copyPlaces.2.1 98 = .ok (.iadd, 1) := by decide +kernel
theorem d_Mo_copyPlaces_99 : decode M_Mo_copyPlaces.2.1 99 = .ok (.aload_n 0, 1) := by decide +kernel
theorem d_Mo_copyPlaces_100 : decode M_Mo_copyPlaces.2.1 100 = .ok (.getfield 47, 3) := by decide +kernel
theorem d_Mo_copyPlaces_103 : decode M_Mo_copyPlaces.2.1 103 = .ok (.iload_n 2, 1) := by decide +kernel
theorem d_Mo_copyPlaces_104 : decode M_Mo_copyPlaces.2.1 104 = .ok (.iaload, 1) := by decide +kernel
theorem d_Mo_copyPlaces_105 : decode M_Mo_copyPlaces.2.1 105 = .ok (.i2l, 1) := by decide +kernel
theorem d_Mo_copyPlaces_106 : decode M_Mo_copyPlaces.2.1 106 = .ok (.aload_n 0, 1) := by decide +kernel
theorem d_Mo_copyPlaces_107 : decode M_Mo_copyPlaces.2.1 107 = .ok (.getfield 21, 3) := by decide +kernel
theorem d_Mo_copyPlaces_110 : decode M_Mo_copyPlaces.2.1 110 = .ok (.iload_n 1, 1) := by decide +kernel
theorem d_Mo_copyPlaces_111 : decode M_Mo_copyPlaces.2.1 111 = .ok (.iaload, 1) := by decide +kernel
theorem d_Mo_copyPlaces_112 : decode M_Mo_copyPlaces.2.1 112 = .ok (.invokestatic 129, 3) := by decide +kernel
theorem d_Mo_copyPlaces_115 : decode M_Mo_copyPlaces.2.1 115 = .ok (.lastore, 1) := by decide +kernel
theorem d_Mo_copyPlaces_116 : decode M_Mo_copyPlaces.2.1 116 = .ok (.aload_n 0, 1) := by decide +kernel
theorem d_Mo_copyPlaces_117 : decode M_Mo_copyPlaces.2.1 117 = .ok (.getfield 27, 3) := by decide +kernel
theorem d_Mo_copyPlaces_120 : decode M_Mo_copyPlaces.2.1 120 = .ok (.bipush 60, 2) := by decide +kernel
theorem d_Mo_copyPlaces_122 : decode M_Mo_copyPlaces.2.1 122 = .ok (.iload_n 1, 1) := by decide +kernel
theorem d_Mo_copyPlaces_123 : decode M_Mo_copyPlaces.2.1 123 = .ok (.imul, 1) := by decide +kernel
theorem d_Mo_copyPlaces_124 : decode M_Mo_copyPlaces.2.1 124 = .ok (.iconst 2, 1) := by decide +kernel
theorem d_Mo_copyPlaces_125 : decode M_Mo_copyPlaces.2.1 125 = .ok (.iload_n 2, 1) := by decide +kernel
theorem d_Mo_copyPlaces_126 : decode M_Mo_copyPlaces.2.1 126 = .ok (.imul, 1) := by decide +kernel
theorem d_Mo_copyPlaces_127 : decode M_Mo_copyPlaces.2.1 127 = .ok (.iadd, 1) := by decide +kernel
theorem d_Mo_copyPlaces_128 : decode M_Mo_copyPlaces.2.1 128 = .ok (.iconst 1, 1) := by decide +kernel
theorem d_Mo_copyPlaces_129 : decode M_Mo_copyPlaces.2.1 129 = .ok (.iadd, 1) := by decide +kernel
theorem d_Mo_copyPlaces_130 : decode M_Mo_copyPlaces.2.1 130 = .ok (.aload_n 0, 1) := by decide +kernel
theorem d_Mo_copyPlaces_131 : decode M_Mo_copyPlaces.2.1 131 = .ok (.getfield 50, 3) := by decide +kernel
theorem d_Mo_copyPlaces_134 : decode M_Mo_copyPlaces.2.1 134 = .ok (.iload_n 2, 1) := by decide +kernel
theorem d_Mo_copyPlaces_135 : decode M_Mo_copyPlaces.2.1 135 = .ok (.iaload, 1) := by decide +kernel
theorem d_Mo_copyPlaces_136 : decode M_Mo_copyPlaces.2.1 136 = .ok (.i2l, 1) := by decide +kernel
theorem d_Mo_copyPlaces_137 : decode M_Mo_copyPlaces.2.1 137 = .ok (.aload_n 0, 1) := by decide +kernel
theorem d_Mo_copyPlaces_138 : decode M_Mo_copyPlaces.2.1 138 = .ok (.getfield 21, 3) := by decide +kernel
theorem d_Mo_copyPlaces_141 : decode M_Mo_copyPlaces.2.1 141 = .ok (.iload_n 1, 1) := by decide +kernel
theorem d_Mo_copyPlaces_142 : decode M_Mo_copyPlaces.2.1 142 = .ok (.iaload, 1) := by decide +kernel
theorem d_Mo_copyPlaces_143 : decode M_Mo_copyPlaces.2.1 143 = .ok (.invokestatic 129, 3) := by decide +kernel
theorem d_Mo_copyPlaces_146 : decode M_Mo_copyPlaces.2.1 146 = .ok (.lastore, 1) := by decide +kernel
theorem d_Mo_copyPlaces_147 : decode M_Mo_copyPlaces.2.1 147 = .ok (.iinc 2 1, 3) := by decide +kernel
theorem d_Mo_copyPlaces_150 : decode M_Mo_copyPlaces.2.1 150 = .ok (.goto (-73), 3) := by decide +kernel
theorem d_Mo_copyPlaces_153 : decode M_Mo_copyPlaces.2.1 153 = .ok (.aload_n 0, 1) := by decide +kernel
theorem d_Mo_copyPlaces_154 : decode M_Mo_copyPlaces.2.1 154 = .ok (.aload_n 0, 1) := by decide +kernel
theorem d_Mo_copyPlaces_155 : decode M_Mo_copyPlaces.2.1 155 = .ok (.getfield 7, 3) := by decide +kernel
theorem d_Mo_copyPlaces_158 : decode M_Mo_copyPlaces.2.1 158 = .ok (.iconst 0, 1) := by decide +kernel
theorem d_Mo_copyPlaces_159 : decode M_Mo_copyPlaces.2.1 159 = .ok (.iaload, 1) := by decide +kernel
theorem d_Mo_copyPlaces_160 : decode M_Mo_copyPlaces.2.1 160 = .ok (.invokevirtual 115, 3) := by decide +kernel
theorem d_Mo_copyPlaces_163 : decode M_Mo_copyPlaces.2.1 163 = .ok (.ireturn, 1) := by decide +kernel
theorem d_Mo_keeps_0 : decode M_Mo_keeps.2.1 0 = .ok (.iconst 0, 1) := by decide +kernel
theorem d_Mo_keeps_1 : decode M_Mo_keeps.2.1 1 = .ok (.istore_n 2, 1) := by decide +kernel
theorem d_Mo_keeps_2 : decode M_Mo_keeps.2.1 2 = .ok (.iload_n 2, 1) := by decide +kernel
theorem d_Mo_keeps_3 : decode M_Mo_keeps.2.1 3 = .ok (.bipush 82, 2) := by decide +kernel
theorem d_Mo_keeps_5 : decode M_Mo_keeps.2.1 5 = .ok (.if_icmp .ge 23, 3) := by decide +kernel
theorem d_Mo_keeps_8 : decode M_Mo_keeps.2.1 8 = .ok (.aload_n 0, 1) := by decide +kernel
theorem d_Mo_keeps_9 : decode M_Mo_keeps.2.1 9 = .ok (.getfield 7, 3) := by decide +kernel
theorem d_Mo_keeps_12 : decode M_Mo_keeps.2.1 12 = .ok (.iload_n 1, 1) := by decide +kernel
theorem d_Mo_keeps_13 : decode M_Mo_keeps.2.1 13 = .ok (.iload_n 2, 1) := by decide +kernel
theorem d_Mo_keeps_14 : decode M_Mo_keeps.2.1 14 = .ok (.iadd, 1) := by decide +kernel
theorem d_Mo_keeps_15 : decode M_Mo_keeps.2.1 15 = .ok (.aload_n 0, 1) := by decide +kernel
theorem d_Mo_keeps_16 : decode M_Mo_keeps.2.1 16 = .ok (.getfield 7, 3) := by decide +kernel
theorem d_Mo_keeps_19 : decode M_Mo_keeps.2.1 19 = .ok (.iload_n 2, 1) := by decide +kernel
theorem d_Mo_keeps_20 : decode M_Mo_keeps.2.1 20 = .ok (.iaload, 1) := by decide +kernel
theorem d_Mo_keeps_21 : decode M_Mo_keeps.2.1 21 = .ok (.iastore, 1) := by decide +kernel
theorem d_Mo_keeps_22 : decode M_Mo_keeps.2.1 22 = .ok (.iinc 2 1, 3) := by decide +kernel
theorem d_Mo_keeps_25 : decode M_Mo_keeps.2.1 25 = .ok (.goto (-23), 3) := by decide +kernel
theorem d_Mo_keeps_28 : decode M_Mo_keeps.2.1 28 = .ok (.return_, 1) := by decide +kernel
theorem d_Mo_brings_0 : decode M_Mo_brings.2.1 0 = .ok (.iconst 0, 1) := by decide +kernel
theorem d_Mo_brings_1 : decode M_Mo_brings.2.1 1 = .ok (.istore_n 2, 1) := by decide +kernel
theorem d_Mo_brings_2 : decode M_Mo_brings.2.1 2 = .ok (.iload_n 2, 1) := by decide +kernel
theorem d_Mo_brings_3 : decode M_Mo_brings.2.1 3 = .ok (.bipush 82, 2) := by decide +kernel
theorem d_Mo_brings_5 : decode M_Mo_brings.2.1 5 = .ok (.if_icmp .ge 23, 3) := by decide +kernel
theorem d_Mo_brings_8 : decode M_Mo_brings.2.1 8 = .ok (.aload_n 0, 1) := by decide +kernel
theorem d_Mo_brings_9 : decode M_Mo_brings.2.1 9 = .ok (.getfield 7, 3) := by decide +kernel
theorem d_Mo_brings_12 : decode M_Mo_brings.2.1 12 = .ok (.iload_n 2, 1) := by decide +kernel
theorem d_Mo_brings_13 : decode M_Mo_brings.2.1 13 = .ok (.aload_n 0, 1) := by decide +kernel
theorem d_Mo_brings_14 : decode M_Mo_brings.2.1 14 = .ok (.getfield 7, 3) := by decide +kernel
theorem d_Mo_brings_17 : decode M_Mo_brings.2.1 17 = .ok (.iload_n 1, 1) := by decide +kernel
theorem d_Mo_brings_18 : decode M_Mo_brings.2.1 18 = .ok (.iload_n 2, 1) := by decide +kernel
theorem d_Mo_brings_19 : decode M_Mo_brings.2.1 19 = .ok (.iadd, 1) := by decide +kernel
theorem d_Mo_brings_20 : decode M_Mo_brings.2.1 20 = .ok (.iaload, 1) := by decide +kernel
theorem d_Mo_brings_21 : decode M_Mo_brings.2.1 21 = .ok (.iastore, 1) := by decide +kernel
theorem d_Mo_brings_22 : decode M_Mo_brings.2.1 22 = .ok (.iinc 2 1, 3) := by decide +kernel
theorem d_Mo_brings_25 : decode M_Mo_brings.2.1 25 = .ok (.goto (-23), 3) := by decide +kernel
theorem d_Mo_brings_28 : decode M_Mo_brings.2.1 28 = .ok (.return_, 1) := by decide +kernel
theorem d_Mo_draw_0 : decode M_Mo_draw.2.1 0 = .ok (.aload_n 0, 1) := by decide +kernel
theorem d_Mo_draw_1 : decode M_Mo_draw.2.1 1 = .ok (.aload_n 0, 1) := by decide +kernel
theorem d_Mo_draw_2 : decode M_Mo_draw.2.1 2 = .ok (.getfield 456, 3) := by decide +kernel
theorem d_Mo_draw_5 : decode M_Mo_draw.2.1 5 = .ok (.sipush 3277, 3) := by decide +kernel
theorem d_Mo_draw_8 : decode M_Mo_draw.2.1 8 = .ok (.imul, 1) := by decide +kernel
theorem d_Mo_draw_9 : decode M_Mo_draw.2.1 9 = .ok (.sipush 11505, 3) := by decide +kernel
theorem d_Mo_draw_12 : decode M_Mo_draw.2.1 12 = .ok (.iadd, 1) := by decide +kernel
theorem d_Mo_draw_13 : decode M_Mo_draw.2.1 13 = .ok (.ldc_w 459, 3) := by decide +kernel
theorem d_Mo_draw_16 : decode M_Mo_draw.2.1 16 = .ok (.irem, 1) := by decide +kernel
theorem d_Mo_draw_17 : decode M_Mo_draw.2.1 17 = .ok (.putfield 456, 3) := by decide +kernel
theorem d_Mo_draw_20 : decode M_Mo_draw.2.1 20 = .ok (.aload_n 0, 1) := by decide +kernel
theorem d_Mo_draw_21 : decode M_Mo_draw.2.1 21 = .ok (.getfield 456, 3) := by decide +kernel
theorem d_Mo_draw_24 : decode M_Mo_draw.2.1 24 = .ok (.bipush 8, 2) := by decide +kernel
theorem d_Mo_draw_26 : decode M_Mo_draw.2.1 26 = .ok (.idiv, 1) := by decide +kernel
theorem d_Mo_draw_27 : decode M_Mo_draw.2.1 27 = .ok (.iload_n 1, 1) := by decide +kernel
theorem d_Mo_draw_28 : decode M_Mo_draw.2.1 28 = .ok (.irem, 1) := by decide +kernel
theorem d_Mo_draw_29 : decode M_Mo_draw.2.1 29 = .ok (.ireturn, 1) := by decide +kernel
theorem d_Mo_ranIf_0 : decode M_Mo_ranIf.2.1 0 = .ok (.iload_n 2, 1) := by decide +kernel
theorem d_Mo_ranIf_1 : decode M_Mo_ranIf.2.1 1 = .ok (.ifCond .eq 13, 3) := by decide +kernel
theorem d_Mo_ranIf_4 : decode M_Mo_ranIf.2.1 4 = .ok (.aload_n 0, 1) := by decide +kernel
theorem d_Mo_ranIf_5 : decode M_Mo_ranIf.2.1 5 = .ok (.getfield 95, 3) := by decide +kernel
theorem d_Mo_ranIf_8 : decode M_Mo_ranIf.2.1 8 = .ok (.iload_n 1, 1) := by decide +kernel
theorem d_Mo_ranIf_9 : decode M_Mo_ranIf.2.1 9 = .ok (.dup2, 1) := by decide +kernel
theorem d_Mo_ranIf_10 : decode M_Mo_ranIf.2.1 10 = .ok (.iaload, 1) := by decide +kernel
theorem d_Mo_ranIf_11 : decode M_Mo_ranIf.2.1 11 = .ok (.iconst 1, 1) := by decide +kernel
theorem d_Mo_ranIf_12 : decode M_Mo_ranIf.2.1 12 = .ok (.iadd, 1) := by decide +kernel
theorem d_Mo_ranIf_13 : decode M_Mo_ranIf.2.1 13 = .ok (.iastore, 1) := by decide +kernel
theorem d_Mo_ranIf_14 : decode M_Mo_ranIf.2.1 14 = .ok (.iload_n 2, 1) := by decide +kernel
theorem d_Mo_ranIf_15 : decode M_Mo_ranIf.2.1 15 = .ok (.ireturn, 1) := by decide +kernel
theorem d_Mo_doesAny_0 : decode M_Mo_doesAny.2.1 0 = .ok (.aload_n 0, 1) := by decide +kernel
theorem d_Mo_doesAny_1 : decode M_Mo_doesAny.2.1 1 = .ok (.getfield 7, 3) := by decide +kernel
theorem d_Mo_doesAny_4 : decode M_Mo_doesAny.2.1 4 = .ok (.iconst 2, 1) := by decide +kernel
theorem d_Mo_doesAny_5 : decode M_Mo_doesAny.2.1 5 = .ok (.iaload, 1) := by decide +kernel
theorem d_Mo_doesAny_6 : decode M_Mo_doesAny.2.1 6 = .ok (.ifCond .ne 5, 3) := by decide +kernel
theorem d_Mo_doesAny_9 : decode M_Mo_doesAny.2.1 9 = .ok (.iconst 0, 1) := by decide +kernel
theorem d_Mo_doesAny_10 : decode M_Mo_doesAny.2.1 10 = .ok (.ireturn, 1) := by decide +kernel
theorem d_Mo_doesAny_11 : decode M_Mo_doesAny.2.1 11 = .ok (.aload_n 0, 1) := by decide +kernel
theorem d_Mo_doesAny_12 : decode M_Mo_doesAny.2.1 12 = .ok (.aload_n 0, 1) := by decide +kernel
theorem d_Mo_doesAny_13 : decode M_Mo_doesAny.2.1 13 = .ok (.getfield 7, 3) := by decide +kernel
theorem d_Mo_doesAny_16 : decode M_Mo_doesAny.2.1 16 = .ok (.iconst 2, 1) := by decide +kernel
theorem d_Mo_doesAny_17 : decode M_Mo_doesAny.2.1 17 = .ok (.iaload, 1) := by decide +kernel
theorem d_Mo_doesAny_18 : decode M_Mo_doesAny.2.1 18 = .ok (.invokevirtual 460, 3) := by decide +kernel
theorem d_Mo_doesAny_21 : decode M_Mo_doesAny.2.1 21 = .ok (.istore_n 1, 1) := by decide +kernel
theorem d_Mo_doesAny_22 : decode M_Mo_doesAny.2.1 22 = .ok (.aload_n 0, 1) := by decide +kernel
theorem d_Mo_doesAny_23 : decode M_Mo_doesAny.2.1 23 = .ok (.bipush 16, 2) := by decide +kernel
theorem d_Mo_doesAny_25 : decode M_Mo_doesAny.2.1 25 = .ok (.invokevirtual 460, 3) := by decide +kernel
theorem d_Mo_doesAny_28 : decode M_Mo_doesAny.2.1 28 = .ok (.aload_n 0, 1) := by decide +kernel
theorem d_Mo_doesAny_29 : decode M_Mo_doesAny.2.1 29 = .ok (.getfield 7, 3) := by decide +kernel
theorem d_Mo_doesAny_32 : decode M_Mo_doesAny.2.1 32 = .ok (.iconst 3, 1) := by decide +kernel
theorem d_Mo_doesAny_33 : decode M_Mo_doesAny.2.1 33 = .ok (.iaload, 1) := by decide +kernel
theorem d_Mo_doesAny_34 : decode M_Mo_doesAny.2.1 34 = .ok (.if_icmp .lt 14, 3) := by decide +kernel
theorem d_Mo_doesAny_37 : decode M_Mo_doesAny.2.1 37 = .ok (.aload_n 0, 1) := by decide +kernel
theorem d_Mo_doesAny_38 : decode M_Mo_doesAny.2.1 38 = .ok (.iconst 1, 1) := by decide +kernel
theorem d_Mo_doesAny_39 : decode M_Mo_doesAny.2.1 39 = .ok (.aload_n 0, 1) := by decide +kernel
theorem d_Mo_doesAny_40 : decode M_Mo_doesAny.2.1 40 = .ok (.iload_n 1, 1) := by decide +kernel
theorem d_Mo_doesAny_41 : decode M_Mo_doesAny.2.1 41 = .ok (.invokevirtual 378, 3) := by decide +kernel
theorem d_Mo_doesAny_44 : decode M_Mo_doesAny.2.1 44 = .ok (.invokevirtual 463, 3) := by decide +kernel
theorem d_Mo_doesAny_47 : decode M_Mo_doesAny.2.1 47 = .ok (.ireturn, 1) := by decide +kernel
theorem d_Mo_doesAny_48 : decode M_Mo_doesAny.2.1 48 = .ok (.aload_n 0, 1) := by decide +kernel
theorem d_Mo_doesAny_49 : decode M_Mo_doesAny.2.1 49 = .ok (.aload_n 0, 1) := by decide +kernel
theorem d_Mo_doesAny_50 : decode M_Mo_doesAny.2.1 50 = .ok (.getfield 7, 3) := by decide +kernel
theorem d_Mo_doesAny_53 : decode M_Mo_doesAny.2.1 53 = .ok (.bipush 6, 2) := by decide +kernel
theorem d_Mo_doesAny_55 : decode M_Mo_doesAny.2.1 55 = .ok (.iaload, 1) := by decide +kernel
theorem d_Mo_doesAny_56 : decode M_Mo_doesAny.2.1 56 = .ok (.iload_n 1, 1) := by decide +kernel
theorem d_Mo_doesAny_57 : decode M_Mo_doesAny.2.1 57 = .ok (.invokevirtual 281, 3) := by decide +kernel
theorem d_Mo_doesAny_60 : decode M_Mo_doesAny.2.1 60 = .ok (.ifCond .eq 16, 3) := by decide +kernel
theorem d_Mo_doesAny_63 : decode M_Mo_doesAny.2.1 63 = .ok (.aload_n 0, 1) := by decide +kernel
theorem d_Mo_doesAny_64 : decode M_Mo_doesAny.2.1 64 = .ok (.iconst 3, 1) := by decide +kernel
theorem d_Mo_doesAny_65 : decode M_Mo_doesAny.2.1 65 = .ok (.aload_n 0, 1) := by decide +kernel
theorem d_Mo_doesAny_66 : decode M_Mo_doesAny.2.1 66 = .ok (.iload_n 1, 1) := by decide +kernel
theorem d_Mo_doesAny_67 : decode M_Mo_doesAny.2.1 67 = .ok (.invokevirtual 366, 3) := by decide +kernel
theorem d_Mo_doesAny_70 : decode M_Mo_doesAny.2.1 70 = .ok (.invokevirtual 463, 3) := by decide +kernel
theorem d_Mo_doesAny_73 : decode M_Mo_doesAny.2.1 73 = .ok (.goto 13, 3) := by decide +kernel
theorem d_Mo_doesAny_76 : decode M_Mo_doesAny.2.1 76 = .ok (.aload_n 0, 1) := by decide +kernel
theorem d_Mo_doesAny_77 : decode M_Mo_doesAny.2.1 77 = .ok (.iconst 2, 1) := by decide +kernel
theorem d_Mo_doesAny_78 : decode M_Mo_doesAny.2.1 78 = .ok (.aload_n 0, 1) := by decide +kernel
theorem d_Mo_doesAny_79 : decode M_Mo_doesAny.2.1 79 = .ok (.iload_n 1, 1) := by decide +kernel
theorem d_Mo_doesAny_80 : decode M_Mo_doesAny.2.1 80 = .ok (.invokevirtual 360, 3) := by decide +kernel
theorem d_Mo_doesAny_83 : decode M_Mo_doesAny.2.1 83 = .ok (.invokevirtual 463, 3) := by decide +kernel
theorem d_Mo_doesAny_86 : decode M_Mo_doesAny.2.1 86 = .ok (.ireturn, 1) := by decide +kernel
theorem d_Mo_believesBy_0 : decode M_Mo_believesBy.2.1 0 = .ok (.aload_n 0, 1) := by decide +kernel
theorem d_Mo_believesBy_1 : decode M_Mo_believesBy.2.1 1 = .ok (.iload_n 1, 1) := by decide +kernel
theorem d_Mo_believesBy_2 : decode M_Mo_believesBy.2.1 2 = .ok (.invokevirtual 343, 3) := by decide +kernel
theorem d_Mo_believesBy_5 : decode M_Mo_believesBy.2.1 5 = .ok (.iload_n 2, 1) := by decide +kernel
theorem d_Mo_believesBy_6 : decode M_Mo_believesBy.2.1 6 = .ok (.if_icmp .eq 7, 3) := by decide +kernel
theorem d_Mo_believesBy_9 : decode M_Mo_believesBy.2.1 9 = .ok (.iconst 1, 1) := by decide +kernel
theorem d_Mo_believesBy_10 : decode M_Mo_believesBy.2.1 10 = .ok (.goto 4, 3) := by decide +kernel
theorem d_Mo_believesBy_13 : decode M_Mo_believesBy.2.1 13 = .ok (.iconst 0, 1) := by decide +kernel
theorem d_Mo_believesBy_14 : decode M_Mo_believesBy.2.1 14 = .ok (.istore_n 3, 1) := by decide +kernel
theorem d_Mo_believesBy_15 : decode M_Mo_believesBy.2.1 15 = .ok (.aload_n 0, 1) := by decide +kernel
theorem d_Mo_believesBy_16 : decode M_Mo_believesBy.2.1 16 = .ok (.iload_n 1, 1) := by decide +kernel
theorem d_Mo_believesBy_17 : decode M_Mo_believesBy.2.1 17 = .ok (.iload_n 2, 1) := by decide +kernel
theorem d_Mo_believesBy_18 : decode M_Mo_believesBy.2.1 18 = .ok (.invokevirtual 371, 3) := by decide +kernel
theorem d_Mo_believesBy_21 : decode M_Mo_believesBy.2.1 21 = .ok (.iload_n 3, 1) := by decide +kernel
theorem d_Mo_believesBy_22 : decode M_Mo_believesBy.2.1 22 = .ok (.ireturn, 1) := by decide +kernel
theorem d_Mo_does_0 : decode M_Mo_does.2.1 0 = .ok (.aload_n 0, 1) := by decide +kernel
theorem d_Mo_does_1 : decode M_Mo_does.2.1 1 = .ok (.getfield 7, 3) := by decide +kernel
theorem d_Mo_does_4 : decode M_Mo_does.2.1 4 = .ok (.iload_n 1, 1) := by decide +kernel
theorem d_Mo_does_5 : decode M_Mo_does.2.1 5 = .ok (.iconst 1, 1) := by decide +kernel
theorem d_Mo_does_6 : decode M_Mo_does.2.1 6 = .ok (.iadd, 1) := by decide +kernel
theorem d_Mo_does_7 : decode M_Mo_does.2.1 7 = .ok (.iaload, 1) := by decide +kernel
theorem d_Mo_does_8 : decode M_Mo_does.2.1 8 = .ok (.istore_n 2, 1) := by decide +kernel
theorem d_Mo_does_9 : decode M_Mo_does.2.1 9 = .ok (.aload_n 0, 1) := by decide +kernel
theorem d_Mo_does_10 : decode M_Mo_does.2.1 10 = .ok (.getfield 7, 3) := by decide +kernel
theorem d_Mo_does_13 : decode M_Mo_does.2.1 13 = .ok (.iload_n 1, 1) := by decide +kernel
theorem d_Mo_does_14 : decode M_Mo_does.2.1 14 = .ok (.iaload, 1) := by decide +kernel
theorem d_Mo_does_15 : decode M_Mo_does.2.1 15 = .ok (.tableswitch 85 11 15 #[33, 44, 55, 66, 80], 33) := by decide +kernel
theorem d_Mo_does_48 : decode M_Mo_does.2.1 48 = .ok (.aload_n 0, 1) := by decide +kernel
theorem d_Mo_does_49 : decode M_Mo_does.2.1 49 = .ok (.iconst 1, 1) := by decide +kernel
theorem d_Mo_does_50 : decode M_Mo_does.2.1 50 = .ok (.aload_n 0, 1) := by decide +kernel
theorem d_Mo_does_51 : decode M_Mo_does.2.1 51 = .ok (.iload_n 2, 1) := by decide +kernel
theorem d_Mo_does_52 : decode M_Mo_does.2.1 52 = .ok (.invokevirtual 378, 3) := by decide +kernel
theorem d_Mo_does_55 : decode M_Mo_does.2.1 55 = .ok (.invokevirtual 463, 3) := by decide +kernel
theorem d_Mo_does_58 : decode M_Mo_does.2.1 58 = .ok (.ireturn, 1) := by decide +kernel
theorem d_Mo_does_59 : decode M_Mo_does.2.1 59 = .ok (.aload_n 0, 1) := by decide +kernel
theorem d_Mo_does_60 : decode M_Mo_does.2.1 60 = .ok (.iconst 2, 1) := by decide +kernel
theorem d_Mo_does_61 : decode M_Mo_does.2.1 61 = .ok (.aload_n 0, 1) := by decide +kernel
theorem d_Mo_does_62 : decode M_Mo_does.2.1 62 = .ok (.iload_n 2, 1) := by decide +kernel
theorem d_Mo_does_63 : decode M_Mo_does.2.1 63 = .ok (.invokevirtual 360, 3) := by decide +kernel
theorem d_Mo_does_66 : decode M_Mo_does.2.1 66 = .ok (.invokevirtual 463, 3) := by decide +kernel
theorem d_Mo_does_69 : decode M_Mo_does.2.1 69 = .ok (.ireturn, 1) := by decide +kernel
theorem d_Mo_does_70 : decode M_Mo_does.2.1 70 = .ok (.aload_n 0, 1) := by decide +kernel
theorem d_Mo_does_71 : decode M_Mo_does.2.1 71 = .ok (.iconst 3, 1) := by decide +kernel
theorem d_Mo_does_72 : decode M_Mo_does.2.1 72 = .ok (.aload_n 0, 1) := by decide +kernel
theorem d_Mo_does_73 : decode M_Mo_does.2.1 73 = .ok (.iload_n 2, 1) := by decide +kernel
theorem d_Mo_does_74 : decode M_Mo_does.2.1 74 = .ok (.invokevirtual 366, 3) := by decide +kernel
theorem d_Mo_does_77 : decode M_Mo_does.2.1 77 = .ok (.invokevirtual 463, 3) := by decide +kernel
theorem d_Mo_does_80 : decode M_Mo_does.2.1 80 = .ok (.ireturn, 1) := by decide +kernel
theorem d_Mo_does_81 : decode M_Mo_does.2.1 81 = .ok (.aload_n 0, 1) := by decide +kernel
theorem d_Mo_does_82 : decode M_Mo_does.2.1 82 = .ok (.iload_n 2, 1) := by decide +kernel
theorem d_Mo_does_83 : decode M_Mo_does.2.1 83 = .ok (.aload_n 0, 1) := by decide +kernel
theorem d_Mo_does_84 : decode M_Mo_does.2.1 84 = .ok (.getfield 7, 3) := by decide +kernel
theorem d_Mo_does_87 : decode M_Mo_does.2.1 87 = .ok (.iload_n 1, 1) := by decide +kernel
theorem d_Mo_does_88 : decode M_Mo_does.2.1 88 = .ok (.iconst 2, 1) := by decide +kernel
theorem d_Mo_does_89 : decode M_Mo_does.2.1 89 = .ok (.iadd, 1) := by decide +kernel
theorem d_Mo_does_90 : decode M_Mo_does.2.1 90 = .ok (.iaload, 1) := by decide +kernel
theorem d_Mo_does_91 : decode M_Mo_does.2.1 91 = .ok (.invokevirtual 467, 3) := by decide +kernel
theorem d_Mo_does_94 : decode M_Mo_does.2.1 94 = .ok (.ireturn, 1) := by decide +kernel
theorem d_Mo_does_95 : decode M_Mo_does.2.1 95 = .ok (.aload_n 0, 1) := by decide +kernel
theorem d_Mo_does_96 : decode M_Mo_does.2.1 96 = .ok (.invokevirtual 470, 3) := by decide +kernel
theorem d_Mo_does_99 : decode M_Mo_does.2.1 99 = .ok (.ireturn, 1) := by decide +kernel
theorem d_Mo_does_100 : decode M_Mo_does.2.1 100 = .ok (.iconst 1, 1) := by decide +kernel
theorem d_Mo_does_101 : decode M_Mo_does.2.1 101 = .ok (.ireturn, 1) := by decide +kernel
theorem d_Mo_holds_0 : decode M_Mo_holds.2.1 0 = .ok (.aload_n 0, 1) := by decide +kernel
theorem d_Mo_holds_1 : decode M_Mo_holds.2.1 1 = .ok (.getfield 7, 3) := by decide +kernel
theorem d_Mo_holds_4 : decode M_Mo_holds.2.1 4 = .ok (.iload_n 1, 1) := by decide +kernel
theorem d_Mo_holds_5 : decode M_Mo_holds.2.1 5 = .ok (.iconst 1, 1) := by decide +kernel
theorem d_Mo_holds_6 : decode M_Mo_holds.2.1 6 = .ok (.iadd, 1) := by decide +kernel
theorem d_Mo_holds_7 : decode M_Mo_holds.2.1 7 = .ok (.iaload, 1) := by decide +kernel
theorem d_Mo_holds_8 : decode M_Mo_holds.2.1 8 = .ok (.istore_n 2, 1) := by decide +kernel
theorem d_Mo_holds_9 : decode M_Mo_holds.2.1 9 = .ok (.aload_n 0, 1) := by decide +kernel
theorem d_Mo_holds_10 : decode M_Mo_holds.2.1 10 = .ok (.getfield 7, 3) := by decide +kernel
theorem d_Mo_holds_13 : decode M_Mo_holds.2.1 13 = .ok (.iload_n 1, 1) := by decide +kernel
theorem d_Mo_holds_14 : decode M_Mo_holds.2.1 14 = .ok (.iaload, 1) := by decide +kernel
theorem d_Mo_holds_15 : decode M_Mo_holds.2.1 15 = .ok (.sipush 1600, 3) := by decide +kernel
theorem d_Mo_holds_18 : decode M_Mo_holds.2.1 18 = .ok (.isub, 1) := by decide +kernel
theorem d_Mo_holds_19 : decode M_Mo_holds.2.1 19 = .ok (.tableswitch 61 20 22 #[25, 41, 46], 25) := by decide +kernel
theorem d_Mo_holds_44 : decode M_Mo_holds.2.1 44 = .ok (.aload_n 0, 1) := by decide +kernel
theorem d_Mo_holds_45 : decode M_Mo_holds.2.1 45 = .ok (.getfield 7, 3) := by decide +kernel
theorem d_Mo_holds_48 : decode M_Mo_holds.2.1 48 = .ok (.iconst 4, 1) := by decide +kernel
theorem d_Mo_holds_49 : decode M_Mo_holds.2.1 49 = .ok (.iaload, 1) := by decide +kernel
theorem d_Mo_holds_50 : decode M_Mo_holds.2.1 50 = .ok (.iload_n 2, 1) := by decide +kernel
theorem d_Mo_holds_51 : decode M_Mo_holds.2.1 51 = .ok (.if_icmp .ne 7, 3) := by decide +kernel
theorem d_Mo_holds_54 : decode M_Mo_holds.2.1 54 = .ok (.iconst 1, 1) := by decide +kernel
theorem d_Mo_holds_55 : decode M_Mo_holds.2.1 55 = .ok (.goto 4, 3) := by decide +kernel
theorem d_Mo_holds_58 : decode M_Mo_holds.2.1 58 = .ok (.iconst 0, 1) := by decide +kernel
theorem d_Mo_holds_59 : decode M_Mo_holds.2.1 59 = .ok (.ireturn, 1) := by decide +kernel
theorem d_Mo_holds_60 : decode M_Mo_holds.2.1 60 = .ok (.aload_n 0, 1) := by decide +kernel
theorem d_Mo_holds_61 : decode M_Mo_holds.2.1 61 = .ok (.invokevirtual 337, 3) := by decide +kernel
theorem d_Mo_holds_64 : decode M_Mo_holds.2.1 64 = .ok (.ireturn, 1) := by decide +kernel
theorem d_Mo_holds_65 : decode M_Mo_holds.2.1 65 = .ok (.aload_n 0, 1) := by decide +kernel
theorem d_Mo_holds_66 : decode M_Mo_holds.2.1 66 = .ok (.iconst 0, 1) := by decide +kernel
theorem d_Mo_holds_67 : decode M_Mo_holds.2.1 67 = .ok (.invokevirtual 315, 3) := by decide +kernel
theorem d_Mo_holds_70 : decode M_Mo_holds.2.1 70 = .ok (.aload_n 0, 1) := by decide +kernel
theorem d_Mo_holds_71 : decode M_Mo_holds.2.1 71 = .ok (.aload_n 0, 1) := by decide +kernel
theorem d_Mo_holds_72 : decode M_Mo_holds.2.1 72 = .ok (.invokevirtual 319, 3) := by decide +kernel
theorem d_Mo_holds_75 : decode M_Mo_holds.2.1 75 = .ok (.iload_n 2, 1) := by decide +kernel
theorem d_Mo_holds_76 : decode M_Mo_holds.2.1 76 = .ok (.invokevirtual 281, 3) := by decide +kernel
theorem d_Mo_holds_79 : decode M_Mo_holds.2.1 79 = .ok (.ireturn, 1) := by decide +kernel
theorem d_Mo_holds_80 : decode M_Mo_holds.2.1 80 = .ok (.aload_n 0, 1) := by decide +kernel
theorem d_Mo_holds_81 : decode M_Mo_holds.2.1 81 = .ok (.getfield 7, 3) := by decide +kernel
theorem d_Mo_holds_84 : decode M_Mo_holds.2.1 84 = .ok (.iconst 5, 1) := by decide +kernel
theorem d_Mo_holds_85 : decode M_Mo_holds.2.1 85 = .ok (.iaload, 1) := by decide +kernel
theorem d_Mo_holds_86 : decode M_Mo_holds.2.1 86 = .ok (.istore_n 3, 1) := by decide +kernel
theorem d_Mo_holds_87 : decode M_Mo_holds.2.1 87 = .ok (.aload_n 0, 1) := by decide +kernel
theorem d_Mo_holds_88 : decode M_Mo_holds.2.1 88 = .ok (.getfield 7, 3) := by decide +kernel
theorem d_Mo_holds_91 : decode M_Mo_holds.2.1 91 = .ok (.iload_n 1, 1) := by decide +kernel
theorem d_Mo_holds_92 : decode M_Mo_holds.2.1 92 = .ok (.iconst 5, 1) := by decide +kernel
theorem d_Mo_holds_93 : decode M_Mo_holds.2.1 93 = .ok (.iadd, 1) := by decide +kernel
theorem d_Mo_holds_94 : decode M_Mo_holds.2.1 94 = .ok (.iaload, 1) := by decide +kernel
theorem d_Mo_holds_95 : decode M_Mo_holds.2.1 95 = .ok (.bipush 60, 2) := by decide +kernel
theorem d_Mo_holds_97 : decode M_Mo_holds.2.1 97 = .ok (.if_icmp .ne 23, 3) := by decide +kernel
theorem d_Mo_holds_100 : decode M_Mo_holds.2.1 100 = .ok (.iload_n 3, 1) := by decide +kernel
theorem d_Mo_holds_101 : decode M_Mo_holds.2.1 101 = .ok (.aload_n 0, 1) := by decide +kernel
theorem d_Mo_holds_102 : decode M_Mo_holds.2.1 102 = .ok (.getfield 7, 3) := by decide +kernel
theorem d_Mo_holds_105 : decode M_Mo_holds.2.1 105 = .ok (.iload_n 1, 1) := by decide +kernel
theorem d_Mo_holds_106 : decode M_Mo_holds.2.1 106 = .ok (.iconst 2, 1) := by decide +kernel
theorem d_Mo_holds_107 : decode M_Mo_holds.2.1 107 = .ok (.iadd, 1) := by decide +kernel
theorem d_Mo_holds_108 : decode M_Mo_holds.2.1 108 = .ok (.iaload, 1) := by decide +kernel
theorem d_Mo_holds_109 : decode M_Mo_holds.2.1 109 = .ok (.if_icmp .ge 7, 3) := by decide +kernel
theorem d_Mo_holds_112 : decode M_Mo_holds.2.1 112 = .ok (.iconst 1, 1) := by decide +kernel
theorem d_Mo_holds_113 : decode M_Mo_holds.2.1 113 = .ok (.goto 57, 3) := by decide +kernel
theorem d_Mo_holds_116 : decode M_Mo_holds.2.1 116 = .ok (.iconst 0, 1) := by decide +kernel
theorem d_Mo_holds_117 : decode M_Mo_holds.2.1 117 = .ok (.goto 53, 3) := by decide +kernel
theorem d_Mo_holds_120 : decode M_Mo_holds.2.1 120 = .ok (.aload_n 0, 1) := by decide +kernel
theorem d_Mo_holds_121 : decode M_Mo_holds.2.1 121 = .ok (.getfield 7, 3) := by decide +kernel
theorem d_Mo_holds_124 : decode M_Mo_holds.2.1 124 = .ok (.iload_n 1, 1) := by decide +kernel
theorem d_Mo_holds_125 : decode M_Mo_holds.2.1 125 = .ok (.iconst 5, 1) := by decide +kernel
theorem d_Mo_holds_126 : decode M_Mo_holds.2.1 126 = .ok (.iadd, 1) := by decide +kernel
theorem d_Mo_holds_127 : decode M_Mo_holds.2.1 127 = .ok (.iaload, 1) := by decide +kernel
theorem d_Mo_holds_128 : decode M_Mo_holds.2.1 128 = .ok (.bipush 62, 2) := by decide +kernel
theorem d_Mo_holds_130 : decode M_Mo_holds.2.1 130 = .ok (.if_icmp .ne 23, 3) := by decide +kernel
theorem d_Mo_holds_133 : decode M_Mo_holds.2.1 133 = .ok (.iload_n 3, 1) := by decide +kernel
theorem d_Mo_holds_134 : decode M_Mo_holds.2.1 134 = .ok (.aload_n 0, 1) := by decide +kernel
theorem d_Mo_holds_135 : decode M_Mo_holds.2.1 135 = .ok (.getfield 7, 3) := by decide +kernel
theorem d_Mo_holds_138 : decode M_Mo_holds.2.1 138 = .ok (.iload_n 1, 1) := by decide +kernel
theorem d_Mo_holds_139 : decode M_Mo_holds.2.1 139 = .ok (.iconst 2, 1) := by decide +kernel
theorem d_Mo_holds_140 : decode M_Mo_holds.2.1 140 = .ok (.iadd, 1) := by decide +kernel
theorem d_Mo_holds_141 : decode M_Mo_holds.2.1 141 = .ok (.iaload, 1) := by decide +kernel
theorem d_Mo_holds_142 : decode M_Mo_holds.2.1 142 = .ok (.if_icmp .le 7, 3) := by decide +kernel
theorem d_Mo_holds_145 : decode M_Mo_holds.2.1 145 = .ok (.iconst 1, 1) := by decide +kernel
theorem d_Mo_holds_146 : decode M_Mo_holds.2.1 146 = .ok (.goto 24, 3) := by decide +kernel
theorem d_Mo_holds_149 : decode M_Mo_holds.2.1 149 = .ok (.iconst 0, 1) := by decide +kernel
theorem d_Mo_holds_150 : decode M_Mo_holds.2.1 150 = .ok (.goto 20, 3) := by decide +kernel
theorem d_Mo_holds_153 : decode M_Mo_holds.2.1 153 = .ok (.iload_n 3, 1) := by decide +kernel
theorem d_Mo_holds_154 : decode M_Mo_holds.2.1 154 = .ok (.aload_n 0, 1) := by decide +kernel
theorem d_Mo_holds_155 : decode M_Mo_holds.2.1 155 = .ok (.getfield 7, 3) := by decide +kernel
theorem d_Mo_holds_158 : decode M_Mo_holds.2.1 158 = .ok (.iload_n 1, 1) := by decide +kernel
theorem d_Mo_holds_159 : decode M_Mo_holds.2.1 159 = .ok (.iconst 2, 1) := by decide +kernel
theorem d_Mo_holds_160 : decode M_Mo_holds.2.1 160 = .ok (.iadd, 1) := by decide +kernel
theorem d_Mo_holds_161 : decode M_Mo_holds.2.1 161 = .ok (.iaload, 1) := by decide +kernel
theorem d_Mo_holds_162 : decode M_Mo_holds.2.1 162 = .ok (.if_icmp .ne 7, 3) := by decide +kernel
theorem d_Mo_holds_165 : decode M_Mo_holds.2.1 165 = .ok (.iconst 1, 1) := by decide +kernel
theorem d_Mo_holds_166 : decode M_Mo_holds.2.1 166 = .ok (.goto 4, 3) := by decide +kernel
theorem d_Mo_holds_169 : decode M_Mo_holds.2.1 169 = .ok (.iconst 0, 1) := by decide +kernel
theorem d_Mo_holds_170 : decode M_Mo_holds.2.1 170 = .ok (.ireturn, 1) := by decide +kernel
theorem d_Mo_behindEnds_0 : decode M_Mo_behindEnds.2.1 0 = .ok (.iload_n 1, 1) := by decide +kernel
theorem d_Mo_behindEnds_1 : decode M_Mo_behindEnds.2.1 1 = .ok (.istore_n 2, 1) := by decide +kernel
theorem d_Mo_behindEnds_2 : decode M_Mo_behindEnds.2.1 2 = .ok (.iload_n 2, 1) := by decide +kernel
theorem d_Mo_behindEnds_3 : decode M_Mo_behindEnds.2.1 3 = .ok (.aload_n 0, 1) := by decide +kernel
theorem d_Mo_behindEnds_4 : decode M_Mo_behindEnds.2.1 4 = .ok (.getfield 7, 3) := by decide +kernel
theorem d_Mo_behindEnds_7 : decode M_Mo_behindEnds.2.1 7 = .ok (.bipush 7, 2) := by decide +kernel
theorem d_Mo_behindEnds_9 : decode M_Mo_behindEnds.2.1 9 = .ok (.iaload, 1) := by decide +kernel
theorem d_Mo_behindEnds_10 : decode M_Mo_behindEnds.2.1 10 = .ok (.if_icmp .ge 105, 3) := by decide +kernel
theorem d_Mo_behindEnds_13 : decode M_Mo_behindEnds.2.1 13 = .ok (.aload_n 0, 1) := by decide +kernel
theorem d_Mo_behindEnds_14 : decode M_Mo_behindEnds.2.1 14 = .ok (.getfield 7, 3) := by decide +kernel
theorem d_Mo_behindEnds_17 : decode M_Mo_behindEnds.2.1 17 = .ok (.bipush 82, 2) := by decide +kernel
theorem d_Mo_behindEnds_19 : decode M_Mo_behindEnds.2.1 19 = .ok (.bipush 6, 2) := by decide +kernel
theorem d_Mo_behindEnds_21 : decode M_Mo_behindEnds.2.1 21 = .ok (.iload_n 2, 1) := by decide +kernel
theorem d_Mo_behindEnds_22 : decode M_Mo_behindEnds.2.1 22 = .ok (.imul, 1) := by decide +kernel
theorem d_Mo_behindEnds_23 : decode M_Mo_behindEnds.2.1 23 = .ok (.iadd, 1) := by decide +kernel
theorem d_Mo_behindEnds_24 : decode M_Mo_behindEnds.2.1 24 = .ok (.iaload, 1) := by decide +kernel
theorem d_Mo_behindEnds_25 : decode M_Mo_behindEnds.2.1 25 = .ok (.bipush 18, 2) := by decide +kernel
theorem d_Mo_behindEnds_27 : decode M_Mo_behindEnds.2.1 27 = .ok (.if_icmp .ne 88, 3) := by decide +kernel
theorem d_Mo_behindEnds_30 : decode M_Mo_behindEnds.2.1 30 = .ok (.aload_n 0, 1) := by decide +kernel
theorem d_Mo_behindEnds_31 : decode M_Mo_behindEnds.2.1 31 = .ok (.getfield 7, 3) := by decide +kernel
theorem d_Mo_behindEnds_34 : decode M_Mo_behindEnds.2.1 34 = .ok (.bipush 82, 2) := by decide +kernel
theorem d_Mo_behindEnds_36 : decode M_Mo_behindEnds.2.1 36 = .ok (.bipush 6, 2) := by decide +kernel
theorem d_Mo_behindEnds_38 : decode M_Mo_behindEnds.2.1 38 = .ok (.iload_n 2, 1) := by decide +kernel
theorem d_Mo_behindEnds_39 : decode M_Mo_behindEnds.2.1 39 = .ok (.imul, 1) := by decide +kernel
theorem d_Mo_behindEnds_40 : decode M_Mo_behindEnds.2.1 40 = .ok (.iadd, 1) := by decide +kernel
theorem d_Mo_behindEnds_41 : decode M_Mo_behindEnds.2.1 41 = .ok (.iconst 4, 1) := by decide +kernel
theorem d_Mo_behindEnds_42 : decode M_Mo_behindEnds.2.1 42 = .ok (.iadd, 1) := by decide +kernel
theorem d_Mo_behindEnds_43 : decode M_Mo_behindEnds.2.1 43 = .ok (.iaload, 1) := by decide +kernel
theorem d_Mo_behindEnds_44 : decode M_Mo_behindEnds.2.1 44 = .ok (.istore_n 3, 1) := by decide +kernel
theorem d_Mo_behindEnds_45 : decode M_Mo_behindEnds.2.1 45 = .ok (.aload_n 0, 1) := by decide +kernel
theorem d_Mo_behindEnds_46 : decode M_Mo_behindEnds.2.1 46 = .ok (.getfield 7, 3) := by decide +kernel
theorem d_Mo_behindEnds_49 : decode M_Mo_behindEnds.2.1 49 = .ok (.bipush 82, 2) := by decide +kernel
theorem d_Mo_behindEnds_51 : decode M_Mo_behindEnds.2.1 51 = .ok (.bipush 6, 2) := by decide +kernel
theorem d_Mo_behindEnds_53 : decode M_Mo_behindEnds.2.1 53 = .ok (.iload_n 3, 1) := by decide +kernel
theorem d_Mo_behindEnds_54 : decode M_Mo_behindEnds.2.1 54 = .ok (.imul, 1) := by decide +kernel
theorem d_Mo_behindEnds_55 : decode M_Mo_behindEnds.2.1 55 = .ok (.iadd, 1) := by decide +kernel
theorem d_Mo_behindEnds_56 : decode M_Mo_behindEnds.2.1 56 = .ok (.iaload, 1) := by decide +kernel
theorem d_Mo_behindEnds_57 : decode M_Mo_behindEnds.2.1 57 = .ok (.bipush 17, 2) := by decide +kernel
theorem d_Mo_behindEnds_59 : decode M_Mo_behindEnds.2.1 59 = .ok (.if_icmp .ne 16, 3) := by decide +kernel
theorem d_Mo_behindEnds_62 : decode M_Mo_behindEnds.2.1 62 = .ok (.aload_n 0, 1) := by decide +kernel
theorem d_Mo_behindEnds_63 : decode M_Mo_behindEnds.2.1 63 = .ok (.getfield 92, 3) := by decide +kernel
theorem d_Mo_behindEnds_66 : decode M_Mo_behindEnds.2.1 66 = .ok (.iload_n 3, 1) := by decide +kernel
theorem d_Mo_behindEnds_67 : decode M_Mo_behindEnds.2.1 67 = .ok (.iaload, 1) := by decide +kernel
theorem d_Mo_behindEnds_68 : decode M_Mo_behindEnds.2.1 68 = .ok (.ifCond .le 7, 3) := by decide +kernel
theorem d_Mo_behindEnds_71 : decode M_Mo_behindEnds.2.1 71 = .ok (.iconst 1, 1) := by decide +kernel
theorem d_Mo_behindEnds_72 : decode M_Mo_behindEnds.2.1 72 = .ok (.goto 4, 3) := by decide +kernel
theorem d_Mo_behindEnds_75 : decode M_Mo_behindEnds.2.1 75 = .ok (.iconst 0, 1) := by decide +kernel
theorem d_Mo_behindEnds_76 : decode M_Mo_behindEnds.2.1 76 = .ok (.istore 4, 2) := by decide +kernel
theorem d_Mo_behindEnds_78 : decode M_Mo_behindEnds.2.1 78 = .ok (.aload_n 0, 1) := by decide +kernel
theorem d_Mo_behindEnds_79 : decode M_Mo_behindEnds.2.1 79 = .ok (.getfield 92, 3) := by decide +kernel
theorem d_Mo_behindEnds_82 : decode M_Mo_behindEnds.2.1 82 = .ok (.iload_n 3, 1) := by decide +kernel
theorem d_Mo_behindEnds_83 : decode M_Mo_behindEnds.2.1 83 = .ok (.dup2, 1) := by decide +kernel
theorem d_Mo_behindEnds_84 : decode M_Mo_behindEnds.2.1 84 = .ok (.iaload, 1) := by decide +kernel
theorem d_Mo_behindEnds_85 : decode M_Mo_behindEnds.2.1 85 = .ok (.iload 4, 2) := by decide +kernel
theorem d_Mo_behindEnds_87 : decode M_Mo_behindEnds.2.1 87 = .ok (.ifCond .eq 7, 3) := by decide +kernel
theorem d_Mo_behindEnds_90 : decode M_Mo_behindEnds.2.1 90 = .ok (.iconst 1, 1) := by decide +kernel
theorem d_Mo_behindEnds_91 : decode M_Mo_behindEnds.2.1 91 = .ok (.goto 4, 3) := by decide +kernel
theorem d_Mo_behindEnds_94 : decode M_Mo_behindEnds.2.1 94 = .ok (.iconst 0, 1) := by decide +kernel
theorem d_Mo_behindEnds_95 : decode M_Mo_behindEnds.2.1 95 = .ok (.isub, 1) := by decide +kernel
theorem d_Mo_behindEnds_96 : decode M_Mo_behindEnds.2.1 96 = .ok (.iastore, 1) := by decide +kernel
theorem d_Mo_behindEnds_97 : decode M_Mo_behindEnds.2.1 97 = .ok (.iload 4, 2) := by decide +kernel
theorem d_Mo_behindEnds_99 : decode M_Mo_behindEnds.2.1 99 = .ok (.ifCond .eq 9, 3) := by decide +kernel
theorem d_Mo_behindEnds_102 : decode M_Mo_behindEnds.2.1 102 = .ok (.iload_n 3, 1) := by decide +kernel
theorem d_Mo_behindEnds_103 : decode M_Mo_behindEnds.2.1 103 = .ok (.iconst 1, 1) := by decide +kernel
theorem d_Mo_behindEnds_104 : decode M_Mo_behindEnds.2.1 104 = .ok (.iadd, 1) := by decide +kernel
theorem d_Mo_behindEnds_105 : decode M_Mo_behindEnds.2.1 105 = .ok (.goto 6, 3) := by decide +kernel
theorem d_Mo_behindEnds_108 : decode M_Mo_behindEnds.2.1 108 = .ok (.iload_n 2, 1) := by decide +kernel
theorem d_Mo_behindEnds_109 : decode M_Mo_behindEnds.2.1 109 = .ok (.iconst 1, 1) := by decide +kernel
theorem d_Mo_behindEnds_110 : decode M_Mo_behindEnds.2.1 110 = .ok (.iadd, 1) := by decide +kernel
theorem d_Mo_behindEnds_111 : decode M_Mo_behindEnds.2.1 111 = .ok (.istore_n 2, 1) := by decide +kernel
theorem d_Mo_behindEnds_112 : decode M_Mo_behindEnds.2.1 112 = .ok (.goto (-110), 3) := by decide +kernel
theorem d_Mo_behindEnds_115 : decode M_Mo_behindEnds.2.1 115 = .ok (.iload_n 2, 1) := by decide +kernel
theorem d_Mo_behindEnds_116 : decode M_Mo_behindEnds.2.1 116 = .ok (.ireturn, 1) := by decide +kernel
theorem d_Mo_lives_0 : decode M_Mo_lives.2.1 0 = .ok (.aload_n 0, 1) := by decide +kernel
theorem d_Mo_lives_1 : decode M_Mo_lives.2.1 1 = .ok (.iload_n 1, 1) := by decide +kernel
theorem d_Mo_lives_2 : decode M_Mo_lives.2.1 2 = .ok (.putfield 456, 3) := by decide +kernel
theorem d_Mo_lives_5 : decode M_Mo_lives.2.1 5 = .ok (.aload_n 0, 1) := by decide +kernel
theorem d_Mo_lives_6 : decode M_Mo_lives.2.1 6 = .ok (.iconst 0, 1) := by decide +kernel
theorem d_Mo_lives_7 : decode M_Mo_lives.2.1 7 = .ok (.putfield 473, 3) := by decide +kernel
theorem d_Mo_lives_10 : decode M_Mo_lives.2.1 10 = .ok (.iconst 0, 1) := by decide +kernel
theorem d_Mo_lives_11 : decode M_Mo_lives.2.1 11 = .ok (.istore_n 2, 1) := by decide +kernel
theorem d_Mo_lives_12 : decode M_Mo_lives.2.1 12 = .ok (.iload_n 2, 1) := by decide +kernel
theorem d_Mo_lives_13 : decode M_Mo_lives.2.1 13 = .ok (.iconst 5, 1) := by decide +kernel
theorem d_Mo_lives_14 : decode M_Mo_lives.2.1 14 = .ok (.if_icmp .ge 16, 3) := by decide +kernel
theorem d_Mo_lives_17 : decode M_Mo_lives.2.1 17 = .ok (.aload_n 0, 1) := by decide +kernel
theorem d_Mo_lives_18 : decode M_Mo_lives.2.1 18 = .ok (.getfield 95, 3) := by decide +kernel
theorem d_Mo_lives_21 : decode M_Mo_lives.2.1 21 = .ok (.iload_n 2, 1) := by decide +kernel
theorem d_Mo_lives_22 : decode M_Mo_lives.2.1 22 = .ok (.iconst 0, 1) := by decide +kernel
theorem d_Mo_lives_23 : decode M_Mo_lives.2.1 23 = .ok (.iastore, 1) := by decide +kernel
theorem d_Mo_lives_24 : decode M_Mo_lives.2.1 24 = .ok (.iinc 2 1, 3) := by decide +kernel
theorem d_Mo_lives_27 : decode M_Mo_lives.2.1 27 = .ok (.goto (-15), 3) := by decide +kernel
theorem d_Mo_lives_30 : decode M_Mo_lives.2.1 30 = .ok (.iconst 0, 1) := by decide +kernel
theorem d_Mo_lives_31 : decode M_Mo_lives.2.1 31 = .ok (.istore_n 2, 1) := by decide +kernel
theorem d_Mo_lives_32 : decode M_Mo_lives.2.1 32 = .ok (.iload_n 2, 1) := by decide +kernel
theorem d_Mo_lives_33 : decode M_Mo_lives.2.1 33 = .ok (.aload_n 0, 1) := by decide +kernel
theorem d_Mo_lives_34 : decode M_Mo_lives.2.1 34 = .ok (.getfield 7, 3) := by decide +kernel
theorem d_Mo_lives_37 : decode M_Mo_lives.2.1 37 = .ok (.bipush 7, 2) := by decide +kernel
theorem d_Mo_lives_39 : decode M_Mo_lives.2.1 39 = .ok (.iaload, 1) := by decide +kernel
theorem d_Mo_lives_40 : decode M_Mo_lives.2.1 40 = .ok (.if_icmp .ge 144, 3) := by decide +kernel
theorem d_Mo_lives_43 : decode M_Mo_lives.2.1 43 = .ok (.aload_n 0, 1) := by decide +kernel
theorem d_Mo_lives_44 : decode M_Mo_lives.2.1 44 = .ok (.getfield 473, 3) := by decide +kernel
theorem d_Mo_lives_47 : decode M_Mo_lives.2.1 47 = .ok (.sipush 300, 3) := by decide +kernel
theorem d_Mo_lives_50 : decode M_Mo_lives.2.1 50 = .ok (.if_icmp .ne 11, 3) := by decide +kernel
theorem d_Mo_lives_53 : decode M_Mo_lives.2.1 53 = .ok (.aload_n 0, 1) := by decide +kernel
theorem d_Mo_lives_54 : decode M_Mo_lives.2.1 54 = .ok (.getfield 95, 3) := by decide +kernel
theorem d_Mo_lives_57 : decode M_Mo_lives.2.1 57 = .ok (.iconst 4, 1) := by decide +kernel
theorem d_Mo_lives_58 : decode M_Mo_lives.2.1 58 = .ok (.iconst 1, 1) := by decide +kernel
theorem d_Mo_lives_59 : decode M_Mo_lives.2.1 59 = .ok (.iastore, 1) := by decide +kernel
theorem d_Mo_lives_60 : decode M_Mo_lives.2.1 60 = .ok (.return_, 1) := by decide +kernel
theorem d_Mo_lives_61 : decode M_Mo_lives.2.1 61 = .ok (.bipush 82, 2) := by decide +kernel
theorem d_Mo_lives_63 : decode M_Mo_lives.2.1 63 = .ok (.bipush 6, 2) := by decide +kernel
theorem d_Mo_lives_65 : decode M_Mo_lives.2.1 65 = .ok (.iload_n 2, 1) := by decide +kernel
theorem d_Mo_lives_66 : decode M_Mo_lives.2.1 66 = .ok (.imul, 1) := by decide +kernel
theorem d_Mo_lives_67 : decode M_Mo_lives.2.1 67 = .ok (.iadd, 1) := by decide +kernel
theorem d_Mo_lives_68 : decode M_Mo_lives.2.1 68 = .ok (.istore_n 3, 1) := by decide +kernel
theorem d_Mo_lives_69 : decode M_Mo_lives.2.1 69 = .ok (.aload_n 0, 1) := by decide +kernel
theorem d_Mo_lives_70 : decode M_Mo_lives.2.1 70 = .ok (.dup, 1) := by decide +kernel
theorem d_Mo_lives_71 : decode M_Mo_lives.2.1 71 = .ok (.getfield 473, 3) := by decide +kernel
theorem d_Mo_lives_74 : decode M_Mo_lives.2.1 74 = .ok (.iconst 1, 1) := by decide +kernel
theorem d_Mo_lives_75 : decode M_Mo_lives.2.1 75 = .ok (.iadd, 1) := by decide +kernel
theorem d_Mo_lives_76 : decode M_Mo_lives.2.1 76 = .ok (.putfield 473, 3) := by decide +kernel
theorem d_Mo_lives_79 : decode M_Mo_lives.2.1 79 = .ok (.aload_n 0, 1) := by decide +kernel
theorem d_Mo_lives_80 : decode M_Mo_lives.2.1 80 = .ok (.getfield 7, 3) := by decide +kernel
theorem d_Mo_lives_83 : decode M_Mo_lives.2.1 83 = .ok (.iload_n 3, 1) := by decide +kernel
theorem d_Mo_lives_84 : decode M_Mo_lives.2.1 84 = .ok (.iaload, 1) := by decide +kernel
theorem d_Mo_lives_85 : decode M_Mo_lives.2.1 85 = .ok (.bipush 19, 2) := by decide +kernel
theorem d_Mo_lives_87 : decode M_Mo_lives.2.1 87 = .ok (.if_icmp .ne 4, 3) := by decide +kernel
theorem d_Mo_lives_90 : decode M_Mo_lives.2.1 90 = .ok (.return_, 1) := by decide +kernel
theorem d_Mo_lives_91 : decode M_Mo_lives.2.1 91 = .ok (.aload_n 0, 1) := by decide +kernel
theorem d_Mo_lives_92 : decode M_Mo_lives.2.1 92 = .ok (.getfield 95, 3) := by decide +kernel
theorem d_Mo_lives_95 : decode M_Mo_lives.2.1 95 = .ok (.iconst 0, 1) := by decide +kernel
theorem d_Mo_lives_96 : decode M_Mo_lives.2.1 96 = .ok (.dup2, 1) := by decide +kernel
theorem d_Mo_lives_97 : decode M_Mo_lives.2.1 97 = .ok (.iaload, 1) := by decide +kernel
theorem d_Mo_lives_98 : decode M_Mo_lives.2.1 98 = .ok (.aload_n 0, 1) := by decide +kernel
theorem d_Mo_lives_99 : decode M_Mo_lives.2.1 99 = .ok (.iload_n 3, 1) := by decide +kernel
theorem d_Mo_lives_100 : decode M_Mo_lives.2.1 100 = .ok (.invokevirtual 476, 3) := by decide +kernel
theorem d_Mo_lives_103 : decode M_Mo_lives.2.1 103 = .ok (.ifCond .eq 7, 3) := by decide +kernel
theorem d_Mo_lives_106 : decode M_Mo_lives.2.1 106 = .ok (.iconst 0, 1) := by decide +kernel
theorem d_Mo_lives_107 : decode M_Mo_lives.2.1 107 = .ok (.goto 4, 3) := by decide +kernel
theorem d_Mo_lives_110 : decode M_Mo_lives.2.1 110 = .ok (.iconst 1, 1) := by decide +kernel
theorem d_Mo_lives_111 : decode M_Mo_lives.2.1 111 = .ok (.iadd, 1) := by decide +kernel
theorem d_Mo_lives_112 : decode M_Mo_lives.2.1 112 = .ok (.iastore, 1) := by decide +kernel
theorem d_Mo_lives_113 : decode M_Mo_lives.2.1 113 = .ok (.aload_n 0, 1) := by decide +kernel
theorem d_Mo_lives_114 : decode M_Mo_lives.2.1 114 = .ok (.getfield 7, 3) := by decide +kernel
theorem d_Mo_lives_117 : decode M_Mo_lives.2.1 117 = .ok (.iload_n 3, 1) := by decide +kernel
theorem d_Mo_lives_118 : decode M_Mo_lives.2.1 118 = .ok (.iaload, 1) := by decide +kernel
theorem d_Mo_lives_119 : decode M_Mo_lives.2.1 119 = .ok (.bipush 17, 2) := by decide +kernel
theorem d_Mo_lives_121 : decode M_Mo_lives.2.1 121 = .ok (.if_icmp .ne 19, 3) := by decide +kernel
theorem d_Mo_lives_124 : decode M_Mo_lives.2.1 124 = .ok (.aload_n 0, 1) := by decide +kernel
theorem d_Mo_lives_125 : decode M_Mo_lives.2.1 125 = .ok (.getfield 92, 3) := by decide +kernel
theorem d_Mo_lives_128 : decode M_Mo_lives.2.1 128 = .ok (.iload_n 2, 1) := by decide +kernel
theorem d_Mo_lives_129 : decode M_Mo_lives.2.1 129 = .ok (.aload_n 0, 1) := by decide +kernel
theorem d_Mo_lives_130 : decode M_Mo_lives.2.1 130 = .ok (.getfield 7, 3) := by decide +kernel
theorem d_Mo_lives_133 : decode M_Mo_lives.2.1 133 = .ok (.iload_n 3, 1) := by decide +kernel
theorem d_Mo_lives_134 : decode M_Mo_lives.2.1 134 = .ok (.iconst 1, 1) := by decide +kernel
theorem d_Mo_lives_135 : decode M_Mo_lives.2.1 135 = .ok (.iadd, 1) := by decide +kernel
theorem d_Mo_lives_136 : decode M_Mo_lives.2.1 136 = .ok (.iaload, 1) := by decide +kernel
theorem d_Mo_lives_137 : decode M_Mo_lives.2.1 137 = .ok (.iconst 1, 1) := by decide +kernel
theorem d_Mo_lives_138 : decode M_Mo_lives.2.1 138 = .ok (.isub, 1) := by decide +kernel
theorem d_Mo_lives_139 : decode M_Mo_lives.2.1 139 = .ok (.iastore, 1) := by decide +kernel
theorem d_Mo_lives_140 : decode M_Mo_lives.2.1 140 = .ok (.aload_n 0, 1) := by decide +kernel
theorem d_Mo_lives_141 : decode M_Mo_lives.2.1 141 = .ok (.aload_n 0, 1) := by decide +kernel
theorem d_Mo_lives_142 : decode M_Mo_lives.2.1 142 = .ok (.getfield 7, 3) := by decide +kernel
theorem d_Mo_lives_145 : decode M_Mo_lives.2.1 145 = .ok (.iload_n 3, 1) := by decide +kernel
theorem d_Mo_lives_146 : decode M_Mo_lives.2.1 146 = .ok (.iaload, 1) := by decide +kernel
theorem d_Mo_lives_147 : decode M_Mo_lives.2.1 147 = .ok (.sipush 1600, 3) := by decide +kernel
theorem d_Mo_lives_150 : decode M_Mo_lives.2.1 150 = .ok (.if_icmp .lt 24, 3) := by decide +kernel
theorem d_Mo_lives_153 : decode M_Mo_lives.2.1 153 = .ok (.aload_n 0, 1) := by decide +kernel
theorem d_Mo_lives_154 : decode M_Mo_lives.2.1 154 = .ok (.iload_n 3, 1) := by decide +kernel
theorem d_Mo_lives_155 : decode M_Mo_lives.2.1 155 = .ok (.invokevirtual 479, 3) := by decide +kernel
theorem d_Mo_lives_158 : decode M_Mo_lives.2.1 158 = .ok (.ifCond .ne 16, 3) := by decide +kernel
theorem d_Mo_lives_161 : decode M_Mo_lives.2.1 161 = .ok (.aload_n 0, 1) := by decide +kernel
theorem d_Mo_lives_162 : decode M_Mo_lives.2.1 162 = .ok (.getfield 7, 3) := by decide +kernel
theorem d_Mo_lives_165 : decode M_Mo_lives.2.1 165 = .ok (.iload_n 3, 1) := by decide +kernel
theorem d_Mo_lives_166 : decode M_Mo_lives.2.1 166 = .ok (.iconst 4, 1) := by decide +kernel
theorem d_Mo_lives_167 : decode M_Mo_lives.2.1 167 = .ok (.iadd, 1) := by decide +kernel
theorem d_Mo_lives_168 : decode M_Mo_lives.2.1 168 = .ok (.iaload, 1) := by decide +kernel
theorem d_Mo_lives_169 : decode M_Mo_lives.2.1 169 = .ok (.iconst 1, 1) := by decide +kernel
theorem d_Mo_lives_170 : decode M_Mo_lives.2.1 170 = .ok (.iadd, 1) := by decide +kernel
theorem d_Mo_lives_171 : decode M_Mo_lives.2.1 171 = .ok (.goto 6, 3) := by decide +kernel
theorem d_Mo_lives_174 : decode M_Mo_lives.2.1 174 = .ok (.iload_n 2, 1) := by decide +kernel
theorem d_Mo_lives_175 : decode M_Mo_lives.2.1 175 = .ok (.iconst 1, 1) := by decide +kernel
theorem d_Mo_lives_176 : decode M_Mo_lives.2.1 176 = .ok (.iadd, 1) := by decide +kernel
theorem d_Mo_lives_177 : decode M_Mo_lives.2.1 177 = .ok (.invokevirtual 482, 3) := by decide +kernel
theorem d_Mo_lives_180 : decode M_Mo_lives.2.1 180 = .ok (.istore_n 2, 1) := by decide +kernel
theorem d_Mo_lives_181 : decode M_Mo_lives.2.1 181 = .ok (.goto (-149), 3) := by decide +kernel
theorem d_Mo_lives_184 : decode M_Mo_lives.2.1 184 = .ok (.return_, 1) := by decide +kernel
theorem d_Mo_live_0 : decode M_Mo_live.2.1 0 = .ok (.iload_n 1, 1) := by decide +kernel
theorem d_Mo_live_1 : decode M_Mo_live.2.1 1 = .ok (.i2l, 1) := by decide +kernel
theorem d_Mo_live_2 : decode M_Mo_live.2.1 2 = .ok (.lconst 0, 1) := by decide +kernel
theorem d_Mo_live_3 : decode M_Mo_live.2.1 3 = .ok (.ldc2_w 485, 3) := by decide +kernel
theorem d_Mo_live_6 : decode M_Mo_live.2.1 6 = .ok (.invokestatic 356, 3) := by decide +kernel
theorem d_Mo_live_9 : decode M_Mo_live.2.1 9 = .ok (.ifCond .ne 9, 3) := by decide +kernel
theorem d_Mo_live_12 : decode M_Mo_live.2.1 12 = .ok (.aload_n 0, 1) := by decide +kernel
theorem d_Mo_live_13 : decode M_Mo_live.2.1 13 = .ok (.iconst 1, 1) := by decide +kernel
theorem d_Mo_live_14 : decode M_Mo_live.2.1 14 = .ok (.invokevirtual 111, 3) := by decide +kernel
theorem d_Mo_live_17 : decode M_Mo_live.2.1 17 = .ok (.ireturn, 1) := by decide +kernel
theorem d_Mo_live_18 : decode M_Mo_live.2.1 18 = .ok (.aload_n 0, 1) := by decide +kernel
theorem d_Mo_live_19 : decode M_Mo_live.2.1 19 = .ok (.getfield 7, 3) := by decide +kernel
theorem d_Mo_live_22 : decode M_Mo_live.2.1 22 = .ok (.bipush 7, 2) := by decide +kernel
theorem d_Mo_live_24 : decode M_Mo_live.2.1 24 = .ok (.iaload, 1) := by decide +kernel
theorem d_Mo_live_25 : decode M_Mo_live.2.1 25 = .ok (.iconst (-1), 1) := by decide +kernel
theorem d_Mo_live_26 : decode M_Mo_live.2.1 26 = .ok (.if_icmp .ne 10, 3) := by decide +kernel
theorem d_Mo_live_29 : decode M_Mo_live.2.1 29 = .ok (.aload_n 0, 1) := by decide +kernel
theorem d_Mo_live_30 : decode M_Mo_live.2.1 30 = .ok (.bipush 6, 2) := by decide +kernel
theorem d_Mo_live_32 : decode M_Mo_live.2.1 32 = .ok (.invokevirtual 111, 3) := by decide +kernel
theorem d_Mo_live_35 : decode M_Mo_live.2.1 35 = .ok (.ireturn, 1) := by decide +kernel
theorem d_Mo_live_36 : decode M_Mo_live.2.1 36 = .ok (.aload_n 0, 1) := by decide +kernel
theorem d_Mo_live_37 : decode M_Mo_live.2.1 37 = .ok (.iload_n 1, 1) := by decide +kernel
theorem d_Mo_live_38 : decode M_Mo_live.2.1 38 = .ok (.invokevirtual 487, 3) := by decide +kernel
theorem d_Mo_live_41 : decode M_Mo_live.2.1 41 = .ok (.iconst 0, 1) := by decide +kernel
theorem d_Mo_live_42 : decode M_Mo_live.2.1 42 = .ok (.istore_n 2, 1) := by decide +kernel
theorem d_Mo_live_43 : decode M_Mo_live.2.1 43 = .ok (.iload_n 2, 1) := by decide +kernel
theorem d_Mo_live_44 : decode M_Mo_live.2.1 44 = .ok (.iconst 5, 1) := by decide +kernel
theorem d_Mo_live_45 : decode M_Mo_live.2.1 45 = .ok (.if_icmp .ge 21, 3) := by decide +kernel
theorem d_Mo_live_48 : decode M_Mo_live.2.1 48 = .ok (.aload_n 0, 1) := by decide +kernel
theorem d_Mo_live_49 : decode M_Mo_live.2.1 49 = .ok (.getfield 98, 3) := by decide +kernel
theorem d_Mo_live_52 : decode M_Mo_live.2.1 52 = .ok (.iload_n 2, 1) := by decide +kernel
theorem d_Mo_live_53 : decode M_Mo_live.2.1 53 = .ok (.aload_n 0, 1) := by decide +kernel
theorem d_Mo_live_54 : decode M_Mo_live.2.1 54 = .ok (.getfield 95, 3) := by decide +kernel
theorem d_Mo_live_57 : decode M_Mo_live.2.1 57 = .ok (.iload_n 2, 1) := by decide +kernel
theorem d_Mo_live_58 : decode M_Mo_live.2.1 58 = .ok (.iaload, 1) := by decide +kernel
theorem d_Mo_live_59 : decode M_Mo_live.2.1 59 = .ok (.iastore, 1) := by decide +kernel
theorem d_Mo_live_60 : decode M_Mo_live.2.1 60 = .ok (.iinc 2 1, 3) := by decide +kernel
theorem d_Mo_live_63 : decode M_Mo_live.2.1 63 = .ok (.goto (-20), 3) := by decide +kernel
theorem d_Mo_live_66 : decode M_Mo_live.2.1 66 = .ok (.aload_n 0, 1) := by decide +kernel
theorem d_Mo_live_67 : decode M_Mo_live.2.1 67 = .ok (.iconst 1, 1) := by decide +kernel
theorem d_Mo_live_68 : decode M_Mo_live.2.1 68 = .ok (.putfield 490, 3) := by decide +kernel
theorem d_Mo_live_71 : decode M_Mo_live.2.1 71 = .ok (.aload_n 0, 1) := by decide +kernel
theorem d_Mo_live_72 : decode M_Mo_live.2.1 72 = .ok (.aload_n 0, 1) := by decide +kernel
theorem d_Mo_live_73 : decode M_Mo_live.2.1 73 = .ok (.getfield 473, 3) := by decide +kernel
theorem d_Mo_live_76 : decode M_Mo_live.2.1 76 = .ok (.invokevirtual 115, 3) := by decide +kernel
theorem d_Mo_live_79 : decode M_Mo_live.2.1 79 = .ok (.ireturn, 1) := by decide +kernel
theorem d_Mo_lived_0 : decode M_Mo_lived.2.1 0 = .ok (.iload_n 1, 1) := by decide +kernel
theorem d_Mo_lived_1 : decode M_Mo_lived.2.1 1 = .ok (.ifCond .lt 8, 3) := by decide +kernel
theorem d_Mo_lived_4 : decode M_Mo_lived.2.1 4 = .ok (.iload_n 1, 1) := by decide +kernel
theorem d_Mo_lived_5 : decode M_Mo_lived.2.1 5 = .ok (.iconst 4, 1) := by decide +kernel
theorem d_Mo_lived_6 : decode M_Mo_lived.2.1 6 = .ok (.if_icmp .le 11, 3) := by decide +kernel
theorem d_Mo_lived_9 : decode M_Mo_lived.2.1 9 = .ok (.aload_n 0, 1) := by decide +kernel
theorem d_Mo_lived_10 : decode M_Mo_lived.2.1 10 = .ok (.iconst 1, 1) := by decide +kernel
theorem d_Mo_lived_11 : decode M_Mo_lived.2.1 11 = .ok (.invokevirtual 111, 3) := by decide +kernel
theorem d_Mo_lived_14 : decode M_Mo_lived.2.1 14 = .ok (.goto 29, 3) := by decide +kernel
theorem d_Mo_lived_17 : decode M_Mo_lived.2.1 17 = .ok (.aload_n 0, 1) := by decide +kernel
theorem d_Mo_lived_18 : decode M_Mo_lived.2.1 18 = .ok (.getfield 490, 3) := by decide +kernel
theorem d_Mo_lived_21 : decode M_Mo_lived.2.1 21 = .ok (.ifCond .eq 16, 3) := by decide +kernel
theorem d_Mo_lived_24 : decode M_Mo_lived.2.1 24 = .ok (.aload_n 0, 1) := by decide +kernel
theorem d_Mo_lived_25 : decode M_Mo_lived.2.1 25 = .ok (.aload_n 0, 1) := by decide +kernel
theorem d_Mo_lived_26 : decode M_Mo_lived.2.1 26 = .ok (.getfield 98, 3) := by decide +kernel
theorem d_Mo_lived_29 : decode M_Mo_lived.2.1 29 = .ok (.iload_n 1, 1) := by decide +kernel
theorem d_Mo_lived_30 : decode M_Mo_lived.2.1 30 = .ok (.iaload, 1) := by decide +kernel
theorem d_Mo_lived_31 : decode M_Mo_lived.2.1 31 = .ok (.invokevirtual 115, 3) := by decide +kernel
theorem d_Mo_lived_34 : decode M_Mo_lived.2.1 34 = .ok (.goto 9, 3) := by decide +kernel
theorem d_Mo_lived_37 : decode M_Mo_lived.2.1 37 = .ok (.aload_n 0, 1) := by decide +kernel
theorem d_Mo_lived_38 : decode M_Mo_lived.2.1 38 = .ok (.bipush 6, 2) := by decide +kernel
theorem d_Mo_lived_40 : decode M_Mo_lived.2.1 40 = .ok (.invokevirtual 111, 3) := by decide +kernel
theorem d_Mo_lived_43 : decode M_Mo_lived.2.1 43 = .ok (.ireturn, 1) := by decide +kernel
theorem d_Mo_mean_0 : decode M_Mo_mean.2.1 0 = .ok (.iload_n 1, 1) := by decide +kernel
theorem d_Mo_mean_1 : decode M_Mo_mean.2.1 1 = .ok (.i2l, 1) := by decide +kernel
theorem d_Mo_mean_2 : decode M_Mo_mean.2.1 2 = .ok (.lconst 0, 1) := by decide +kernel
theorem d_Mo_mean_3 : decode M_Mo_mean.2.1 3 = .ok (.ldc2_w 485, 3) := by decide +kernel
theorem d_Mo_mean_6 : decode M_Mo_mean.2.1 6 = .ok (.invokestatic 356, 3) := by decide +kernel
theorem d_Mo_mean_9 : decode M_Mo_mean.2.1 9 = .ok (.ifCond .eq 26, 3) := by decide +kernel
theorem d_Mo_mean_12 : decode M_Mo_mean.2.1 12 = .ok (.iload_n 2, 1) := by decide +kernel
theorem d_Mo_mean_13 : decode M_Mo_mean.2.1 13 = .ok (.i2l, 1) := by decide +kernel
theorem d_Mo_mean_14 : decode M_Mo_mean.2.1 14 = .ok (.lconst 1, 1) := by decide +kernel
theorem d_Mo_mean_15 : decode M_Mo_mean.2.1 15 = .ok (.ldc2_w 439, 3) := by decide +kernel
theorem d_Mo_mean_18 : decode M_Mo_mean.2.1 18 = .ok (.invokestatic 356, 3) := by decide +kernel
theorem d_Mo_mean_21 : decode M_Mo_mean.2.1 21 = .ok (.ifCond .eq 14, 3) := by decide +kernel
theorem d_Mo_mean_24 : decode M_Mo_mean.2.1 24 = .ok (.iload_n 1, 1) := by decide +kernel
theorem d_Mo_mean_25 : decode M_Mo_mean.2.1 25 = .ok (.iload_n 2, 1) := by decide +kernel
theorem d_Mo_mean_26 : decode M_Mo_mean.2.1 26 = .ok (.iadd, 1) := by decide +kernel
theorem d_Mo_mean_27 : decode M_Mo_mean.2.1 27 = .ok (.iconst 1, 1) := by decide +kernel
theorem d_Mo_mean_28 : decode M_Mo_mean.2.1 28 = .ok (.isub, 1) := by decide +kernel
theorem d_Mo_mean_29 : decode M_Mo_mean.2.1 29 = .ok (.sipush 9999, 3) := by decide +kernel
theorem d_Mo_mean_32 : decode M_Mo_mean.2.1 32 = .ok (.if_icmp .le 9, 3) := by decide +kernel
theorem d_Mo_mean_35 : decode M_Mo_mean.2.1 35 = .ok (.aload_n 0, 1) := by decide +kernel
theorem d_Mo_mean_36 : decode M_Mo_mean.2.1 36 = .ok (.iconst 1, 1) := by decide +kernel
theorem d_Mo_mean_37 : decode M_Mo_mean.2.1 37 = .ok (.invokevirtual 118, 3) := by decide +kernel
theorem d_Mo_mean_40 : decode M_Mo_mean.2.1 40 = .ok (.ireturn, 1) := by decide +kernel
theorem d_Mo_mean_41 : decode M_Mo_mean.2.1 41 = .ok (.aload_n 0, 1) := by decide +kernel
theorem d_Mo_mean_42 : decode M_Mo_mean.2.1 42 = .ok (.getfield 7, 3) := by decide +kernel
theorem d_Mo_mean_45 : decode M_Mo_mean.2.1 45 = .ok (.bipush 7, 2) := by decide +kernel
theorem d_Mo_mean_47 : decode M_Mo_mean.2.1 47 = .ok (.iaload, 1) := by decide +kernel
theorem d_Mo_mean_48 : decode M_Mo_mean.2.1 48 = .ok (.iconst (-1), 1) := by decide +kernel
theorem d_Mo_mean_49 : decode M_Mo_mean.2.1 49 = .ok (.if_icmp .ne 10, 3) := by decide +kernel
theorem d_Mo_mean_52 : decode M_Mo_mean.2.1 52 = .ok (.aload_n 0, 1) := by decide +kernel
theorem d_Mo_mean_53 : decode M_Mo_mean.2.1 53 = .ok (.bipush 6, 2) := by decide +kernel
theorem d_Mo_mean_55 : decode M_Mo_mean.2.1 55 = .ok (.invokevirtual 118, 3) := by decide +kernel
theorem d_Mo_mean_58 : decode M_Mo_mean.2.1 58 = .ok (.ireturn, 1) := by decide +kernel
theorem d_Mo_mean_59 : decode M_Mo_mean.2.1 59 = .ok (.aload_n 0, 1) := by decide +kernel
theorem d_Mo_mean_60 : decode M_Mo_mean.2.1 60 = .ok (.sipush 2250, 3) := by decide +kernel
theorem d_Mo_mean_63 : decode M_Mo_mean.2.1 63 = .ok (.invokevirtual 493, 3) := by decide +kernel
theorem d_Mo_mean_66 : decode M_Mo_mean.2.1 66 = .ok (.lconst 0, 1) := by decide +kernel
theorem d_Mo_mean_67 : decode M_Mo_mean.2.1 67 = .ok (.lstore_n 3, 1) := by decide +kernel
theorem d_Mo_mean_68 : decode M_Mo_mean.2.1 68 = .ok (.iconst 0, 1) := by decide +kernel
theorem d_Mo_mean_69 : decode M_Mo_mean.2.1 69 = .ok (.istore 5, 2) := by decide +kernel
theorem d_Mo_mean_71 : decode M_Mo_mean.2.1 71 = .ok (.iload 5, 2) := by decide +kernel
theorem d_Mo_mean_73 : decode M_Mo_mean.2.1 73 = .ok (.iload_n 2, 1) := by decide +kernel
theorem d_Mo_mean_74 : decode M_Mo_mean.2.1 74 = .ok (.if_icmp .ge 35, 3) := by decide +kernel
theorem d_Mo_mean_77 : decode M_Mo_mean.2.1 77 = .ok (.aload_n 0, 1) := by decide +kernel
theorem d_Mo_mean_78 : decode M_Mo_mean.2.1 78 = .ok (.iload_n 1, 1) := by decide +kernel
theorem d_Mo_mean_79 : decode M_Mo_mean.2.1 79 = .ok (.iload 5, 2) := by decide +kernel
theorem d_Mo_mean_81 : decode M_Mo_mean.2.1 81 = .ok (.iadd, 1) := by decide +kernel
theorem d_Mo_mean_82 : decode M_Mo_mean.2.1 82 = .ok (.invokevirtual 487, 3) := by decide +kernel
theorem d_Mo_mean_85 : decode M_Mo_mean.2.1 85 = .ok (.lload_n 3, 1) := by decide +kernel
theorem d_Mo_mean_86 : decode M_Mo_mean.2.1 86 = .ok (.aload_n 0, 1) := by decide +kernel
theorem d_Mo_mean_87 : decode M_Mo_mean.2.1 87 = .ok (.invokevirtual 328, 3) := by decide +kernel
theorem d_Mo_mean_90 : decode M_Mo_mean.2.1 90 = .ok (.invokestatic 363, 3) := by decide +kernel
theorem d_Mo_mean_93 : decode M_Mo_mean.2.1 93 = .ok (.i2l, 1) := by decide +kernel
theorem d_Mo_mean_94 : decode M_Mo_mean.2.1 94 = .ok (.ladd, 1) := by decide +kernel
theorem d_Mo_mean_95 : decode M_Mo_mean.2.1 95 = .ok (.lstore_n 3, 1) := by decide +kernel
theorem d_Mo_mean_96 : decode M_Mo_mean.2.1 96 = .ok (.aload_n 0, 1) := by decide +kernel
theorem d_Mo_mean_97 : decode M_Mo_mean.2.1 97 = .ok (.sipush 2250, 3) := by decide +kernel
theorem d_Mo_mean_100 : decode M_Mo_mean.2.1 100 = .ok (.invokevirtual 496, 3) := by decide +kernel
theorem d_Mo_mean_103 : decode M_Mo_mean.2.1 103 = .ok (.iinc 5 1, 3) := by decide +kernel
theorem d_Mo_mean_106 : decode M_Mo_mean.2.1 106 = .ok (.goto (-35), 3) := by decide +kernel
theorem d_Mo_mean_109 : decode M_Mo_mean.2.1 109 = .ok (.aload_n 0, 1) := by decide +kernel
theorem d_Mo_mean_110 : decode M_Mo_mean.2.1 110 = .ok (.lload_n 3, 1) := by decide +kernel
theorem d_Mo_mean_111 : decode M_Mo_mean.2.1 111 = .ok (.iload_n 2, 1) := by decide +kernel
theorem d_Mo_mean_112 : decode M_Mo_mean.2.1 112 = .ok (.i2l, 1) := by decide +kernel
theorem d_Mo_mean_113 : decode M_Mo_mean.2.1 113 = .ok (.invokevirtual 407, 3) := by decide +kernel
theorem d_Mo_mean_116 : decode M_Mo_mean.2.1 116 = .ok (.ireturn, 1) := by decide +kernel
theorem d_Mo_copies_0 : decode M_Mo_copies.2.1 0 = .ok (.iconst 0, 1) := by decide +kernel
theorem d_Mo_copies_1 : decode M_Mo_copies.2.1 1 = .ok (.istore_n 3, 1) := by decide +kernel
theorem d_Mo_copies_2 : decode M_Mo_copies.2.1 2 = .ok (.iload_n 3, 1) := by decide +kernel
theorem d_Mo_copies_3 : decode M_Mo_copies.2.1 3 = .ok (.sipush 450, 3) := by decide +kernel
theorem d_Mo_copies_6 : decode M_Mo_copies.2.1 6 = .ok (.if_icmp .ge 33, 3) := by decide +kernel
theorem d_Mo_copies_9 : decode M_Mo_copies.2.1 9 = .ok (.aload_n 0, 1) := by decide +kernel
theorem d_Mo_copies_10 : decode M_Mo_copies.2.1 10 = .ok (.getfield 7, 3) := by decide +kernel
theorem d_Mo_copies_13 : decode M_Mo_copies.2.1 13 = .ok (.sipush 450, 3) := by decide +kernel
theorem d_Mo_copies_16 : decode M_Mo_copies.2.1 16 = .ok (.iload_n 2, 1) := by decide +kernel
theorem d_Mo_copies_17 : decode M_Mo_copies.2.1 17 = .ok (.imul, 1) := by decide +kernel
theorem d_Mo_copies_18 : decode M_Mo_copies.2.1 18 = .ok (.iload_n 3, 1) := by decide +kernel
theorem d_Mo_copies_19 : decode M_Mo_copies.2.1 19 = .ok (.iadd, 1) := by decide +kernel
theorem d_Mo_copies_20 : decode M_Mo_copies.2.1 20 = .ok (.aload_n 0, 1) := by decide +kernel
theorem d_Mo_copies_21 : decode M_Mo_copies.2.1 21 = .ok (.getfield 7, 3) := by decide +kernel
theorem d_Mo_copies_24 : decode M_Mo_copies.2.1 24 = .ok (.sipush 450, 3) := by decide +kernel
theorem d_Mo_copies_27 : decode M_Mo_copies.2.1 27 = .ok (.iload_n 1, 1) := by decide +kernel
theorem d_Mo_copies_28 : decode M_Mo_copies.2.1 28 = .ok (.imul, 1) := by decide +kernel
theorem d_Mo_copies_29 : decode M_Mo_copies.2.1 29 = .ok (.iload_n 3, 1) := by decide +kernel
theorem d_Mo_copies_30 : decode M_Mo_copies.2.1 30 = .ok (.iadd, 1) := by decide +kernel
theorem d_Mo_copies_31 : decode M_Mo_copies.2.1 31 = .ok (.iaload, 1) := by decide +kernel
theorem d_Mo_copies_32 : decode M_Mo_copies.2.1 32 = .ok (.iastore, 1) := by decide +kernel
theorem d_Mo_copies_33 : decode M_Mo_copies.2.1 33 = .ok (.iinc 3 1, 3) := by decide +kernel
theorem d_Mo_copies_36 : decode M_Mo_copies.2.1 36 = .ok (.goto (-34), 3) := by decide +kernel
theorem d_Mo_copies_39 : decode M_Mo_copies.2.1 39 = .ok (.iconst 0, 1) := by decide +kernel
theorem d_Mo_copies_40 : decode M_Mo_copies.2.1 40 = .ok (.istore_n 3, 1) := by decide +kernel
theorem d_Mo_copies_41 : decode M_Mo_copies.2.1 41 = .ok (.iload_n 3, 1) := by decide +kernel
theorem d_Mo_copies_42 : decode M_Mo_copies.2.1 42 = .ok (.bipush 11, 2) := by decide +kernel
theorem d_Mo_copies_44 : decode M_Mo_copies.2.1 44 = .ok (.if_icmp .ge 31, 3) := by decide +kernel
theorem d_Mo_copies_47 : decode M_Mo_copies.2.1 47 = .ok (.aload_n 0, 1) := by decide +kernel
theorem d_Mo_copies_48 : decode M_Mo_copies.2.1 48 = .ok (.getfield 13, 3) := by decide +kernel
theorem d_Mo_copies_51 : decode M_Mo_copies.2.1 51 = .ok (.bipush 11, 2) := by decide +kernel
theorem d_Mo_copies_53 : decode M_Mo_copies.2.1 53 = .ok (.iload_n 2, 1) := by decide +kernel
theorem d_Mo_copies_54 : decode M_Mo_copies.2.1 54 = .ok (.imul, 1) := by decide +kernel
theorem d_Mo_copies_55 : decode M_Mo_copies.2.1 55 = .ok (.iload_n 3, 1) := by decide +kernel
theorem d_Mo_copies_56 : decode M_Mo_copies.2.1 56 = .ok (.iadd, 1) := by decide +kernel
theorem d_Mo_copies_57 : decode M_Mo_copies.2.1 57 = .ok (.aload_n 0, 1) := by decide +kernel
theorem d_Mo_copies_58 : decode M_Mo_copies.2.1 58 = .ok (.getfield 13, 3) := by decide +kernel
theorem d_Mo_copies_61 : decode M_Mo_copies.2.1 61 = .ok (.bipush 11, 2) := by decide +kernel
theorem d_Mo_copies_63 : decode M_Mo_copies.2.1 63 = .ok (.iload_n 1, 1) := by decide +kernel
theorem d_Mo_copies_64 : decode M_Mo_copies.2.1 64 = .ok (.imul, 1) := by decide +kernel
theorem d_Mo_copies_65 : decode M_Mo_copies.2.1 65 = .ok (.iload_n 3, 1) := by decide +kernel
theorem d_Mo_copies_66 : decode M_Mo_copies.2.1 66 = .ok (.iadd, 1) := by decide +kernel
theorem d_Mo_copies_67 : decode M_Mo_copies.2.1 67 = .ok (.laload, 1) := by decide +kernel
theorem d_Mo_copies_68 : decode M_Mo_copies.2.1 68 = .ok (.lastore, 1) := by decide +kernel
theorem d_Mo_copies_69 : decode M_Mo_copies.2.1 69 = .ok (.iinc 3 1, 3) := by decide +kernel
theorem d_Mo_copies_72 : decode M_Mo_copies.2.1 72 = .ok (.goto (-31), 3) := by decide +kernel
theorem d_Mo_copies_75 : decode M_Mo_copies.2.1 75 = .ok (.return_, 1) := by decide +kernel
theorem d_Mo_mark_0 : decode M_Mo_mark.2.1 0 = .ok (.aload_n 0, 1) := by decide +kernel
theorem d_Mo_mark_1 : decode M_Mo_mark.2.1 1 = .ok (.getfield 499, 3) := by decide +kernel
theorem d_Mo_mark_4 : decode M_Mo_mark.2.1 4 = .ok (.iconst 3, 1) := by decide +kernel
theorem d_Mo_mark_5 : decode M_Mo_mark.2.1 5 = .ok (.if_icmp .ne 9, 3) := by decide +kernel
theorem d_Mo_mark_8 : decode M_Mo_mark.2.1 8 = .ok (.aload_n 0, 1) := by decide +kernel
theorem d_Mo_mark_9 : decode M_Mo_mark.2.1 9 = .ok (.iconst 4, 1) := by decide +kernel
theorem d_Mo_mark_10 : decode M_Mo_mark.2.1 10 = .ok (.invokevirtual 111, 3) := by decide +kernel
theorem d_Mo_mark_13 : decode M_Mo_mark.2.1 13 = .ok (.ireturn, 1) := by decide +kernel
theorem d_Mo_mark_14 : decode M_Mo_mark.2.1 14 = .ok (.aload_n 0, 1) := by decide +kernel
theorem d_Mo_mark_15 : decode M_Mo_mark.2.1 15 = .ok (.dup, 1) := by decide +kernel
theorem d_Mo_mark_16 : decode M_Mo_mark.2.1 16 = .ok (.getfield 499, 3) := by decide +kernel
theorem d_Mo_mark_19 : decode M_Mo_mark.2.1 19 = .ok (.iconst 1, 1) := by decide +kernel
theorem d_Mo_mark_20 : decode M_Mo_mark.2.1 20 = .ok (.iadd, 1) := by decide +kernel
theorem d_Mo_mark_21 : decode M_Mo_mark.2.1 21 = .ok (.putfield 499, 3) := by decide +kernel
theorem d_Mo_mark_24 : decode M_Mo_mark.2.1 24 = .ok (.aload_n 0, 1) := by decide +kernel
theorem d_Mo_mark_25 : decode M_Mo_mark.2.1 25 = .ok (.iconst 0, 1) := by decide +kernel
theorem d_Mo_mark_26 : decode M_Mo_mark.2.1 26 = .ok (.aload_n 0, 1) := by decide +kernel
theorem d_Mo_mark_27 : decode M_Mo_mark.2.1 27 = .ok (.getfield 499, 3) := by decide +kernel
theorem d_Mo_mark_30 : decode M_Mo_mark.2.1 30 = .ok (.invokevirtual 502, 3) := by decide +kernel
theorem d_Mo_mark_33 : decode M_Mo_mark.2.1 33 = .ok (.aload_n 0, 1) := by decide +kernel
theorem d_Mo_mark_34 : decode M_Mo_mark.2.1 34 = .ok (.aload_n 0, 1) := by decide +kernel
theorem d_Mo_mark_35 : decode M_Mo_mark.2.1 35 = .ok (.getfield 499, 3) := by decide +kernel
theorem d_Mo_mark_38 : decode M_Mo_mark.2.1 38 = .ok (.invokevirtual 115, 3) := by decide +kernel
theorem d_Mo_mark_41 : decode M_Mo_mark.2.1 41 = .ok (.ireturn, 1) := by decide +kernel
theorem d_Mo_undo_0 : decode M_Mo_undo.2.1 0 = .ok (.aload_n 0, 1) := by decide +kernel
theorem d_Mo_undo_1 : decode M_Mo_undo.2.1 1 = .ok (.getfield 499, 3) := by decide +kernel
theorem d_Mo_undo_4 : decode M_Mo_undo.2.1 4 = .ok (.ifCond .ne 10, 3) := by decide +kernel
theorem d_Mo_undo_7 : decode M_Mo_undo.2.1 7 = .ok (.aload_n 0, 1) := by decide +kernel
theorem d_Mo_undo_8 : decode M_Mo_undo.2.1 8 = .ok (.bipush 6, 2) := by decide +kernel
theorem d_Mo_undo_10 : decode M_Mo_undo.2.1 10 = .ok (.invokevirtual 111, 3) := by decide +kernel
theorem d_Mo_undo_13 : decode M_Mo_undo.2.1 13 = .ok (.ireturn, 1) := by decide +kernel
theorem d_Mo_undo_14 : decode M_Mo_undo.2.1 14 = .ok (.aload_n 0, 1) := by decide +kernel
theorem d_Mo_undo_15 : decode M_Mo_undo.2.1 15 = .ok (.aload_n 0, 1) := by decide +kernel
theorem d_Mo_undo_16 : decode M_Mo_undo.2.1 16 = .ok (.getfield 499, 3) := by decide +kernel
theorem d_Mo_undo_19 : decode M_Mo_undo.2.1 19 = .ok (.iconst 0, 1) := by decide +kernel
theorem d_Mo_undo_20 : decode M_Mo_undo.2.1 20 = .ok (.invokevirtual 502, 3) := by decide +kernel
theorem d_Mo_undo_23 : decode M_Mo_undo.2.1 23 = .ok (.aload_n 0, 1) := by decide +kernel
theorem d_Mo_undo_24 : decode M_Mo_undo.2.1 24 = .ok (.dup, 1) := by decide +kernel
theorem d_Mo_undo_25 : decode M_Mo_undo.2.1 25 = .ok (.getfield 499, 3) := by decide +kernel
theorem d_Mo_undo_28 : decode M_Mo_undo.2.1 28 = .ok (.iconst 1, 1) := by decide +kernel
theorem d_Mo_undo_29 : decode M_Mo_undo.2.1 29 = .ok (.isub, 1) := by decide +kernel
theorem d_Mo_undo_30 : decode M_Mo_undo.2.1 30 = .ok (.putfield 499, 3) := by decide +kernel
theorem d_Mo_undo_33 : decode M_Mo_undo.2.1 33 = .ok (.aload_n 0, 1) := by decide +kernel
theorem d_Mo_undo_34 : decode M_Mo_undo.2.1 34 = .ok (.aload_n 0, 1) := by decide +kernel
theorem d_Mo_undo_35 : decode M_Mo_undo.2.1 35 = .ok (.getfield 499, 3) := by decide +kernel
theorem d_Mo_undo_38 : decode M_Mo_undo.2.1 38 = .ok (.invokevirtual 115, 3) := by decide +kernel
theorem d_Mo_undo_41 : decode M_Mo_undo.2.1 41 = .ok (.ireturn, 1) := by decide +kernel
theorem d_JInt_bitCount_0 : decode M_JInt_bitCount.2.1 0 = .ok (.iload_n 0, 1) := by decide +kernel
theorem d_JInt_bitCount_1 : decode M_JInt_bitCount.2.1 1 = .ok (.iload_n 0, 1) := by decide +kernel
theorem d_JInt_bitCount_2 : decode M_JInt_bitCount.2.1 2 = .ok (.iconst 1, 1) := by decide +kernel
theorem d_JInt_bitCount_3 : decode M_JInt_bitCount.2.1 3 = .ok (.iushr, 1) := by decide +kernel
theorem d_JInt_bitCount_4 : decode M_JInt_bitCount.2.1 4 = .ok (.ldc_w 265, 3) := by decide +kernel
theorem d_JInt_bitCount_7 : decode M_JInt_bitCount.2.1 7 = .ok (.iand, 1) := by decide +kernel
theorem d_JInt_bitCount_8 : decode M_JInt_bitCount.2.1 8 = .ok (.isub, 1) := by decide +kernel
theorem d_JInt_bitCount_9 : decode M_JInt_bitCount.2.1 9 = .ok (.istore_n 0, 1) := by decide +kernel
theorem d_JInt_bitCount_10 : decode M_JInt_bitCount.2.1 10 = .ok (.iload_n 0, 1) := by decide +kernel
theorem d_JInt_bitCount_11 : decode M_JInt_bitCount.2.1 11 = .ok (.ldc_w 266, 3) := by decide +kernel
theorem d_JInt_bitCount_14 : decode M_JInt_bitCount.2.1 14 = .ok (.iand, 1) := by decide +kernel
theorem d_JInt_bitCount_15 : decode M_JInt_bitCount.2.1 15 = .ok (.iload_n 0, 1) := by decide +kernel
theorem d_JInt_bitCount_16 : decode M_JInt_bitCount.2.1 16 = .ok (.iconst 2, 1) := by decide +kernel
theorem d_JInt_bitCount_17 : decode M_JInt_bitCount.2.1 17 = .ok (.iushr, 1) := by decide +kernel
theorem d_JInt_bitCount_18 : decode M_JInt_bitCount.2.1 18 = .ok (.ldc_w 266, 3) := by decide +kernel
theorem d_JInt_bitCount_21 : decode M_JInt_bitCount.2.1 21 = .ok (.iand, 1) := by decide +kernel
theorem d_JInt_bitCount_22 : decode M_JInt_bitCount.2.1 22 = .ok (.iadd, 1) := by decide +kernel
theorem d_JInt_bitCount_23 : decode M_JInt_bitCount.2.1 23 = .ok (.istore_n 0, 1) := by decide +kernel
theorem d_JInt_bitCount_24 : decode M_JInt_bitCount.2.1 24 = .ok (.iload_n 0, 1) := by decide +kernel
theorem d_JInt_bitCount_25 : decode M_JInt_bitCount.2.1 25 = .ok (.iload_n 0, 1) := by decide +kernel
theorem d_JInt_bitCount_26 : decode M_JInt_bitCount.2.1 26 = .ok (.iconst 4, 1) := by decide +kernel
theorem d_JInt_bitCount_27 : decode M_JInt_bitCount.2.1 27 = .ok (.iushr, 1) := by decide +kernel
theorem d_JInt_bitCount_28 : decode M_JInt_bitCount.2.1 28 = .ok (.iadd, 1) := by decide +kernel
theorem d_JInt_bitCount_29 : decode M_JInt_bitCount.2.1 29 = .ok (.ldc_w 267, 3) := by decide +kernel
theorem d_JInt_bitCount_32 : decode M_JInt_bitCount.2.1 32 = .ok (.iand, 1) := by decide +kernel
theorem d_JInt_bitCount_33 : decode M_JInt_bitCount.2.1 33 = .ok (.istore_n 0, 1) := by decide +kernel
theorem d_JInt_bitCount_34 : decode M_JInt_bitCount.2.1 34 = .ok (.iload_n 0, 1) := by decide +kernel
theorem d_JInt_bitCount_35 : decode M_JInt_bitCount.2.1 35 = .ok (.iload_n 0, 1) := by decide +kernel
theorem d_JInt_bitCount_36 : decode M_JInt_bitCount.2.1 36 = .ok (.bipush 8, 2) := by decide +kernel
theorem d_JInt_bitCount_38 : decode M_JInt_bitCount.2.1 38 = .ok (.iushr, 1) := by decide +kernel
theorem d_JInt_bitCount_39 : decode M_JInt_bitCount.2.1 39 = .ok (.iadd, 1) := by decide +kernel
theorem d_JInt_bitCount_40 : decode M_JInt_bitCount.2.1 40 = .ok (.istore_n 0, 1) := by decide +kernel
theorem d_JInt_bitCount_41 : decode M_JInt_bitCount.2.1 41 = .ok (.iload_n 0, 1) := by decide +kernel
theorem d_JInt_bitCount_42 : decode M_JInt_bitCount.2.1 42 = .ok (.iload_n 0, 1) := by decide +kernel
theorem d_JInt_bitCount_43 : decode M_JInt_bitCount.2.1 43 = .ok (.bipush 16, 2) := by decide +kernel
theorem d_JInt_bitCount_45 : decode M_JInt_bitCount.2.1 45 = .ok (.iushr, 1) := by decide +kernel
theorem d_JInt_bitCount_46 : decode M_JInt_bitCount.2.1 46 = .ok (.iadd, 1) := by decide +kernel
theorem d_JInt_bitCount_47 : decode M_JInt_bitCount.2.1 47 = .ok (.istore_n 0, 1) := by decide +kernel
theorem d_JInt_bitCount_48 : decode M_JInt_bitCount.2.1 48 = .ok (.iload_n 0, 1) := by decide +kernel
theorem d_JInt_bitCount_49 : decode M_JInt_bitCount.2.1 49 = .ok (.bipush 63, 2) := by decide +kernel
theorem d_JInt_bitCount_51 : decode M_JInt_bitCount.2.1 51 = .ok (.iand, 1) := by decide +kernel
theorem d_JInt_bitCount_52 : decode M_JInt_bitCount.2.1 52 = .ok (.ireturn, 1) := by decide +kernel
theorem d_JMath_absI_0 : decode M_JMath_absI.2.1 0 = .ok (.iload_n 0, 1) := by decide +kernel
theorem d_JMath_absI_1 : decode M_JMath_absI.2.1 1 = .ok (.ifCond .ge 8, 3) := by decide +kernel
theorem d_JMath_absI_4 : decode M_JMath_absI.2.1 4 = .ok (.iload_n 0, 1) := by decide +kernel
theorem d_JMath_absI_5 : decode M_JMath_absI.2.1 5 = .ok (.ineg, 1) := by decide +kernel
theorem d_JMath_absI_6 : decode M_JMath_absI.2.1 6 = .ok (.goto 4, 3) := by decide +kernel
theorem d_JMath_absI_9 : decode M_JMath_absI.2.1 9 = .ok (.iload_n 0, 1) := by decide +kernel
theorem d_JMath_absI_10 : decode M_JMath_absI.2.1 10 = .ok (.ireturn, 1) := by decide +kernel
theorem d_JMath_absJ_0 : decode M_JMath_absJ.2.1 0 = .ok (.lload_n 0, 1) := by decide +kernel
theorem d_JMath_absJ_1 : decode M_JMath_absJ.2.1 1 = .ok (.lconst 0, 1) := by decide +kernel
theorem d_JMath_absJ_2 : decode M_JMath_absJ.2.1 2 = .ok (.lcmp, 1) := by decide +kernel
theorem d_JMath_absJ_3 : decode M_JMath_absJ.2.1 3 = .ok (.ifCond .ge 8, 3) := by decide +kernel
theorem d_JMath_absJ_6 : decode M_JMath_absJ.2.1 6 = .ok (.lload_n 0, 1) := by decide +kernel
theorem d_JMath_absJ_7 : decode M_JMath_absJ.2.1 7 = .ok (.lneg, 1) := by decide +kernel
theorem d_JMath_absJ_8 : decode M_JMath_absJ.2.1 8 = .ok (.goto 4, 3) := by decide +kernel
theorem d_JMath_absJ_11 : decode M_JMath_absJ.2.1 11 = .ok (.lload_n 0, 1) := by decide +kernel
theorem d_JMath_absJ_12 : decode M_JMath_absJ.2.1 12 = .ok (.lreturn, 1) := by decide +kernel
theorem d_JMath_max_0 : decode M_JMath_max.2.1 0 = .ok (.iload_n 0, 1) := by decide +kernel
theorem d_JMath_max_1 : decode M_JMath_max.2.1 1 = .ok (.iload_n 1, 1) := by decide +kernel
theorem d_JMath_max_2 : decode M_JMath_max.2.1 2 = .ok (.if_icmp .lt 7, 3) := by decide +kernel
theorem d_JMath_max_5 : decode M_JMath_max.2.1 5 = .ok (.iload_n 0, 1) := by decide +kernel
theorem d_JMath_max_6 : decode M_JMath_max.2.1 6 = .ok (.goto 4, 3) := by decide +kernel
theorem d_JMath_max_9 : decode M_JMath_max.2.1 9 = .ok (.iload_n 1, 1) := by decide +kernel
theorem d_JMath_max_10 : decode M_JMath_max.2.1 10 = .ok (.ireturn, 1) := by decide +kernel
theorem d_JMath_min_0 : decode M_JMath_min.2.1 0 = .ok (.iload_n 0, 1) := by decide +kernel
theorem d_JMath_min_1 : decode M_JMath_min.2.1 1 = .ok (.iload_n 1, 1) := by decide +kernel
theorem d_JMath_min_2 : decode M_JMath_min.2.1 2 = .ok (.if_icmp .gt 7, 3) := by decide +kernel
theorem d_JMath_min_5 : decode M_JMath_min.2.1 5 = .ok (.iload_n 0, 1) := by decide +kernel
theorem d_JMath_min_6 : decode M_JMath_min.2.1 6 = .ok (.goto 4, 3) := by decide +kernel
theorem d_JMath_min_9 : decode M_JMath_min.2.1 9 = .ok (.iload_n 1, 1) := by decide +kernel
theorem d_JMath_min_10 : decode M_JMath_min.2.1 10 = .ok (.ireturn, 1) := by decide +kernel
theorem d_JStr_length_0 : decode M_JStr_length.2.1 0 = .ok (.aload_n 0, 1) := by decide +kernel
theorem d_JStr_length_1 : decode M_JStr_length.2.1 1 = .ok (.getfield 9, 3) := by decide +kernel
theorem d_JStr_length_4 : decode M_JStr_length.2.1 4 = .ok (.arraylength, 1) := by decide +kernel
theorem d_JStr_length_5 : decode M_JStr_length.2.1 5 = .ok (.aload_n 0, 1) := by decide +kernel
theorem d_JStr_length_6 : decode M_JStr_length.2.1 6 = .ok (.invokevirtual 335, 3) := by decide +kernel
theorem d_JStr_length_9 : decode M_JStr_length.2.1 9 = .ok (.ishr, 1) := by decide +kernel
theorem d_JStr_length_10 : decode M_JStr_length.2.1 10 = .ok (.ireturn, 1) := by decide +kernel
theorem d_JStr_charAt_0 : decode M_JStr_charAt.2.1 0 = .ok (.aload_n 0, 1) := by decide +kernel
theorem d_JStr_charAt_1 : decode M_JStr_charAt.2.1 1 = .ok (.invokevirtual 492, 3) := by decide +kernel
theorem d_JStr_charAt_4 : decode M_JStr_charAt.2.1 4 = .ok (.ifCond .eq 12, 3) := by decide +kernel
theorem d_JStr_charAt_7 : decode M_JStr_charAt.2.1 7 = .ok (.aload_n 0, 1) := by decide +kernel
theorem d_JStr_charAt_8 : decode M_JStr_charAt.2.1 8 = .ok (.getfield 9, 3) := by decide +kernel
theorem d_JStr_charAt_11 : decode M_JStr_charAt.2.1 11 = .ok (.iload_n 1, 1) := by decide +kernel
theorem d_JStr_charAt_12 : decode M_JStr_charAt.2.1 12 = .ok (.invokestatic 495, 3) := by decide +kernel
theorem d_JStr_charAt_15 : decode M_JStr_charAt.2.1 15 = .ok (.ireturn, 1) := by decide +kernel
theorem d_JStr_charAt_16 : decode M_JStr_charAt.2.1 16 = .ok (.aload_n 0, 1) := by decide +kernel
theorem d_JStr_charAt_17 : decode M_JStr_charAt.2.1 17 = .ok (.getfield 9, 3) := by decide +kernel
theorem d_JStr_charAt_20 : decode M_JStr_charAt.2.1 20 = .ok (.iload_n 1, 1) := by decide +kernel
theorem d_JStr_charAt_21 : decode M_JStr_charAt.2.1 21 = .ok (.invokestatic 498, 3) := by decide +kernel
theorem d_JStr_charAt_24 : decode M_JStr_charAt.2.1 24 = .ok (.ireturn, 1) := by decide +kernel
theorem d_JStr_coder_0 : decode M_JStr_coder.2.1 0 = .ok (.getstatic 38, 3) := by decide +kernel
theorem d_JStr_coder_3 : decode M_JStr_coder.2.1 3 = .ok (.ifCond .eq 10, 3) := by decide +kernel
theorem d_JStr_coder_6 : decode M_JStr_coder.2.1 6 = .ok (.aload_n 0, 1) := by decide +kernel
theorem d_JStr_coder_7 : decode M_JStr_coder.2.1 7 = .ok (.getfield 15, 3) := by decide +kernel
theorem d_JStr_coder_10 : decode M_JStr_coder.2.1 10 = .ok (.goto 4, 3) := by decide +kernel
theorem d_JStr_coder_13 : decode M_JStr_coder.2.1 13 = .ok (.iconst 1, 1) := by decide +kernel
theorem d_JStr_coder_14 : decode M_JStr_coder.2.1 14 = .ok (.ireturn, 1) := by decide +kernel
theorem d_JStr_isLatin1_0 : decode M_JStr_isLatin1.2.1 0 = .ok (.getstatic 38, 3) := by decide +kernel
theorem d_JStr_isLatin1_3 : decode M_JStr_isLatin1.2.1 3 = .ok (.ifCond .eq 14, 3) := by decide +kernel
theorem d_JStr_isLatin1_6 : decode M_JStr_isLatin1.2.1 6 = .ok (.aload_n 0, 1) := by decide +kernel
theorem d_JStr_isLatin1_7 : decode M_JStr_isLatin1.2.1 7 = .ok (.getfield 15, 3) := by decide +kernel
theorem d_JStr_isLatin1_10 : decode M_JStr_isLatin1.2.1 10 = .ok (.ifCond .ne 7, 3) := by decide +kernel
theorem d_JStr_isLatin1_13 : decode M_JStr_isLatin1.2.1 13 = .ok (.iconst 1, 1) := by decide +kernel
theorem d_JStr_isLatin1_14 : decode M_JStr_isLatin1.2.1 14 = .ok (.goto 4, 3) := by decide +kernel
theorem d_JStr_isLatin1_17 : decode M_JStr_isLatin1.2.1 17 = .ok (.iconst 0, 1) := by decide +kernel
theorem d_JStr_isLatin1_18 : decode M_JStr_isLatin1.2.1 18 = .ok (.ireturn, 1) := by decide +kernel
theorem d_JStr_checkIndex_0 : decode M_JStr_checkIndex.2.1 0 = .ok (.iload_n 0, 1) := by decide +kernel
theorem d_JStr_checkIndex_1 : decode M_JStr_checkIndex.2.1 1 = .ok (.iload_n 1, 1) := by decide +kernel
theorem d_JStr_checkIndex_2 : decode M_JStr_checkIndex.2.1 2 = .ok (.getstatic 1053, 3) := by decide +kernel
theorem d_JStr_checkIndex_5 : decode M_JStr_checkIndex.2.1 5 = .ok (.invokestatic 1059, 3) := by decide +kernel
theorem d_JStr_checkIndex_8 : decode M_JStr_checkIndex.2.1 8 = .ok (.pop, 1) := by decide +kernel
theorem d_JStr_checkIndex_9 : decode M_JStr_checkIndex.2.1 9 = .ok (.return_, 1) := by decide +kernel
theorem d_JLat_charAt_0 : decode M_JLat_charAt.2.1 0 = .ok (.iload_n 1, 1) := by decide +kernel
theorem d_JLat_charAt_1 : decode M_JLat_charAt.2.1 1 = .ok (.aload_n 0, 1) := by decide +kernel
theorem d_JLat_charAt_2 : decode M_JLat_charAt.2.1 2 = .ok (.arraylength, 1) := by decide +kernel
theorem d_JLat_charAt_3 : decode M_JLat_charAt.2.1 3 = .ok (.invokestatic 9, 3) := by decide +kernel
theorem d_JLat_charAt_6 : decode M_JLat_charAt.2.1 6 = .ok (.aload_n 0, 1) := by decide +kernel
theorem d_JLat_charAt_7 : decode M_JLat_charAt.2.1 7 = .ok (.iload_n 1, 1) := by decide +kernel
theorem d_JLat_charAt_8 : decode M_JLat_charAt.2.1 8 = .ok (.baload, 1) := by decide +kernel
theorem d_JLat_charAt_9 : decode M_JLat_charAt.2.1 9 = .ok (.sipush 255, 3) := by decide +kernel
theorem d_JLat_charAt_12 : decode M_JLat_charAt.2.1 12 = .ok (.iand, 1) := by decide +kernel
theorem d_JLat_charAt_13 : decode M_JLat_charAt.2.1 13 = .ok (.i2c, 1) := by decide +kernel
theorem d_JLat_charAt_14 : decode M_JLat_charAt.2.1 14 = .ok (.ireturn, 1) := by decide +kernel
theorem d_JUtf_getChar_0 : decode M_JUtf_getChar.2.1 0 = .ok (.getstatic 44, 3) := by decide +kernel
theorem d_JUtf_getChar_3 : decode M_JUtf_getChar.2.1 3 = .ok (.ifCond .ne 25, 3) := by decide +kernel
theorem d_JUtf_getChar_6 : decode M_JUtf_getChar.2.1 6 = .ok (.iload_n 1, 1) := by decide +kernel
theorem d_JUtf_getChar_7 : decode M_JUtf_getChar.2.1 7 = .ok (.ifCond .lt 11, 3) := by decide +kernel
theorem d_JUtf_getChar_10 : decode M_JUtf_getChar.2.1 10 = .ok (.iload_n 1, 1) := by decide +kernel
theorem d_JUtf_getChar_11 : decode M_JUtf_getChar.2.1 11 = .ok (.aload_n 0, 1) := by decide +kernel
theorem d_JUtf_getChar_12 : decode M_JUtf_getChar.2.1 12 = .ok (.invokestatic 48, 3) := by decide +kernel
theorem d_JUtf_getChar_15 : decode M_JUtf_getChar.2.1 15 = .ok (.if_icmp .lt 13, 3) := by decide +kernel
theorem d_JUtf_getChar_18 : decode M_JUtf_getChar.2.1 18 = .ok (.new 52, 3) := by decide +kernel
theorem d_JUtf_getChar_21 : decode M_JUtf_getChar.2.1 21 = .ok (.dup, 1) := by decide +kernel
theorem d_JUtf_getChar_22 : decode M_JUtf_getChar.2.1 22 = .ok (.ldc 54, 2) := by decide +kernel
theorem d_JUtf_getChar_24 : decode M_JUtf_getChar.2.1 24 = .ok (.invokespecial 56, 3) := by decide +kernel
theorem d_JUtf_getChar_27 : decode M_JUtf_getChar.2.1 27 = .ok (.athrow, 1) := by decide +kernel
theorem d_JUtf_getChar_28 : decode M_JUtf_getChar.2.1 28 = .ok (.iload_n 1, 1) := by decide +kernel
theorem d_JUtf_getChar_29 : decode M_JUtf_getChar.2.1 29 = .ok (.iconst 1, 1) := by decide +kernel
theorem d_JUtf_getChar_30 : decode M_JUtf_getChar.2.1 30 = .ok (.ishl, 1) := by decide +kernel
theorem d_JUtf_getChar_31 : decode M_JUtf_getChar.2.1 31 = .ok (.istore_n 1, 1) := by decide +kernel
theorem d_JUtf_getChar_32 : decode M_JUtf_getChar.2.1 32 = .ok (.aload_n 0, 1) := by decide +kernel
theorem d_JUtf_getChar_33 : decode M_JUtf_getChar.2.1 33 = .ok (.iload_n 1, 1) := by decide +kernel
theorem d_JUtf_getChar_34 : decode M_JUtf_getChar.2.1 34 = .ok (.iinc 1 1, 3) := by decide +kernel
theorem d_JUtf_getChar_37 : decode M_JUtf_getChar.2.1 37 = .ok (.baload, 1) := by decide +kernel
theorem d_JUtf_getChar_38 : decode M_JUtf_getChar.2.1 38 = .ok (.sipush 255, 3) := by decide +kernel
theorem d_JUtf_getChar_41 : decode M_JUtf_getChar.2.1 41 = .ok (.iand, 1) := by decide +kernel
theorem d_JUtf_getChar_42 : decode M_JUtf_getChar.2.1 42 = .ok (.getstatic 59, 3) := by decide +kernel
theorem d_JUtf_getChar_45 : decode M_JUtf_getChar.2.1 45 = .ok (.ishl, 1) := by decide +kernel
theorem d_JUtf_getChar_46 : decode M_JUtf_getChar.2.1 46 = .ok (.aload_n 0, 1) := by decide +kernel
theorem d_JUtf_getChar_47 : decode M_JUtf_getChar.2.1 47 = .ok (.iload_n 1, 1) := by decide +kernel
theorem d_JUtf_getChar_48 : decode M_JUtf_getChar.2.1 48 = .ok (.baload, 1) := by decide +kernel
theorem d_JUtf_getChar_49 : decode M_JUtf_getChar.2.1 49 = .ok (.sipush 255, 3) := by decide +kernel
theorem d_JUtf_getChar_52 : decode M_JUtf_getChar.2.1 52 = .ok (.iand, 1) := by decide +kernel
theorem d_JUtf_getChar_53 : decode M_JUtf_getChar.2.1 53 = .ok (.getstatic 63, 3) := by decide +kernel
theorem d_JUtf_getChar_56 : decode M_JUtf_getChar.2.1 56 = .ok (.ishl, 1) := by decide +kernel
theorem d_JUtf_getChar_57 : decode M_JUtf_getChar.2.1 57 = .ok (.ior, 1) := by decide +kernel
theorem d_JUtf_getChar_58 : decode M_JUtf_getChar.2.1 58 = .ok (.i2c, 1) := by decide +kernel
theorem d_JUtf_getChar_59 : decode M_JUtf_getChar.2.1 59 = .ok (.ireturn, 1) := by decide +kernel
theorem d_JUtf_length_0 : decode M_JUtf_length.2.1 0 = .ok (.aload_n 0, 1) := by decide +kernel
theorem d_JUtf_length_1 : decode M_JUtf_length.2.1 1 = .ok (.arraylength, 1) := by decide +kernel
theorem d_JUtf_length_2 : decode M_JUtf_length.2.1 2 = .ok (.iconst 1, 1) := by decide +kernel
theorem d_JUtf_length_3 : decode M_JUtf_length.2.1 3 = .ok (.ishr, 1) := by decide +kernel
theorem d_JUtf_length_4 : decode M_JUtf_length.2.1 4 = .ok (.ireturn, 1) := by decide +kernel
theorem d_JUtf_charAt_0 : decode M_JUtf_charAt.2.1 0 = .ok (.iload_n 1, 1) := by decide +kernel
theorem d_JUtf_charAt_1 : decode M_JUtf_charAt.2.1 1 = .ok (.aload_n 0, 1) := by decide +kernel
theorem d_JUtf_charAt_2 : decode M_JUtf_charAt.2.1 2 = .ok (.invokestatic 67, 3) := by decide +kernel
theorem d_JUtf_charAt_5 : decode M_JUtf_charAt.2.1 5 = .ok (.aload_n 0, 1) := by decide +kernel
theorem d_JUtf_charAt_6 : decode M_JUtf_charAt.2.1 6 = .ok (.iload_n 1, 1) := by decide +kernel
theorem d_JUtf_charAt_7 : decode M_JUtf_charAt.2.1 7 = .ok (.invokestatic 71, 3) := by decide +kernel
theorem d_JUtf_charAt_10 : decode M_JUtf_charAt.2.1 10 = .ok (.ireturn, 1) := by decide +kernel
theorem d_JUtf_checkIndex_0 : decode M_JUtf_checkIndex.2.1 0 = .ok (.iload_n 0, 1) := by decide +kernel
theorem d_JUtf_checkIndex_1 : decode M_JUtf_checkIndex.2.1 1 = .ok (.aload_n 1, 1) := by decide +kernel
