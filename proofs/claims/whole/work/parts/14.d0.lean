theorem d_Chart_init_0 : decode M_Chart_init.2.1 0 = .ok (.aload_n 0, 1) := by decide +kernel
theorem d_Chart_init_1 : decode M_Chart_init.2.1 1 = .ok (.invokespecial 3, 3) := by decide +kernel
theorem d_Chart_init_4 : decode M_Chart_init.2.1 4 = .ok (.aload_n 0, 1) := by decide +kernel
theorem d_Chart_init_5 : decode M_Chart_init.2.1 5 = .ok (.bipush 12, 2) := by decide +kernel
theorem d_Chart_init_7 : decode M_Chart_init.2.1 7 = .ok (.newarray .int, 2) := by decide +kernel
theorem d_Chart_init_9 : decode M_Chart_init.2.1 9 = .ok (.putfield 9, 3) := by decide +kernel
theorem d_Chart_init_12 : decode M_Chart_init.2.1 12 = .ok (.aload_n 0, 1) := by decide +kernel
theorem d_Chart_init_13 : decode M_Chart_init.2.1 13 = .ok (.bipush 12, 2) := by decide +kernel
theorem d_Chart_init_15 : decode M_Chart_init.2.1 15 = .ok (.newarray .int, 2) := by decide +kernel
theorem d_Chart_init_17 : decode M_Chart_init.2.1 17 = .ok (.putfield 15, 3) := by decide +kernel
theorem d_Chart_init_20 : decode M_Chart_init.2.1 20 = .ok (.aload_n 0, 1) := by decide +kernel
theorem d_Chart_init_21 : decode M_Chart_init.2.1 21 = .ok (.bipush 7, 2) := by decide +kernel
theorem d_Chart_init_23 : decode M_Chart_init.2.1 23 = .ok (.newarray .int, 2) := by decide +kernel
theorem d_Chart_init_25 : decode M_Chart_init.2.1 25 = .ok (.putfield 18, 3) := by decide +kernel
theorem d_Chart_init_28 : decode M_Chart_init.2.1 28 = .ok (.aload_n 0, 1) := by decide +kernel
theorem d_Chart_init_29 : decode M_Chart_init.2.1 29 = .ok (.bipush 7, 2) := by decide +kernel
theorem d_Chart_init_31 : decode M_Chart_init.2.1 31 = .ok (.newarray .int, 2) := by decide +kernel
theorem d_Chart_init_33 : decode M_Chart_init.2.1 33 = .ok (.putfield 21, 3) := by decide +kernel
theorem d_Chart_init_36 : decode M_Chart_init.2.1 36 = .ok (.aload_n 0, 1) := by decide +kernel
theorem d_Chart_init_37 : decode M_Chart_init.2.1 37 = .ok (.bipush 7, 2) := by decide +kernel
theorem d_Chart_init_39 : decode M_Chart_init.2.1 39 = .ok (.newarray .int, 2) := by decide +kernel
theorem d_Chart_init_41 : decode M_Chart_init.2.1 41 = .ok (.putfield 24, 3) := by decide +kernel
theorem d_Chart_init_44 : decode M_Chart_init.2.1 44 = .ok (.aload_n 0, 1) := by decide +kernel
theorem d_Chart_init_45 : decode M_Chart_init.2.1 45 = .ok (.bipush 7, 2) := by decide +kernel
theorem d_Chart_init_47 : decode M_Chart_init.2.1 47 = .ok (.newarray .int, 2) := by decide +kernel
theorem d_Chart_init_49 : decode M_Chart_init.2.1 49 = .ok (.putfield 27, 3) := by decide +kernel
theorem d_Chart_init_52 : decode M_Chart_init.2.1 52 = .ok (.aload_n 0, 1) := by decide +kernel
theorem d_Chart_init_53 : decode M_Chart_init.2.1 53 = .ok (.bipush 7, 2) := by decide +kernel
theorem d_Chart_init_55 : decode M_Chart_init.2.1 55 = .ok (.newarray .boolean, 2) := by decide +kernel
theorem d_Chart_init_57 : decode M_Chart_init.2.1 57 = .ok (.putfield 30, 3) := by decide +kernel
theorem d_Chart_init_60 : decode M_Chart_init.2.1 60 = .ok (.aload_n 0, 1) := by decide +kernel
theorem d_Chart_init_61 : decode M_Chart_init.2.1 61 = .ok (.iconst 0, 1) := by decide +kernel
theorem d_Chart_init_62 : decode M_Chart_init.2.1 62 = .ok (.putfield 34, 3) := by decide +kernel
theorem d_Chart_init_65 : decode M_Chart_init.2.1 65 = .ok (.aload_n 0, 1) := by decide +kernel
theorem d_Chart_init_66 : decode M_Chart_init.2.1 66 = .ok (.iconst 0, 1) := by decide +kernel
theorem d_Chart_init_67 : decode M_Chart_init.2.1 67 = .ok (.putfield 38, 3) := by decide +kernel
theorem d_Chart_init_70 : decode M_Chart_init.2.1 70 = .ok (.return_, 1) := by decide +kernel
theorem d_Chart_draw_0 : decode M_Chart_draw.2.1 0 = .ok (.aload_n 0, 1) := by decide +kernel
theorem d_Chart_draw_1 : decode M_Chart_draw.2.1 1 = .ok (.aload_n 1, 1) := by decide +kernel
theorem d_Chart_draw_2 : decode M_Chart_draw.2.1 2 = .ok (.invokevirtual 41, 3) := by decide +kernel
theorem d_Chart_draw_5 : decode M_Chart_draw.2.1 5 = .ok (.aload_n 0, 1) := by decide +kernel
theorem d_Chart_draw_6 : decode M_Chart_draw.2.1 6 = .ok (.aload_n 1, 1) := by decide +kernel
theorem d_Chart_draw_7 : decode M_Chart_draw.2.1 7 = .ok (.aload_n 1, 1) := by decide +kernel
theorem d_Chart_draw_8 : decode M_Chart_draw.2.1 8 = .ok (.invokevirtual 45, 3) := by decide +kernel
theorem d_Chart_draw_11 : decode M_Chart_draw.2.1 11 = .ok (.invokevirtual 51, 3) := by decide +kernel
theorem d_Chart_draw_14 : decode M_Chart_draw.2.1 14 = .ok (.aload_n 0, 1) := by decide +kernel
theorem d_Chart_draw_15 : decode M_Chart_draw.2.1 15 = .ok (.aload_n 1, 1) := by decide +kernel
theorem d_Chart_draw_16 : decode M_Chart_draw.2.1 16 = .ok (.invokevirtual 55, 3) := by decide +kernel
theorem d_Chart_draw_19 : decode M_Chart_draw.2.1 19 = .ok (.return_, 1) := by decide +kernel
theorem d_Chart_measure_0 : decode M_Chart_measure.2.1 0 = .ok (.iconst 0, 1) := by decide +kernel
theorem d_Chart_measure_1 : decode M_Chart_measure.2.1 1 = .ok (.istore_n 2, 1) := by decide +kernel
theorem d_Chart_measure_2 : decode M_Chart_measure.2.1 2 = .ok (.iload_n 2, 1) := by decide +kernel
theorem d_Chart_measure_3 : decode M_Chart_measure.2.1 3 = .ok (.aload_n 1, 1) := by decide +kernel
theorem d_Chart_measure_4 : decode M_Chart_measure.2.1 4 = .ok (.getfield 58, 3) := by decide +kernel
theorem d_Chart_measure_7 : decode M_Chart_measure.2.1 7 = .ok (.if_icmp .ge 45, 3) := by decide +kernel
theorem d_Chart_measure_10 : decode M_Chart_measure.2.1 10 = .ok (.aload_n 1, 1) := by decide +kernel
theorem d_Chart_measure_11 : decode M_Chart_measure.2.1 11 = .ok (.getfield 61, 3) := by decide +kernel
theorem d_Chart_measure_14 : decode M_Chart_measure.2.1 14 = .ok (.aload_n 1, 1) := by decide +kernel
theorem d_Chart_measure_15 : decode M_Chart_measure.2.1 15 = .ok (.getfield 64, 3) := by decide +kernel
theorem d_Chart_measure_18 : decode M_Chart_measure.2.1 18 = .ok (.iload_n 2, 1) := by decide +kernel
theorem d_Chart_measure_19 : decode M_Chart_measure.2.1 19 = .ok (.iaload, 1) := by decide +kernel
theorem d_Chart_measure_20 : decode M_Chart_measure.2.1 20 = .ok (.iaload, 1) := by decide +kernel
theorem d_Chart_measure_21 : decode M_Chart_measure.2.1 21 = .ok (.istore_n 3, 1) := by decide +kernel
theorem d_Chart_measure_22 : decode M_Chart_measure.2.1 22 = .ok (.aload_n 0, 1) := by decide +kernel
theorem d_Chart_measure_23 : decode M_Chart_measure.2.1 23 = .ok (.getfield 9, 3) := by decide +kernel
theorem d_Chart_measure_26 : decode M_Chart_measure.2.1 26 = .ok (.iload_n 2, 1) := by decide +kernel
theorem d_Chart_measure_27 : decode M_Chart_measure.2.1 27 = .ok (.aload_n 1, 1) := by decide +kernel
theorem d_Chart_measure_28 : decode M_Chart_measure.2.1 28 = .ok (.iload_n 2, 1) := by decide +kernel
theorem d_Chart_measure_29 : decode M_Chart_measure.2.1 29 = .ok (.iload_n 3, 1) := by decide +kernel
theorem d_Chart_measure_30 : decode M_Chart_measure.2.1 30 = .ok (.invokevirtual 67, 3) := by decide +kernel
theorem d_Chart_measure_33 : decode M_Chart_measure.2.1 33 = .ok (.iastore, 1) := by decide +kernel
theorem d_Chart_measure_34 : decode M_Chart_measure.2.1 34 = .ok (.aload_n 0, 1) := by decide +kernel
theorem d_Chart_measure_35 : decode M_Chart_measure.2.1 35 = .ok (.getfield 15, 3) := by decide +kernel
theorem d_Chart_measure_38 : decode M_Chart_measure.2.1 38 = .ok (.iload_n 2, 1) := by decide +kernel
theorem d_Chart_measure_39 : decode M_Chart_measure.2.1 39 = .ok (.aload_n 1, 1) := by decide +kernel
theorem d_Chart_measure_40 : decode M_Chart_measure.2.1 40 = .ok (.iload_n 2, 1) := by decide +kernel
theorem d_Chart_measure_41 : decode M_Chart_measure.2.1 41 = .ok (.iload_n 3, 1) := by decide +kernel
theorem d_Chart_measure_42 : decode M_Chart_measure.2.1 42 = .ok (.invokevirtual 71, 3) := by decide +kernel
theorem d_Chart_measure_45 : decode M_Chart_measure.2.1 45 = .ok (.iastore, 1) := by decide +kernel
theorem d_Chart_measure_46 : decode M_Chart_measure.2.1 46 = .ok (.iinc 2 1, 3) := by decide +kernel
theorem d_Chart_measure_49 : decode M_Chart_measure.2.1 49 = .ok (.goto (-47), 3) := by decide +kernel
theorem d_Chart_measure_52 : decode M_Chart_measure.2.1 52 = .ok (.return_, 1) := by decide +kernel
theorem d_Chart_measureBy_0 : decode M_Chart_measureBy.2.1 0 = .ok (.iconst 0, 1) := by decide +kernel
theorem d_Chart_measureBy_1 : decode M_Chart_measureBy.2.1 1 = .ok (.istore 4, 2) := by decide +kernel
theorem d_Chart_measureBy_3 : decode M_Chart_measureBy.2.1 3 = .ok (.iload 4, 2) := by decide +kernel
theorem d_Chart_measureBy_5 : decode M_Chart_measureBy.2.1 5 = .ok (.aload_n 1, 1) := by decide +kernel
theorem d_Chart_measureBy_6 : decode M_Chart_measureBy.2.1 6 = .ok (.getfield 58, 3) := by decide +kernel
theorem d_Chart_measureBy_9 : decode M_Chart_measureBy.2.1 9 = .ok (.if_icmp .ge 48, 3) := by decide +kernel
theorem d_Chart_measureBy_12 : decode M_Chart_measureBy.2.1 12 = .ok (.aload_n 1, 1) := by decide +kernel
theorem d_Chart_measureBy_13 : decode M_Chart_measureBy.2.1 13 = .ok (.getfield 64, 3) := by decide +kernel
theorem d_Chart_measureBy_16 : decode M_Chart_measureBy.2.1 16 = .ok (.iload 4, 2) := by decide +kernel
theorem d_Chart_measureBy_18 : decode M_Chart_measureBy.2.1 18 = .ok (.iaload, 1) := by decide +kernel
theorem d_Chart_measureBy_19 : decode M_Chart_measureBy.2.1 19 = .ok (.iload_n 2, 1) := by decide +kernel
theorem d_Chart_measureBy_20 : decode M_Chart_measureBy.2.1 20 = .ok (.if_icmp .ne 31, 3) := by decide +kernel
theorem d_Chart_measureBy_23 : decode M_Chart_measureBy.2.1 23 = .ok (.aload_n 0, 1) := by decide +kernel
theorem d_Chart_measureBy_24 : decode M_Chart_measureBy.2.1 24 = .ok (.getfield 9, 3) := by decide +kernel
theorem d_Chart_measureBy_27 : decode M_Chart_measureBy.2.1 27 = .ok (.iload 4, 2) := by decide +kernel
theorem d_Chart_measureBy_29 : decode M_Chart_measureBy.2.1 29 = .ok (.aload_n 1, 1) := by decide +kernel
theorem d_Chart_measureBy_30 : decode M_Chart_measureBy.2.1 30 = .ok (.iload 4, 2) := by decide +kernel
theorem d_Chart_measureBy_32 : decode M_Chart_measureBy.2.1 32 = .ok (.iload_n 3, 1) := by decide +kernel
theorem d_Chart_measureBy_33 : decode M_Chart_measureBy.2.1 33 = .ok (.invokevirtual 67, 3) := by decide +kernel
theorem d_Chart_measureBy_36 : decode M_Chart_measureBy.2.1 36 = .ok (.iastore, 1) := by decide +kernel
theorem d_Chart_measureBy_37 : decode M_Chart_measureBy.2.1 37 = .ok (.aload_n 0, 1) := by decide +kernel
theorem d_Chart_measureBy_38 : decode M_Chart_measureBy.2.1 38 = .ok (.getfield 15, 3) := by decide +kernel
theorem d_Chart_measureBy_41 : decode M_Chart_measureBy.2.1 41 = .ok (.iload 4, 2) := by decide +kernel
theorem d_Chart_measureBy_43 : decode M_Chart_measureBy.2.1 43 = .ok (.aload_n 1, 1) := by decide +kernel
theorem d_Chart_measureBy_44 : decode M_Chart_measureBy.2.1 44 = .ok (.iload 4, 2) := by decide +kernel
theorem d_Chart_measureBy_46 : decode M_Chart_measureBy.2.1 46 = .ok (.iload_n 3, 1) := by decide +kernel
theorem d_Chart_measureBy_47 : decode M_Chart_measureBy.2.1 47 = .ok (.invokevirtual 71, 3) := by decide +kernel
theorem d_Chart_measureBy_50 : decode M_Chart_measureBy.2.1 50 = .ok (.iastore, 1) := by decide +kernel
theorem d_Chart_measureBy_51 : decode M_Chart_measureBy.2.1 51 = .ok (.iinc 4 1, 3) := by decide +kernel
theorem d_Chart_measureBy_54 : decode M_Chart_measureBy.2.1 54 = .ok (.goto (-51), 3) := by decide +kernel
theorem d_Chart_measureBy_57 : decode M_Chart_measureBy.2.1 57 = .ok (.return_, 1) := by decide +kernel
theorem d_Chart_trace_0 : decode M_Chart_trace.2.1 0 = .ok (.aload_n 0, 1) := by decide +kernel
theorem d_Chart_trace_1 : decode M_Chart_trace.2.1 1 = .ok (.getfield 24, 3) := by decide +kernel
theorem d_Chart_trace_4 : decode M_Chart_trace.2.1 4 = .ok (.iconst (-1), 1) := by decide +kernel
theorem d_Chart_trace_5 : decode M_Chart_trace.2.1 5 = .ok (.invokestatic 74, 3) := by decide +kernel
theorem d_Chart_trace_8 : decode M_Chart_trace.2.1 8 = .ok (.aload_n 0, 1) := by decide +kernel
theorem d_Chart_trace_9 : decode M_Chart_trace.2.1 9 = .ok (.iconst 0, 1) := by decide +kernel
theorem d_Chart_trace_10 : decode M_Chart_trace.2.1 10 = .ok (.putfield 34, 3) := by decide +kernel
theorem d_Chart_trace_13 : decode M_Chart_trace.2.1 13 = .ok (.aload_n 0, 1) := by decide +kernel
theorem d_Chart_trace_14 : decode M_Chart_trace.2.1 14 = .ok (.iconst 0, 1) := by decide +kernel
theorem d_Chart_trace_15 : decode M_Chart_trace.2.1 15 = .ok (.putfield 38, 3) := by decide +kernel
theorem d_Chart_trace_18 : decode M_Chart_trace.2.1 18 = .ok (.iconst (-1), 1) := by decide +kernel
theorem d_Chart_trace_19 : decode M_Chart_trace.2.1 19 = .ok (.istore_n 3, 1) := by decide +kernel
theorem d_Chart_trace_20 : decode M_Chart_trace.2.1 20 = .ok (.iconst 0, 1) := by decide +kernel
theorem d_Chart_trace_21 : decode M_Chart_trace.2.1 21 = .ok (.istore 4, 2) := by decide +kernel
theorem d_Chart_trace_23 : decode M_Chart_trace.2.1 23 = .ok (.iload 4, 2) := by decide +kernel
theorem d_Chart_trace_25 : decode M_Chart_trace.2.1 25 = .ok (.aload_n 1, 1) := by decide +kernel
theorem d_Chart_trace_26 : decode M_Chart_trace.2.1 26 = .ok (.getfield 80, 3) := by decide +kernel
theorem d_Chart_trace_29 : decode M_Chart_trace.2.1 29 = .ok (.if_icmp .ge 132, 3) := by decide +kernel
theorem d_Chart_trace_32 : decode M_Chart_trace.2.1 32 = .ok (.aload_n 0, 1) := by decide +kernel
theorem d_Chart_trace_33 : decode M_Chart_trace.2.1 33 = .ok (.aload_n 1, 1) := by decide +kernel
theorem d_Chart_trace_34 : decode M_Chart_trace.2.1 34 = .ok (.iload_n 2, 1) := by decide +kernel
theorem d_Chart_trace_35 : decode M_Chart_trace.2.1 35 = .ok (.invokevirtual 83, 3) := by decide +kernel
theorem d_Chart_trace_38 : decode M_Chart_trace.2.1 38 = .ok (.istore 5, 2) := by decide +kernel
theorem d_Chart_trace_40 : decode M_Chart_trace.2.1 40 = .ok (.iload 5, 2) := by decide +kernel
theorem d_Chart_trace_42 : decode M_Chart_trace.2.1 42 = .ok (.iconst (-1), 1) := by decide +kernel
theorem d_Chart_trace_43 : decode M_Chart_trace.2.1 43 = .ok (.if_icmp .ne 29, 3) := by decide +kernel
theorem d_Chart_trace_46 : decode M_Chart_trace.2.1 46 = .ok (.aload_n 0, 1) := by decide +kernel
theorem d_Chart_trace_47 : decode M_Chart_trace.2.1 47 = .ok (.aload_n 1, 1) := by decide +kernel
theorem d_Chart_trace_48 : decode M_Chart_trace.2.1 48 = .ok (.invokevirtual 87, 3) := by decide +kernel
theorem d_Chart_trace_51 : decode M_Chart_trace.2.1 51 = .ok (.istore_n 3, 1) := by decide +kernel
theorem d_Chart_trace_52 : decode M_Chart_trace.2.1 52 = .ok (.aload_n 0, 1) := by decide +kernel
theorem d_Chart_trace_53 : decode M_Chart_trace.2.1 53 = .ok (.getfield 24, 3) := by decide +kernel
theorem d_Chart_trace_56 : decode M_Chart_trace.2.1 56 = .ok (.iload_n 3, 1) := by decide +kernel
theorem d_Chart_trace_57 : decode M_Chart_trace.2.1 57 = .ok (.iload_n 3, 1) := by decide +kernel
theorem d_Chart_trace_58 : decode M_Chart_trace.2.1 58 = .ok (.iastore, 1) := by decide +kernel
theorem d_Chart_trace_59 : decode M_Chart_trace.2.1 59 = .ok (.aload_n 0, 1) := by decide +kernel
theorem d_Chart_trace_60 : decode M_Chart_trace.2.1 60 = .ok (.dup, 1) := by decide +kernel
theorem d_Chart_trace_61 : decode M_Chart_trace.2.1 61 = .ok (.getfield 38, 3) := by decide +kernel
theorem d_Chart_trace_64 : decode M_Chart_trace.2.1 64 = .ok (.iconst 1, 1) := by decide +kernel
theorem d_Chart_trace_65 : decode M_Chart_trace.2.1 65 = .ok (.iadd, 1) := by decide +kernel
theorem d_Chart_trace_66 : decode M_Chart_trace.2.1 66 = .ok (.putfield 38, 3) := by decide +kernel
theorem d_Chart_trace_69 : decode M_Chart_trace.2.1 69 = .ok (.goto 86, 3) := by decide +kernel
theorem d_Chart_trace_72 : decode M_Chart_trace.2.1 72 = .ok (.aload_n 0, 1) := by decide +kernel
theorem d_Chart_trace_73 : decode M_Chart_trace.2.1 73 = .ok (.getfield 24, 3) := by decide +kernel
theorem d_Chart_trace_76 : decode M_Chart_trace.2.1 76 = .ok (.aload_n 1, 1) := by decide +kernel
theorem d_Chart_trace_77 : decode M_Chart_trace.2.1 77 = .ok (.getfield 91, 3) := by decide +kernel
theorem d_Chart_trace_80 : decode M_Chart_trace.2.1 80 = .ok (.iload 5, 2) := by decide +kernel
theorem d_Chart_trace_82 : decode M_Chart_trace.2.1 82 = .ok (.iaload, 1) := by decide +kernel
theorem d_Chart_trace_83 : decode M_Chart_trace.2.1 83 = .ok (.iaload, 1) := by decide +kernel
theorem d_Chart_trace_84 : decode M_Chart_trace.2.1 84 = .ok (.iconst (-1), 1) := by decide +kernel
theorem d_Chart_trace_85 : decode M_Chart_trace.2.1 85 = .ok (.if_icmp .ne 7, 3) := by decide +kernel
theorem d_Chart_trace_88 : decode M_Chart_trace.2.1 88 = .ok (.iconst 1, 1) := by decide +kernel
theorem d_Chart_trace_89 : decode M_Chart_trace.2.1 89 = .ok (.goto 4, 3) := by decide +kernel
theorem d_Chart_trace_92 : decode M_Chart_trace.2.1 92 = .ok (.iconst 0, 1) := by decide +kernel
theorem d_Chart_trace_93 : decode M_Chart_trace.2.1 93 = .ok (.istore 6, 2) := by decide +kernel
theorem d_Chart_trace_95 : decode M_Chart_trace.2.1 95 = .ok (.aload_n 0, 1) := by decide +kernel
theorem d_Chart_trace_96 : decode M_Chart_trace.2.1 96 = .ok (.getfield 24, 3) := by decide +kernel
theorem d_Chart_trace_99 : decode M_Chart_trace.2.1 99 = .ok (.iload 6, 2) := by decide +kernel
theorem d_Chart_trace_101 : decode M_Chart_trace.2.1 101 = .ok (.ifCond .eq 13, 3) := by decide +kernel
theorem d_Chart_trace_104 : decode M_Chart_trace.2.1 104 = .ok (.aload_n 1, 1) := by decide +kernel
theorem d_Chart_trace_105 : decode M_Chart_trace.2.1 105 = .ok (.getfield 91, 3) := by decide +kernel
theorem d_Chart_trace_108 : decode M_Chart_trace.2.1 108 = .ok (.iload 5, 2) := by decide +kernel
theorem d_Chart_trace_110 : decode M_Chart_trace.2.1 110 = .ok (.iaload, 1) := by decide +kernel
theorem d_Chart_trace_111 : decode M_Chart_trace.2.1 111 = .ok (.goto 10, 3) := by decide +kernel
theorem d_Chart_trace_114 : decode M_Chart_trace.2.1 114 = .ok (.aload_n 1, 1) := by decide +kernel
theorem d_Chart_trace_115 : decode M_Chart_trace.2.1 115 = .ok (.getfield 94, 3) := by decide +kernel
theorem d_Chart_trace_118 : decode M_Chart_trace.2.1 118 = .ok (.iload 5, 2) := by decide +kernel
theorem d_Chart_trace_120 : decode M_Chart_trace.2.1 120 = .ok (.iaload, 1) := by decide +kernel
theorem d_Chart_trace_121 : decode M_Chart_trace.2.1 121 = .ok (.iload_n 3, 1) := by decide +kernel
theorem d_Chart_trace_122 : decode M_Chart_trace.2.1 122 = .ok (.iastore, 1) := by decide +kernel
theorem d_Chart_trace_123 : decode M_Chart_trace.2.1 123 = .ok (.aload_n 0, 1) := by decide +kernel
theorem d_Chart_trace_124 : decode M_Chart_trace.2.1 124 = .ok (.getfield 27, 3) := by decide +kernel
theorem d_Chart_trace_127 : decode M_Chart_trace.2.1 127 = .ok (.aload_n 0, 1) := by decide +kernel
theorem d_Chart_trace_128 : decode M_Chart_trace.2.1 128 = .ok (.getfield 34, 3) := by decide +kernel
theorem d_Chart_trace_131 : decode M_Chart_trace.2.1 131 = .ok (.iload 5, 2) := by decide +kernel
theorem d_Chart_trace_133 : decode M_Chart_trace.2.1 133 = .ok (.iastore, 1) := by decide +kernel
theorem d_Chart_trace_134 : decode M_Chart_trace.2.1 134 = .ok (.aload_n 0, 1) := by decide +kernel
theorem d_Chart_trace_135 : decode M_Chart_trace.2.1 135 = .ok (.getfield 30, 3) := by decide +kernel
theorem d_Chart_trace_138 : decode M_Chart_trace.2.1 138 = .ok (.aload_n 0, 1) := by decide +kernel
theorem d_Chart_trace_139 : decode M_Chart_trace.2.1 139 = .ok (.getfield 34, 3) := by decide +kernel
theorem d_Chart_trace_142 : decode M_Chart_trace.2.1 142 = .ok (.iload 6, 2) := by decide +kernel
theorem d_Chart_trace_144 : decode M_Chart_trace.2.1 144 = .ok (.bastore, 1) := by decide +kernel
theorem d_Chart_trace_145 : decode M_Chart_trace.2.1 145 = .ok (.aload_n 0, 1) := by decide +kernel
theorem d_Chart_trace_146 : decode M_Chart_trace.2.1 146 = .ok (.dup, 1) := by decide +kernel
theorem d_Chart_trace_147 : decode M_Chart_trace.2.1 147 = .ok (.getfield 34, 3) := by decide +kernel
theorem d_Chart_trace_150 : decode M_Chart_trace.2.1 150 = .ok (.iconst 1, 1) := by decide +kernel
theorem d_Chart_trace_151 : decode M_Chart_trace.2.1 151 = .ok (.iadd, 1) := by decide +kernel
theorem d_Chart_trace_152 : decode M_Chart_trace.2.1 152 = .ok (.putfield 34, 3) := by decide +kernel
theorem d_Chart_trace_155 : decode M_Chart_trace.2.1 155 = .ok (.iinc 4 1, 3) := by decide +kernel
theorem d_Chart_trace_158 : decode M_Chart_trace.2.1 158 = .ok (.goto (-135), 3) := by decide +kernel
theorem d_Chart_trace_161 : decode M_Chart_trace.2.1 161 = .ok (.return_, 1) := by decide +kernel
theorem d_Chart_firstUnlaid_0 : decode M_Chart_firstUnlaid.2.1 0 = .ok (.iconst 0, 1) := by decide +kernel
theorem d_Chart_firstUnlaid_1 : decode M_Chart_firstUnlaid.2.1 1 = .ok (.istore_n 2, 1) := by decide +kernel
theorem d_Chart_firstUnlaid_2 : decode M_Chart_firstUnlaid.2.1 2 = .ok (.iload_n 2, 1) := by decide +kernel
theorem d_Chart_firstUnlaid_3 : decode M_Chart_firstUnlaid.2.1 3 = .ok (.aload_n 1, 1) := by decide +kernel
theorem d_Chart_firstUnlaid_4 : decode M_Chart_firstUnlaid.2.1 4 = .ok (.getfield 80, 3) := by decide +kernel
theorem d_Chart_firstUnlaid_7 : decode M_Chart_firstUnlaid.2.1 7 = .ok (.if_icmp .ge 21, 3) := by decide +kernel
theorem d_Chart_firstUnlaid_10 : decode M_Chart_firstUnlaid.2.1 10 = .ok (.aload_n 0, 1) := by decide +kernel
theorem d_Chart_firstUnlaid_11 : decode M_Chart_firstUnlaid.2.1 11 = .ok (.getfield 24, 3) := by decide +kernel
theorem d_Chart_firstUnlaid_14 : decode M_Chart_firstUnlaid.2.1 14 = .ok (.iload_n 2, 1) := by decide +kernel
theorem d_Chart_firstUnlaid_15 : decode M_Chart_firstUnlaid.2.1 15 = .ok (.iaload, 1) := by decide +kernel
theorem d_Chart_firstUnlaid_16 : decode M_Chart_firstUnlaid.2.1 16 = .ok (.iconst (-1), 1) := by decide +kernel
theorem d_Chart_firstUnlaid_17 : decode M_Chart_firstUnlaid.2.1 17 = .ok (.if_icmp .ne 5, 3) := by decide +kernel
theorem d_Chart_firstUnlaid_20 : decode M_Chart_firstUnlaid.2.1 20 = .ok (.iload_n 2, 1) := by decide +kernel
theorem d_Chart_firstUnlaid_21 : decode M_Chart_firstUnlaid.2.1 21 = .ok (.ireturn, 1) := by decide +kernel
theorem d_Chart_firstUnlaid_22 : decode M_Chart_firstUnlaid.2.1 22 = .ok (.iinc 2 1, 3) := by decide +kernel
theorem d_Chart_firstUnlaid_25 : decode M_Chart_firstUnlaid.2.1 25 = .ok (.goto (-23), 3) := by decide +kernel
theorem d_Chart_firstUnlaid_28 : decode M_Chart_firstUnlaid.2.1 28 = .ok (.iconst 0, 1) := by decide +kernel
theorem d_Chart_firstUnlaid_29 : decode M_Chart_firstUnlaid.2.1 29 = .ok (.ireturn, 1) := by decide +kernel
theorem d_Chart_firstLaying_0 : decode M_Chart_firstLaying.2.1 0 = .ok (.iconst 0, 1) := by decide +kernel
theorem d_Chart_firstLaying_1 : decode M_Chart_firstLaying.2.1 1 = .ok (.istore_n 3, 1) := by decide +kernel
theorem d_Chart_firstLaying_2 : decode M_Chart_firstLaying.2.1 2 = .ok (.iload_n 3, 1) := by decide +kernel
theorem d_Chart_firstLaying_3 : decode M_Chart_firstLaying.2.1 3 = .ok (.aload_n 1, 1) := by decide +kernel
theorem d_Chart_firstLaying_4 : decode M_Chart_firstLaying.2.1 4 = .ok (.getfield 58, 3) := by decide +kernel
theorem d_Chart_firstLaying_7 : decode M_Chart_firstLaying.2.1 7 = .ok (.if_icmp .ge 70, 3) := by decide +kernel
theorem d_Chart_firstLaying_10 : decode M_Chart_firstLaying.2.1 10 = .ok (.aload_n 0, 1) := by decide +kernel
theorem d_Chart_firstLaying_11 : decode M_Chart_firstLaying.2.1 11 = .ok (.getfield 24, 3) := by decide +kernel
theorem d_Chart_firstLaying_14 : decode M_Chart_firstLaying.2.1 14 = .ok (.aload_n 1, 1) := by decide +kernel
theorem d_Chart_firstLaying_15 : decode M_Chart_firstLaying.2.1 15 = .ok (.getfield 91, 3) := by decide +kernel
theorem d_Chart_firstLaying_18 : decode M_Chart_firstLaying.2.1 18 = .ok (.iload_n 3, 1) := by decide +kernel
theorem d_Chart_firstLaying_19 : decode M_Chart_firstLaying.2.1 19 = .ok (.iaload, 1) := by decide +kernel
theorem d_Chart_firstLaying_20 : decode M_Chart_firstLaying.2.1 20 = .ok (.iaload, 1) := by decide +kernel
theorem d_Chart_firstLaying_21 : decode M_Chart_firstLaying.2.1 21 = .ok (.iconst (-1), 1) := by decide +kernel
theorem d_Chart_firstLaying_22 : decode M_Chart_firstLaying.2.1 22 = .ok (.if_icmp .eq 7, 3) := by decide +kernel
theorem d_Chart_firstLaying_25 : decode M_Chart_firstLaying.2.1 25 = .ok (.iconst 1, 1) := by decide +kernel
theorem d_Chart_firstLaying_26 : decode M_Chart_firstLaying.2.1 26 = .ok (.goto 4, 3) := by decide +kernel
theorem d_Chart_firstLaying_29 : decode M_Chart_firstLaying.2.1 29 = .ok (.iconst 0, 1) := by decide +kernel
theorem d_Chart_firstLaying_30 : decode M_Chart_firstLaying.2.1 30 = .ok (.istore 4, 2) := by decide +kernel
theorem d_Chart_firstLaying_32 : decode M_Chart_firstLaying.2.1 32 = .ok (.aload_n 0, 1) := by decide +kernel
theorem d_Chart_firstLaying_33 : decode M_Chart_firstLaying.2.1 33 = .ok (.getfield 24, 3) := by decide +kernel
theorem d_Chart_firstLaying_36 : decode M_Chart_firstLaying.2.1 36 = .ok (.aload_n 1, 1) := by decide +kernel
theorem d_Chart_firstLaying_37 : decode M_Chart_firstLaying.2.1 37 = .ok (.getfield 94, 3) := by decide +kernel
theorem d_Chart_firstLaying_40 : decode M_Chart_firstLaying.2.1 40 = .ok (.iload_n 3, 1) := by decide +kernel
theorem d_Chart_firstLaying_41 : decode M_Chart_firstLaying.2.1 41 = .ok (.iaload, 1) := by decide +kernel
theorem d_Chart_firstLaying_42 : decode M_Chart_firstLaying.2.1 42 = .ok (.iaload, 1) := by decide +kernel
theorem d_Chart_firstLaying_43 : decode M_Chart_firstLaying.2.1 43 = .ok (.iconst (-1), 1) := by decide +kernel
theorem d_Chart_firstLaying_44 : decode M_Chart_firstLaying.2.1 44 = .ok (.if_icmp .eq 7, 3) := by decide +kernel
theorem d_Chart_firstLaying_47 : decode M_Chart_firstLaying.2.1 47 = .ok (.iconst 1, 1) := by decide +kernel
theorem d_Chart_firstLaying_48 : decode M_Chart_firstLaying.2.1 48 = .ok (.goto 4, 3) := by decide +kernel
theorem d_Chart_firstLaying_51 : decode M_Chart_firstLaying.2.1 51 = .ok (.iconst 0, 1) := by decide +kernel
theorem d_Chart_firstLaying_52 : decode M_Chart_firstLaying.2.1 52 = .ok (.istore 5, 2) := by decide +kernel
theorem d_Chart_firstLaying_54 : decode M_Chart_firstLaying.2.1 54 = .ok (.iload_n 2, 1) := by decide +kernel
theorem d_Chart_firstLaying_55 : decode M_Chart_firstLaying.2.1 55 = .ok (.iload_n 3, 1) := by decide +kernel
theorem d_Chart_firstLaying_56 : decode M_Chart_firstLaying.2.1 56 = .ok (.invokestatic 97, 3) := by decide +kernel
theorem d_Chart_firstLaying_59 : decode M_Chart_firstLaying.2.1 59 = .ok (.ifCond .eq 12, 3) := by decide +kernel
theorem d_Chart_firstLaying_62 : decode M_Chart_firstLaying.2.1 62 = .ok (.iload 4, 2) := by decide +kernel
theorem d_Chart_firstLaying_64 : decode M_Chart_firstLaying.2.1 64 = .ok (.iload 5, 2) := by decide +kernel
theorem d_Chart_firstLaying_66 : decode M_Chart_firstLaying.2.1 66 = .ok (.if_icmp .eq 5, 3) := by decide +kernel
theorem d_Chart_firstLaying_69 : decode M_Chart_firstLaying.2.1 69 = .ok (.iload_n 3, 1) := by decide +kernel
theorem d_Chart_firstLaying_70 : decode M_Chart_firstLaying.2.1 70 = .ok (.ireturn, 1) := by decide +kernel
theorem d_Chart_firstLaying_71 : decode M_Chart_firstLaying.2.1 71 = .ok (.iinc 3 1, 3) := by decide +kernel
theorem d_Chart_firstLaying_74 : decode M_Chart_firstLaying.2.1 74 = .ok (.goto (-72), 3) := by decide +kernel
theorem d_Chart_firstLaying_77 : decode M_Chart_firstLaying.2.1 77 = .ok (.iconst (-1), 1) := by decide +kernel
theorem d_Chart_firstLaying_78 : decode M_Chart_firstLaying.2.1 78 = .ok (.ireturn, 1) := by decide +kernel
theorem d_Chart_lay_0 : decode M_Chart_lay.2.1 0 = .ok (.aload_n 0, 1) := by decide +kernel
theorem d_Chart_lay_1 : decode M_Chart_lay.2.1 1 = .ok (.getfield 18, 3) := by decide +kernel
theorem d_Chart_lay_4 : decode M_Chart_lay.2.1 4 = .ok (.iconst 0, 1) := by decide +kernel
theorem d_Chart_lay_5 : decode M_Chart_lay.2.1 5 = .ok (.invokestatic 74, 3) := by decide +kernel
theorem d_Chart_lay_8 : decode M_Chart_lay.2.1 8 = .ok (.aload_n 0, 1) := by decide +kernel
theorem d_Chart_lay_9 : decode M_Chart_lay.2.1 9 = .ok (.getfield 21, 3) := by decide +kernel
theorem d_Chart_lay_12 : decode M_Chart_lay.2.1 12 = .ok (.iconst 0, 1) := by decide +kernel
theorem d_Chart_lay_13 : decode M_Chart_lay.2.1 13 = .ok (.invokestatic 74, 3) := by decide +kernel
theorem d_Chart_lay_16 : decode M_Chart_lay.2.1 16 = .ok (.iconst 0, 1) := by decide +kernel
theorem d_Chart_lay_17 : decode M_Chart_lay.2.1 17 = .ok (.istore_n 2, 1) := by decide +kernel
theorem d_Chart_lay_18 : decode M_Chart_lay.2.1 18 = .ok (.iload_n 2, 1) := by decide +kernel
theorem d_Chart_lay_19 : decode M_Chart_lay.2.1 19 = .ok (.aload_n 0, 1) := by decide +kernel
theorem d_Chart_lay_20 : decode M_Chart_lay.2.1 20 = .ok (.getfield 34, 3) := by decide +kernel
theorem d_Chart_lay_23 : decode M_Chart_lay.2.1 23 = .ok (.if_icmp .ge 128, 3) := by decide +kernel
theorem d_Chart_lay_26 : decode M_Chart_lay.2.1 26 = .ok (.aload_n 0, 1) := by decide +kernel
theorem d_Chart_lay_27 : decode M_Chart_lay.2.1 27 = .ok (.getfield 27, 3) := by decide +kernel
theorem d_Chart_lay_30 : decode M_Chart_lay.2.1 30 = .ok (.iload_n 2, 1) := by decide +kernel
theorem d_Chart_lay_31 : decode M_Chart_lay.2.1 31 = .ok (.iaload, 1) := by decide +kernel
theorem d_Chart_lay_32 : decode M_Chart_lay.2.1 32 = .ok (.istore_n 3, 1) := by decide +kernel
theorem d_Chart_lay_33 : decode M_Chart_lay.2.1 33 = .ok (.aload_n 1, 1) := by decide +kernel
theorem d_Chart_lay_34 : decode M_Chart_lay.2.1 34 = .ok (.getfield 91, 3) := by decide +kernel
theorem d_Chart_lay_37 : decode M_Chart_lay.2.1 37 = .ok (.iload_n 3, 1) := by decide +kernel
theorem d_Chart_lay_38 : decode M_Chart_lay.2.1 38 = .ok (.iaload, 1) := by decide +kernel
theorem d_Chart_lay_39 : decode M_Chart_lay.2.1 39 = .ok (.istore 4, 2) := by decide +kernel
theorem d_Chart_lay_41 : decode M_Chart_lay.2.1 41 = .ok (.aload_n 1, 1) := by decide +kernel
theorem d_Chart_lay_42 : decode M_Chart_lay.2.1 42 = .ok (.getfield 94, 3) := by decide +kernel
theorem d_Chart_lay_45 : decode M_Chart_lay.2.1 45 = .ok (.iload_n 3, 1) := by decide +kernel
theorem d_Chart_lay_46 : decode M_Chart_lay.2.1 46 = .ok (.iaload, 1) := by decide +kernel
theorem d_Chart_lay_47 : decode M_Chart_lay.2.1 47 = .ok (.istore 5, 2) := by decide +kernel
theorem d_Chart_lay_49 : decode M_Chart_lay.2.1 49 = .ok (.aload_n 0, 1) := by decide +kernel
theorem d_Chart_lay_50 : decode M_Chart_lay.2.1 50 = .ok (.getfield 30, 3) := by decide +kernel
theorem d_Chart_lay_53 : decode M_Chart_lay.2.1 53 = .ok (.iload_n 2, 1) := by decide +kernel
theorem d_Chart_lay_54 : decode M_Chart_lay.2.1 54 = .ok (.baload, 1) := by decide +kernel
theorem d_Chart_lay_55 : decode M_Chart_lay.2.1 55 = .ok (.ifCond .eq 48, 3) := by decide +kernel
theorem d_Chart_lay_58 : decode M_Chart_lay.2.1 58 = .ok (.aload_n 0, 1) := by decide +kernel
theorem d_Chart_lay_59 : decode M_Chart_lay.2.1 59 = .ok (.getfield 18, 3) := by decide +kernel
theorem d_Chart_lay_62 : decode M_Chart_lay.2.1 62 = .ok (.iload 4, 2) := by decide +kernel
theorem d_Chart_lay_64 : decode M_Chart_lay.2.1 64 = .ok (.aload_n 0, 1) := by decide +kernel
theorem d_Chart_lay_65 : decode M_Chart_lay.2.1 65 = .ok (.getfield 18, 3) := by decide +kernel
theorem d_Chart_lay_68 : decode M_Chart_lay.2.1 68 = .ok (.iload 5, 2) := by decide +kernel
theorem d_Chart_lay_70 : decode M_Chart_lay.2.1 70 = .ok (.iaload, 1) := by decide +kernel
theorem d_Chart_lay_71 : decode M_Chart_lay.2.1 71 = .ok (.aload_n 0, 1) := by decide +kernel
theorem d_Chart_lay_72 : decode M_Chart_lay.2.1 72 = .ok (.getfield 9, 3) := by decide +kernel
theorem d_Chart_lay_75 : decode M_Chart_lay.2.1 75 = .ok (.iload_n 3, 1) := by decide +kernel
theorem d_Chart_lay_76 : decode M_Chart_lay.2.1 76 = .ok (.iaload, 1) := by decide +kernel
theorem d_Chart_lay_77 : decode M_Chart_lay.2.1 77 = .ok (.isub, 1) := by decide +kernel
theorem d_Chart_lay_78 : decode M_Chart_lay.2.1 78 = .ok (.iastore, 1) := by decide +kernel
theorem d_Chart_lay_79 : decode M_Chart_lay.2.1 79 = .ok (.aload_n 0, 1) := by decide +kernel
theorem d_Chart_lay_80 : decode M_Chart_lay.2.1 80 = .ok (.getfield 21, 3) := by decide +kernel
theorem d_Chart_lay_83 : decode M_Chart_lay.2.1 83 = .ok (.iload 4, 2) := by decide +kernel
theorem d_Chart_lay_85 : decode M_Chart_lay.2.1 85 = .ok (.aload_n 0, 1) := by decide +kernel
theorem d_Chart_lay_86 : decode M_Chart_lay.2.1 86 = .ok (.getfield 21, 3) := by decide +kernel
theorem d_Chart_lay_89 : decode M_Chart_lay.2.1 89 = .ok (.iload 5, 2) := by decide +kernel
theorem d_Chart_lay_91 : decode M_Chart_lay.2.1 91 = .ok (.iaload, 1) := by decide +kernel
theorem d_Chart_lay_92 : decode M_Chart_lay.2.1 92 = .ok (.aload_n 0, 1) := by decide +kernel
theorem d_Chart_lay_93 : decode M_Chart_lay.2.1 93 = .ok (.getfield 15, 3) := by decide +kernel
theorem d_Chart_lay_96 : decode M_Chart_lay.2.1 96 = .ok (.iload_n 3, 1) := by decide +kernel
theorem d_Chart_lay_97 : decode M_Chart_lay.2.1 97 = .ok (.iaload, 1) := by decide +kernel
theorem d_Chart_lay_98 : decode M_Chart_lay.2.1 98 = .ok (.isub, 1) := by decide +kernel
theorem d_Chart_lay_99 : decode M_Chart_lay.2.1 99 = .ok (.iastore, 1) := by decide +kernel
theorem d_Chart_lay_100 : decode M_Chart_lay.2.1 100 = .ok (.goto 45, 3) := by decide +kernel
theorem d_Chart_lay_103 : decode M_Chart_lay.2.1 103 = .ok (.aload_n 0, 1) := by decide +kernel
theorem d_Chart_lay_104 : decode M_Chart_lay.2.1 104 = .ok (.getfield 18, 3) := by decide +kernel
theorem d_Chart_lay_107 : decode M_Chart_lay.2.1 107 = .ok (.iload 5, 2) := by decide +kernel
theorem d_Chart_lay_109 : decode M_Chart_lay.2.1 109 = .ok (.aload_n 0, 1) := by decide +kernel
theorem d_Chart_lay_110 : decode M_Chart_lay.2.1 110 = .ok (.getfield 18, 3) := by decide +kernel
theorem d_Chart_lay_113 : decode M_Chart_lay.2.1 113 = .ok (.iload 4, 2) := by decide +kernel
theorem d_Chart_lay_115 : decode M_Chart_lay.2.1 115 = .ok (.iaload, 1) := by decide +kernel
theorem d_Chart_lay_116 : decode M_Chart_lay.2.1 116 = .ok (.aload_n 0, 1) := by decide +kernel
theorem d_Chart_lay_117 : decode M_Chart_lay.2.1 117 = .ok (.getfield 9, 3) := by decide +kernel
theorem d_Chart_lay_120 : decode M_Chart_lay.2.1 120 = .ok (.iload_n 3, 1) := by decide +kernel
theorem d_Chart_lay_121 : decode M_Chart_lay.2.1 121 = .ok (.iaload, 1) := by decide +kernel
theorem d_Chart_lay_122 : decode M_Chart_lay.2.1 122 = .ok (.iadd, 1) := by decide +kernel
theorem d_Chart_lay_123 : decode M_Chart_lay.2.1 123 = .ok (.iastore, 1) := by decide +kernel
theorem d_Chart_lay_124 : decode M_Chart_lay.2.1 124 = .ok (.aload_n 0, 1) := by decide +kernel
theorem d_Chart_lay_125 : decode M_Chart_lay.2.1 125 = .ok (.getfield 21, 3) := by decide +kernel
theorem d_Chart_lay_128 : decode M_Chart_lay.2.1 128 = .ok (.iload 5, 2) := by decide +kernel
theorem d_Chart_lay_130 : decode M_Chart_lay.2.1 130 = .ok (.aload_n 0, 1) := by decide +kernel
theorem d_Chart_lay_131 : decode M_Chart_lay.2.1 131 = .ok (.getfield 21, 3) := by decide +kernel
theorem d_Chart_lay_134 : decode M_Chart_lay.2.1 134 = .ok (.iload 4, 2) := by decide +kernel
theorem d_Chart_lay_136 : decode M_Chart_lay.2.1 136 = .ok (.iaload, 1) := by decide +kernel
theorem d_Chart_lay_137 : decode M_Chart_lay.2.1 137 = .ok (.aload_n 0, 1) := by decide +kernel
theorem d_Chart_lay_138 : decode M_Chart_lay.2.1 138 = .ok (.getfield 15, 3) := by decide +kernel
theorem d_Chart_lay_141 : decode M_Chart_lay.2.1 141 = .ok (.iload_n 3, 1) := by decide +kernel
theorem d_Chart_lay_142 : decode M_Chart_lay.2.1 142 = .ok (.iaload, 1) := by decide +kernel
theorem d_Chart_lay_143 : decode M_Chart_lay.2.1 143 = .ok (.iadd, 1) := by decide +kernel
theorem d_Chart_lay_144 : decode M_Chart_lay.2.1 144 = .ok (.iastore, 1) := by decide +kernel
theorem d_Chart_lay_145 : decode M_Chart_lay.2.1 145 = .ok (.iinc 2 1, 3) := by decide +kernel
theorem d_Chart_lay_148 : decode M_Chart_lay.2.1 148 = .ok (.goto (-130), 3) := by decide +kernel
theorem d_Chart_lay_151 : decode M_Chart_lay.2.1 151 = .ok (.return_, 1) := by decide +kernel
theorem d_Chart_lies_0 : decode M_Chart_lies.2.1 0 = .ok (.iload_n 1, 1) := by decide +kernel
theorem d_Chart_lies_1 : decode M_Chart_lies.2.1 1 = .ok (.bipush 7, 2) := by decide +kernel
theorem d_Chart_lies_3 : decode M_Chart_lies.2.1 3 = .ok (.invokestatic 101, 3) := by decide +kernel
theorem d_Chart_lies_6 : decode M_Chart_lies.2.1 6 = .ok (.ifCond .eq 16, 3) := by decide +kernel
theorem d_Chart_lies_9 : decode M_Chart_lies.2.1 9 = .ok (.aload_n 0, 1) := by decide +kernel
theorem d_Chart_lies_10 : decode M_Chart_lies.2.1 10 = .ok (.getfield 24, 3) := by decide +kernel
theorem d_Chart_lies_13 : decode M_Chart_lies.2.1 13 = .ok (.iload_n 1, 1) := by decide +kernel
theorem d_Chart_lies_14 : decode M_Chart_lies.2.1 14 = .ok (.iaload, 1) := by decide +kernel
theorem d_Chart_lies_15 : decode M_Chart_lies.2.1 15 = .ok (.ifCond .ne 7, 3) := by decide +kernel
theorem d_Chart_lies_18 : decode M_Chart_lies.2.1 18 = .ok (.iconst 1, 1) := by decide +kernel
theorem d_Chart_lies_19 : decode M_Chart_lies.2.1 19 = .ok (.goto 4, 3) := by decide +kernel
theorem d_Chart_lies_22 : decode M_Chart_lies.2.1 22 = .ok (.iconst 0, 1) := by decide +kernel
theorem d_Chart_lies_23 : decode M_Chart_lies.2.1 23 = .ok (.ireturn, 1) := by decide +kernel
theorem d_Chart_sameParts_0 : decode M_Chart_sameParts.2.1 0 = .ok (.aload_n 0, 1) := by decide +kernel
theorem d_Chart_sameParts_1 : decode M_Chart_sameParts.2.1 1 = .ok (.getfield 24, 3) := by decide +kernel
theorem d_Chart_sameParts_4 : decode M_Chart_sameParts.2.1 4 = .ok (.iload_n 1, 1) := by decide +kernel
theorem d_Chart_sameParts_5 : decode M_Chart_sameParts.2.1 5 = .ok (.iaload, 1) := by decide +kernel
theorem d_Chart_sameParts_6 : decode M_Chart_sameParts.2.1 6 = .ok (.aload_n 0, 1) := by decide +kernel
theorem d_Chart_sameParts_7 : decode M_Chart_sameParts.2.1 7 = .ok (.getfield 24, 3) := by decide +kernel
theorem d_Chart_sameParts_10 : decode M_Chart_sameParts.2.1 10 = .ok (.iload_n 2, 1) := by decide +kernel
theorem d_Chart_sameParts_11 : decode M_Chart_sameParts.2.1 11 = .ok (.iaload, 1) := by decide +kernel
theorem d_Chart_sameParts_12 : decode M_Chart_sameParts.2.1 12 = .ok (.if_icmp .ne 7, 3) := by decide +kernel
theorem d_Chart_sameParts_15 : decode M_Chart_sameParts.2.1 15 = .ok (.iconst 1, 1) := by decide +kernel
theorem d_Chart_sameParts_16 : decode M_Chart_sameParts.2.1 16 = .ok (.goto 4, 3) := by decide +kernel
theorem d_Chart_sameParts_19 : decode M_Chart_sameParts.2.1 19 = .ok (.iconst 0, 1) := by decide +kernel
theorem d_Chart_sameParts_20 : decode M_Chart_sameParts.2.1 20 = .ok (.ireturn, 1) := by decide +kernel
theorem d_Chart_liesSet_0 : decode M_Chart_liesSet.2.1 0 = .ok (.iconst 0, 1) := by decide +kernel
theorem d_Chart_liesSet_1 : decode M_Chart_liesSet.2.1 1 = .ok (.istore_n 2, 1) := by decide +kernel
theorem d_Chart_liesSet_2 : decode M_Chart_liesSet.2.1 2 = .ok (.iconst 0, 1) := by decide +kernel
theorem d_Chart_liesSet_3 : decode M_Chart_liesSet.2.1 3 = .ok (.istore_n 3, 1) := by decide +kernel
theorem d_Chart_liesSet_4 : decode M_Chart_liesSet.2.1 4 = .ok (.iload_n 3, 1) := by decide +kernel
theorem d_Chart_liesSet_5 : decode M_Chart_liesSet.2.1 5 = .ok (.aload_n 1, 1) := by decide +kernel
theorem d_Chart_liesSet_6 : decode M_Chart_liesSet.2.1 6 = .ok (.getfield 80, 3) := by decide +kernel
theorem d_Chart_liesSet_9 : decode M_Chart_liesSet.2.1 9 = .ok (.if_icmp .ge 23, 3) := by decide +kernel
theorem d_Chart_liesSet_12 : decode M_Chart_liesSet.2.1 12 = .ok (.aload_n 0, 1) := by decide +kernel
theorem d_Chart_liesSet_13 : decode M_Chart_liesSet.2.1 13 = .ok (.iload_n 3, 1) := by decide +kernel
theorem d_Chart_liesSet_14 : decode M_Chart_liesSet.2.1 14 = .ok (.invokevirtual 104, 3) := by decide +kernel
theorem d_Chart_liesSet_17 : decode M_Chart_liesSet.2.1 17 = .ok (.ifCond .eq 9, 3) := by decide +kernel
theorem d_Chart_liesSet_20 : decode M_Chart_liesSet.2.1 20 = .ok (.iload_n 2, 1) := by decide +kernel
theorem d_Chart_liesSet_21 : decode M_Chart_liesSet.2.1 21 = .ok (.iconst 1, 1) := by decide +kernel
theorem d_Chart_liesSet_22 : decode M_Chart_liesSet.2.1 22 = .ok (.iload_n 3, 1) := by decide +kernel
theorem d_Chart_liesSet_23 : decode M_Chart_liesSet.2.1 23 = .ok (.ishl, 1) := by decide +kernel
theorem d_Chart_liesSet_24 : decode M_Chart_liesSet.2.1 24 = .ok (.ior, 1) := by decide +kernel
theorem d_Chart_liesSet_25 : decode M_Chart_liesSet.2.1 25 = .ok (.istore_n 2, 1) := by decide +kernel
theorem d_Chart_liesSet_26 : decode M_Chart_liesSet.2.1 26 = .ok (.iinc 3 1, 3) := by decide +kernel
theorem d_Chart_liesSet_29 : decode M_Chart_liesSet.2.1 29 = .ok (.goto (-25), 3) := by decide +kernel
theorem d_Chart_liesSet_32 : decode M_Chart_liesSet.2.1 32 = .ok (.iload_n 2, 1) := by decide +kernel
theorem d_Chart_liesSet_33 : decode M_Chart_liesSet.2.1 33 = .ok (.ireturn, 1) := by decide +kernel
theorem d_Chart_canMiss_0 : decode M_Chart_canMiss.2.1 0 = .ok (.aload_n 1, 1) := by decide +kernel
theorem d_Chart_canMiss_1 : decode M_Chart_canMiss.2.1 1 = .ok (.invokevirtual 45, 3) := by decide +kernel
theorem d_Chart_canMiss_4 : decode M_Chart_canMiss.2.1 4 = .ok (.iload_n 2, 1) := by decide +kernel
theorem d_Chart_canMiss_5 : decode M_Chart_canMiss.2.1 5 = .ok (.invokestatic 97, 3) := by decide +kernel
theorem d_Chart_canMiss_8 : decode M_Chart_canMiss.2.1 8 = .ok (.ifCond .eq 33, 3) := by decide +kernel
theorem d_Chart_canMiss_11 : decode M_Chart_canMiss.2.1 11 = .ok (.aload_n 0, 1) := by decide +kernel
theorem d_Chart_canMiss_12 : decode M_Chart_canMiss.2.1 12 = .ok (.aload_n 1, 1) := by decide +kernel
theorem d_Chart_canMiss_13 : decode M_Chart_canMiss.2.1 13 = .ok (.getfield 91, 3) := by decide +kernel
theorem d_Chart_canMiss_16 : decode M_Chart_canMiss.2.1 16 = .ok (.iload_n 2, 1) := by decide +kernel
theorem d_Chart_canMiss_17 : decode M_Chart_canMiss.2.1 17 = .ok (.iaload, 1) := by decide +kernel
theorem d_Chart_canMiss_18 : decode M_Chart_canMiss.2.1 18 = .ok (.invokevirtual 104, 3) := by decide +kernel
theorem d_Chart_canMiss_21 : decode M_Chart_canMiss.2.1 21 = .ok (.ifCond .eq 20, 3) := by decide +kernel
theorem d_Chart_canMiss_24 : decode M_Chart_canMiss.2.1 24 = .ok (.aload_n 0, 1) := by decide +kernel
theorem d_Chart_canMiss_25 : decode M_Chart_canMiss.2.1 25 = .ok (.aload_n 1, 1) := by decide +kernel
theorem d_Chart_canMiss_26 : decode M_Chart_canMiss.2.1 26 = .ok (.getfield 94, 3) := by decide +kernel
theorem d_Chart_canMiss_29 : decode M_Chart_canMiss.2.1 29 = .ok (.iload_n 2, 1) := by decide +kernel
theorem d_Chart_canMiss_30 : decode M_Chart_canMiss.2.1 30 = .ok (.iaload, 1) := by decide +kernel
theorem d_Chart_canMiss_31 : decode M_Chart_canMiss.2.1 31 = .ok (.invokevirtual 104, 3) := by decide +kernel
theorem d_Chart_canMiss_34 : decode M_Chart_canMiss.2.1 34 = .ok (.ifCond .eq 7, 3) := by decide +kernel
theorem d_Chart_canMiss_37 : decode M_Chart_canMiss.2.1 37 = .ok (.iconst 1, 1) := by decide +kernel
theorem d_Chart_canMiss_38 : decode M_Chart_canMiss.2.1 38 = .ok (.goto 4, 3) := by decide +kernel
theorem d_Chart_canMiss_41 : decode M_Chart_canMiss.2.1 41 = .ok (.iconst 0, 1) := by decide +kernel
theorem d_Chart_canMiss_42 : decode M_Chart_canMiss.2.1 42 = .ok (.ireturn, 1) := by decide +kernel
theorem d_Chart_missOf_0 : decode M_Chart_missOf.2.1 0 = .ok (.aload_n 1, 1) := by decide +kernel
theorem d_Chart_missOf_1 : decode M_Chart_missOf.2.1 1 = .ok (.getfield 91, 3) := by decide +kernel
theorem d_Chart_missOf_4 : decode M_Chart_missOf.2.1 4 = .ok (.iload_n 2, 1) := by decide +kernel
theorem d_Chart_missOf_5 : decode M_Chart_missOf.2.1 5 = .ok (.iaload, 1) := by decide +kernel
theorem d_Chart_missOf_6 : decode M_Chart_missOf.2.1 6 = .ok (.istore_n 3, 1) := by decide +kernel
theorem d_Chart_missOf_7 : decode M_Chart_missOf.2.1 7 = .ok (.aload_n 1, 1) := by decide +kernel
theorem d_Chart_missOf_8 : decode M_Chart_missOf.2.1 8 = .ok (.getfield 94, 3) := by decide +kernel
theorem d_Chart_missOf_11 : decode M_Chart_missOf.2.1 11 = .ok (.iload_n 2, 1) := by decide +kernel
theorem d_Chart_missOf_12 : decode M_Chart_missOf.2.1 12 = .ok (.iaload, 1) := by decide +kernel
theorem d_Chart_missOf_13 : decode M_Chart_missOf.2.1 13 = .ok (.istore 4, 2) := by decide +kernel
theorem d_Chart_missOf_15 : decode M_Chart_missOf.2.1 15 = .ok (.aload_n 0, 1) := by decide +kernel
theorem d_Chart_missOf_16 : decode M_Chart_missOf.2.1 16 = .ok (.getfield 18, 3) := by decide +kernel
theorem d_Chart_missOf_19 : decode M_Chart_missOf.2.1 19 = .ok (.iload 4, 2) := by decide +kernel
theorem d_Chart_missOf_21 : decode M_Chart_missOf.2.1 21 = .ok (.iaload, 1) := by decide +kernel
theorem d_Chart_missOf_22 : decode M_Chart_missOf.2.1 22 = .ok (.aload_n 0, 1) := by decide +kernel
theorem d_Chart_missOf_23 : decode M_Chart_missOf.2.1 23 = .ok (.getfield 18, 3) := by decide +kernel
theorem d_Chart_missOf_26 : decode M_Chart_missOf.2.1 26 = .ok (.iload_n 3, 1) := by decide +kernel
theorem d_Chart_missOf_27 : decode M_Chart_missOf.2.1 27 = .ok (.iaload, 1) := by decide +kernel
theorem d_Chart_missOf_28 : decode M_Chart_missOf.2.1 28 = .ok (.isub, 1) := by decide +kernel
theorem d_Chart_missOf_29 : decode M_Chart_missOf.2.1 29 = .ok (.aload_n 0, 1) := by decide +kernel
theorem d_Chart_missOf_30 : decode M_Chart_missOf.2.1 30 = .ok (.getfield 9, 3) := by decide +kernel
theorem d_Chart_missOf_33 : decode M_Chart_missOf.2.1 33 = .ok (.iload_n 2, 1) := by decide +kernel
theorem d_Chart_missOf_34 : decode M_Chart_missOf.2.1 34 = .ok (.iaload, 1) := by decide +kernel
theorem d_Chart_missOf_35 : decode M_Chart_missOf.2.1 35 = .ok (.isub, 1) := by decide +kernel
theorem d_Chart_missOf_36 : decode M_Chart_missOf.2.1 36 = .ok (.invokestatic 108, 3) := by decide +kernel
theorem d_Chart_missOf_39 : decode M_Chart_missOf.2.1 39 = .ok (.aload_n 0, 1) := by decide +kernel
theorem d_Chart_missOf_40 : decode M_Chart_missOf.2.1 40 = .ok (.getfield 21, 3) := by decide +kernel
theorem d_Chart_missOf_43 : decode M_Chart_missOf.2.1 43 = .ok (.iload 4, 2) := by decide +kernel
theorem d_Chart_missOf_45 : decode M_Chart_missOf.2.1 45 = .ok (.iaload, 1) := by decide +kernel
theorem d_Chart_missOf_46 : decode M_Chart_missOf.2.1 46 = .ok (.aload_n 0, 1) := by decide +kernel
theorem d_Chart_missOf_47 : decode M_Chart_missOf.2.1 47 = .ok (.getfield 21, 3) := by decide +kernel
theorem d_Chart_missOf_50 : decode M_Chart_missOf.2.1 50 = .ok (.iload_n 3, 1) := by decide +kernel
theorem d_Chart_missOf_51 : decode M_Chart_missOf.2.1 51 = .ok (.iaload, 1) := by decide +kernel
theorem d_Chart_missOf_52 : decode M_Chart_missOf.2.1 52 = .ok (.isub, 1) := by decide +kernel
theorem d_Chart_missOf_53 : decode M_Chart_missOf.2.1 53 = .ok (.aload_n 0, 1) := by decide +kernel
theorem d_Chart_missOf_54 : decode M_Chart_missOf.2.1 54 = .ok (.getfield 15, 3) := by decide +kernel
theorem d_Chart_missOf_57 : decode M_Chart_missOf.2.1 57 = .ok (.iload_n 2, 1) := by decide +kernel
theorem d_Chart_missOf_58 : decode M_Chart_missOf.2.1 58 = .ok (.iaload, 1) := by decide +kernel
theorem d_Chart_missOf_59 : decode M_Chart_missOf.2.1 59 = .ok (.isub, 1) := by decide +kernel
theorem d_Chart_missOf_60 : decode M_Chart_missOf.2.1 60 = .ok (.invokestatic 108, 3) := by decide +kernel
theorem d_Chart_missOf_63 : decode M_Chart_missOf.2.1 63 = .ok (.iadd, 1) := by decide +kernel
theorem d_Chart_missOf_64 : decode M_Chart_missOf.2.1 64 = .ok (.ireturn, 1) := by decide +kernel
theorem d_Chart_missSet_0 : decode M_Chart_missSet.2.1 0 = .ok (.iconst 0, 1) := by decide +kernel
theorem d_Chart_missSet_1 : decode M_Chart_missSet.2.1 1 = .ok (.istore_n 2, 1) := by decide +kernel
theorem d_Chart_missSet_2 : decode M_Chart_missSet.2.1 2 = .ok (.iconst 0, 1) := by decide +kernel
theorem d_Chart_missSet_3 : decode M_Chart_missSet.2.1 3 = .ok (.istore_n 3, 1) := by decide +kernel
theorem d_Chart_missSet_4 : decode M_Chart_missSet.2.1 4 = .ok (.iload_n 3, 1) := by decide +kernel
theorem d_Chart_missSet_5 : decode M_Chart_missSet.2.1 5 = .ok (.aload_n 1, 1) := by decide +kernel
theorem d_Chart_missSet_6 : decode M_Chart_missSet.2.1 6 = .ok (.getfield 58, 3) := by decide +kernel
theorem d_Chart_missSet_9 : decode M_Chart_missSet.2.1 9 = .ok (.if_icmp .ge 33, 3) := by decide +kernel
theorem d_Chart_missSet_12 : decode M_Chart_missSet.2.1 12 = .ok (.aload_n 0, 1) := by decide +kernel
theorem d_Chart_missSet_13 : decode M_Chart_missSet.2.1 13 = .ok (.aload_n 1, 1) := by decide +kernel
theorem d_Chart_missSet_14 : decode M_Chart_missSet.2.1 14 = .ok (.iload_n 3, 1) := by decide +kernel
theorem d_Chart_missSet_15 : decode M_Chart_missSet.2.1 15 = .ok (.invokevirtual 114, 3) := by decide +kernel
theorem d_Chart_missSet_18 : decode M_Chart_missSet.2.1 18 = .ok (.ifCond .eq 18, 3) := by decide +kernel
theorem d_Chart_missSet_21 : decode M_Chart_missSet.2.1 21 = .ok (.aload_n 0, 1) := by decide +kernel
theorem d_Chart_missSet_22 : decode M_Chart_missSet.2.1 22 = .ok (.aload_n 1, 1) := by decide +kernel
theorem d_Chart_missSet_23 : decode M_Chart_missSet.2.1 23 = .ok (.iload_n 3, 1) := by decide +kernel
theorem d_Chart_missSet_24 : decode M_Chart_missSet.2.1 24 = .ok (.invokevirtual 118, 3) := by decide +kernel
theorem d_Chart_missSet_27 : decode M_Chart_missSet.2.1 27 = .ok (.ifCond .le 9, 3) := by decide +kernel
theorem d_Chart_missSet_30 : decode M_Chart_missSet.2.1 30 = .ok (.iload_n 2, 1) := by decide +kernel
theorem d_Chart_missSet_31 : decode M_Chart_missSet.2.1 31 = .ok (.iconst 1, 1) := by decide +kernel
theorem d_Chart_missSet_32 : decode M_Chart_missSet.2.1 32 = .ok (.iload_n 3, 1) := by decide +kernel
theorem d_Chart_missSet_33 : decode M_Chart_missSet.2.1 33 = .ok (.ishl, 1) := by decide +kernel
theorem d_Chart_missSet_34 : decode M_Chart_missSet.2.1 34 = .ok (.ior, 1) := by decide +kernel
theorem d_Chart_missSet_35 : decode M_Chart_missSet.2.1 35 = .ok (.istore_n 2, 1) := by decide +kernel
theorem d_Chart_missSet_36 : decode M_Chart_missSet.2.1 36 = .ok (.iinc 3 1, 3) := by decide +kernel
theorem d_Chart_missSet_39 : decode M_Chart_missSet.2.1 39 = .ok (.goto (-35), 3) := by decide +kernel
theorem d_Chart_missSet_42 : decode M_Chart_missSet.2.1 42 = .ok (.iload_n 2, 1) := by decide +kernel
theorem d_Chart_missSet_43 : decode M_Chart_missSet.2.1 43 = .ok (.ireturn, 1) := by decide +kernel
theorem d_Chart_closes_0 : decode M_Chart_closes.2.1 0 = .ok (.iconst 0, 1) := by decide +kernel
theorem d_Chart_closes_1 : decode M_Chart_closes.2.1 1 = .ok (.istore_n 3, 1) := by decide +kernel
theorem d_Chart_closes_2 : decode M_Chart_closes.2.1 2 = .ok (.iload_n 3, 1) := by decide +kernel
theorem d_Chart_closes_3 : decode M_Chart_closes.2.1 3 = .ok (.aload_n 1, 1) := by decide +kernel
theorem d_Chart_closes_4 : decode M_Chart_closes.2.1 4 = .ok (.getfield 58, 3) := by decide +kernel
theorem d_Chart_closes_7 : decode M_Chart_closes.2.1 7 = .ok (.if_icmp .ge 28, 3) := by decide +kernel
theorem d_Chart_closes_10 : decode M_Chart_closes.2.1 10 = .ok (.iload_n 2, 1) := by decide +kernel
theorem d_Chart_closes_11 : decode M_Chart_closes.2.1 11 = .ok (.iload_n 3, 1) := by decide +kernel
theorem d_Chart_closes_12 : decode M_Chart_closes.2.1 12 = .ok (.invokestatic 97, 3) := by decide +kernel
theorem d_Chart_closes_15 : decode M_Chart_closes.2.1 15 = .ok (.ifCond .eq 14, 3) := by decide +kernel
theorem d_Chart_closes_18 : decode M_Chart_closes.2.1 18 = .ok (.aload_n 0, 1) := by decide +kernel
theorem d_Chart_closes_19 : decode M_Chart_closes.2.1 19 = .ok (.aload_n 1, 1) := by decide +kernel
theorem d_Chart_closes_20 : decode M_Chart_closes.2.1 20 = .ok (.iload_n 3, 1) := by decide +kernel
theorem d_Chart_closes_21 : decode M_Chart_closes.2.1 21 = .ok (.invokevirtual 118, 3) := by decide +kernel
theorem d_Chart_closes_24 : decode M_Chart_closes.2.1 24 = .ok (.ifCond .le 5, 3) := by decide +kernel
theorem d_Chart_closes_27 : decode M_Chart_closes.2.1 27 = .ok (.iconst 0, 1) := by decide +kernel
theorem d_Chart_closes_28 : decode M_Chart_closes.2.1 28 = .ok (.ireturn, 1) := by decide +kernel
theorem d_Chart_closes_29 : decode M_Chart_closes.2.1 29 = .ok (.iinc 3 1, 3) := by decide +kernel
theorem d_Chart_closes_32 : decode M_Chart_closes.2.1 32 = .ok (.goto (-30), 3) := by decide +kernel
theorem d_Chart_closes_35 : decode M_Chart_closes.2.1 35 = .ok (.iconst 1, 1) := by decide +kernel
theorem d_Chart_closes_36 : decode M_Chart_closes.2.1 36 = .ok (.ireturn, 1) := by decide +kernel
theorem d_Chart_bridges_0 : decode M_Chart_bridges.2.1 0 = .ok (.aload_n 1, 1) := by decide +kernel
theorem d_Chart_bridges_1 : decode M_Chart_bridges.2.1 1 = .ok (.invokevirtual 45, 3) := by decide +kernel
theorem d_Chart_bridges_4 : decode M_Chart_bridges.2.1 4 = .ok (.istore_n 2, 1) := by decide +kernel
theorem d_Chart_bridges_5 : decode M_Chart_bridges.2.1 5 = .ok (.iconst 0, 1) := by decide +kernel
theorem d_Chart_bridges_6 : decode M_Chart_bridges.2.1 6 = .ok (.istore_n 3, 1) := by decide +kernel
theorem d_Chart_bridges_7 : decode M_Chart_bridges.2.1 7 = .ok (.iconst 0, 1) := by decide +kernel
theorem d_Chart_bridges_8 : decode M_Chart_bridges.2.1 8 = .ok (.istore 4, 2) := by decide +kernel
theorem d_Chart_bridges_10 : decode M_Chart_bridges.2.1 10 = .ok (.iload 4, 2) := by decide +kernel
theorem d_Chart_bridges_12 : decode M_Chart_bridges.2.1 12 = .ok (.aload_n 1, 1) := by decide +kernel
theorem d_Chart_bridges_13 : decode M_Chart_bridges.2.1 13 = .ok (.getfield 58, 3) := by decide +kernel
theorem d_Chart_bridges_16 : decode M_Chart_bridges.2.1 16 = .ok (.if_icmp .ge 59, 3) := by decide +kernel
theorem d_Chart_bridges_19 : decode M_Chart_bridges.2.1 19 = .ok (.iload_n 2, 1) := by decide +kernel
theorem d_Chart_bridges_20 : decode M_Chart_bridges.2.1 20 = .ok (.iload 4, 2) := by decide +kernel
theorem d_Chart_bridges_22 : decode M_Chart_bridges.2.1 22 = .ok (.invokestatic 97, 3) := by decide +kernel
theorem d_Chart_bridges_25 : decode M_Chart_bridges.2.1 25 = .ok (.ifCond .eq 44, 3) := by decide +kernel
theorem d_Chart_bridges_28 : decode M_Chart_bridges.2.1 28 = .ok (.aload_n 0, 1) := by decide +kernel
theorem d_Chart_bridges_29 : decode M_Chart_bridges.2.1 29 = .ok (.aload_n 1, 1) := by decide +kernel
theorem d_Chart_bridges_30 : decode M_Chart_bridges.2.1 30 = .ok (.iload_n 2, 1) := by decide +kernel
theorem d_Chart_bridges_31 : decode M_Chart_bridges.2.1 31 = .ok (.iconst 1, 1) := by decide +kernel
theorem d_Chart_bridges_32 : decode M_Chart_bridges.2.1 32 = .ok (.iload 4, 2) := by decide +kernel
theorem d_Chart_bridges_34 : decode M_Chart_bridges.2.1 34 = .ok (.ishl, 1) := by decide +kernel
theorem d_Chart_bridges_35 : decode M_Chart_bridges.2.1 35 = .ok (.iconst (-1), 1) := by decide +kernel
theorem d_Chart_bridges_36 : decode M_Chart_bridges.2.1 36 = .ok (.ixor, 1) := by decide +kernel
theorem d_Chart_bridges_37 : decode M_Chart_bridges.2.1 37 = .ok (.iand, 1) := by decide +kernel
theorem d_Chart_bridges_38 : decode M_Chart_bridges.2.1 38 = .ok (.invokevirtual 51, 3) := by decide +kernel
theorem d_Chart_bridges_41 : decode M_Chart_bridges.2.1 41 = .ok (.aload_n 0, 1) := by decide +kernel
theorem d_Chart_bridges_42 : decode M_Chart_bridges.2.1 42 = .ok (.aload_n 1, 1) := by decide +kernel
theorem d_Chart_bridges_43 : decode M_Chart_bridges.2.1 43 = .ok (.getfield 91, 3) := by decide +kernel
theorem d_Chart_bridges_46 : decode M_Chart_bridges.2.1 46 = .ok (.iload 4, 2) := by decide +kernel
theorem d_Chart_bridges_48 : decode M_Chart_bridges.2.1 48 = .ok (.iaload, 1) := by decide +kernel
theorem d_Chart_bridges_49 : decode M_Chart_bridges.2.1 49 = .ok (.aload_n 1, 1) := by decide +kernel
theorem d_Chart_bridges_50 : decode M_Chart_bridges.2.1 50 = .ok (.getfield 94, 3) := by decide +kernel
theorem d_Chart_bridges_53 : decode M_Chart_bridges.2.1 53 = .ok (.iload 4, 2) := by decide +kernel
theorem d_Chart_bridges_55 : decode M_Chart_bridges.2.1 55 = .ok (.iaload, 1) := by decide +kernel
theorem d_Chart_bridges_56 : decode M_Chart_bridges.2.1 56 = .ok (.invokevirtual 121, 3) := by decide +kernel
theorem d_Chart_bridges_59 : decode M_Chart_bridges.2.1 59 = .ok (.ifCond .ne 10, 3) := by decide +kernel
theorem d_Chart_bridges_62 : decode M_Chart_bridges.2.1 62 = .ok (.iload_n 3, 1) := by decide +kernel
theorem d_Chart_bridges_63 : decode M_Chart_bridges.2.1 63 = .ok (.iconst 1, 1) := by decide +kernel
theorem d_Chart_bridges_64 : decode M_Chart_bridges.2.1 64 = .ok (.iload 4, 2) := by decide +kernel
theorem d_Chart_bridges_66 : decode M_Chart_bridges.2.1 66 = .ok (.ishl, 1) := by decide +kernel
theorem d_Chart_bridges_67 : decode M_Chart_bridges.2.1 67 = .ok (.ior, 1) := by decide +kernel
theorem d_Chart_bridges_68 : decode M_Chart_bridges.2.1 68 = .ok (.istore_n 3, 1) := by decide +kernel
theorem d_Chart_bridges_69 : decode M_Chart_bridges.2.1 69 = .ok (.iinc 4 1, 3) := by decide +kernel
theorem d_Chart_bridges_72 : decode M_Chart_bridges.2.1 72 = .ok (.goto (-62), 3) := by decide +kernel
theorem d_Chart_bridges_75 : decode M_Chart_bridges.2.1 75 = .ok (.iload_n 3, 1) := by decide +kernel
theorem d_Chart_bridges_76 : decode M_Chart_bridges.2.1 76 = .ok (.ireturn, 1) := by decide +kernel
theorem d_Days_init_0 : decode M_Days_init.2.1 0 = .ok (.aload_n 0, 1) := by decide +kernel
theorem d_Days_init_1 : decode M_Days_init.2.1 1 = .ok (.invokespecial 3, 3) := by decide +kernel
theorem d_Days_init_4 : decode M_Days_init.2.1 4 = .ok (.aload_n 0, 1) := by decide +kernel
theorem d_Days_init_5 : decode M_Days_init.2.1 5 = .ok (.bipush 60, 2) := by decide +kernel
theorem d_Days_init_7 : decode M_Days_init.2.1 7 = .ok (.newarray .int, 2) := by decide +kernel
theorem d_Days_init_9 : decode M_Days_init.2.1 9 = .ok (.putfield 9, 3) := by decide +kernel
theorem d_Days_init_12 : decode M_Days_init.2.1 12 = .ok (.aload_n 0, 1) := by decide +kernel
theorem d_Days_init_13 : decode M_Days_init.2.1 13 = .ok (.bipush 60, 2) := by decide +kernel
theorem d_Days_init_15 : decode M_Days_init.2.1 15 = .ok (.newarray .int, 2) := by decide +kernel
theorem d_Days_init_17 : decode M_Days_init.2.1 17 = .ok (.putfield 13, 3) := by decide +kernel
theorem d_Days_init_20 : decode M_Days_init.2.1 20 = .ok (.aload_n 0, 1) := by decide +kernel
theorem d_Days_init_21 : decode M_Days_init.2.1 21 = .ok (.bipush 60, 2) := by decide +kernel
theorem d_Days_init_23 : decode M_Days_init.2.1 23 = .ok (.newarray .int, 2) := by decide +kernel
theorem d_Days_init_25 : decode M_Days_init.2.1 25 = .ok (.putfield 16, 3) := by decide +kernel
theorem d_Days_init_28 : decode M_Days_init.2.1 28 = .ok (.aload_n 0, 1) := by decide +kernel
theorem d_Days_init_29 : decode M_Days_init.2.1 29 = .ok (.iconst 0, 1) := by decide +kernel
theorem d_Days_init_30 : decode M_Days_init.2.1 30 = .ok (.putfield 19, 3) := by decide +kernel
theorem d_Days_init_33 : decode M_Days_init.2.1 33 = .ok (.aload_n 0, 1) := by decide +kernel
theorem d_Days_init_34 : decode M_Days_init.2.1 34 = .ok (.iconst 0, 1) := by decide +kernel
theorem d_Days_init_35 : decode M_Days_init.2.1 35 = .ok (.putfield 23, 3) := by decide +kernel
theorem d_Days_init_38 : decode M_Days_init.2.1 38 = .ok (.aload_n 0, 1) := by decide +kernel
theorem d_Days_init_39 : decode M_Days_init.2.1 39 = .ok (.iconst 0, 1) := by decide +kernel
theorem d_Days_init_40 : decode M_Days_init.2.1 40 = .ok (.putfield 27, 3) := by decide +kernel
theorem d_Days_init_43 : decode M_Days_init.2.1 43 = .ok (.return_, 1) := by decide +kernel
theorem d_Days_clear_0 : decode M_Days_clear.2.1 0 = .ok (.aload_n 0, 1) := by decide +kernel
theorem d_Days_clear_1 : decode M_Days_clear.2.1 1 = .ok (.iconst 0, 1) := by decide +kernel
theorem d_Days_clear_2 : decode M_Days_clear.2.1 2 = .ok (.putfield 19, 3) := by decide +kernel
theorem d_Days_clear_5 : decode M_Days_clear.2.1 5 = .ok (.aload_n 0, 1) := by decide +kernel
theorem d_Days_clear_6 : decode M_Days_clear.2.1 6 = .ok (.iconst 0, 1) := by decide +kernel
theorem d_Days_clear_7 : decode M_Days_clear.2.1 7 = .ok (.putfield 23, 3) := by decide +kernel
theorem d_Days_clear_10 : decode M_Days_clear.2.1 10 = .ok (.aload_n 0, 1) := by decide +kernel
theorem d_Days_clear_11 : decode M_Days_clear.2.1 11 = .ok (.iconst 0, 1) := by decide +kernel
theorem d_Days_clear_12 : decode M_Days_clear.2.1 12 = .ok (.putfield 27, 3) := by decide +kernel
theorem d_Days_clear_15 : decode M_Days_clear.2.1 15 = .ok (.return_, 1) := by decide +kernel
theorem d_Days_copyFrom_0 : decode M_Days_copyFrom.2.1 0 = .ok (.aload_n 1, 1) := by decide +kernel
theorem d_Days_copyFrom_1 : decode M_Days_copyFrom.2.1 1 = .ok (.getfield 9, 3) := by decide +kernel
theorem d_Days_copyFrom_4 : decode M_Days_copyFrom.2.1 4 = .ok (.iconst 0, 1) := by decide +kernel
theorem d_Days_copyFrom_5 : decode M_Days_copyFrom.2.1 5 = .ok (.aload_n 0, 1) := by decide +kernel
theorem d_Days_copyFrom_6 : decode M_Days_copyFrom.2.1 6 = .ok (.getfield 9, 3) := by decide +kernel
theorem d_Days_copyFrom_9 : decode M_Days_copyFrom.2.1 9 = .ok (.iconst 0, 1) := by decide +kernel
theorem d_Days_copyFrom_10 : decode M_Days_copyFrom.2.1 10 = .ok (.bipush 60, 2) := by decide +kernel
theorem d_Days_copyFrom_12 : decode M_Days_copyFrom.2.1 12 = .ok (.invokestatic 30, 3) := by decide +kernel
theorem d_Days_copyFrom_15 : decode M_Days_copyFrom.2.1 15 = .ok (.aload_n 1, 1) := by decide +kernel
theorem d_Days_copyFrom_16 : decode M_Days_copyFrom.2.1 16 = .ok (.getfield 13, 3) := by decide +kernel
theorem d_Days_copyFrom_19 : decode M_Days_copyFrom.2.1 19 = .ok (.iconst 0, 1) := by decide +kernel
theorem d_Days_copyFrom_20 : decode M_Days_copyFrom.2.1 20 = .ok (.aload_n 0, 1) := by decide +kernel
theorem d_Days_copyFrom_21 : decode M_Days_copyFrom.2.1 21 = .ok (.getfield 13, 3) := by decide +kernel
theorem d_Days_copyFrom_24 : decode M_Days_copyFrom.2.1 24 = .ok (.iconst 0, 1) := by decide +kernel
theorem d_Days_copyFrom_25 : decode M_Days_copyFrom.2.1 25 = .ok (.bipush 60, 2) := by decide +kernel
theorem d_Days_copyFrom_27 : decode M_Days_copyFrom.2.1 27 = .ok (.invokestatic 30, 3) := by decide +kernel
theorem d_Days_copyFrom_30 : decode M_Days_copyFrom.2.1 30 = .ok (.aload_n 1, 1) := by decide +kernel
theorem d_Days_copyFrom_31 : decode M_Days_copyFrom.2.1 31 = .ok (.getfield 16, 3) := by decide +kernel
theorem d_Days_copyFrom_34 : decode M_Days_copyFrom.2.1 34 = .ok (.iconst 0, 1) := by decide +kernel
theorem d_Days_copyFrom_35 : decode M_Days_copyFrom.2.1 35 = .ok (.aload_n 0, 1) := by decide +kernel
theorem d_Days_copyFrom_36 : decode M_Days_copyFrom.2.1 36 = .ok (.getfield 16, 3) := by decide +kernel
theorem d_Days_copyFrom_39 : decode M_Days_copyFrom.2.1 39 = .ok (.iconst 0, 1) := by decide +kernel
theorem d_Days_copyFrom_40 : decode M_Days_copyFrom.2.1 40 = .ok (.bipush 60, 2) := by decide +kernel
theorem d_Days_copyFrom_42 : decode M_Days_copyFrom.2.1 42 = .ok (.invokestatic 30, 3) := by decide +kernel
theorem d_Days_copyFrom_45 : decode M_Days_copyFrom.2.1 45 = .ok (.aload_n 0, 1) := by decide +kernel
theorem d_Days_copyFrom_46 : decode M_Days_copyFrom.2.1 46 = .ok (.aload_n 1, 1) := by decide +kernel
theorem d_Days_copyFrom_47 : decode M_Days_copyFrom.2.1 47 = .ok (.getfield 19, 3) := by decide +kernel
theorem d_Days_copyFrom_50 : decode M_Days_copyFrom.2.1 50 = .ok (.putfield 19, 3) := by decide +kernel
theorem d_Days_copyFrom_53 : decode M_Days_copyFrom.2.1 53 = .ok (.aload_n 0, 1) := by decide +kernel
theorem d_Days_copyFrom_54 : decode M_Days_copyFrom.2.1 54 = .ok (.aload_n 1, 1) := by decide +kernel
theorem d_Days_copyFrom_55 : decode M_Days_copyFrom.2.1 55 = .ok (.getfield 23, 3) := by decide +kernel
theorem d_Days_copyFrom_58 : decode M_Days_copyFrom.2.1 58 = .ok (.putfield 23, 3) := by decide +kernel
theorem d_Days_copyFrom_61 : decode M_Days_copyFrom.2.1 61 = .ok (.aload_n 0, 1) := by decide +kernel
theorem d_Days_copyFrom_62 : decode M_Days_copyFrom.2.1 62 = .ok (.aload_n 1, 1) := by decide +kernel
theorem d_Days_copyFrom_63 : decode M_Days_copyFrom.2.1 63 = .ok (.getfield 27, 3) := by decide +kernel
theorem d_Days_copyFrom_66 : decode M_Days_copyFrom.2.1 66 = .ok (.putfield 27, 3) := by decide +kernel
theorem d_Days_copyFrom_69 : decode M_Days_copyFrom.2.1 69 = .ok (.return_, 1) := by decide +kernel
theorem d_Days_addRow_0 : decode M_Days_addRow.2.1 0 = .ok (.aload_n 0, 1) := by decide +kernel
theorem d_Days_addRow_1 : decode M_Days_addRow.2.1 1 = .ok (.getfield 23, 3) := by decide +kernel
theorem d_Days_addRow_4 : decode M_Days_addRow.2.1 4 = .ok (.bipush 60, 2) := by decide +kernel
theorem d_Days_addRow_6 : decode M_Days_addRow.2.1 6 = .ok (.if_icmp .ge 43, 3) := by decide +kernel
theorem d_Days_addRow_9 : decode M_Days_addRow.2.1 9 = .ok (.aload_n 0, 1) := by decide +kernel
theorem d_Days_addRow_10 : decode M_Days_addRow.2.1 10 = .ok (.getfield 9, 3) := by decide +kernel
theorem d_Days_addRow_13 : decode M_Days_addRow.2.1 13 = .ok (.aload_n 0, 1) := by decide +kernel
theorem d_Days_addRow_14 : decode M_Days_addRow.2.1 14 = .ok (.getfield 23, 3) := by decide +kernel
theorem d_Days_addRow_17 : decode M_Days_addRow.2.1 17 = .ok (.iload_n 1, 1) := by decide +kernel
theorem d_Days_addRow_18 : decode M_Days_addRow.2.1 18 = .ok (.iastore, 1) := by decide +kernel
theorem d_Days_addRow_19 : decode M_Days_addRow.2.1 19 = .ok (.aload_n 0, 1) := by decide +kernel
theorem d_Days_addRow_20 : decode M_Days_addRow.2.1 20 = .ok (.getfield 13, 3) := by decide +kernel
theorem d_Days_addRow_23 : decode M_Days_addRow.2.1 23 = .ok (.aload_n 0, 1) := by decide +kernel
theorem d_Days_addRow_24 : decode M_Days_addRow.2.1 24 = .ok (.getfield 23, 3) := by decide +kernel
theorem d_Days_addRow_27 : decode M_Days_addRow.2.1 27 = .ok (.iload_n 2, 1) := by decide +kernel
theorem d_Days_addRow_28 : decode M_Days_addRow.2.1 28 = .ok (.iastore, 1) := by decide +kernel
theorem d_Days_addRow_29 : decode M_Days_addRow.2.1 29 = .ok (.aload_n 0, 1) := by decide +kernel
theorem d_Days_addRow_30 : decode M_Days_addRow.2.1 30 = .ok (.getfield 16, 3) := by decide +kernel
theorem d_Days_addRow_33 : decode M_Days_addRow.2.1 33 = .ok (.aload_n 0, 1) := by decide +kernel
theorem d_Days_addRow_34 : decode M_Days_addRow.2.1 34 = .ok (.getfield 23, 3) := by decide +kernel
theorem d_Days_addRow_37 : decode M_Days_addRow.2.1 37 = .ok (.iload_n 3, 1) := by decide +kernel
theorem d_Days_addRow_38 : decode M_Days_addRow.2.1 38 = .ok (.iastore, 1) := by decide +kernel
theorem d_Days_addRow_39 : decode M_Days_addRow.2.1 39 = .ok (.aload_n 0, 1) := by decide +kernel
theorem d_Days_addRow_40 : decode M_Days_addRow.2.1 40 = .ok (.dup, 1) := by decide +kernel
theorem d_Days_addRow_41 : decode M_Days_addRow.2.1 41 = .ok (.getfield 23, 3) := by decide +kernel
theorem d_Days_addRow_44 : decode M_Days_addRow.2.1 44 = .ok (.iconst 1, 1) := by decide +kernel
theorem d_Days_addRow_45 : decode M_Days_addRow.2.1 45 = .ok (.iadd, 1) := by decide +kernel
theorem d_Days_addRow_46 : decode M_Days_addRow.2.1 46 = .ok (.putfield 23, 3) := by decide +kernel
theorem d_Days_addRow_49 : decode M_Days_addRow.2.1 49 = .ok (.return_, 1) := by decide +kernel
theorem d_DaysText_init_0 : decode M_DaysText_init.2.1 0 = .ok (.aload_n 0, 1) := by decide +kernel
theorem d_DaysText_init_1 : decode M_DaysText_init.2.1 1 = .ok (.invokespecial 3, 3) := by decide +kernel
theorem d_DaysText_init_4 : decode M_DaysText_init.2.1 4 = .ok (.aload_n 0, 1) := by decide +kernel
theorem d_DaysText_init_5 : decode M_DaysText_init.2.1 5 = .ok (.iconst 3, 1) := by decide +kernel
theorem d_DaysText_init_6 : decode M_DaysText_init.2.1 6 = .ok (.newarray .int, 2) := by decide +kernel
theorem d_DaysText_init_8 : decode M_DaysText_init.2.1 8 = .ok (.putfield 11, 3) := by decide +kernel
theorem d_DaysText_init_11 : decode M_DaysText_init.2.1 11 = .ok (.aload_n 0, 1) := by decide +kernel
theorem d_DaysText_init_12 : decode M_DaysText_init.2.1 12 = .ok (.iconst 0, 1) := by decide +kernel
theorem d_DaysText_init_13 : decode M_DaysText_init.2.1 13 = .ok (.putfield 17, 3) := by decide +kernel
theorem d_DaysText_init_16 : decode M_DaysText_init.2.1 16 = .ok (.aload_n 0, 1) := by decide +kernel
theorem d_DaysText_init_17 : decode M_DaysText_init.2.1 17 = .ok (.aload_n 1, 1) := by decide +kernel
theorem d_DaysText_init_18 : decode M_DaysText_init.2.1 18 = .ok (.putfield 21, 3) := by decide +kernel
theorem d_DaysText_init_21 : decode M_DaysText_init.2.1 21 = .ok (.aload_n 0, 1) := by decide +kernel
theorem d_DaysText_init_22 : decode M_DaysText_init.2.1 22 = .ok (.aload_n 2, 1) := by decide +kernel
theorem d_DaysText_init_23 : decode M_DaysText_init.2.1 23 = .ok (.putfield 25, 3) := by decide +kernel
theorem d_DaysText_init_26 : decode M_DaysText_init.2.1 26 = .ok (.aload_n 0, 1) := by decide +kernel
theorem d_DaysText_init_27 : decode M_DaysText_init.2.1 27 = .ok (.aload_n 3, 1) := by decide +kernel
theorem d_DaysText_init_28 : decode M_DaysText_init.2.1 28 = .ok (.putfield 29, 3) := by decide +kernel
theorem d_DaysText_init_31 : decode M_DaysText_init.2.1 31 = .ok (.return_, 1) := by decide +kernel
theorem d_DaysText_parse_0 : decode M_DaysText_parse.2.1 0 = .ok (.aload_n 0, 1) := by decide +kernel
theorem d_DaysText_parse_1 : decode M_DaysText_parse.2.1 1 = .ok (.getfield 29, 3) := by decide +kernel
theorem d_DaysText_parse_4 : decode M_DaysText_parse.2.1 4 = .ok (.invokevirtual 33, 3) := by decide +kernel
theorem d_DaysText_parse_7 : decode M_DaysText_parse.2.1 7 = .ok (.aload_n 0, 1) := by decide +kernel
theorem d_DaysText_parse_8 : decode M_DaysText_parse.2.1 8 = .ok (.getfield 29, 3) := by decide +kernel
theorem d_DaysText_parse_11 : decode M_DaysText_parse.2.1 11 = .ok (.iconst 1, 1) := by decide +kernel
theorem d_DaysText_parse_12 : decode M_DaysText_parse.2.1 12 = .ok (.putfield 36, 3) := by decide +kernel
theorem d_DaysText_parse_15 : decode M_DaysText_parse.2.1 15 = .ok (.iconst 0, 1) := by decide +kernel
theorem d_DaysText_parse_16 : decode M_DaysText_parse.2.1 16 = .ok (.istore_n 1, 1) := by decide +kernel
theorem d_DaysText_parse_17 : decode M_DaysText_parse.2.1 17 = .ok (.iload_n 1, 1) := by decide +kernel
theorem d_DaysText_parse_18 : decode M_DaysText_parse.2.1 18 = .ok (.sipush 300, 3) := by decide +kernel
theorem d_DaysText_parse_21 : decode M_DaysText_parse.2.1 21 = .ok (.if_icmp .gt 84, 3) := by decide +kernel
theorem d_DaysText_parse_24 : decode M_DaysText_parse.2.1 24 = .ok (.aload_n 0, 1) := by decide +kernel
theorem d_DaysText_parse_25 : decode M_DaysText_parse.2.1 25 = .ok (.getfield 21, 3) := by decide +kernel
theorem d_DaysText_parse_28 : decode M_DaysText_parse.2.1 28 = .ok (.invokevirtual 40, 3) := by decide +kernel
theorem d_DaysText_parse_31 : decode M_DaysText_parse.2.1 31 = .ok (.ifCond .eq 26, 3) := by decide +kernel
theorem d_DaysText_parse_34 : decode M_DaysText_parse.2.1 34 = .ok (.aload_n 0, 1) := by decide +kernel
theorem d_DaysText_parse_35 : decode M_DaysText_parse.2.1 35 = .ok (.getfield 17, 3) := by decide +kernel
theorem d_DaysText_parse_38 : decode M_DaysText_parse.2.1 38 = .ok (.ifCond .eq 13, 3) := by decide +kernel
theorem d_DaysText_parse_41 : decode M_DaysText_parse.2.1 41 = .ok (.aload_n 0, 1) := by decide +kernel
theorem d_DaysText_parse_42 : decode M_DaysText_parse.2.1 42 = .ok (.getfield 21, 3) := by decide +kernel
theorem d_DaysText_parse_45 : decode M_DaysText_parse.2.1 45 = .ok (.invokevirtual 46, 3) := by decide +kernel
theorem d_DaysText_parse_48 : decode M_DaysText_parse.2.1 48 = .ok (.ifCond .eq 7, 3) := by decide +kernel
theorem d_DaysText_parse_51 : decode M_DaysText_parse.2.1 51 = .ok (.iconst 1, 1) := by decide +kernel
theorem d_DaysText_parse_52 : decode M_DaysText_parse.2.1 52 = .ok (.goto 4, 3) := by decide +kernel
theorem d_DaysText_parse_55 : decode M_DaysText_parse.2.1 55 = .ok (.iconst 0, 1) := by decide +kernel
theorem d_DaysText_parse_56 : decode M_DaysText_parse.2.1 56 = .ok (.ireturn, 1) := by decide +kernel
theorem d_DaysText_parse_57 : decode M_DaysText_parse.2.1 57 = .ok (.aload_n 0, 1) := by decide +kernel
theorem d_DaysText_parse_58 : decode M_DaysText_parse.2.1 58 = .ok (.getfield 21, 3) := by decide +kernel
theorem d_DaysText_parse_61 : decode M_DaysText_parse.2.1 61 = .ok (.getfield 49, 3) := by decide +kernel
theorem d_DaysText_parse_64 : decode M_DaysText_parse.2.1 64 = .ok (.bipush 22, 2) := by decide +kernel
theorem d_DaysText_parse_66 : decode M_DaysText_parse.2.1 66 = .ok (.if_icmp .ne 10, 3) := by decide +kernel
theorem d_DaysText_parse_69 : decode M_DaysText_parse.2.1 69 = .ok (.aload_n 0, 1) := by decide +kernel
theorem d_DaysText_parse_70 : decode M_DaysText_parse.2.1 70 = .ok (.invokevirtual 52, 3) := by decide +kernel
theorem d_DaysText_parse_73 : decode M_DaysText_parse.2.1 73 = .ok (.goto 7, 3) := by decide +kernel
theorem d_DaysText_parse_76 : decode M_DaysText_parse.2.1 76 = .ok (.aload_n 0, 1) := by decide +kernel
theorem d_DaysText_parse_77 : decode M_DaysText_parse.2.1 77 = .ok (.invokevirtual 55, 3) := by decide +kernel
theorem d_DaysText_parse_80 : decode M_DaysText_parse.2.1 80 = .ok (.istore_n 2, 1) := by decide +kernel
theorem d_DaysText_parse_81 : decode M_DaysText_parse.2.1 81 = .ok (.iload_n 2, 1) := by decide +kernel
theorem d_DaysText_parse_82 : decode M_DaysText_parse.2.1 82 = .ok (.ifCond .eq 15, 3) := by decide +kernel
theorem d_DaysText_parse_85 : decode M_DaysText_parse.2.1 85 = .ok (.aload_n 0, 1) := by decide +kernel
theorem d_DaysText_parse_86 : decode M_DaysText_parse.2.1 86 = .ok (.getfield 21, 3) := by decide +kernel
theorem d_DaysText_parse_89 : decode M_DaysText_parse.2.1 89 = .ok (.bipush 59, 2) := by decide +kernel
theorem d_DaysText_parse_91 : decode M_DaysText_parse.2.1 91 = .ok (.invokevirtual 58, 3) := by decide +kernel
theorem d_DaysText_parse_94 : decode M_DaysText_parse.2.1 94 = .ok (.ifCond .ne 5, 3) := by decide +kernel
theorem d_DaysText_parse_97 : decode M_DaysText_parse.2.1 97 = .ok (.iconst 0, 1) := by decide +kernel
theorem d_DaysText_parse_98 : decode M_DaysText_parse.2.1 98 = .ok (.ireturn, 1) := by decide +kernel
theorem d_DaysText_parse_99 : decode M_DaysText_parse.2.1 99 = .ok (.iinc 1 1, 3) := by decide +kernel
theorem d_DaysText_parse_102 : decode M_DaysText_parse.2.1 102 = .ok (.goto (-85), 3) := by decide +kernel
theorem d_DaysText_parse_105 : decode M_DaysText_parse.2.1 105 = .ok (.aload_n 0, 1) := by decide +kernel
theorem d_DaysText_parse_106 : decode M_DaysText_parse.2.1 106 = .ok (.getfield 21, 3) := by decide +kernel
theorem d_DaysText_parse_109 : decode M_DaysText_parse.2.1 109 = .ok (.invokevirtual 46, 3) := by decide +kernel
theorem d_DaysText_parse_112 : decode M_DaysText_parse.2.1 112 = .ok (.ireturn, 1) := by decide +kernel
theorem d_DaysText_takeEnd_0 : decode M_DaysText_takeEnd.2.1 0 = .ok (.aload_n 0, 1) := by decide +kernel
theorem d_DaysText_takeEnd_1 : decode M_DaysText_takeEnd.2.1 1 = .ok (.getfield 17, 3) := by decide +kernel
theorem d_DaysText_takeEnd_4 : decode M_DaysText_takeEnd.2.1 4 = .ok (.ifCond .gt 11, 3) := by decide +kernel
theorem d_DaysText_takeEnd_7 : decode M_DaysText_takeEnd.2.1 7 = .ok (.aload_n 0, 1) := by decide +kernel
theorem d_DaysText_takeEnd_8 : decode M_DaysText_takeEnd.2.1 8 = .ok (.getfield 21, 3) := by decide +kernel
theorem d_DaysText_takeEnd_11 : decode M_DaysText_takeEnd.2.1 11 = .ok (.invokevirtual 46, 3) := by decide +kernel
theorem d_DaysText_takeEnd_14 : decode M_DaysText_takeEnd.2.1 14 = .ok (.ireturn, 1) := by decide +kernel
theorem d_DaysText_takeEnd_15 : decode M_DaysText_takeEnd.2.1 15 = .ok (.aload_n 0, 1) := by decide +kernel
theorem d_DaysText_takeEnd_16 : decode M_DaysText_takeEnd.2.1 16 = .ok (.dup, 1) := by decide +kernel
theorem d_DaysText_takeEnd_17 : decode M_DaysText_takeEnd.2.1 17 = .ok (.getfield 17, 3) := by decide +kernel
theorem d_DaysText_takeEnd_20 : decode M_DaysText_takeEnd.2.1 20 = .ok (.iconst 1, 1) := by decide +kernel
theorem d_DaysText_takeEnd_21 : decode M_DaysText_takeEnd.2.1 21 = .ok (.isub, 1) := by decide +kernel
theorem d_DaysText_takeEnd_22 : decode M_DaysText_takeEnd.2.1 22 = .ok (.putfield 17, 3) := by decide +kernel
theorem d_DaysText_takeEnd_25 : decode M_DaysText_takeEnd.2.1 25 = .ok (.aload_n 0, 1) := by decide +kernel
theorem d_DaysText_takeEnd_26 : decode M_DaysText_takeEnd.2.1 26 = .ok (.getfield 29, 3) := by decide +kernel
theorem d_DaysText_takeEnd_29 : decode M_DaysText_takeEnd.2.1 29 = .ok (.getfield 62, 3) := by decide +kernel
theorem d_DaysText_takeEnd_32 : decode M_DaysText_takeEnd.2.1 32 = .ok (.aload_n 0, 1) := by decide +kernel
theorem d_DaysText_takeEnd_33 : decode M_DaysText_takeEnd.2.1 33 = .ok (.getfield 11, 3) := by decide +kernel
theorem d_DaysText_takeEnd_36 : decode M_DaysText_takeEnd.2.1 36 = .ok (.aload_n 0, 1) := by decide +kernel
theorem d_DaysText_takeEnd_37 : decode M_DaysText_takeEnd.2.1 37 = .ok (.getfield 17, 3) := by decide +kernel
theorem d_DaysText_takeEnd_40 : decode M_DaysText_takeEnd.2.1 40 = .ok (.iaload, 1) := by decide +kernel
theorem d_DaysText_takeEnd_41 : decode M_DaysText_takeEnd.2.1 41 = .ok (.aload_n 0, 1) := by decide +kernel
theorem d_DaysText_takeEnd_42 : decode M_DaysText_takeEnd.2.1 42 = .ok (.getfield 29, 3) := by decide +kernel
theorem d_DaysText_takeEnd_45 : decode M_DaysText_takeEnd.2.1 45 = .ok (.getfield 65, 3) := by decide +kernel
theorem d_DaysText_takeEnd_48 : decode M_DaysText_takeEnd.2.1 48 = .ok (.iastore, 1) := by decide +kernel
theorem d_DaysText_takeEnd_49 : decode M_DaysText_takeEnd.2.1 49 = .ok (.aload_n 0, 1) := by decide +kernel
theorem d_DaysText_takeEnd_50 : decode M_DaysText_takeEnd.2.1 50 = .ok (.getfield 29, 3) := by decide +kernel
theorem d_DaysText_takeEnd_53 : decode M_DaysText_takeEnd.2.1 53 = .ok (.bipush 7, 2) := by decide +kernel
theorem d_DaysText_takeEnd_55 : decode M_DaysText_takeEnd.2.1 55 = .ok (.iconst 0, 1) := by decide +kernel
theorem d_DaysText_takeEnd_56 : decode M_DaysText_takeEnd.2.1 56 = .ok (.aload_n 0, 1) := by decide +kernel
theorem d_DaysText_takeEnd_57 : decode M_DaysText_takeEnd.2.1 57 = .ok (.getfield 11, 3) := by decide +kernel
theorem d_DaysText_takeEnd_60 : decode M_DaysText_takeEnd.2.1 60 = .ok (.aload_n 0, 1) := by decide +kernel
theorem d_DaysText_takeEnd_61 : decode M_DaysText_takeEnd.2.1 61 = .ok (.getfield 17, 3) := by decide +kernel
theorem d_DaysText_takeEnd_64 : decode M_DaysText_takeEnd.2.1 64 = .ok (.iaload, 1) := by decide +kernel
theorem d_DaysText_takeEnd_65 : decode M_DaysText_takeEnd.2.1 65 = .ok (.invokevirtual 68, 3) := by decide +kernel
theorem d_DaysText_takeEnd_68 : decode M_DaysText_takeEnd.2.1 68 = .ok (.aload_n 0, 1) := by decide +kernel
theorem d_DaysText_takeEnd_69 : decode M_DaysText_takeEnd.2.1 69 = .ok (.getfield 21, 3) := by decide +kernel
theorem d_DaysText_takeEnd_72 : decode M_DaysText_takeEnd.2.1 72 = .ok (.invokevirtual 72, 3) := by decide +kernel
theorem d_DaysText_takeEnd_75 : decode M_DaysText_takeEnd.2.1 75 = .ok (.iconst 1, 1) := by decide +kernel
theorem d_DaysText_takeEnd_76 : decode M_DaysText_takeEnd.2.1 76 = .ok (.ireturn, 1) := by decide +kernel
theorem d_DaysText_takeStep_0 : decode M_DaysText_takeStep.2.1 0 = .ok (.aload_n 0, 1) := by decide +kernel
theorem d_DaysText_takeStep_1 : decode M_DaysText_takeStep.2.1 1 = .ok (.getfield 21, 3) := by decide +kernel
theorem d_DaysText_takeStep_4 : decode M_DaysText_takeStep.2.1 4 = .ok (.getfield 49, 3) := by decide +kernel
theorem d_DaysText_takeStep_7 : decode M_DaysText_takeStep.2.1 7 = .ok (.istore_n 1, 1) := by decide +kernel
theorem d_DaysText_takeStep_8 : decode M_DaysText_takeStep.2.1 8 = .ok (.iload_n 1, 1) := by decide +kernel
theorem d_DaysText_takeStep_9 : decode M_DaysText_takeStep.2.1 9 = .ok (.invokestatic 75, 3) := by decide +kernel
theorem d_DaysText_takeStep_12 : decode M_DaysText_takeStep.2.1 12 = .ok (.ifCond .ne 11, 3) := by decide +kernel
theorem d_DaysText_takeStep_15 : decode M_DaysText_takeStep.2.1 15 = .ok (.aload_n 0, 1) := by decide +kernel
theorem d_DaysText_takeStep_16 : decode M_DaysText_takeStep.2.1 16 = .ok (.getfield 21, 3) := by decide +kernel
theorem d_DaysText_takeStep_19 : decode M_DaysText_takeStep.2.1 19 = .ok (.invokevirtual 46, 3) := by decide +kernel
theorem d_DaysText_takeStep_22 : decode M_DaysText_takeStep.2.1 22 = .ok (.ireturn, 1) := by decide +kernel
theorem d_DaysText_takeStep_23 : decode M_DaysText_takeStep.2.1 23 = .ok (.aload_n 0, 1) := by decide +kernel
theorem d_DaysText_takeStep_24 : decode M_DaysText_takeStep.2.1 24 = .ok (.getfield 29, 3) := by decide +kernel
theorem d_DaysText_takeStep_27 : decode M_DaysText_takeStep.2.1 27 = .ok (.getfield 78, 3) := by decide +kernel
theorem d_DaysText_takeStep_30 : decode M_DaysText_takeStep.2.1 30 = .ok (.bipush 30, 2) := by decide +kernel
theorem d_DaysText_takeStep_32 : decode M_DaysText_takeStep.2.1 32 = .ok (.if_icmp .lt 13, 3) := by decide +kernel
theorem d_DaysText_takeStep_35 : decode M_DaysText_takeStep.2.1 35 = .ok (.aload_n 0, 1) := by decide +kernel
theorem d_DaysText_takeStep_36 : decode M_DaysText_takeStep.2.1 36 = .ok (.getfield 21, 3) := by decide +kernel
theorem d_DaysText_takeStep_39 : decode M_DaysText_takeStep.2.1 39 = .ok (.bipush 6, 2) := by decide +kernel
theorem d_DaysText_takeStep_41 : decode M_DaysText_takeStep.2.1 41 = .ok (.invokevirtual 81, 3) := by decide +kernel
theorem d_DaysText_takeStep_44 : decode M_DaysText_takeStep.2.1 44 = .ok (.ireturn, 1) := by decide +kernel
theorem d_DaysText_takeStep_45 : decode M_DaysText_takeStep.2.1 45 = .ok (.iload_n 1, 1) := by decide +kernel
theorem d_DaysText_takeStep_46 : decode M_DaysText_takeStep.2.1 46 = .ok (.bipush 16, 2) := by decide +kernel
theorem d_DaysText_takeStep_48 : decode M_DaysText_takeStep.2.1 48 = .ok (.if_icmp .eq 9, 3) := by decide +kernel
theorem d_DaysText_takeStep_51 : decode M_DaysText_takeStep.2.1 51 = .ok (.iload_n 1, 1) := by decide +kernel
theorem d_DaysText_takeStep_52 : decode M_DaysText_takeStep.2.1 52 = .ok (.bipush 21, 2) := by decide +kernel
theorem d_DaysText_takeStep_54 : decode M_DaysText_takeStep.2.1 54 = .ok (.if_icmp .ne 21, 3) := by decide +kernel
theorem d_DaysText_takeStep_57 : decode M_DaysText_takeStep.2.1 57 = .ok (.aload_n 0, 1) := by decide +kernel
theorem d_DaysText_takeStep_58 : decode M_DaysText_takeStep.2.1 58 = .ok (.getfield 17, 3) := by decide +kernel
theorem d_DaysText_takeStep_61 : decode M_DaysText_takeStep.2.1 61 = .ok (.iconst 3, 1) := by decide +kernel
theorem d_DaysText_takeStep_62 : decode M_DaysText_takeStep.2.1 62 = .ok (.if_icmp .lt 13, 3) := by decide +kernel
theorem d_DaysText_takeStep_65 : decode M_DaysText_takeStep.2.1 65 = .ok (.aload_n 0, 1) := by decide +kernel
theorem d_DaysText_takeStep_66 : decode M_DaysText_takeStep.2.1 66 = .ok (.getfield 21, 3) := by decide +kernel
theorem d_DaysText_takeStep_69 : decode M_DaysText_takeStep.2.1 69 = .ok (.bipush 7, 2) := by decide +kernel
theorem d_DaysText_takeStep_71 : decode M_DaysText_takeStep.2.1 71 = .ok (.invokevirtual 81, 3) := by decide +kernel
theorem d_DaysText_takeStep_74 : decode M_DaysText_takeStep.2.1 74 = .ok (.ireturn, 1) := by decide +kernel
theorem d_DaysText_takeStep_75 : decode M_DaysText_takeStep.2.1 75 = .ok (.aload_n 0, 1) := by decide +kernel
theorem d_DaysText_takeStep_76 : decode M_DaysText_takeStep.2.1 76 = .ok (.getfield 29, 3) := by decide +kernel
theorem d_DaysText_takeStep_79 : decode M_DaysText_takeStep.2.1 79 = .ok (.dup, 1) := by decide +kernel
theorem d_DaysText_takeStep_80 : decode M_DaysText_takeStep.2.1 80 = .ok (.getfield 78, 3) := by decide +kernel
theorem d_DaysText_takeStep_83 : decode M_DaysText_takeStep.2.1 83 = .ok (.iconst 1, 1) := by decide +kernel
theorem d_DaysText_takeStep_84 : decode M_DaysText_takeStep.2.1 84 = .ok (.iadd, 1) := by decide +kernel
theorem d_DaysText_takeStep_85 : decode M_DaysText_takeStep.2.1 85 = .ok (.putfield 78, 3) := by decide +kernel
theorem d_DaysText_takeStep_88 : decode M_DaysText_takeStep.2.1 88 = .ok (.aload_n 0, 1) := by decide +kernel
theorem d_DaysText_takeStep_89 : decode M_DaysText_takeStep.2.1 89 = .ok (.getfield 21, 3) := by decide +kernel
theorem d_DaysText_takeStep_92 : decode M_DaysText_takeStep.2.1 92 = .ok (.invokevirtual 72, 3) := by decide +kernel
theorem d_DaysText_takeStep_95 : decode M_DaysText_takeStep.2.1 95 = .ok (.iload_n 1, 1) := by decide +kernel
theorem d_DaysText_takeStep_96 : decode M_DaysText_takeStep.2.1 96 = .ok (.tableswitch 127 11 21 #[60, 69, 78, 87, 92, 104, 127, 127, 127, 127, 113], 60) := by decide +kernel
theorem d_DaysText_takeStep_156 : decode M_DaysText_takeStep.2.1 156 = .ok (.aload_n 0, 1) := by decide +kernel
theorem d_DaysText_takeStep_157 : decode M_DaysText_takeStep.2.1 157 = .ok (.iconst 0, 1) := by decide +kernel
theorem d_DaysText_takeStep_158 : decode M_DaysText_takeStep.2.1 158 = .ok (.iconst 0, 1) := by decide +kernel
theorem d_DaysText_takeStep_159 : decode M_DaysText_takeStep.2.1 159 = .ok (.bipush 11, 2) := by decide +kernel
theorem d_DaysText_takeStep_161 : decode M_DaysText_takeStep.2.1 161 = .ok (.invokevirtual 84, 3) := by decide +kernel
theorem d_DaysText_takeStep_164 : decode M_DaysText_takeStep.2.1 164 = .ok (.ireturn, 1) := by decide +kernel
theorem d_DaysText_takeStep_165 : decode M_DaysText_takeStep.2.1 165 = .ok (.aload_n 0, 1) := by decide +kernel
theorem d_DaysText_takeStep_166 : decode M_DaysText_takeStep.2.1 166 = .ok (.iconst 1, 1) := by decide +kernel
theorem d_DaysText_takeStep_167 : decode M_DaysText_takeStep.2.1 167 = .ok (.iconst 0, 1) := by decide +kernel
theorem d_DaysText_takeStep_168 : decode M_DaysText_takeStep.2.1 168 = .ok (.bipush 11, 2) := by decide +kernel
theorem d_DaysText_takeStep_170 : decode M_DaysText_takeStep.2.1 170 = .ok (.invokevirtual 84, 3) := by decide +kernel
theorem d_DaysText_takeStep_173 : decode M_DaysText_takeStep.2.1 173 = .ok (.ireturn, 1) := by decide +kernel
theorem d_DaysText_takeStep_174 : decode M_DaysText_takeStep.2.1 174 = .ok (.aload_n 0, 1) := by decide +kernel
theorem d_DaysText_takeStep_175 : decode M_DaysText_takeStep.2.1 175 = .ok (.iconst 2, 1) := by decide +kernel
theorem d_DaysText_takeStep_176 : decode M_DaysText_takeStep.2.1 176 = .ok (.iconst 0, 1) := by decide +kernel
theorem d_DaysText_takeStep_177 : decode M_DaysText_takeStep.2.1 177 = .ok (.bipush 11, 2) := by decide +kernel
theorem d_DaysText_takeStep_179 : decode M_DaysText_takeStep.2.1 179 = .ok (.invokevirtual 84, 3) := by decide +kernel
theorem d_DaysText_takeStep_182 : decode M_DaysText_takeStep.2.1 182 = .ok (.ireturn, 1) := by decide +kernel
theorem d_DaysText_takeStep_183 : decode M_DaysText_takeStep.2.1 183 = .ok (.aload_n 0, 1) := by decide +kernel
theorem d_DaysText_takeStep_184 : decode M_DaysText_takeStep.2.1 184 = .ok (.invokevirtual 88, 3) := by decide +kernel
theorem d_DaysText_takeStep_187 : decode M_DaysText_takeStep.2.1 187 = .ok (.ireturn, 1) := by decide +kernel
theorem d_DaysText_takeStep_188 : decode M_DaysText_takeStep.2.1 188 = .ok (.aload_n 0, 1) := by decide +kernel
theorem d_DaysText_takeStep_189 : decode M_DaysText_takeStep.2.1 189 = .ok (.getfield 29, 3) := by decide +kernel
theorem d_DaysText_takeStep_192 : decode M_DaysText_takeStep.2.1 192 = .ok (.iconst 4, 1) := by decide +kernel
theorem d_DaysText_takeStep_193 : decode M_DaysText_takeStep.2.1 193 = .ok (.iconst 0, 1) := by decide +kernel
theorem d_DaysText_takeStep_194 : decode M_DaysText_takeStep.2.1 194 = .ok (.iconst 0, 1) := by decide +kernel
theorem d_DaysText_takeStep_195 : decode M_DaysText_takeStep.2.1 195 = .ok (.invokevirtual 68, 3) := by decide +kernel
theorem d_DaysText_takeStep_198 : decode M_DaysText_takeStep.2.1 198 = .ok (.iconst 1, 1) := by decide +kernel
theorem d_DaysText_takeStep_199 : decode M_DaysText_takeStep.2.1 199 = .ok (.ireturn, 1) := by decide +kernel
theorem d_DaysText_takeStep_200 : decode M_DaysText_takeStep.2.1 200 = .ok (.aload_n 0, 1) := by decide +kernel
theorem d_DaysText_takeStep_201 : decode M_DaysText_takeStep.2.1 201 = .ok (.invokevirtual 91, 3) := by decide +kernel
theorem d_DaysText_takeStep_204 : decode M_DaysText_takeStep.2.1 204 = .ok (.aload_n 0, 1) := by decide +kernel
theorem d_DaysText_takeStep_205 : decode M_DaysText_takeStep.2.1 205 = .ok (.invokevirtual 94, 3) := by decide +kernel
theorem d_DaysText_takeStep_208 : decode M_DaysText_takeStep.2.1 208 = .ok (.ireturn, 1) := by decide +kernel
theorem d_DaysText_takeStep_209 : decode M_DaysText_takeStep.2.1 209 = .ok (.aload_n 0, 1) := by decide +kernel
theorem d_DaysText_takeStep_210 : decode M_DaysText_takeStep.2.1 210 = .ok (.invokevirtual 91, 3) := by decide +kernel
theorem d_DaysText_takeStep_213 : decode M_DaysText_takeStep.2.1 213 = .ok (.aload_n 0, 1) := by decide +kernel
theorem d_DaysText_takeStep_214 : decode M_DaysText_takeStep.2.1 214 = .ok (.bipush 6, 2) := by decide +kernel
theorem d_DaysText_takeStep_216 : decode M_DaysText_takeStep.2.1 216 = .ok (.iconst 1, 1) := by decide +kernel
theorem d_DaysText_takeStep_217 : decode M_DaysText_takeStep.2.1 217 = .ok (.bipush 99, 2) := by decide +kernel
theorem d_DaysText_takeStep_219 : decode M_DaysText_takeStep.2.1 219 = .ok (.invokevirtual 84, 3) := by decide +kernel
theorem d_DaysText_takeStep_222 : decode M_DaysText_takeStep.2.1 222 = .ok (.ireturn, 1) := by decide +kernel
theorem d_DaysText_takeStep_223 : decode M_DaysText_takeStep.2.1 223 = .ok (.aload_n 0, 1) := by decide +kernel
theorem d_DaysText_takeStep_224 : decode M_DaysText_takeStep.2.1 224 = .ok (.getfield 29, 3) := by decide +kernel
theorem d_DaysText_takeStep_227 : decode M_DaysText_takeStep.2.1 227 = .ok (.iconst 5, 1) := by decide +kernel
theorem d_DaysText_takeStep_228 : decode M_DaysText_takeStep.2.1 228 = .ok (.iconst 0, 1) := by decide +kernel
theorem d_DaysText_takeStep_229 : decode M_DaysText_takeStep.2.1 229 = .ok (.iconst 0, 1) := by decide +kernel
theorem d_DaysText_takeStep_230 : decode M_DaysText_takeStep.2.1 230 = .ok (.invokevirtual 68, 3) := by decide +kernel
theorem d_DaysText_takeStep_233 : decode M_DaysText_takeStep.2.1 233 = .ok (.iconst 1, 1) := by decide +kernel
theorem d_DaysText_takeStep_234 : decode M_DaysText_takeStep.2.1 234 = .ok (.ireturn, 1) := by decide +kernel
theorem d_DaysText_isStep_0 : decode M_DaysText_isStep.2.1 0 = .ok (.iload_n 0, 1) := by decide +kernel
theorem d_DaysText_isStep_1 : decode M_DaysText_isStep.2.1 1 = .ok (.tableswitch 69 11 23 #[67, 67, 67, 67, 67, 67, 69, 69, 69, 69, 67, 69, 67], 67) := by decide +kernel
theorem d_DaysText_isStep_68 : decode M_DaysText_isStep.2.1 68 = .ok (.iconst 1, 1) := by decide +kernel
theorem d_DaysText_isStep_69 : decode M_DaysText_isStep.2.1 69 = .ok (.ireturn, 1) := by decide +kernel
theorem d_DaysText_isStep_70 : decode M_DaysText_isStep.2.1 70 = .ok (.iconst 0, 1) := by decide +kernel
theorem d_DaysText_isStep_71 : decode M_DaysText_isStep.2.1 71 = .ok (.ireturn, 1) := by decide +kernel
theorem d_DaysText_openRow_0 : decode M_DaysText_openRow.2.1 0 = .ok (.aload_n 0, 1) := by decide +kernel
theorem d_DaysText_openRow_1 : decode M_DaysText_openRow.2.1 1 = .ok (.getfield 17, 3) := by decide +kernel
theorem d_DaysText_openRow_4 : decode M_DaysText_openRow.2.1 4 = .ok (.iconst 3, 1) := by decide +kernel
theorem d_DaysText_openRow_5 : decode M_DaysText_openRow.2.1 5 = .ok (.invokestatic 97, 3) := by decide +kernel
theorem d_DaysText_openRow_8 : decode M_DaysText_openRow.2.1 8 = .ok (.ifCond .eq 29, 3) := by decide +kernel
theorem d_DaysText_openRow_11 : decode M_DaysText_openRow.2.1 11 = .ok (.aload_n 0, 1) := by decide +kernel
theorem d_DaysText_openRow_12 : decode M_DaysText_openRow.2.1 12 = .ok (.getfield 11, 3) := by decide +kernel
theorem d_DaysText_openRow_15 : decode M_DaysText_openRow.2.1 15 = .ok (.aload_n 0, 1) := by decide +kernel
theorem d_DaysText_openRow_16 : decode M_DaysText_openRow.2.1 16 = .ok (.getfield 17, 3) := by decide +kernel
theorem d_DaysText_openRow_19 : decode M_DaysText_openRow.2.1 19 = .ok (.aload_n 0, 1) := by decide +kernel
theorem d_DaysText_openRow_20 : decode M_DaysText_openRow.2.1 20 = .ok (.getfield 29, 3) := by decide +kernel
theorem d_DaysText_openRow_23 : decode M_DaysText_openRow.2.1 23 = .ok (.getfield 65, 3) := by decide +kernel
theorem d_DaysText_openRow_26 : decode M_DaysText_openRow.2.1 26 = .ok (.iastore, 1) := by decide +kernel
theorem d_DaysText_openRow_27 : decode M_DaysText_openRow.2.1 27 = .ok (.aload_n 0, 1) := by decide +kernel
theorem d_DaysText_openRow_28 : decode M_DaysText_openRow.2.1 28 = .ok (.dup, 1) := by decide +kernel
theorem d_DaysText_openRow_29 : decode M_DaysText_openRow.2.1 29 = .ok (.getfield 17, 3) := by decide +kernel
theorem d_DaysText_openRow_32 : decode M_DaysText_openRow.2.1 32 = .ok (.iconst 1, 1) := by decide +kernel
theorem d_DaysText_openRow_33 : decode M_DaysText_openRow.2.1 33 = .ok (.iadd, 1) := by decide +kernel
theorem d_DaysText_openRow_34 : decode M_DaysText_openRow.2.1 34 = .ok (.putfield 17, 3) := by decide +kernel
theorem d_DaysText_openRow_37 : decode M_DaysText_openRow.2.1 37 = .ok (.return_, 1) := by decide +kernel
theorem d_DaysText_takeNumberRow_0 : decode M_DaysText_takeNumberRow.2.1 0 = .ok (.aload_n 0, 1) := by decide +kernel
theorem d_DaysText_takeNumberRow_1 : decode M_DaysText_takeNumberRow.2.1 1 = .ok (.getfield 21, 3) := by decide +kernel
theorem d_DaysText_takeNumberRow_4 : decode M_DaysText_takeNumberRow.2.1 4 = .ok (.iload_n 2, 1) := by decide +kernel
theorem d_DaysText_takeNumberRow_5 : decode M_DaysText_takeNumberRow.2.1 5 = .ok (.iload_n 3, 1) := by decide +kernel
theorem d_DaysText_takeNumberRow_6 : decode M_DaysText_takeNumberRow.2.1 6 = .ok (.invokevirtual 101, 3) := by decide +kernel
theorem d_DaysText_takeNumberRow_9 : decode M_DaysText_takeNumberRow.2.1 9 = .ok (.ifCond .ne 5, 3) := by decide +kernel
theorem d_DaysText_takeNumberRow_12 : decode M_DaysText_takeNumberRow.2.1 12 = .ok (.iconst 0, 1) := by decide +kernel
theorem d_DaysText_takeNumberRow_13 : decode M_DaysText_takeNumberRow.2.1 13 = .ok (.ireturn, 1) := by decide +kernel
theorem d_DaysText_takeNumberRow_14 : decode M_DaysText_takeNumberRow.2.1 14 = .ok (.aload_n 0, 1) := by decide +kernel
theorem d_DaysText_takeNumberRow_15 : decode M_DaysText_takeNumberRow.2.1 15 = .ok (.getfield 29, 3) := by decide +kernel
theorem d_DaysText_takeNumberRow_18 : decode M_DaysText_takeNumberRow.2.1 18 = .ok (.iload_n 1, 1) := by decide +kernel
theorem d_DaysText_takeNumberRow_19 : decode M_DaysText_takeNumberRow.2.1 19 = .ok (.aload_n 0, 1) := by decide +kernel
theorem d_DaysText_takeNumberRow_20 : decode M_DaysText_takeNumberRow.2.1 20 = .ok (.getfield 21, 3) := by decide +kernel
theorem d_DaysText_takeNumberRow_23 : decode M_DaysText_takeNumberRow.2.1 23 = .ok (.getfield 104, 3) := by decide +kernel
theorem d_DaysText_takeNumberRow_26 : decode M_DaysText_takeNumberRow.2.1 26 = .ok (.iconst 0, 1) := by decide +kernel
theorem d_DaysText_takeNumberRow_27 : decode M_DaysText_takeNumberRow.2.1 27 = .ok (.invokevirtual 68, 3) := by decide +kernel
theorem d_DaysText_takeNumberRow_30 : decode M_DaysText_takeNumberRow.2.1 30 = .ok (.iconst 1, 1) := by decide +kernel
theorem d_DaysText_takeNumberRow_31 : decode M_DaysText_takeNumberRow.2.1 31 = .ok (.ireturn, 1) := by decide +kernel
theorem d_DaysText_takeBelieve_0 : decode M_DaysText_takeBelieve.2.1 0 = .ok (.aload_n 0, 1) := by decide +kernel
theorem d_DaysText_takeBelieve_1 : decode M_DaysText_takeBelieve.2.1 1 = .ok (.getfield 21, 3) := by decide +kernel
theorem d_DaysText_takeBelieve_4 : decode M_DaysText_takeBelieve.2.1 4 = .ok (.invokevirtual 107, 3) := by decide +kernel
theorem d_DaysText_takeBelieve_7 : decode M_DaysText_takeBelieve.2.1 7 = .ok (.ifCond .ne 5, 3) := by decide +kernel
theorem d_DaysText_takeBelieve_10 : decode M_DaysText_takeBelieve.2.1 10 = .ok (.iconst 0, 1) := by decide +kernel
theorem d_DaysText_takeBelieve_11 : decode M_DaysText_takeBelieve.2.1 11 = .ok (.ireturn, 1) := by decide +kernel
theorem d_DaysText_takeBelieve_12 : decode M_DaysText_takeBelieve.2.1 12 = .ok (.aload_n 0, 1) := by decide +kernel
theorem d_DaysText_takeBelieve_13 : decode M_DaysText_takeBelieve.2.1 13 = .ok (.getfield 25, 3) := by decide +kernel
theorem d_DaysText_takeBelieve_16 : decode M_DaysText_takeBelieve.2.1 16 = .ok (.aload_n 0, 1) := by decide +kernel
theorem d_DaysText_takeBelieve_17 : decode M_DaysText_takeBelieve.2.1 17 = .ok (.getfield 21, 3) := by decide +kernel
theorem d_DaysText_takeBelieve_20 : decode M_DaysText_takeBelieve.2.1 20 = .ok (.getfield 110, 3) := by decide +kernel
theorem d_DaysText_takeBelieve_23 : decode M_DaysText_takeBelieve.2.1 23 = .ok (.invokevirtual 114, 3) := by decide +kernel
theorem d_DaysText_takeBelieve_26 : decode M_DaysText_takeBelieve.2.1 26 = .ok (.istore_n 1, 1) := by decide +kernel
theorem d_DaysText_takeBelieve_27 : decode M_DaysText_takeBelieve.2.1 27 = .ok (.iload_n 1, 1) := by decide +kernel
theorem d_DaysText_takeBelieve_28 : decode M_DaysText_takeBelieve.2.1 28 = .ok (.iconst (-1), 1) := by decide +kernel
theorem d_DaysText_takeBelieve_29 : decode M_DaysText_takeBelieve.2.1 29 = .ok (.if_icmp .ne 12, 3) := by decide +kernel
theorem d_DaysText_takeBelieve_32 : decode M_DaysText_takeBelieve.2.1 32 = .ok (.aload_n 0, 1) := by decide +kernel
theorem d_DaysText_takeBelieve_33 : decode M_DaysText_takeBelieve.2.1 33 = .ok (.getfield 21, 3) := by decide +kernel
theorem d_DaysText_takeBelieve_36 : decode M_DaysText_takeBelieve.2.1 36 = .ok (.iconst 3, 1) := by decide +kernel
theorem d_DaysText_takeBelieve_37 : decode M_DaysText_takeBelieve.2.1 37 = .ok (.invokevirtual 81, 3) := by decide +kernel
theorem d_DaysText_takeBelieve_40 : decode M_DaysText_takeBelieve.2.1 40 = .ok (.ireturn, 1) := by decide +kernel
theorem d_DaysText_takeBelieve_41 : decode M_DaysText_takeBelieve.2.1 41 = .ok (.aload_n 0, 1) := by decide +kernel
theorem d_DaysText_takeBelieve_42 : decode M_DaysText_takeBelieve.2.1 42 = .ok (.getfield 21, 3) := by decide +kernel
theorem d_DaysText_takeBelieve_45 : decode M_DaysText_takeBelieve.2.1 45 = .ok (.invokevirtual 72, 3) := by decide +kernel
theorem d_DaysText_takeBelieve_48 : decode M_DaysText_takeBelieve.2.1 48 = .ok (.aload_n 0, 1) := by decide +kernel
theorem d_DaysText_takeBelieve_49 : decode M_DaysText_takeBelieve.2.1 49 = .ok (.getfield 21, 3) := by decide +kernel
theorem d_DaysText_takeBelieve_52 : decode M_DaysText_takeBelieve.2.1 52 = .ok (.iconst 0, 1) := by decide +kernel
theorem d_DaysText_takeBelieve_53 : decode M_DaysText_takeBelieve.2.1 53 = .ok (.bipush 23, 2) := by decide +kernel
theorem d_DaysText_takeBelieve_55 : decode M_DaysText_takeBelieve.2.1 55 = .ok (.invokevirtual 101, 3) := by decide +kernel
theorem d_DaysText_takeBelieve_58 : decode M_DaysText_takeBelieve.2.1 58 = .ok (.ifCond .ne 5, 3) := by decide +kernel
theorem d_DaysText_takeBelieve_61 : decode M_DaysText_takeBelieve.2.1 61 = .ok (.iconst 0, 1) := by decide +kernel
theorem d_DaysText_takeBelieve_62 : decode M_DaysText_takeBelieve.2.1 62 = .ok (.ireturn, 1) := by decide +kernel
theorem d_DaysText_takeBelieve_63 : decode M_DaysText_takeBelieve.2.1 63 = .ok (.aload_n 0, 1) := by decide +kernel
theorem d_DaysText_takeBelieve_64 : decode M_DaysText_takeBelieve.2.1 64 = .ok (.getfield 29, 3) := by decide +kernel
theorem d_DaysText_takeBelieve_67 : decode M_DaysText_takeBelieve.2.1 67 = .ok (.iconst 3, 1) := by decide +kernel
theorem d_DaysText_takeBelieve_68 : decode M_DaysText_takeBelieve.2.1 68 = .ok (.iload_n 1, 1) := by decide +kernel
theorem d_DaysText_takeBelieve_69 : decode M_DaysText_takeBelieve.2.1 69 = .ok (.aload_n 0, 1) := by decide +kernel
theorem d_DaysText_takeBelieve_70 : decode M_DaysText_takeBelieve.2.1 70 = .ok (.getfield 21, 3) := by decide +kernel
theorem d_DaysText_takeBelieve_73 : decode M_DaysText_takeBelieve.2.1 73 = .ok (.getfield 104, 3) := by decide +kernel
theorem d_DaysText_takeBelieve_76 : decode M_DaysText_takeBelieve.2.1 76 = .ok (.invokevirtual 68, 3) := by decide +kernel
theorem d_DaysText_takeBelieve_79 : decode M_DaysText_takeBelieve.2.1 79 = .ok (.iconst 1, 1) := by decide +kernel
theorem d_DaysText_takeBelieve_80 : decode M_DaysText_takeBelieve.2.1 80 = .ok (.ireturn, 1) := by decide +kernel
theorem d_DaysText_takeTest_0 : decode M_DaysText_takeTest.2.1 0 = .ok (.aload_n 0, 1) := by decide +kernel
theorem d_DaysText_takeTest_1 : decode M_DaysText_takeTest.2.1 1 = .ok (.getfield 21, 3) := by decide +kernel
theorem d_DaysText_takeTest_4 : decode M_DaysText_takeTest.2.1 4 = .ok (.getfield 49, 3) := by decide +kernel
theorem d_DaysText_takeTest_7 : decode M_DaysText_takeTest.2.1 7 = .ok (.istore_n 1, 1) := by decide +kernel
theorem d_DaysText_takeTest_8 : decode M_DaysText_takeTest.2.1 8 = .ok (.iload_n 1, 1) := by decide +kernel
theorem d_DaysText_takeTest_9 : decode M_DaysText_takeTest.2.1 9 = .ok (.bipush 17, 2) := by decide +kernel
theorem d_DaysText_takeTest_11 : decode M_DaysText_takeTest.2.1 11 = .ok (.if_icmp .eq 29, 3) := by decide +kernel
theorem d_DaysText_takeTest_14 : decode M_DaysText_takeTest.2.1 14 = .ok (.iload_n 1, 1) := by decide +kernel
theorem d_DaysText_takeTest_15 : decode M_DaysText_takeTest.2.1 15 = .ok (.bipush 18, 2) := by decide +kernel
theorem d_DaysText_takeTest_17 : decode M_DaysText_takeTest.2.1 17 = .ok (.if_icmp .eq 23, 3) := by decide +kernel
theorem d_DaysText_takeTest_20 : decode M_DaysText_takeTest.2.1 20 = .ok (.iload_n 1, 1) := by decide +kernel
theorem d_DaysText_takeTest_21 : decode M_DaysText_takeTest.2.1 21 = .ok (.bipush 19, 2) := by decide +kernel
theorem d_DaysText_takeTest_23 : decode M_DaysText_takeTest.2.1 23 = .ok (.if_icmp .eq 17, 3) := by decide +kernel
theorem d_DaysText_takeTest_26 : decode M_DaysText_takeTest.2.1 26 = .ok (.iload_n 1, 1) := by decide +kernel
theorem d_DaysText_takeTest_27 : decode M_DaysText_takeTest.2.1 27 = .ok (.bipush 20, 2) := by decide +kernel
theorem d_DaysText_takeTest_29 : decode M_DaysText_takeTest.2.1 29 = .ok (.if_icmp .eq 11, 3) := by decide +kernel
theorem d_DaysText_takeTest_32 : decode M_DaysText_takeTest.2.1 32 = .ok (.aload_n 0, 1) := by decide +kernel
theorem d_DaysText_takeTest_33 : decode M_DaysText_takeTest.2.1 33 = .ok (.getfield 21, 3) := by decide +kernel
theorem d_DaysText_takeTest_36 : decode M_DaysText_takeTest.2.1 36 = .ok (.invokevirtual 46, 3) := by decide +kernel
theorem d_DaysText_takeTest_39 : decode M_DaysText_takeTest.2.1 39 = .ok (.ireturn, 1) := by decide +kernel
theorem d_DaysText_takeTest_40 : decode M_DaysText_takeTest.2.1 40 = .ok (.aload_n 0, 1) := by decide +kernel
theorem d_DaysText_takeTest_41 : decode M_DaysText_takeTest.2.1 41 = .ok (.getfield 21, 3) := by decide +kernel
theorem d_DaysText_takeTest_44 : decode M_DaysText_takeTest.2.1 44 = .ok (.invokevirtual 72, 3) := by decide +kernel
theorem d_DaysText_takeTest_47 : decode M_DaysText_takeTest.2.1 47 = .ok (.iload_n 1, 1) := by decide +kernel
theorem d_DaysText_takeTest_48 : decode M_DaysText_takeTest.2.1 48 = .ok (.tableswitch 56 17 19 #[28, 33, 46], 28) := by decide +kernel
theorem d_DaysText_takeTest_76 : decode M_DaysText_takeTest.2.1 76 = .ok (.aload_n 0, 1) := by decide +kernel
theorem d_DaysText_takeTest_77 : decode M_DaysText_takeTest.2.1 77 = .ok (.invokevirtual 120, 3) := by decide +kernel
theorem d_DaysText_takeTest_80 : decode M_DaysText_takeTest.2.1 80 = .ok (.ireturn, 1) := by decide +kernel
theorem d_DaysText_takeTest_81 : decode M_DaysText_takeTest.2.1 81 = .ok (.aload_n 0, 1) := by decide +kernel
theorem d_DaysText_takeTest_82 : decode M_DaysText_takeTest.2.1 82 = .ok (.getfield 29, 3) := by decide +kernel
theorem d_DaysText_takeTest_85 : decode M_DaysText_takeTest.2.1 85 = .ok (.bipush 9, 2) := by decide +kernel
theorem d_DaysText_takeTest_87 : decode M_DaysText_takeTest.2.1 87 = .ok (.iconst 0, 1) := by decide +kernel
theorem d_DaysText_takeTest_88 : decode M_DaysText_takeTest.2.1 88 = .ok (.iconst 0, 1) := by decide +kernel
theorem d_DaysText_takeTest_89 : decode M_DaysText_takeTest.2.1 89 = .ok (.invokevirtual 68, 3) := by decide +kernel
theorem d_DaysText_takeTest_92 : decode M_DaysText_takeTest.2.1 92 = .ok (.iconst 1, 1) := by decide +kernel
theorem d_DaysText_takeTest_93 : decode M_DaysText_takeTest.2.1 93 = .ok (.ireturn, 1) := by decide +kernel
theorem d_DaysText_takeTest_94 : decode M_DaysText_takeTest.2.1 94 = .ok (.aload_n 0, 1) := by decide +kernel
theorem d_DaysText_takeTest_95 : decode M_DaysText_takeTest.2.1 95 = .ok (.bipush 10, 2) := by decide +kernel
theorem d_DaysText_takeTest_97 : decode M_DaysText_takeTest.2.1 97 = .ok (.iconst 0, 1) := by decide +kernel
theorem d_DaysText_takeTest_98 : decode M_DaysText_takeTest.2.1 98 = .ok (.bipush 11, 2) := by decide +kernel
theorem d_DaysText_takeTest_100 : decode M_DaysText_takeTest.2.1 100 = .ok (.invokevirtual 84, 3) := by decide +kernel
theorem d_DaysText_takeTest_103 : decode M_DaysText_takeTest.2.1 103 = .ok (.ireturn, 1) := by decide +kernel
theorem d_DaysText_takeTest_104 : decode M_DaysText_takeTest.2.1 104 = .ok (.aload_n 0, 1) := by decide +kernel
theorem d_DaysText_takeTest_105 : decode M_DaysText_takeTest.2.1 105 = .ok (.invokevirtual 123, 3) := by decide +kernel
theorem d_DaysText_takeTest_108 : decode M_DaysText_takeTest.2.1 108 = .ok (.istore_n 2, 1) := by decide +kernel
theorem d_DaysText_takeTest_109 : decode M_DaysText_takeTest.2.1 109 = .ok (.iload_n 2, 1) := by decide +kernel
theorem d_DaysText_takeTest_110 : decode M_DaysText_takeTest.2.1 110 = .ok (.iconst (-1), 1) := by decide +kernel
theorem d_DaysText_takeTest_111 : decode M_DaysText_takeTest.2.1 111 = .ok (.if_icmp .ne 11, 3) := by decide +kernel
theorem d_DaysText_takeTest_114 : decode M_DaysText_takeTest.2.1 114 = .ok (.aload_n 0, 1) := by decide +kernel
theorem d_DaysText_takeTest_115 : decode M_DaysText_takeTest.2.1 115 = .ok (.getfield 21, 3) := by decide +kernel
theorem d_DaysText_takeTest_118 : decode M_DaysText_takeTest.2.1 118 = .ok (.invokevirtual 46, 3) := by decide +kernel
theorem d_DaysText_takeTest_121 : decode M_DaysText_takeTest.2.1 121 = .ok (.ireturn, 1) := by decide +kernel
theorem d_DaysText_takeTest_122 : decode M_DaysText_takeTest.2.1 122 = .ok (.aload_n 0, 1) := by decide +kernel
theorem d_DaysText_takeTest_123 : decode M_DaysText_takeTest.2.1 123 = .ok (.getfield 21, 3) := by decide +kernel
theorem d_DaysText_takeTest_126 : decode M_DaysText_takeTest.2.1 126 = .ok (.invokevirtual 72, 3) := by decide +kernel
theorem d_DaysText_takeTest_129 : decode M_DaysText_takeTest.2.1 129 = .ok (.aload_n 0, 1) := by decide +kernel
theorem d_DaysText_takeTest_130 : decode M_DaysText_takeTest.2.1 130 = .ok (.iload_n 2, 1) := by decide +kernel
theorem d_DaysText_takeTest_131 : decode M_DaysText_takeTest.2.1 131 = .ok (.iconst 0, 1) := by decide +kernel
theorem d_DaysText_takeTest_132 : decode M_DaysText_takeTest.2.1 132 = .ok (.sipush 9999, 3) := by decide +kernel
theorem d_DaysText_takeTest_135 : decode M_DaysText_takeTest.2.1 135 = .ok (.invokevirtual 84, 3) := by decide +kernel
theorem d_DaysText_takeTest_138 : decode M_DaysText_takeTest.2.1 138 = .ok (.ireturn, 1) := by decide +kernel
theorem d_DaysText_comparisonHere_0 : decode M_DaysText_comparisonHere.2.1 0 = .ok (.aload_n 0, 1) := by decide +kernel
theorem d_DaysText_comparisonHere_1 : decode M_DaysText_comparisonHere.2.1 1 = .ok (.getfield 21, 3) := by decide +kernel
theorem d_DaysText_comparisonHere_4 : decode M_DaysText_comparisonHere.2.1 4 = .ok (.getfield 127, 3) := by decide +kernel
theorem d_DaysText_comparisonHere_7 : decode M_DaysText_comparisonHere.2.1 7 = .ok (.iconst 5, 1) := by decide +kernel
theorem d_DaysText_comparisonHere_8 : decode M_DaysText_comparisonHere.2.1 8 = .ok (.if_icmp .eq 5, 3) := by decide +kernel
theorem d_DaysText_comparisonHere_11 : decode M_DaysText_comparisonHere.2.1 11 = .ok (.iconst (-1), 1) := by decide +kernel
theorem d_DaysText_comparisonHere_12 : decode M_DaysText_comparisonHere.2.1 12 = .ok (.ireturn, 1) := by decide +kernel
theorem d_DaysText_comparisonHere_13 : decode M_DaysText_comparisonHere.2.1 13 = .ok (.aload_n 0, 1) := by decide +kernel
theorem d_DaysText_comparisonHere_14 : decode M_DaysText_comparisonHere.2.1 14 = .ok (.getfield 21, 3) := by decide +kernel
theorem d_DaysText_comparisonHere_17 : decode M_DaysText_comparisonHere.2.1 17 = .ok (.getfield 130, 3) := by decide +kernel
theorem d_DaysText_comparisonHere_20 : decode M_DaysText_comparisonHere.2.1 20 = .ok (.tableswitch 37 60 62 #[28, 34, 31], 28) := by decide +kernel
theorem d_DaysText_comparisonHere_48 : decode M_DaysText_comparisonHere.2.1 48 = .ok (.bipush 11, 2) := by decide +kernel
theorem d_DaysText_comparisonHere_50 : decode M_DaysText_comparisonHere.2.1 50 = .ok (.ireturn, 1) := by decide +kernel
theorem d_DaysText_comparisonHere_51 : decode M_DaysText_comparisonHere.2.1 51 = .ok (.bipush 12, 2) := by decide +kernel
theorem d_DaysText_comparisonHere_53 : decode M_DaysText_comparisonHere.2.1 53 = .ok (.ireturn, 1) := by decide +kernel
theorem d_DaysText_comparisonHere_54 : decode M_DaysText_comparisonHere.2.1 54 = .ok (.bipush 13, 2) := by decide +kernel
theorem d_DaysText_comparisonHere_56 : decode M_DaysText_comparisonHere.2.1 56 = .ok (.ireturn, 1) := by decide +kernel
theorem d_DaysText_comparisonHere_57 : decode M_DaysText_comparisonHere.2.1 57 = .ok (.iconst (-1), 1) := by decide +kernel
theorem d_DaysText_comparisonHere_58 : decode M_DaysText_comparisonHere.2.1 58 = .ok (.ireturn, 1) := by decide +kernel
theorem d_DaysText_takeAt_0 : decode M_DaysText_takeAt.2.1 0 = .ok (.aload_n 0, 1) := by decide +kernel
theorem d_DaysText_takeAt_1 : decode M_DaysText_takeAt.2.1 1 = .ok (.getfield 21, 3) := by decide +kernel
theorem d_DaysText_takeAt_4 : decode M_DaysText_takeAt.2.1 4 = .ok (.invokevirtual 107, 3) := by decide +kernel
theorem d_DaysText_takeAt_7 : decode M_DaysText_takeAt.2.1 7 = .ok (.ifCond .ne 5, 3) := by decide +kernel
theorem d_DaysText_takeAt_10 : decode M_DaysText_takeAt.2.1 10 = .ok (.iconst 0, 1) := by decide +kernel
theorem d_DaysText_takeAt_11 : decode M_DaysText_takeAt.2.1 11 = .ok (.ireturn, 1) := by decide +kernel
theorem d_DaysText_takeAt_12 : decode M_DaysText_takeAt.2.1 12 = .ok (.aload_n 0, 1) := by decide +kernel
theorem d_DaysText_takeAt_13 : decode M_DaysText_takeAt.2.1 13 = .ok (.getfield 25, 3) := by decide +kernel
theorem d_DaysText_takeAt_16 : decode M_DaysText_takeAt.2.1 16 = .ok (.aload_n 0, 1) := by decide +kernel
theorem d_DaysText_takeAt_17 : decode M_DaysText_takeAt.2.1 17 = .ok (.getfield 21, 3) := by decide +kernel
theorem d_DaysText_takeAt_20 : decode M_DaysText_takeAt.2.1 20 = .ok (.getfield 110, 3) := by decide +kernel
theorem d_DaysText_takeAt_23 : decode M_DaysText_takeAt.2.1 23 = .ok (.invokevirtual 133, 3) := by decide +kernel
theorem d_DaysText_takeAt_26 : decode M_DaysText_takeAt.2.1 26 = .ok (.istore_n 1, 1) := by decide +kernel
theorem d_DaysText_takeAt_27 : decode M_DaysText_takeAt.2.1 27 = .ok (.iload_n 1, 1) := by decide +kernel
theorem d_DaysText_takeAt_28 : decode M_DaysText_takeAt.2.1 28 = .ok (.iconst (-1), 1) := by decide +kernel
theorem d_DaysText_takeAt_29 : decode M_DaysText_takeAt.2.1 29 = .ok (.if_icmp .ne 12, 3) := by decide +kernel
theorem d_DaysText_takeAt_32 : decode M_DaysText_takeAt.2.1 32 = .ok (.aload_n 0, 1) := by decide +kernel
theorem d_DaysText_takeAt_33 : decode M_DaysText_takeAt.2.1 33 = .ok (.getfield 21, 3) := by decide +kernel
theorem d_DaysText_takeAt_36 : decode M_DaysText_takeAt.2.1 36 = .ok (.iconst 3, 1) := by decide +kernel
theorem d_DaysText_takeAt_37 : decode M_DaysText_takeAt.2.1 37 = .ok (.invokevirtual 81, 3) := by decide +kernel
theorem d_DaysText_takeAt_40 : decode M_DaysText_takeAt.2.1 40 = .ok (.ireturn, 1) := by decide +kernel
theorem d_DaysText_takeAt_41 : decode M_DaysText_takeAt.2.1 41 = .ok (.aload_n 0, 1) := by decide +kernel
theorem d_DaysText_takeAt_42 : decode M_DaysText_takeAt.2.1 42 = .ok (.getfield 21, 3) := by decide +kernel
theorem d_DaysText_takeAt_45 : decode M_DaysText_takeAt.2.1 45 = .ok (.invokevirtual 72, 3) := by decide +kernel
theorem d_DaysText_takeAt_48 : decode M_DaysText_takeAt.2.1 48 = .ok (.aload_n 0, 1) := by decide +kernel
theorem d_DaysText_takeAt_49 : decode M_DaysText_takeAt.2.1 49 = .ok (.getfield 29, 3) := by decide +kernel
theorem d_DaysText_takeAt_52 : decode M_DaysText_takeAt.2.1 52 = .ok (.bipush 8, 2) := by decide +kernel
theorem d_DaysText_takeAt_54 : decode M_DaysText_takeAt.2.1 54 = .ok (.iload_n 1, 1) := by decide +kernel
theorem d_DaysText_takeAt_55 : decode M_DaysText_takeAt.2.1 55 = .ok (.iconst 0, 1) := by decide +kernel
theorem d_DaysText_takeAt_56 : decode M_DaysText_takeAt.2.1 56 = .ok (.invokevirtual 68, 3) := by decide +kernel
theorem d_DaysText_takeAt_59 : decode M_DaysText_takeAt.2.1 59 = .ok (.iconst 1, 1) := by decide +kernel
theorem d_DaysText_takeAt_60 : decode M_DaysText_takeAt.2.1 60 = .ok (.ireturn, 1) := by decide +kernel
theorem d_Doubts_init_0 : decode M_Doubts_init.2.1 0 = .ok (.aload_n 0, 1) := by decide +kernel
theorem d_Doubts_init_1 : decode M_Doubts_init.2.1 1 = .ok (.invokespecial 3, 3) := by decide +kernel
theorem d_Doubts_init_4 : decode M_Doubts_init.2.1 4 = .ok (.aload_n 0, 1) := by decide +kernel
theorem d_Doubts_init_5 : decode M_Doubts_init.2.1 5 = .ok (.new 9, 3) := by decide +kernel
theorem d_Doubts_init_8 : decode M_Doubts_init.2.1 8 = .ok (.dup, 1) := by decide +kernel
theorem d_Doubts_init_9 : decode M_Doubts_init.2.1 9 = .ok (.invokespecial 11, 3) := by decide +kernel
theorem d_Doubts_init_12 : decode M_Doubts_init.2.1 12 = .ok (.putfield 12, 3) := by decide +kernel
theorem d_Doubts_init_15 : decode M_Doubts_init.2.1 15 = .ok (.aload_n 0, 1) := by decide +kernel
theorem d_Doubts_init_16 : decode M_Doubts_init.2.1 16 = .ok (.sipush 4032, 3) := by decide +kernel
theorem d_Doubts_init_19 : decode M_Doubts_init.2.1 19 = .ok (.newarray .int, 2) := by decide +kernel
theorem d_Doubts_init_21 : decode M_Doubts_init.2.1 21 = .ok (.putfield 18, 3) := by decide +kernel
theorem d_Doubts_init_24 : decode M_Doubts_init.2.1 24 = .ok (.aload_n 0, 1) := by decide +kernel
theorem d_Doubts_init_25 : decode M_Doubts_init.2.1 25 = .ok (.sipush 1024, 3) := by decide +kernel
theorem d_Doubts_init_28 : decode M_Doubts_init.2.1 28 = .ok (.newarray .int, 2) := by decide +kernel
theorem d_Doubts_init_30 : decode M_Doubts_init.2.1 30 = .ok (.putfield 22, 3) := by decide +kernel
theorem d_Doubts_init_33 : decode M_Doubts_init.2.1 33 = .ok (.aload_n 0, 1) := by decide +kernel
theorem d_Doubts_init_34 : decode M_Doubts_init.2.1 34 = .ok (.sipush 1024, 3) := by decide +kernel
theorem d_Doubts_init_37 : decode M_Doubts_init.2.1 37 = .ok (.newarray .int, 2) := by decide +kernel
theorem d_Doubts_init_39 : decode M_Doubts_init.2.1 39 = .ok (.putfield 25, 3) := by decide +kernel
theorem d_Doubts_init_42 : decode M_Doubts_init.2.1 42 = .ok (.aload_n 0, 1) := by decide +kernel
theorem d_Doubts_init_43 : decode M_Doubts_init.2.1 43 = .ok (.bipush 24, 2) := by decide +kernel
theorem d_Doubts_init_45 : decode M_Doubts_init.2.1 45 = .ok (.newarray .int, 2) := by decide +kernel
theorem d_Doubts_init_47 : decode M_Doubts_init.2.1 47 = .ok (.putfield 28, 3) := by decide +kernel
theorem d_Doubts_init_50 : decode M_Doubts_init.2.1 50 = .ok (.aload_n 0, 1) := by decide +kernel
theorem d_Doubts_init_51 : decode M_Doubts_init.2.1 51 = .ok (.bipush 24, 2) := by decide +kernel
theorem d_Doubts_init_53 : decode M_Doubts_init.2.1 53 = .ok (.newarray .int, 2) := by decide +kernel
theorem d_Doubts_init_55 : decode M_Doubts_init.2.1 55 = .ok (.putfield 31, 3) := by decide +kernel
theorem d_Doubts_init_58 : decode M_Doubts_init.2.1 58 = .ok (.aload_n 0, 1) := by decide +kernel
theorem d_Doubts_init_59 : decode M_Doubts_init.2.1 59 = .ok (.iconst (-1), 1) := by decide +kernel
theorem d_Doubts_init_60 : decode M_Doubts_init.2.1 60 = .ok (.putfield 34, 3) := by decide +kernel
theorem d_Doubts_init_63 : decode M_Doubts_init.2.1 63 = .ok (.aload_n 0, 1) := by decide +kernel
theorem d_Doubts_init_64 : decode M_Doubts_init.2.1 64 = .ok (.iconst (-1), 1) := by decide +kernel
theorem d_Doubts_init_65 : decode M_Doubts_init.2.1 65 = .ok (.putfield 38, 3) := by decide +kernel
theorem d_Doubts_init_68 : decode M_Doubts_init.2.1 68 = .ok (.aload_n 0, 1) := by decide +kernel
theorem d_Doubts_init_69 : decode M_Doubts_init.2.1 69 = .ok (.iconst (-1), 1) := by decide +kernel
theorem d_Doubts_init_70 : decode M_Doubts_init.2.1 70 = .ok (.putfield 41, 3) := by decide +kernel
theorem d_Doubts_init_73 : decode M_Doubts_init.2.1 73 = .ok (.aload_n 0, 1) := by decide +kernel
theorem d_Doubts_init_74 : decode M_Doubts_init.2.1 74 = .ok (.iconst 0, 1) := by decide +kernel
theorem d_Doubts_init_75 : decode M_Doubts_init.2.1 75 = .ok (.putfield 44, 3) := by decide +kernel
theorem d_Doubts_init_78 : decode M_Doubts_init.2.1 78 = .ok (.aload_n 0, 1) := by decide +kernel
theorem d_Doubts_init_79 : decode M_Doubts_init.2.1 79 = .ok (.iconst (-1), 1) := by decide +kernel
theorem d_Doubts_init_80 : decode M_Doubts_init.2.1 80 = .ok (.putfield 47, 3) := by decide +kernel
theorem d_Doubts_init_83 : decode M_Doubts_init.2.1 83 = .ok (.aload_n 0, 1) := by decide +kernel
theorem d_Doubts_init_84 : decode M_Doubts_init.2.1 84 = .ok (.iconst (-1), 1) := by decide +kernel
theorem d_Doubts_init_85 : decode M_Doubts_init.2.1 85 = .ok (.putfield 50, 3) := by decide +kernel
theorem d_Doubts_init_88 : decode M_Doubts_init.2.1 88 = .ok (.aload_n 0, 1) := by decide +kernel
theorem d_Doubts_init_89 : decode M_Doubts_init.2.1 89 = .ok (.iconst (-1), 1) := by decide +kernel
theorem d_Doubts_init_90 : decode M_Doubts_init.2.1 90 = .ok (.putfield 53, 3) := by decide +kernel
theorem d_Doubts_init_93 : decode M_Doubts_init.2.1 93 = .ok (.aload_n 0, 1) := by decide +kernel
theorem d_Doubts_init_94 : decode M_Doubts_init.2.1 94 = .ok (.iconst (-1), 1) := by decide +kernel
theorem d_Doubts_init_95 : decode M_Doubts_init.2.1 95 = .ok (.putfield 56, 3) := by decide +kernel
theorem d_Doubts_init_98 : decode M_Doubts_init.2.1 98 = .ok (.return_, 1) := by decide +kernel
theorem d_Doubts_findOut_0 : decode M_Doubts_findOut.2.1 0 = .ok (.aload_n 0, 1) := by decide +kernel
theorem d_Doubts_findOut_1 : decode M_Doubts_findOut.2.1 1 = .ok (.getfield 12, 3) := by decide +kernel
theorem d_Doubts_findOut_4 : decode M_Doubts_findOut.2.1 4 = .ok (.aload_n 1, 1) := by decide +kernel
theorem d_Doubts_findOut_5 : decode M_Doubts_findOut.2.1 5 = .ok (.invokevirtual 59, 3) := by decide +kernel
theorem d_Doubts_findOut_8 : decode M_Doubts_findOut.2.1 8 = .ok (.aload_n 1, 1) := by decide +kernel
theorem d_Doubts_findOut_9 : decode M_Doubts_findOut.2.1 9 = .ok (.invokevirtual 63, 3) := by decide +kernel
theorem d_Doubts_findOut_12 : decode M_Doubts_findOut.2.1 12 = .ok (.istore_n 2, 1) := by decide +kernel
theorem d_Doubts_findOut_13 : decode M_Doubts_findOut.2.1 13 = .ok (.iconst 4, 1) := by decide +kernel
theorem d_Doubts_findOut_14 : decode M_Doubts_findOut.2.1 14 = .ok (.istore_n 3, 1) := by decide +kernel
theorem d_Doubts_findOut_15 : decode M_Doubts_findOut.2.1 15 = .ok (.aload_n 0, 1) := by decide +kernel
theorem d_Doubts_findOut_16 : decode M_Doubts_findOut.2.1 16 = .ok (.iconst (-1), 1) := by decide +kernel
theorem d_Doubts_findOut_17 : decode M_Doubts_findOut.2.1 17 = .ok (.putfield 34, 3) := by decide +kernel
theorem d_Doubts_findOut_20 : decode M_Doubts_findOut.2.1 20 = .ok (.iconst 0, 1) := by decide +kernel
theorem d_Doubts_findOut_21 : decode M_Doubts_findOut.2.1 21 = .ok (.istore 4, 2) := by decide +kernel
theorem d_Doubts_findOut_23 : decode M_Doubts_findOut.2.1 23 = .ok (.iload 4, 2) := by decide +kernel
theorem d_Doubts_findOut_25 : decode M_Doubts_findOut.2.1 25 = .ok (.iconst 1, 1) := by decide +kernel
theorem d_Doubts_findOut_26 : decode M_Doubts_findOut.2.1 26 = .ok (.aload_n 1, 1) := by decide +kernel
theorem d_Doubts_findOut_27 : decode M_Doubts_findOut.2.1 27 = .ok (.getfield 69, 3) := by decide +kernel
theorem d_Doubts_findOut_30 : decode M_Doubts_findOut.2.1 30 = .ok (.ishl, 1) := by decide +kernel
theorem d_Doubts_findOut_31 : decode M_Doubts_findOut.2.1 31 = .ok (.if_icmp .ge 54, 3) := by decide +kernel
theorem d_Doubts_findOut_34 : decode M_Doubts_findOut.2.1 34 = .ok (.iload 4, 2) := by decide +kernel
theorem d_Doubts_findOut_36 : decode M_Doubts_findOut.2.1 36 = .ok (.invokestatic 72, 3) := by decide +kernel
theorem d_Doubts_findOut_39 : decode M_Doubts_findOut.2.1 39 = .ok (.istore 5, 2) := by decide +kernel
theorem d_Doubts_findOut_41 : decode M_Doubts_findOut.2.1 41 = .ok (.iload 4, 2) := by decide +kernel
theorem d_Doubts_findOut_43 : decode M_Doubts_findOut.2.1 43 = .ok (.iload_n 2, 1) := by decide +kernel
theorem d_Doubts_findOut_44 : decode M_Doubts_findOut.2.1 44 = .ok (.iconst (-1), 1) := by decide +kernel
theorem d_Doubts_findOut_45 : decode M_Doubts_findOut.2.1 45 = .ok (.ixor, 1) := by decide +kernel
theorem d_Doubts_findOut_46 : decode M_Doubts_findOut.2.1 46 = .ok (.iand, 1) := by decide +kernel
theorem d_Doubts_findOut_47 : decode M_Doubts_findOut.2.1 47 = .ok (.ifCond .ne 32, 3) := by decide +kernel
theorem d_Doubts_findOut_50 : decode M_Doubts_findOut.2.1 50 = .ok (.iload 5, 2) := by decide +kernel
theorem d_Doubts_findOut_52 : decode M_Doubts_findOut.2.1 52 = .ok (.iload_n 3, 1) := by decide +kernel
theorem d_Doubts_findOut_53 : decode M_Doubts_findOut.2.1 53 = .ok (.if_icmp .ge 26, 3) := by decide +kernel
theorem d_Doubts_findOut_56 : decode M_Doubts_findOut.2.1 56 = .ok (.aload_n 0, 1) := by decide +kernel
theorem d_Doubts_findOut_57 : decode M_Doubts_findOut.2.1 57 = .ok (.aload_n 1, 1) := by decide +kernel
theorem d_Doubts_findOut_58 : decode M_Doubts_findOut.2.1 58 = .ok (.iload_n 2, 1) := by decide +kernel
theorem d_Doubts_findOut_59 : decode M_Doubts_findOut.2.1 59 = .ok (.iload 4, 2) := by decide +kernel
theorem d_Doubts_findOut_61 : decode M_Doubts_findOut.2.1 61 = .ok (.iconst (-1), 1) := by decide +kernel
theorem d_Doubts_findOut_62 : decode M_Doubts_findOut.2.1 62 = .ok (.ixor, 1) := by decide +kernel
theorem d_Doubts_findOut_63 : decode M_Doubts_findOut.2.1 63 = .ok (.iand, 1) := by decide +kernel
theorem d_Doubts_findOut_64 : decode M_Doubts_findOut.2.1 64 = .ok (.invokevirtual 78, 3) := by decide +kernel
theorem d_Doubts_findOut_67 : decode M_Doubts_findOut.2.1 67 = .ok (.ifCond .eq 12, 3) := by decide +kernel
theorem d_Doubts_findOut_70 : decode M_Doubts_findOut.2.1 70 = .ok (.iload 5, 2) := by decide +kernel
theorem d_Doubts_findOut_72 : decode M_Doubts_findOut.2.1 72 = .ok (.istore_n 3, 1) := by decide +kernel
theorem d_Doubts_findOut_73 : decode M_Doubts_findOut.2.1 73 = .ok (.aload_n 0, 1) := by decide +kernel
theorem d_Doubts_findOut_74 : decode M_Doubts_findOut.2.1 74 = .ok (.iload 4, 2) := by decide +kernel
theorem d_Doubts_findOut_76 : decode M_Doubts_findOut.2.1 76 = .ok (.putfield 34, 3) := by decide +kernel
theorem d_Doubts_findOut_79 : decode M_Doubts_findOut.2.1 79 = .ok (.iinc 4 1, 3) := by decide +kernel
theorem d_Doubts_findOut_82 : decode M_Doubts_findOut.2.1 82 = .ok (.goto (-59), 3) := by decide +kernel
theorem d_Doubts_findOut_85 : decode M_Doubts_findOut.2.1 85 = .ok (.return_, 1) := by decide +kernel
theorem d_Doubts_closesWithout_0 : decode M_Doubts_closesWithout.2.1 0 = .ok (.aload_n 0, 1) := by decide +kernel
theorem d_Doubts_closesWithout_1 : decode M_Doubts_closesWithout.2.1 1 = .ok (.getfield 12, 3) := by decide +kernel
theorem d_Doubts_closesWithout_4 : decode M_Doubts_closesWithout.2.1 4 = .ok (.aload_n 1, 1) := by decide +kernel
theorem d_Doubts_closesWithout_5 : decode M_Doubts_closesWithout.2.1 5 = .ok (.iload_n 2, 1) := by decide +kernel
theorem d_Doubts_closesWithout_6 : decode M_Doubts_closesWithout.2.1 6 = .ok (.invokevirtual 82, 3) := by decide +kernel
theorem d_Doubts_closesWithout_9 : decode M_Doubts_closesWithout.2.1 9 = .ok (.aload_n 0, 1) := by decide +kernel
theorem d_Doubts_closesWithout_10 : decode M_Doubts_closesWithout.2.1 10 = .ok (.getfield 12, 3) := by decide +kernel
theorem d_Doubts_closesWithout_13 : decode M_Doubts_closesWithout.2.1 13 = .ok (.aload_n 1, 1) := by decide +kernel
theorem d_Doubts_closesWithout_14 : decode M_Doubts_closesWithout.2.1 14 = .ok (.invokevirtual 86, 3) := by decide +kernel
theorem d_Doubts_closesWithout_17 : decode M_Doubts_closesWithout.2.1 17 = .ok (.aload_n 0, 1) := by decide +kernel
theorem d_Doubts_closesWithout_18 : decode M_Doubts_closesWithout.2.1 18 = .ok (.getfield 12, 3) := by decide +kernel
theorem d_Doubts_closesWithout_21 : decode M_Doubts_closesWithout.2.1 21 = .ok (.aload_n 1, 1) := by decide +kernel
theorem d_Doubts_closesWithout_22 : decode M_Doubts_closesWithout.2.1 22 = .ok (.iload_n 2, 1) := by decide +kernel
theorem d_Doubts_closesWithout_23 : decode M_Doubts_closesWithout.2.1 23 = .ok (.invokevirtual 89, 3) := by decide +kernel
theorem d_Doubts_closesWithout_26 : decode M_Doubts_closesWithout.2.1 26 = .ok (.ireturn, 1) := by decide +kernel
theorem d_Doubts_findFits_0 : decode M_Doubts_findFits.2.1 0 = .ok (.aload_n 0, 1) := by decide +kernel
theorem d_Doubts_findFits_1 : decode M_Doubts_findFits.2.1 1 = .ok (.getfield 28, 3) := by decide +kernel
theorem d_Doubts_findFits_4 : decode M_Doubts_findFits.2.1 4 = .ok (.iconst 0, 1) := by decide +kernel
theorem d_Doubts_findFits_5 : decode M_Doubts_findFits.2.1 5 = .ok (.invokestatic 92, 3) := by decide +kernel
theorem d_Doubts_findFits_8 : decode M_Doubts_findFits.2.1 8 = .ok (.aload_n 0, 1) := by decide +kernel
theorem d_Doubts_findFits_9 : decode M_Doubts_findFits.2.1 9 = .ok (.getfield 31, 3) := by decide +kernel
theorem d_Doubts_findFits_12 : decode M_Doubts_findFits.2.1 12 = .ok (.iconst 0, 1) := by decide +kernel
theorem d_Doubts_findFits_13 : decode M_Doubts_findFits.2.1 13 = .ok (.invokestatic 92, 3) := by decide +kernel
theorem d_Doubts_findFits_16 : decode M_Doubts_findFits.2.1 16 = .ok (.aload_n 0, 1) := by decide +kernel
theorem d_Doubts_findFits_17 : decode M_Doubts_findFits.2.1 17 = .ok (.iconst 0, 1) := by decide +kernel
theorem d_Doubts_findFits_18 : decode M_Doubts_findFits.2.1 18 = .ok (.putfield 44, 3) := by decide +kernel
theorem d_Doubts_findFits_21 : decode M_Doubts_findFits.2.1 21 = .ok (.aload_n 0, 1) := by decide +kernel
theorem d_Doubts_findFits_22 : decode M_Doubts_findFits.2.1 22 = .ok (.aload_n 1, 1) := by decide +kernel
theorem d_Doubts_findFits_23 : decode M_Doubts_findFits.2.1 23 = .ok (.iload_n 2, 1) := by decide +kernel
theorem d_Doubts_findFits_24 : decode M_Doubts_findFits.2.1 24 = .ok (.invokevirtual 98, 3) := by decide +kernel
theorem d_Doubts_findFits_27 : decode M_Doubts_findFits.2.1 27 = .ok (.aload_n 0, 1) := by decide +kernel
theorem d_Doubts_findFits_28 : decode M_Doubts_findFits.2.1 28 = .ok (.getfield 12, 3) := by decide +kernel
theorem d_Doubts_findFits_31 : decode M_Doubts_findFits.2.1 31 = .ok (.aload_n 1, 1) := by decide +kernel
theorem d_Doubts_findFits_32 : decode M_Doubts_findFits.2.1 32 = .ok (.invokevirtual 101, 3) := by decide +kernel
theorem d_Doubts_findFits_35 : decode M_Doubts_findFits.2.1 35 = .ok (.aload_n 0, 1) := by decide +kernel
theorem d_Doubts_findFits_36 : decode M_Doubts_findFits.2.1 36 = .ok (.getfield 38, 3) := by decide +kernel
theorem d_Doubts_findFits_39 : decode M_Doubts_findFits.2.1 39 = .ok (.iconst (-1), 1) := by decide +kernel
theorem d_Doubts_findFits_40 : decode M_Doubts_findFits.2.1 40 = .ok (.if_icmp .ne 7, 3) := by decide +kernel
theorem d_Doubts_findFits_43 : decode M_Doubts_findFits.2.1 43 = .ok (.iconst 1, 1) := by decide +kernel
theorem d_Doubts_findFits_44 : decode M_Doubts_findFits.2.1 44 = .ok (.goto 5, 3) := by decide +kernel
theorem d_Doubts_findFits_47 : decode M_Doubts_findFits.2.1 47 = .ok (.bipush 24, 2) := by decide +kernel
theorem d_Doubts_findFits_49 : decode M_Doubts_findFits.2.1 49 = .ok (.istore_n 3, 1) := by decide +kernel
theorem d_Doubts_findFits_50 : decode M_Doubts_findFits.2.1 50 = .ok (.aload_n 0, 1) := by decide +kernel
theorem d_Doubts_findFits_51 : decode M_Doubts_findFits.2.1 51 = .ok (.getfield 41, 3) := by decide +kernel
theorem d_Doubts_findFits_54 : decode M_Doubts_findFits.2.1 54 = .ok (.iconst (-1), 1) := by decide +kernel
theorem d_Doubts_findFits_55 : decode M_Doubts_findFits.2.1 55 = .ok (.if_icmp .ne 7, 3) := by decide +kernel
theorem d_Doubts_findFits_58 : decode M_Doubts_findFits.2.1 58 = .ok (.iconst 1, 1) := by decide +kernel
theorem d_Doubts_findFits_59 : decode M_Doubts_findFits.2.1 59 = .ok (.goto 5, 3) := by decide +kernel
theorem d_Doubts_findFits_62 : decode M_Doubts_findFits.2.1 62 = .ok (.bipush 24, 2) := by decide +kernel
theorem d_Doubts_findFits_64 : decode M_Doubts_findFits.2.1 64 = .ok (.istore 4, 2) := by decide +kernel
theorem d_Doubts_findFits_66 : decode M_Doubts_findFits.2.1 66 = .ok (.iconst 0, 1) := by decide +kernel
theorem d_Doubts_findFits_67 : decode M_Doubts_findFits.2.1 67 = .ok (.istore 5, 2) := by decide +kernel
theorem d_Doubts_findFits_69 : decode M_Doubts_findFits.2.1 69 = .ok (.iload 5, 2) := by decide +kernel
theorem d_Doubts_findFits_71 : decode M_Doubts_findFits.2.1 71 = .ok (.iload_n 3, 1) := by decide +kernel
theorem d_Doubts_findFits_72 : decode M_Doubts_findFits.2.1 72 = .ok (.if_icmp .ge 84, 3) := by decide +kernel
theorem d_Doubts_findFits_75 : decode M_Doubts_findFits.2.1 75 = .ok (.aload_n 0, 1) := by decide +kernel
theorem d_Doubts_findFits_76 : decode M_Doubts_findFits.2.1 76 = .ok (.getfield 12, 3) := by decide +kernel
theorem d_Doubts_findFits_79 : decode M_Doubts_findFits.2.1 79 = .ok (.aload_n 1, 1) := by decide +kernel
theorem d_Doubts_findFits_80 : decode M_Doubts_findFits.2.1 80 = .ok (.aload_n 0, 1) := by decide +kernel
theorem d_Doubts_findFits_81 : decode M_Doubts_findFits.2.1 81 = .ok (.getfield 38, 3) := by decide +kernel
theorem d_Doubts_findFits_84 : decode M_Doubts_findFits.2.1 84 = .ok (.iload 5, 2) := by decide +kernel
theorem d_Doubts_findFits_86 : decode M_Doubts_findFits.2.1 86 = .ok (.invokevirtual 104, 3) := by decide +kernel
theorem d_Doubts_findFits_89 : decode M_Doubts_findFits.2.1 89 = .ok (.iconst 0, 1) := by decide +kernel
theorem d_Doubts_findFits_90 : decode M_Doubts_findFits.2.1 90 = .ok (.istore 6, 2) := by decide +kernel
theorem d_Doubts_findFits_92 : decode M_Doubts_findFits.2.1 92 = .ok (.iload 6, 2) := by decide +kernel
theorem d_Doubts_findFits_94 : decode M_Doubts_findFits.2.1 94 = .ok (.iload 4, 2) := by decide +kernel
theorem d_Doubts_findFits_96 : decode M_Doubts_findFits.2.1 96 = .ok (.if_icmp .ge 54, 3) := by decide +kernel
theorem d_Doubts_findFits_99 : decode M_Doubts_findFits.2.1 99 = .ok (.aload_n 0, 1) := by decide +kernel
theorem d_Doubts_findFits_100 : decode M_Doubts_findFits.2.1 100 = .ok (.getfield 12, 3) := by decide +kernel
theorem d_Doubts_findFits_103 : decode M_Doubts_findFits.2.1 103 = .ok (.aload_n 1, 1) := by decide +kernel
theorem d_Doubts_findFits_104 : decode M_Doubts_findFits.2.1 104 = .ok (.aload_n 0, 1) := by decide +kernel
theorem d_Doubts_findFits_105 : decode M_Doubts_findFits.2.1 105 = .ok (.getfield 41, 3) := by decide +kernel
theorem d_Doubts_findFits_108 : decode M_Doubts_findFits.2.1 108 = .ok (.iload 6, 2) := by decide +kernel
theorem d_Doubts_findFits_110 : decode M_Doubts_findFits.2.1 110 = .ok (.invokevirtual 104, 3) := by decide +kernel
theorem d_Doubts_findFits_113 : decode M_Doubts_findFits.2.1 113 = .ok (.aload_n 0, 1) := by decide +kernel
theorem d_Doubts_findFits_114 : decode M_Doubts_findFits.2.1 114 = .ok (.getfield 12, 3) := by decide +kernel
theorem d_Doubts_findFits_117 : decode M_Doubts_findFits.2.1 117 = .ok (.aload_n 1, 1) := by decide +kernel
theorem d_Doubts_findFits_118 : decode M_Doubts_findFits.2.1 118 = .ok (.invokevirtual 86, 3) := by decide +kernel
theorem d_Doubts_findFits_121 : decode M_Doubts_findFits.2.1 121 = .ok (.aload_n 0, 1) := by decide +kernel
theorem d_Doubts_findFits_122 : decode M_Doubts_findFits.2.1 122 = .ok (.getfield 12, 3) := by decide +kernel
theorem d_Doubts_findFits_125 : decode M_Doubts_findFits.2.1 125 = .ok (.aload_n 1, 1) := by decide +kernel
theorem d_Doubts_findFits_126 : decode M_Doubts_findFits.2.1 126 = .ok (.aload_n 1, 1) := by decide +kernel
theorem d_Doubts_findFits_127 : decode M_Doubts_findFits.2.1 127 = .ok (.invokevirtual 63, 3) := by decide +kernel
theorem d_Doubts_findFits_130 : decode M_Doubts_findFits.2.1 130 = .ok (.invokevirtual 89, 3) := by decide +kernel
theorem d_Doubts_findFits_133 : decode M_Doubts_findFits.2.1 133 = .ok (.ifCond .eq 11, 3) := by decide +kernel
theorem d_Doubts_findFits_136 : decode M_Doubts_findFits.2.1 136 = .ok (.aload_n 0, 1) := by decide +kernel
theorem d_Doubts_findFits_137 : decode M_Doubts_findFits.2.1 137 = .ok (.iload 5, 2) := by decide +kernel
theorem d_Doubts_findFits_139 : decode M_Doubts_findFits.2.1 139 = .ok (.iload 6, 2) := by decide +kernel
theorem d_Doubts_findFits_141 : decode M_Doubts_findFits.2.1 141 = .ok (.invokevirtual 108, 3) := by decide +kernel
theorem d_Doubts_findFits_144 : decode M_Doubts_findFits.2.1 144 = .ok (.iinc 6 1, 3) := by decide +kernel
theorem d_Doubts_findFits_147 : decode M_Doubts_findFits.2.1 147 = .ok (.goto (-55), 3) := by decide +kernel
theorem d_Doubts_findFits_150 : decode M_Doubts_findFits.2.1 150 = .ok (.iinc 5 1, 3) := by decide +kernel
theorem d_Doubts_findFits_153 : decode M_Doubts_findFits.2.1 153 = .ok (.goto (-84), 3) := by decide +kernel
theorem d_Doubts_findFits_156 : decode M_Doubts_findFits.2.1 156 = .ok (.return_, 1) := by decide +kernel
theorem d_Doubts_pickWalkers_0 : decode M_Doubts_pickWalkers.2.1 0 = .ok (.aload_n 0, 1) := by decide +kernel
theorem d_Doubts_pickWalkers_1 : decode M_Doubts_pickWalkers.2.1 1 = .ok (.iconst (-1), 1) := by decide +kernel
theorem d_Doubts_pickWalkers_2 : decode M_Doubts_pickWalkers.2.1 2 = .ok (.putfield 38, 3) := by decide +kernel
theorem d_Doubts_pickWalkers_5 : decode M_Doubts_pickWalkers.2.1 5 = .ok (.aload_n 0, 1) := by decide +kernel
theorem d_Doubts_pickWalkers_6 : decode M_Doubts_pickWalkers.2.1 6 = .ok (.iconst (-1), 1) := by decide +kernel
theorem d_Doubts_pickWalkers_7 : decode M_Doubts_pickWalkers.2.1 7 = .ok (.putfield 41, 3) := by decide +kernel
theorem d_Doubts_pickWalkers_10 : decode M_Doubts_pickWalkers.2.1 10 = .ok (.iconst 0, 1) := by decide +kernel
theorem d_Doubts_pickWalkers_11 : decode M_Doubts_pickWalkers.2.1 11 = .ok (.istore_n 3, 1) := by decide +kernel
theorem d_Doubts_pickWalkers_12 : decode M_Doubts_pickWalkers.2.1 12 = .ok (.iload_n 3, 1) := by decide +kernel
theorem d_Doubts_pickWalkers_13 : decode M_Doubts_pickWalkers.2.1 13 = .ok (.aload_n 1, 1) := by decide +kernel
theorem d_Doubts_pickWalkers_14 : decode M_Doubts_pickWalkers.2.1 14 = .ok (.getfield 112, 3) := by decide +kernel
theorem d_Doubts_pickWalkers_17 : decode M_Doubts_pickWalkers.2.1 17 = .ok (.if_icmp .ge 38, 3) := by decide +kernel
theorem d_Doubts_pickWalkers_20 : decode M_Doubts_pickWalkers.2.1 20 = .ok (.iload_n 2, 1) := by decide +kernel
theorem d_Doubts_pickWalkers_21 : decode M_Doubts_pickWalkers.2.1 21 = .ok (.iload_n 3, 1) := by decide +kernel
theorem d_Doubts_pickWalkers_22 : decode M_Doubts_pickWalkers.2.1 22 = .ok (.invokestatic 115, 3) := by decide +kernel
theorem d_Doubts_pickWalkers_25 : decode M_Doubts_pickWalkers.2.1 25 = .ok (.ifCond .eq 24, 3) := by decide +kernel
theorem d_Doubts_pickWalkers_28 : decode M_Doubts_pickWalkers.2.1 28 = .ok (.aload_n 0, 1) := by decide +kernel
theorem d_Doubts_pickWalkers_29 : decode M_Doubts_pickWalkers.2.1 29 = .ok (.getfield 38, 3) := by decide +kernel
theorem d_Doubts_pickWalkers_32 : decode M_Doubts_pickWalkers.2.1 32 = .ok (.iconst (-1), 1) := by decide +kernel
theorem d_Doubts_pickWalkers_33 : decode M_Doubts_pickWalkers.2.1 33 = .ok (.if_icmp .ne 11, 3) := by decide +kernel
theorem d_Doubts_pickWalkers_36 : decode M_Doubts_pickWalkers.2.1 36 = .ok (.aload_n 0, 1) := by decide +kernel
theorem d_Doubts_pickWalkers_37 : decode M_Doubts_pickWalkers.2.1 37 = .ok (.iload_n 3, 1) := by decide +kernel
theorem d_Doubts_pickWalkers_38 : decode M_Doubts_pickWalkers.2.1 38 = .ok (.putfield 38, 3) := by decide +kernel
theorem d_Doubts_pickWalkers_41 : decode M_Doubts_pickWalkers.2.1 41 = .ok (.goto 8, 3) := by decide +kernel
theorem d_Doubts_pickWalkers_44 : decode M_Doubts_pickWalkers.2.1 44 = .ok (.aload_n 0, 1) := by decide +kernel
theorem d_Doubts_pickWalkers_45 : decode M_Doubts_pickWalkers.2.1 45 = .ok (.iload_n 3, 1) := by decide +kernel
theorem d_Doubts_pickWalkers_46 : decode M_Doubts_pickWalkers.2.1 46 = .ok (.putfield 41, 3) := by decide +kernel
theorem d_Doubts_pickWalkers_49 : decode M_Doubts_pickWalkers.2.1 49 = .ok (.iinc 3 1, 3) := by decide +kernel
theorem d_Doubts_pickWalkers_52 : decode M_Doubts_pickWalkers.2.1 52 = .ok (.goto (-40), 3) := by decide +kernel
theorem d_Doubts_pickWalkers_55 : decode M_Doubts_pickWalkers.2.1 55 = .ok (.return_, 1) := by decide +kernel
theorem d_Doubts_keepWay_0 : decode M_Doubts_keepWay.2.1 0 = .ok (.aload_n 0, 1) := by decide +kernel
theorem d_Doubts_keepWay_1 : decode M_Doubts_keepWay.2.1 1 = .ok (.getfield 44, 3) := by decide +kernel
theorem d_Doubts_keepWay_4 : decode M_Doubts_keepWay.2.1 4 = .ok (.sipush 576, 3) := by decide +kernel
theorem d_Doubts_keepWay_7 : decode M_Doubts_keepWay.2.1 7 = .ok (.if_icmp .lt 4, 3) := by decide +kernel
theorem d_Doubts_keepWay_10 : decode M_Doubts_keepWay.2.1 10 = .ok (.return_, 1) := by decide +kernel
theorem d_Doubts_keepWay_11 : decode M_Doubts_keepWay.2.1 11 = .ok (.aload_n 0, 1) := by decide +kernel
theorem d_Doubts_keepWay_12 : decode M_Doubts_keepWay.2.1 12 = .ok (.getfield 44, 3) := by decide +kernel
theorem d_Doubts_keepWay_15 : decode M_Doubts_keepWay.2.1 15 = .ok (.ifCond .ne 13, 3) := by decide +kernel
theorem d_Doubts_keepWay_18 : decode M_Doubts_keepWay.2.1 18 = .ok (.aload_n 0, 1) := by decide +kernel
theorem d_Doubts_keepWay_19 : decode M_Doubts_keepWay.2.1 19 = .ok (.iload_n 1, 1) := by decide +kernel
theorem d_Doubts_keepWay_20 : decode M_Doubts_keepWay.2.1 20 = .ok (.putfield 47, 3) := by decide +kernel
theorem d_Doubts_keepWay_23 : decode M_Doubts_keepWay.2.1 23 = .ok (.aload_n 0, 1) := by decide +kernel
theorem d_Doubts_keepWay_24 : decode M_Doubts_keepWay.2.1 24 = .ok (.iload_n 2, 1) := by decide +kernel
theorem d_Doubts_keepWay_25 : decode M_Doubts_keepWay.2.1 25 = .ok (.putfield 50, 3) := by decide +kernel
theorem d_Doubts_keepWay_28 : decode M_Doubts_keepWay.2.1 28 = .ok (.aload_n 0, 1) := by decide +kernel
theorem d_Doubts_keepWay_29 : decode M_Doubts_keepWay.2.1 29 = .ok (.getfield 28, 3) := by decide +kernel
theorem d_Doubts_keepWay_32 : decode M_Doubts_keepWay.2.1 32 = .ok (.iload_n 1, 1) := by decide +kernel
theorem d_Doubts_keepWay_33 : decode M_Doubts_keepWay.2.1 33 = .ok (.dup2, 1) := by decide +kernel
theorem d_Doubts_keepWay_34 : decode M_Doubts_keepWay.2.1 34 = .ok (.iaload, 1) := by decide +kernel
theorem d_Doubts_keepWay_35 : decode M_Doubts_keepWay.2.1 35 = .ok (.iconst 1, 1) := by decide +kernel
theorem d_Doubts_keepWay_36 : decode M_Doubts_keepWay.2.1 36 = .ok (.iadd, 1) := by decide +kernel
theorem d_Doubts_keepWay_37 : decode M_Doubts_keepWay.2.1 37 = .ok (.iastore, 1) := by decide +kernel
theorem d_Doubts_keepWay_38 : decode M_Doubts_keepWay.2.1 38 = .ok (.aload_n 0, 1) := by decide +kernel
theorem d_Doubts_keepWay_39 : decode M_Doubts_keepWay.2.1 39 = .ok (.getfield 31, 3) := by decide +kernel
theorem d_Doubts_keepWay_42 : decode M_Doubts_keepWay.2.1 42 = .ok (.iload_n 2, 1) := by decide +kernel
theorem d_Doubts_keepWay_43 : decode M_Doubts_keepWay.2.1 43 = .ok (.dup2, 1) := by decide +kernel
theorem d_Doubts_keepWay_44 : decode M_Doubts_keepWay.2.1 44 = .ok (.iaload, 1) := by decide +kernel
theorem d_Doubts_keepWay_45 : decode M_Doubts_keepWay.2.1 45 = .ok (.iconst 1, 1) := by decide +kernel
theorem d_Doubts_keepWay_46 : decode M_Doubts_keepWay.2.1 46 = .ok (.iadd, 1) := by decide +kernel
theorem d_Doubts_keepWay_47 : decode M_Doubts_keepWay.2.1 47 = .ok (.iastore, 1) := by decide +kernel
theorem d_Doubts_keepWay_48 : decode M_Doubts_keepWay.2.1 48 = .ok (.iconst 0, 1) := by decide +kernel
theorem d_Doubts_keepWay_49 : decode M_Doubts_keepWay.2.1 49 = .ok (.istore_n 3, 1) := by decide +kernel
theorem d_Doubts_keepWay_50 : decode M_Doubts_keepWay.2.1 50 = .ok (.iload_n 3, 1) := by decide +kernel
theorem d_Doubts_keepWay_51 : decode M_Doubts_keepWay.2.1 51 = .ok (.bipush 7, 2) := by decide +kernel
theorem d_Doubts_keepWay_53 : decode M_Doubts_keepWay.2.1 53 = .ok (.if_icmp .ge 46, 3) := by decide +kernel
theorem d_Doubts_keepWay_56 : decode M_Doubts_keepWay.2.1 56 = .ok (.aload_n 0, 1) := by decide +kernel
theorem d_Doubts_keepWay_57 : decode M_Doubts_keepWay.2.1 57 = .ok (.getfield 18, 3) := by decide +kernel
theorem d_Doubts_keepWay_60 : decode M_Doubts_keepWay.2.1 60 = .ok (.aload_n 0, 1) := by decide +kernel
theorem d_Doubts_keepWay_61 : decode M_Doubts_keepWay.2.1 61 = .ok (.getfield 44, 3) := by decide +kernel
theorem d_Doubts_keepWay_64 : decode M_Doubts_keepWay.2.1 64 = .ok (.bipush 7, 2) := by decide +kernel
theorem d_Doubts_keepWay_66 : decode M_Doubts_keepWay.2.1 66 = .ok (.imul, 1) := by decide +kernel
theorem d_Doubts_keepWay_67 : decode M_Doubts_keepWay.2.1 67 = .ok (.iload_n 3, 1) := by decide +kernel
theorem d_Doubts_keepWay_68 : decode M_Doubts_keepWay.2.1 68 = .ok (.iadd, 1) := by decide +kernel
theorem d_Doubts_keepWay_69 : decode M_Doubts_keepWay.2.1 69 = .ok (.aload_n 0, 1) := by decide +kernel
theorem d_Doubts_keepWay_70 : decode M_Doubts_keepWay.2.1 70 = .ok (.getfield 12, 3) := by decide +kernel
theorem d_Doubts_keepWay_73 : decode M_Doubts_keepWay.2.1 73 = .ok (.getfield 119, 3) := by decide +kernel
theorem d_Doubts_keepWay_76 : decode M_Doubts_keepWay.2.1 76 = .ok (.iload_n 3, 1) := by decide +kernel
theorem d_Doubts_keepWay_77 : decode M_Doubts_keepWay.2.1 77 = .ok (.iaload, 1) := by decide +kernel
theorem d_Doubts_keepWay_78 : decode M_Doubts_keepWay.2.1 78 = .ok (.sipush 4096, 3) := by decide +kernel
theorem d_Doubts_keepWay_81 : decode M_Doubts_keepWay.2.1 81 = .ok (.imul, 1) := by decide +kernel
theorem d_Doubts_keepWay_82 : decode M_Doubts_keepWay.2.1 82 = .ok (.aload_n 0, 1) := by decide +kernel
theorem d_Doubts_keepWay_83 : decode M_Doubts_keepWay.2.1 83 = .ok (.getfield 12, 3) := by decide +kernel
theorem d_Doubts_keepWay_86 : decode M_Doubts_keepWay.2.1 86 = .ok (.getfield 122, 3) := by decide +kernel
theorem d_Doubts_keepWay_89 : decode M_Doubts_keepWay.2.1 89 = .ok (.iload_n 3, 1) := by decide +kernel
theorem d_Doubts_keepWay_90 : decode M_Doubts_keepWay.2.1 90 = .ok (.iaload, 1) := by decide +kernel
theorem d_Doubts_keepWay_91 : decode M_Doubts_keepWay.2.1 91 = .ok (.iadd, 1) := by decide +kernel
theorem d_Doubts_keepWay_92 : decode M_Doubts_keepWay.2.1 92 = .ok (.iastore, 1) := by decide +kernel
theorem d_Doubts_keepWay_93 : decode M_Doubts_keepWay.2.1 93 = .ok (.iinc 3 1, 3) := by decide +kernel
theorem d_Doubts_keepWay_96 : decode M_Doubts_keepWay.2.1 96 = .ok (.goto (-46), 3) := by decide +kernel
theorem d_Doubts_keepWay_99 : decode M_Doubts_keepWay.2.1 99 = .ok (.aload_n 0, 1) := by decide +kernel
theorem d_Doubts_keepWay_100 : decode M_Doubts_keepWay.2.1 100 = .ok (.dup, 1) := by decide +kernel
theorem d_Doubts_keepWay_101 : decode M_Doubts_keepWay.2.1 101 = .ok (.getfield 44, 3) := by decide +kernel
theorem d_Doubts_keepWay_104 : decode M_Doubts_keepWay.2.1 104 = .ok (.iconst 1, 1) := by decide +kernel
theorem d_Doubts_keepWay_105 : decode M_Doubts_keepWay.2.1 105 = .ok (.iadd, 1) := by decide +kernel
theorem d_Doubts_keepWay_106 : decode M_Doubts_keepWay.2.1 106 = .ok (.putfield 44, 3) := by decide +kernel
theorem d_Doubts_keepWay_109 : decode M_Doubts_keepWay.2.1 109 = .ok (.return_, 1) := by decide +kernel
theorem d_Doubts_firstOf_0 : decode M_Doubts_firstOf.2.1 0 = .ok (.iload_n 1, 1) := by decide +kernel
theorem d_Doubts_firstOf_1 : decode M_Doubts_firstOf.2.1 1 = .ok (.aload_n 0, 1) := by decide +kernel
theorem d_Doubts_firstOf_2 : decode M_Doubts_firstOf.2.1 2 = .ok (.getfield 38, 3) := by decide +kernel
theorem d_Doubts_firstOf_5 : decode M_Doubts_firstOf.2.1 5 = .ok (.if_icmp .ne 10, 3) := by decide +kernel
theorem d_Doubts_firstOf_8 : decode M_Doubts_firstOf.2.1 8 = .ok (.aload_n 0, 1) := by decide +kernel
theorem d_Doubts_firstOf_9 : decode M_Doubts_firstOf.2.1 9 = .ok (.getfield 47, 3) := by decide +kernel
theorem d_Doubts_firstOf_12 : decode M_Doubts_firstOf.2.1 12 = .ok (.goto 7, 3) := by decide +kernel
theorem d_Doubts_firstOf_15 : decode M_Doubts_firstOf.2.1 15 = .ok (.aload_n 0, 1) := by decide +kernel
theorem d_Doubts_firstOf_16 : decode M_Doubts_firstOf.2.1 16 = .ok (.getfield 50, 3) := by decide +kernel
theorem d_Doubts_firstOf_19 : decode M_Doubts_firstOf.2.1 19 = .ok (.ireturn, 1) := by decide +kernel
theorem d_Doubts_waysWith_0 : decode M_Doubts_waysWith.2.1 0 = .ok (.iload_n 1, 1) := by decide +kernel
theorem d_Doubts_waysWith_1 : decode M_Doubts_waysWith.2.1 1 = .ok (.aload_n 0, 1) := by decide +kernel
theorem d_Doubts_waysWith_2 : decode M_Doubts_waysWith.2.1 2 = .ok (.getfield 38, 3) := by decide +kernel
theorem d_Doubts_waysWith_5 : decode M_Doubts_waysWith.2.1 5 = .ok (.if_icmp .ne 12, 3) := by decide +kernel
theorem d_Doubts_waysWith_8 : decode M_Doubts_waysWith.2.1 8 = .ok (.aload_n 0, 1) := by decide +kernel
theorem d_Doubts_waysWith_9 : decode M_Doubts_waysWith.2.1 9 = .ok (.getfield 28, 3) := by decide +kernel
theorem d_Doubts_waysWith_12 : decode M_Doubts_waysWith.2.1 12 = .ok (.iload_n 2, 1) := by decide +kernel
theorem d_Doubts_waysWith_13 : decode M_Doubts_waysWith.2.1 13 = .ok (.iaload, 1) := by decide +kernel
theorem d_Doubts_waysWith_14 : decode M_Doubts_waysWith.2.1 14 = .ok (.goto 9, 3) := by decide +kernel
theorem d_Doubts_waysWith_17 : decode M_Doubts_waysWith.2.1 17 = .ok (.aload_n 0, 1) := by decide +kernel
theorem d_Doubts_waysWith_18 : decode M_Doubts_waysWith.2.1 18 = .ok (.getfield 31, 3) := by decide +kernel
theorem d_Doubts_waysWith_21 : decode M_Doubts_waysWith.2.1 21 = .ok (.iload_n 2, 1) := by decide +kernel
theorem d_Doubts_waysWith_22 : decode M_Doubts_waysWith.2.1 22 = .ok (.iaload, 1) := by decide +kernel
theorem d_Doubts_waysWith_23 : decode M_Doubts_waysWith.2.1 23 = .ok (.ireturn, 1) := by decide +kernel
theorem d_Doubts_findBestPair_0 : decode M_Doubts_findBestPair.2.1 0 = .ok (.sipush 577, 3) := by decide +kernel
theorem d_Doubts_findBestPair_3 : decode M_Doubts_findBestPair.2.1 3 = .ok (.istore_n 2, 1) := by decide +kernel
theorem d_Doubts_findBestPair_4 : decode M_Doubts_findBestPair.2.1 4 = .ok (.iconst 0, 1) := by decide +kernel
theorem d_Doubts_findBestPair_5 : decode M_Doubts_findBestPair.2.1 5 = .ok (.istore_n 3, 1) := by decide +kernel
theorem d_Doubts_findBestPair_6 : decode M_Doubts_findBestPair.2.1 6 = .ok (.iload_n 3, 1) := by decide +kernel
theorem d_Doubts_findBestPair_7 : decode M_Doubts_findBestPair.2.1 7 = .ok (.aload_n 1, 1) := by decide +kernel
theorem d_Doubts_findBestPair_8 : decode M_Doubts_findBestPair.2.1 8 = .ok (.getfield 125, 3) := by decide +kernel
theorem d_Doubts_findBestPair_11 : decode M_Doubts_findBestPair.2.1 11 = .ok (.if_icmp .ge 75, 3) := by decide +kernel
theorem d_Doubts_findBestPair_14 : decode M_Doubts_findBestPair.2.1 14 = .ok (.iload_n 3, 1) := by decide +kernel
theorem d_Doubts_findBestPair_15 : decode M_Doubts_findBestPair.2.1 15 = .ok (.iconst 1, 1) := by decide +kernel
theorem d_Doubts_findBestPair_16 : decode M_Doubts_findBestPair.2.1 16 = .ok (.iadd, 1) := by decide +kernel
theorem d_Doubts_findBestPair_17 : decode M_Doubts_findBestPair.2.1 17 = .ok (.istore 4, 2) := by decide +kernel
theorem d_Doubts_findBestPair_19 : decode M_Doubts_findBestPair.2.1 19 = .ok (.iload 4, 2) := by decide +kernel
theorem d_Doubts_findBestPair_21 : decode M_Doubts_findBestPair.2.1 21 = .ok (.aload_n 1, 1) := by decide +kernel
theorem d_Doubts_findBestPair_22 : decode M_Doubts_findBestPair.2.1 22 = .ok (.getfield 125, 3) := by decide +kernel
theorem d_Doubts_findBestPair_25 : decode M_Doubts_findBestPair.2.1 25 = .ok (.if_icmp .ge 55, 3) := by decide +kernel
theorem d_Doubts_findBestPair_28 : decode M_Doubts_findBestPair.2.1 28 = .ok (.aload_n 0, 1) := by decide +kernel
theorem d_Doubts_findBestPair_29 : decode M_Doubts_findBestPair.2.1 29 = .ok (.getfield 12, 3) := by decide +kernel
theorem d_Doubts_findBestPair_32 : decode M_Doubts_findBestPair.2.1 32 = .ok (.iload_n 3, 1) := by decide +kernel
theorem d_Doubts_findBestPair_33 : decode M_Doubts_findBestPair.2.1 33 = .ok (.iload 4, 2) := by decide +kernel
theorem d_Doubts_findBestPair_35 : decode M_Doubts_findBestPair.2.1 35 = .ok (.invokevirtual 128, 3) := by decide +kernel
theorem d_Doubts_findBestPair_38 : decode M_Doubts_findBestPair.2.1 38 = .ok (.ifCond .eq 13, 3) := by decide +kernel
theorem d_Doubts_findBestPair_41 : decode M_Doubts_findBestPair.2.1 41 = .ok (.aload_n 0, 1) := by decide +kernel
theorem d_Doubts_findBestPair_42 : decode M_Doubts_findBestPair.2.1 42 = .ok (.iload_n 3, 1) := by decide +kernel
theorem d_Doubts_findBestPair_43 : decode M_Doubts_findBestPair.2.1 43 = .ok (.iload 4, 2) := by decide +kernel
theorem d_Doubts_findBestPair_45 : decode M_Doubts_findBestPair.2.1 45 = .ok (.invokevirtual 131, 3) := by decide +kernel
theorem d_Doubts_findBestPair_48 : decode M_Doubts_findBestPair.2.1 48 = .ok (.goto 4, 3) := by decide +kernel
theorem d_Doubts_findBestPair_51 : decode M_Doubts_findBestPair.2.1 51 = .ok (.iload_n 2, 1) := by decide +kernel
theorem d_Doubts_findBestPair_52 : decode M_Doubts_findBestPair.2.1 52 = .ok (.istore 5, 2) := by decide +kernel
theorem d_Doubts_findBestPair_54 : decode M_Doubts_findBestPair.2.1 54 = .ok (.iload 5, 2) := by decide +kernel
theorem d_Doubts_findBestPair_56 : decode M_Doubts_findBestPair.2.1 56 = .ok (.iload_n 2, 1) := by decide +kernel
theorem d_Doubts_findBestPair_57 : decode M_Doubts_findBestPair.2.1 57 = .ok (.if_icmp .ge 17, 3) := by decide +kernel
theorem d_Doubts_findBestPair_60 : decode M_Doubts_findBestPair.2.1 60 = .ok (.iload 5, 2) := by decide +kernel
theorem d_Doubts_findBestPair_62 : decode M_Doubts_findBestPair.2.1 62 = .ok (.istore_n 2, 1) := by decide +kernel
theorem d_Doubts_findBestPair_63 : decode M_Doubts_findBestPair.2.1 63 = .ok (.aload_n 0, 1) := by decide +kernel
theorem d_Doubts_findBestPair_64 : decode M_Doubts_findBestPair.2.1 64 = .ok (.iload_n 3, 1) := by decide +kernel
theorem d_Doubts_findBestPair_65 : decode M_Doubts_findBestPair.2.1 65 = .ok (.putfield 53, 3) := by decide +kernel
theorem d_Doubts_findBestPair_68 : decode M_Doubts_findBestPair.2.1 68 = .ok (.aload_n 0, 1) := by decide +kernel
theorem d_Doubts_findBestPair_69 : decode M_Doubts_findBestPair.2.1 69 = .ok (.iload 4, 2) := by decide +kernel
theorem d_Doubts_findBestPair_71 : decode M_Doubts_findBestPair.2.1 71 = .ok (.putfield 56, 3) := by decide +kernel
theorem d_Doubts_findBestPair_74 : decode M_Doubts_findBestPair.2.1 74 = .ok (.iinc 4 1, 3) := by decide +kernel
theorem d_Doubts_findBestPair_77 : decode M_Doubts_findBestPair.2.1 77 = .ok (.goto (-58), 3) := by decide +kernel
theorem d_Doubts_findBestPair_80 : decode M_Doubts_findBestPair.2.1 80 = .ok (.iinc 3 1, 3) := by decide +kernel
theorem d_Doubts_findBestPair_83 : decode M_Doubts_findBestPair.2.1 83 = .ok (.goto (-77), 3) := by decide +kernel
theorem d_Doubts_findBestPair_86 : decode M_Doubts_findBestPair.2.1 86 = .ok (.iload_n 2, 1) := by decide +kernel
theorem d_Doubts_findBestPair_87 : decode M_Doubts_findBestPair.2.1 87 = .ok (.sipush 576, 3) := by decide +kernel
theorem d_Doubts_findBestPair_90 : decode M_Doubts_findBestPair.2.1 90 = .ok (.if_icmp .gt 7, 3) := by decide +kernel
theorem d_Doubts_findBestPair_93 : decode M_Doubts_findBestPair.2.1 93 = .ok (.iconst 1, 1) := by decide +kernel
theorem d_Doubts_findBestPair_94 : decode M_Doubts_findBestPair.2.1 94 = .ok (.goto 4, 3) := by decide +kernel
theorem d_Doubts_findBestPair_97 : decode M_Doubts_findBestPair.2.1 97 = .ok (.iconst 0, 1) := by decide +kernel
theorem d_Doubts_findBestPair_98 : decode M_Doubts_findBestPair.2.1 98 = .ok (.ireturn, 1) := by decide +kernel
theorem d_Doubts_mostAlike_0 : decode M_Doubts_mostAlike.2.1 0 = .ok (.aload_n 0, 1) := by decide +kernel
theorem d_Doubts_mostAlike_1 : decode M_Doubts_mostAlike.2.1 1 = .ok (.getfield 25, 3) := by decide +kernel
theorem d_Doubts_mostAlike_4 : decode M_Doubts_mostAlike.2.1 4 = .ok (.iconst 0, 1) := by decide +kernel
theorem d_Doubts_mostAlike_5 : decode M_Doubts_mostAlike.2.1 5 = .ok (.invokestatic 92, 3) := by decide +kernel
theorem d_Doubts_mostAlike_8 : decode M_Doubts_mostAlike.2.1 8 = .ok (.iconst 0, 1) := by decide +kernel
theorem d_Doubts_mostAlike_9 : decode M_Doubts_mostAlike.2.1 9 = .ok (.istore_n 3, 1) := by decide +kernel
theorem d_Doubts_mostAlike_10 : decode M_Doubts_mostAlike.2.1 10 = .ok (.iconst 0, 1) := by decide +kernel
theorem d_Doubts_mostAlike_11 : decode M_Doubts_mostAlike.2.1 11 = .ok (.istore 4, 2) := by decide +kernel
theorem d_Doubts_mostAlike_13 : decode M_Doubts_mostAlike.2.1 13 = .ok (.iload 4, 2) := by decide +kernel
theorem d_Doubts_mostAlike_15 : decode M_Doubts_mostAlike.2.1 15 = .ok (.aload_n 0, 1) := by decide +kernel
theorem d_Doubts_mostAlike_16 : decode M_Doubts_mostAlike.2.1 16 = .ok (.getfield 44, 3) := by decide +kernel
theorem d_Doubts_mostAlike_19 : decode M_Doubts_mostAlike.2.1 19 = .ok (.if_icmp .ge 63, 3) := by decide +kernel
theorem d_Doubts_mostAlike_22 : decode M_Doubts_mostAlike.2.1 22 = .ok (.aload_n 0, 1) := by decide +kernel
theorem d_Doubts_mostAlike_23 : decode M_Doubts_mostAlike.2.1 23 = .ok (.aload_n 0, 1) := by decide +kernel
theorem d_Doubts_mostAlike_24 : decode M_Doubts_mostAlike.2.1 24 = .ok (.getfield 18, 3) := by decide +kernel
theorem d_Doubts_mostAlike_27 : decode M_Doubts_mostAlike.2.1 27 = .ok (.iload 4, 2) := by decide +kernel
theorem d_Doubts_mostAlike_29 : decode M_Doubts_mostAlike.2.1 29 = .ok (.bipush 7, 2) := by decide +kernel
theorem d_Doubts_mostAlike_31 : decode M_Doubts_mostAlike.2.1 31 = .ok (.imul, 1) := by decide +kernel
theorem d_Doubts_mostAlike_32 : decode M_Doubts_mostAlike.2.1 32 = .ok (.iload_n 2, 1) := by decide +kernel
theorem d_Doubts_mostAlike_33 : decode M_Doubts_mostAlike.2.1 33 = .ok (.iadd, 1) := by decide +kernel
theorem d_Doubts_mostAlike_34 : decode M_Doubts_mostAlike.2.1 34 = .ok (.iaload, 1) := by decide +kernel
theorem d_Doubts_mostAlike_35 : decode M_Doubts_mostAlike.2.1 35 = .ok (.aload_n 0, 1) := by decide +kernel
theorem d_Doubts_mostAlike_36 : decode M_Doubts_mostAlike.2.1 36 = .ok (.getfield 18, 3) := by decide +kernel
theorem d_Doubts_mostAlike_39 : decode M_Doubts_mostAlike.2.1 39 = .ok (.iload 4, 2) := by decide +kernel
theorem d_Doubts_mostAlike_41 : decode M_Doubts_mostAlike.2.1 41 = .ok (.bipush 7, 2) := by decide +kernel
theorem d_Doubts_mostAlike_43 : decode M_Doubts_mostAlike.2.1 43 = .ok (.imul, 1) := by decide +kernel
theorem d_Doubts_mostAlike_44 : decode M_Doubts_mostAlike.2.1 44 = .ok (.iload_n 1, 1) := by decide +kernel
theorem d_Doubts_mostAlike_45 : decode M_Doubts_mostAlike.2.1 45 = .ok (.iadd, 1) := by decide +kernel
theorem d_Doubts_mostAlike_46 : decode M_Doubts_mostAlike.2.1 46 = .ok (.iaload, 1) := by decide +kernel
theorem d_Doubts_mostAlike_47 : decode M_Doubts_mostAlike.2.1 47 = .ok (.isub, 1) := by decide +kernel
theorem d_Doubts_mostAlike_48 : decode M_Doubts_mostAlike.2.1 48 = .ok (.invokevirtual 135, 3) := by decide +kernel
theorem d_Doubts_mostAlike_51 : decode M_Doubts_mostAlike.2.1 51 = .ok (.istore 5, 2) := by decide +kernel
theorem d_Doubts_mostAlike_53 : decode M_Doubts_mostAlike.2.1 53 = .ok (.aload_n 0, 1) := by decide +kernel
theorem d_Doubts_mostAlike_54 : decode M_Doubts_mostAlike.2.1 54 = .ok (.getfield 25, 3) := by decide +kernel
theorem d_Doubts_mostAlike_57 : decode M_Doubts_mostAlike.2.1 57 = .ok (.iload 5, 2) := by decide +kernel
theorem d_Doubts_mostAlike_59 : decode M_Doubts_mostAlike.2.1 59 = .ok (.dup2, 1) := by decide +kernel
theorem d_Doubts_mostAlike_60 : decode M_Doubts_mostAlike.2.1 60 = .ok (.iaload, 1) := by decide +kernel
theorem d_Doubts_mostAlike_61 : decode M_Doubts_mostAlike.2.1 61 = .ok (.iconst 1, 1) := by decide +kernel
theorem d_Doubts_mostAlike_62 : decode M_Doubts_mostAlike.2.1 62 = .ok (.iadd, 1) := by decide +kernel
theorem d_Doubts_mostAlike_63 : decode M_Doubts_mostAlike.2.1 63 = .ok (.iastore, 1) := by decide +kernel
theorem d_Doubts_mostAlike_64 : decode M_Doubts_mostAlike.2.1 64 = .ok (.iload_n 3, 1) := by decide +kernel
theorem d_Doubts_mostAlike_65 : decode M_Doubts_mostAlike.2.1 65 = .ok (.aload_n 0, 1) := by decide +kernel
theorem d_Doubts_mostAlike_66 : decode M_Doubts_mostAlike.2.1 66 = .ok (.getfield 25, 3) := by decide +kernel
theorem d_Doubts_mostAlike_69 : decode M_Doubts_mostAlike.2.1 69 = .ok (.iload 5, 2) := by decide +kernel
theorem d_Doubts_mostAlike_71 : decode M_Doubts_mostAlike.2.1 71 = .ok (.iaload, 1) := by decide +kernel
theorem d_Doubts_mostAlike_72 : decode M_Doubts_mostAlike.2.1 72 = .ok (.invokestatic 138, 3) := by decide +kernel
theorem d_Doubts_mostAlike_75 : decode M_Doubts_mostAlike.2.1 75 = .ok (.istore_n 3, 1) := by decide +kernel
theorem d_Doubts_mostAlike_76 : decode M_Doubts_mostAlike.2.1 76 = .ok (.iinc 4 1, 3) := by decide +kernel
theorem d_Doubts_mostAlike_79 : decode M_Doubts_mostAlike.2.1 79 = .ok (.goto (-66), 3) := by decide +kernel
theorem d_Doubts_mostAlike_82 : decode M_Doubts_mostAlike.2.1 82 = .ok (.iload_n 3, 1) := by decide +kernel
theorem d_Doubts_mostAlike_83 : decode M_Doubts_mostAlike.2.1 83 = .ok (.ireturn, 1) := by decide +kernel
theorem d_Doubts_slotOf_0 : decode M_Doubts_slotOf.2.1 0 = .ok (.iload_n 1, 1) := by decide +kernel
theorem d_Doubts_slotOf_1 : decode M_Doubts_slotOf.2.1 1 = .ok (.ldc 143, 2) := by decide +kernel
theorem d_Doubts_slotOf_3 : decode M_Doubts_slotOf.2.1 3 = .ok (.imul, 1) := by decide +kernel
theorem d_Doubts_slotOf_4 : decode M_Doubts_slotOf.2.1 4 = .ok (.bipush 22, 2) := by decide +kernel
theorem d_Doubts_slotOf_6 : decode M_Doubts_slotOf.2.1 6 = .ok (.iushr, 1) := by decide +kernel
theorem d_Doubts_slotOf_7 : decode M_Doubts_slotOf.2.1 7 = .ok (.istore_n 2, 1) := by decide +kernel
theorem d_Doubts_slotOf_8 : decode M_Doubts_slotOf.2.1 8 = .ok (.iconst 0, 1) := by decide +kernel
theorem d_Doubts_slotOf_9 : decode M_Doubts_slotOf.2.1 9 = .ok (.istore_n 3, 1) := by decide +kernel
theorem d_Doubts_slotOf_10 : decode M_Doubts_slotOf.2.1 10 = .ok (.iload_n 3, 1) := by decide +kernel
theorem d_Doubts_slotOf_11 : decode M_Doubts_slotOf.2.1 11 = .ok (.sipush 1024, 3) := by decide +kernel
theorem d_Doubts_slotOf_14 : decode M_Doubts_slotOf.2.1 14 = .ok (.if_icmp .ge 47, 3) := by decide +kernel
theorem d_Doubts_slotOf_17 : decode M_Doubts_slotOf.2.1 17 = .ok (.aload_n 0, 1) := by decide +kernel
theorem d_Doubts_slotOf_18 : decode M_Doubts_slotOf.2.1 18 = .ok (.getfield 25, 3) := by decide +kernel
theorem d_Doubts_slotOf_21 : decode M_Doubts_slotOf.2.1 21 = .ok (.iload_n 2, 1) := by decide +kernel
theorem d_Doubts_slotOf_22 : decode M_Doubts_slotOf.2.1 22 = .ok (.iaload, 1) := by decide +kernel
theorem d_Doubts_slotOf_23 : decode M_Doubts_slotOf.2.1 23 = .ok (.ifCond .ne 12, 3) := by decide +kernel
theorem d_Doubts_slotOf_26 : decode M_Doubts_slotOf.2.1 26 = .ok (.aload_n 0, 1) := by decide +kernel
theorem d_Doubts_slotOf_27 : decode M_Doubts_slotOf.2.1 27 = .ok (.getfield 22, 3) := by decide +kernel
theorem d_Doubts_slotOf_30 : decode M_Doubts_slotOf.2.1 30 = .ok (.iload_n 2, 1) := by decide +kernel
theorem d_Doubts_slotOf_31 : decode M_Doubts_slotOf.2.1 31 = .ok (.iload_n 1, 1) := by decide +kernel
theorem d_Doubts_slotOf_32 : decode M_Doubts_slotOf.2.1 32 = .ok (.iastore, 1) := by decide +kernel
theorem d_Doubts_slotOf_33 : decode M_Doubts_slotOf.2.1 33 = .ok (.iload_n 2, 1) := by decide +kernel
theorem d_Doubts_slotOf_34 : decode M_Doubts_slotOf.2.1 34 = .ok (.ireturn, 1) := by decide +kernel
theorem d_Doubts_slotOf_35 : decode M_Doubts_slotOf.2.1 35 = .ok (.aload_n 0, 1) := by decide +kernel
theorem d_Doubts_slotOf_36 : decode M_Doubts_slotOf.2.1 36 = .ok (.getfield 22, 3) := by decide +kernel
theorem d_Doubts_slotOf_39 : decode M_Doubts_slotOf.2.1 39 = .ok (.iload_n 2, 1) := by decide +kernel
theorem d_Doubts_slotOf_40 : decode M_Doubts_slotOf.2.1 40 = .ok (.iaload, 1) := by decide +kernel
theorem d_Doubts_slotOf_41 : decode M_Doubts_slotOf.2.1 41 = .ok (.iload_n 1, 1) := by decide +kernel
theorem d_Doubts_slotOf_42 : decode M_Doubts_slotOf.2.1 42 = .ok (.if_icmp .ne 5, 3) := by decide +kernel
theorem d_Doubts_slotOf_45 : decode M_Doubts_slotOf.2.1 45 = .ok (.iload_n 2, 1) := by decide +kernel
theorem d_Doubts_slotOf_46 : decode M_Doubts_slotOf.2.1 46 = .ok (.ireturn, 1) := by decide +kernel
theorem d_Doubts_slotOf_47 : decode M_Doubts_slotOf.2.1 47 = .ok (.iload_n 2, 1) := by decide +kernel
theorem d_Doubts_slotOf_48 : decode M_Doubts_slotOf.2.1 48 = .ok (.iconst 1, 1) := by decide +kernel
theorem d_Doubts_slotOf_49 : decode M_Doubts_slotOf.2.1 49 = .ok (.iadd, 1) := by decide +kernel
theorem d_Doubts_slotOf_50 : decode M_Doubts_slotOf.2.1 50 = .ok (.sipush 1023, 3) := by decide +kernel
theorem d_Doubts_slotOf_53 : decode M_Doubts_slotOf.2.1 53 = .ok (.iand, 1) := by decide +kernel
theorem d_Doubts_slotOf_54 : decode M_Doubts_slotOf.2.1 54 = .ok (.istore_n 2, 1) := by decide +kernel
theorem d_Doubts_slotOf_55 : decode M_Doubts_slotOf.2.1 55 = .ok (.iinc 3 1, 3) := by decide +kernel
theorem d_Doubts_slotOf_58 : decode M_Doubts_slotOf.2.1 58 = .ok (.goto (-48), 3) := by decide +kernel
theorem d_Doubts_slotOf_61 : decode M_Doubts_slotOf.2.1 61 = .ok (.iconst 0, 1) := by decide +kernel
theorem d_Doubts_slotOf_62 : decode M_Doubts_slotOf.2.1 62 = .ok (.ireturn, 1) := by decide +kernel
theorem d_Game_init_0 : decode M_Game_init.2.1 0 = .ok (.aload_n 0, 1) := by decide +kernel
theorem d_Game_init_1 : decode M_Game_init.2.1 1 = .ok (.invokespecial 3, 3) := by decide +kernel
theorem d_Game_init_4 : decode M_Game_init.2.1 4 = .ok (.aload_n 0, 1) := by decide +kernel
theorem d_Game_init_5 : decode M_Game_init.2.1 5 = .ok (.sipush 4096, 3) := by decide +kernel
theorem d_Game_init_8 : decode M_Game_init.2.1 8 = .ok (.newarray .int, 2) := by decide +kernel
theorem d_Game_init_10 : decode M_Game_init.2.1 10 = .ok (.putfield 9, 3) := by decide +kernel
theorem d_Game_init_13 : decode M_Game_init.2.1 13 = .ok (.aload_n 0, 1) := by decide +kernel
theorem d_Game_init_14 : decode M_Game_init.2.1 14 = .ok (.bipush 12, 2) := by decide +kernel
theorem d_Game_init_16 : decode M_Game_init.2.1 16 = .ok (.newarray .int, 2) := by decide +kernel
theorem d_Game_init_18 : decode M_Game_init.2.1 18 = .ok (.putfield 15, 3) := by decide +kernel
theorem d_Game_init_21 : decode M_Game_init.2.1 21 = .ok (.aload_n 0, 1) := by decide +kernel
theorem d_Game_init_22 : decode M_Game_init.2.1 22 = .ok (.iconst 0, 1) := by decide +kernel
theorem d_Game_init_23 : decode M_Game_init.2.1 23 = .ok (.putfield 18, 3) := by decide +kernel
theorem d_Game_init_26 : decode M_Game_init.2.1 26 = .ok (.aload_n 0, 1) := by decide +kernel
theorem d_Game_init_27 : decode M_Game_init.2.1 27 = .ok (.iconst 0, 1) := by decide +kernel
theorem d_Game_init_28 : decode M_Game_init.2.1 28 = .ok (.putfield 22, 3) := by decide +kernel
theorem d_Game_init_31 : decode M_Game_init.2.1 31 = .ok (.aload_n 0, 1) := by decide +kernel
theorem d_Game_init_32 : decode M_Game_init.2.1 32 = .ok (.iconst 0, 1) := by decide +kernel
theorem d_Game_init_33 : decode M_Game_init.2.1 33 = .ok (.putfield 25, 3) := by decide +kernel
theorem d_Game_init_36 : decode M_Game_init.2.1 36 = .ok (.aload_n 0, 1) := by decide +kernel
theorem d_Game_init_37 : decode M_Game_init.2.1 37 = .ok (.iconst 0, 1) := by decide +kernel
theorem d_Game_init_38 : decode M_Game_init.2.1 38 = .ok (.putfield 28, 3) := by decide +kernel
theorem d_Game_init_41 : decode M_Game_init.2.1 41 = .ok (.return_, 1) := by decide +kernel
theorem d_Game_begin_0 : decode M_Game_begin.2.1 0 = .ok (.aload_n 0, 1) := by decide +kernel
theorem d_Game_begin_1 : decode M_Game_begin.2.1 1 = .ok (.getfield 9, 3) := by decide +kernel
theorem d_Game_begin_4 : decode M_Game_begin.2.1 4 = .ok (.iconst 0, 1) := by decide +kernel
theorem d_Game_begin_5 : decode M_Game_begin.2.1 5 = .ok (.invokestatic 32, 3) := by decide +kernel
theorem d_Game_begin_8 : decode M_Game_begin.2.1 8 = .ok (.aload_n 0, 1) := by decide +kernel
theorem d_Game_begin_9 : decode M_Game_begin.2.1 9 = .ok (.aload_n 1, 1) := by decide +kernel
theorem d_Game_begin_10 : decode M_Game_begin.2.1 10 = .ok (.getfield 38, 3) := by decide +kernel
theorem d_Game_begin_13 : decode M_Game_begin.2.1 13 = .ok (.putfield 18, 3) := by decide +kernel
theorem d_Game_begin_16 : decode M_Game_begin.2.1 16 = .ok (.aload_n 0, 1) := by decide +kernel
theorem d_Game_begin_17 : decode M_Game_begin.2.1 17 = .ok (.aload_n 1, 1) := by decide +kernel
theorem d_Game_begin_18 : decode M_Game_begin.2.1 18 = .ok (.invokevirtual 41, 3) := by decide +kernel
theorem d_Game_begin_21 : decode M_Game_begin.2.1 21 = .ok (.putfield 22, 3) := by decide +kernel
theorem d_Game_begin_24 : decode M_Game_begin.2.1 24 = .ok (.aload_n 0, 1) := by decide +kernel
theorem d_Game_begin_25 : decode M_Game_begin.2.1 25 = .ok (.iload_n 2, 1) := by decide +kernel
theorem d_Game_begin_26 : decode M_Game_begin.2.1 26 = .ok (.putfield 25, 3) := by decide +kernel
theorem d_Game_begin_29 : decode M_Game_begin.2.1 29 = .ok (.aload_n 0, 1) := by decide +kernel
theorem d_Game_begin_30 : decode M_Game_begin.2.1 30 = .ok (.aload_n 1, 1) := by decide +kernel
theorem d_Game_begin_31 : decode M_Game_begin.2.1 31 = .ok (.getfield 45, 3) := by decide +kernel
theorem d_Game_begin_34 : decode M_Game_begin.2.1 34 = .ok (.ifCond .le 7, 3) := by decide +kernel
theorem d_Game_begin_37 : decode M_Game_begin.2.1 37 = .ok (.iconst 1, 1) := by decide +kernel
theorem d_Game_begin_38 : decode M_Game_begin.2.1 38 = .ok (.goto 4, 3) := by decide +kernel
theorem d_Game_begin_41 : decode M_Game_begin.2.1 41 = .ok (.iconst 0, 1) := by decide +kernel
theorem d_Game_begin_42 : decode M_Game_begin.2.1 42 = .ok (.putfield 28, 3) := by decide +kernel
theorem d_Game_begin_45 : decode M_Game_begin.2.1 45 = .ok (.iconst 0, 1) := by decide +kernel
theorem d_Game_begin_46 : decode M_Game_begin.2.1 46 = .ok (.istore_n 3, 1) := by decide +kernel
theorem d_Game_begin_47 : decode M_Game_begin.2.1 47 = .ok (.iload_n 3, 1) := by decide +kernel
theorem d_Game_begin_48 : decode M_Game_begin.2.1 48 = .ok (.aload_n 0, 1) := by decide +kernel
theorem d_Game_begin_49 : decode M_Game_begin.2.1 49 = .ok (.getfield 18, 3) := by decide +kernel
theorem d_Game_begin_52 : decode M_Game_begin.2.1 52 = .ok (.if_icmp .ge 32, 3) := by decide +kernel
theorem d_Game_begin_55 : decode M_Game_begin.2.1 55 = .ok (.aload_n 0, 1) := by decide +kernel
theorem d_Game_begin_56 : decode M_Game_begin.2.1 56 = .ok (.getfield 15, 3) := by decide +kernel
theorem d_Game_begin_59 : decode M_Game_begin.2.1 59 = .ok (.iload_n 3, 1) := by decide +kernel
theorem d_Game_begin_60 : decode M_Game_begin.2.1 60 = .ok (.iconst 1, 1) := by decide +kernel
theorem d_Game_begin_61 : decode M_Game_begin.2.1 61 = .ok (.aload_n 1, 1) := by decide +kernel
theorem d_Game_begin_62 : decode M_Game_begin.2.1 62 = .ok (.getfield 48, 3) := by decide +kernel
theorem d_Game_begin_65 : decode M_Game_begin.2.1 65 = .ok (.iload_n 3, 1) := by decide +kernel
theorem d_Game_begin_66 : decode M_Game_begin.2.1 66 = .ok (.iaload, 1) := by decide +kernel
theorem d_Game_begin_67 : decode M_Game_begin.2.1 67 = .ok (.ishl, 1) := by decide +kernel
theorem d_Game_begin_68 : decode M_Game_begin.2.1 68 = .ok (.iconst 1, 1) := by decide +kernel
theorem d_Game_begin_69 : decode M_Game_begin.2.1 69 = .ok (.aload_n 1, 1) := by decide +kernel
theorem d_Game_begin_70 : decode M_Game_begin.2.1 70 = .ok (.getfield 51, 3) := by decide +kernel
theorem d_Game_begin_73 : decode M_Game_begin.2.1 73 = .ok (.iload_n 3, 1) := by decide +kernel
theorem d_Game_begin_74 : decode M_Game_begin.2.1 74 = .ok (.iaload, 1) := by decide +kernel
theorem d_Game_begin_75 : decode M_Game_begin.2.1 75 = .ok (.ishl, 1) := by decide +kernel
theorem d_Game_begin_76 : decode M_Game_begin.2.1 76 = .ok (.ior, 1) := by decide +kernel
theorem d_Game_begin_77 : decode M_Game_begin.2.1 77 = .ok (.iastore, 1) := by decide +kernel
theorem d_Game_begin_78 : decode M_Game_begin.2.1 78 = .ok (.iinc 3 1, 3) := by decide +kernel
theorem d_Game_begin_81 : decode M_Game_begin.2.1 81 = .ok (.goto (-34), 3) := by decide +kernel
theorem d_Game_begin_84 : decode M_Game_begin.2.1 84 = .ok (.return_, 1) := by decide +kernel
theorem d_Game_endOfBestPlay_0 : decode M_Game_endOfBestPlay.2.1 0 = .ok (.aload_n 0, 1) := by decide +kernel
theorem d_Game_endOfBestPlay_1 : decode M_Game_endOfBestPlay.2.1 1 = .ok (.aload_n 0, 1) := by decide +kernel
theorem d_Game_endOfBestPlay_2 : decode M_Game_endOfBestPlay.2.1 2 = .ok (.getfield 22, 3) := by decide +kernel
theorem d_Game_endOfBestPlay_5 : decode M_Game_endOfBestPlay.2.1 5 = .ok (.iconst 0, 1) := by decide +kernel
theorem d_Game_endOfBestPlay_6 : decode M_Game_endOfBestPlay.2.1 6 = .ok (.invokevirtual 54, 3) := by decide +kernel
theorem d_Game_endOfBestPlay_9 : decode M_Game_endOfBestPlay.2.1 9 = .ok (.ireturn, 1) := by decide +kernel
theorem d_Game_firstBestLeg_0 : decode M_Game_firstBestLeg.2.1 0 = .ok (.aload_n 0, 1) := by decide +kernel
theorem d_Game_firstBestLeg_1 : decode M_Game_firstBestLeg.2.1 1 = .ok (.aload_n 0, 1) := by decide +kernel
theorem d_Game_firstBestLeg_2 : decode M_Game_firstBestLeg.2.1 2 = .ok (.getfield 22, 3) := by decide +kernel
theorem d_Game_firstBestLeg_5 : decode M_Game_firstBestLeg.2.1 5 = .ok (.iconst 0, 1) := by decide +kernel
theorem d_Game_firstBestLeg_6 : decode M_Game_firstBestLeg.2.1 6 = .ok (.invokevirtual 54, 3) := by decide +kernel
theorem d_Game_firstBestLeg_9 : decode M_Game_firstBestLeg.2.1 9 = .ok (.istore_n 1, 1) := by decide +kernel
theorem d_Game_firstBestLeg_10 : decode M_Game_firstBestLeg.2.1 10 = .ok (.iconst 0, 1) := by decide +kernel
theorem d_Game_firstBestLeg_11 : decode M_Game_firstBestLeg.2.1 11 = .ok (.istore_n 2, 1) := by decide +kernel
theorem d_Game_firstBestLeg_12 : decode M_Game_firstBestLeg.2.1 12 = .ok (.iload_n 2, 1) := by decide +kernel
theorem d_Game_firstBestLeg_13 : decode M_Game_firstBestLeg.2.1 13 = .ok (.aload_n 0, 1) := by decide +kernel
theorem d_Game_firstBestLeg_14 : decode M_Game_firstBestLeg.2.1 14 = .ok (.getfield 18, 3) := by decide +kernel
theorem d_Game_firstBestLeg_17 : decode M_Game_firstBestLeg.2.1 17 = .ok (.if_icmp .ge 41, 3) := by decide +kernel
theorem d_Game_firstBestLeg_20 : decode M_Game_firstBestLeg.2.1 20 = .ok (.aload_n 0, 1) := by decide +kernel
theorem d_Game_firstBestLeg_21 : decode M_Game_firstBestLeg.2.1 21 = .ok (.getfield 22, 3) := by decide +kernel
theorem d_Game_firstBestLeg_24 : decode M_Game_firstBestLeg.2.1 24 = .ok (.iload_n 2, 1) := by decide +kernel
theorem d_Game_firstBestLeg_25 : decode M_Game_firstBestLeg.2.1 25 = .ok (.invokestatic 58, 3) := by decide +kernel
theorem d_Game_firstBestLeg_28 : decode M_Game_firstBestLeg.2.1 28 = .ok (.ifCond .eq 24, 3) := by decide +kernel
theorem d_Game_firstBestLeg_31 : decode M_Game_firstBestLeg.2.1 31 = .ok (.aload_n 0, 1) := by decide +kernel
theorem d_Game_firstBestLeg_32 : decode M_Game_firstBestLeg.2.1 32 = .ok (.aload_n 0, 1) := by decide +kernel
theorem d_Game_firstBestLeg_33 : decode M_Game_firstBestLeg.2.1 33 = .ok (.getfield 22, 3) := by decide +kernel
theorem d_Game_firstBestLeg_36 : decode M_Game_firstBestLeg.2.1 36 = .ok (.iconst 1, 1) := by decide +kernel
theorem d_Game_firstBestLeg_37 : decode M_Game_firstBestLeg.2.1 37 = .ok (.iload_n 2, 1) := by decide +kernel
theorem d_Game_firstBestLeg_38 : decode M_Game_firstBestLeg.2.1 38 = .ok (.ishl, 1) := by decide +kernel
theorem d_Game_firstBestLeg_39 : decode M_Game_firstBestLeg.2.1 39 = .ok (.iconst (-1), 1) := by decide +kernel
theorem d_Game_firstBestLeg_40 : decode M_Game_firstBestLeg.2.1 40 = .ok (.ixor, 1) := by decide +kernel
theorem d_Game_firstBestLeg_41 : decode M_Game_firstBestLeg.2.1 41 = .ok (.iand, 1) := by decide +kernel
theorem d_Game_firstBestLeg_42 : decode M_Game_firstBestLeg.2.1 42 = .ok (.iconst 1, 1) := by decide +kernel
theorem d_Game_firstBestLeg_43 : decode M_Game_firstBestLeg.2.1 43 = .ok (.invokevirtual 54, 3) := by decide +kernel
theorem d_Game_firstBestLeg_46 : decode M_Game_firstBestLeg.2.1 46 = .ok (.iload_n 1, 1) := by decide +kernel
theorem d_Game_firstBestLeg_47 : decode M_Game_firstBestLeg.2.1 47 = .ok (.if_icmp .ne 5, 3) := by decide +kernel
theorem d_Game_firstBestLeg_50 : decode M_Game_firstBestLeg.2.1 50 = .ok (.iload_n 2, 1) := by decide +kernel
theorem d_Game_firstBestLeg_51 : decode M_Game_firstBestLeg.2.1 51 = .ok (.ireturn, 1) := by decide +kernel
theorem d_Game_firstBestLeg_52 : decode M_Game_firstBestLeg.2.1 52 = .ok (.iinc 2 1, 3) := by decide +kernel
theorem d_Game_firstBestLeg_55 : decode M_Game_firstBestLeg.2.1 55 = .ok (.goto (-43), 3) := by decide +kernel
theorem d_Game_firstBestLeg_58 : decode M_Game_firstBestLeg.2.1 58 = .ok (.iconst (-1), 1) := by decide +kernel
theorem d_Game_firstBestLeg_59 : decode M_Game_firstBestLeg.2.1 59 = .ok (.ireturn, 1) := by decide +kernel
theorem d_Game_worth_0 : decode M_Game_worth.2.1 0 = .ok (.aload_n 0, 1) := by decide +kernel
theorem d_Game_worth_1 : decode M_Game_worth.2.1 1 = .ok (.getfield 9, 3) := by decide +kernel
theorem d_Game_worth_4 : decode M_Game_worth.2.1 4 = .ok (.iload_n 1, 1) := by decide +kernel
theorem d_Game_worth_5 : decode M_Game_worth.2.1 5 = .ok (.iaload, 1) := by decide +kernel
theorem d_Game_worth_6 : decode M_Game_worth.2.1 6 = .ok (.iconst 4, 1) := by decide +kernel
theorem d_Game_worth_7 : decode M_Game_worth.2.1 7 = .ok (.iload_n 2, 1) := by decide +kernel
theorem d_Game_worth_8 : decode M_Game_worth.2.1 8 = .ok (.imul, 1) := by decide +kernel
theorem d_Game_worth_9 : decode M_Game_worth.2.1 9 = .ok (.ishr, 1) := by decide +kernel
theorem d_Game_worth_10 : decode M_Game_worth.2.1 10 = .ok (.bipush 15, 2) := by decide +kernel
theorem d_Game_worth_12 : decode M_Game_worth.2.1 12 = .ok (.iand, 1) := by decide +kernel
theorem d_Game_worth_13 : decode M_Game_worth.2.1 13 = .ok (.istore_n 3, 1) := by decide +kernel
theorem d_Game_worth_14 : decode M_Game_worth.2.1 14 = .ok (.iload_n 3, 1) := by decide +kernel
theorem d_Game_worth_15 : decode M_Game_worth.2.1 15 = .ok (.ifCond .le 7, 3) := by decide +kernel
theorem d_Game_worth_18 : decode M_Game_worth.2.1 18 = .ok (.iload_n 3, 1) := by decide +kernel
theorem d_Game_worth_19 : decode M_Game_worth.2.1 19 = .ok (.iconst 1, 1) := by decide +kernel
theorem d_Game_worth_20 : decode M_Game_worth.2.1 20 = .ok (.isub, 1) := by decide +kernel
theorem d_Game_worth_21 : decode M_Game_worth.2.1 21 = .ok (.ireturn, 1) := by decide +kernel
theorem d_Game_worth_22 : decode M_Game_worth.2.1 22 = .ok (.iload_n 2, 1) := by decide +kernel
theorem d_Game_worth_23 : decode M_Game_worth.2.1 23 = .ok (.aload_n 0, 1) := by decide +kernel
theorem d_Game_worth_24 : decode M_Game_worth.2.1 24 = .ok (.getfield 25, 3) := by decide +kernel
theorem d_Game_worth_27 : decode M_Game_worth.2.1 27 = .ok (.if_icmp .ge 8, 3) := by decide +kernel
theorem d_Game_worth_30 : decode M_Game_worth.2.1 30 = .ok (.iload_n 2, 1) := by decide +kernel
theorem d_Game_worth_31 : decode M_Game_worth.2.1 31 = .ok (.iconst 4, 1) := by decide +kernel
theorem d_Game_worth_32 : decode M_Game_worth.2.1 32 = .ok (.if_icmp .lt 11, 3) := by decide +kernel
theorem d_Game_worth_35 : decode M_Game_worth.2.1 35 = .ok (.aload_n 0, 1) := by decide +kernel
theorem d_Game_worth_36 : decode M_Game_worth.2.1 36 = .ok (.iload_n 1, 1) := by decide +kernel
theorem d_Game_worth_37 : decode M_Game_worth.2.1 37 = .ok (.invokevirtual 62, 3) := by decide +kernel
theorem d_Game_worth_40 : decode M_Game_worth.2.1 40 = .ok (.goto 9, 3) := by decide +kernel
theorem d_Game_worth_43 : decode M_Game_worth.2.1 43 = .ok (.aload_n 0, 1) := by decide +kernel
theorem d_Game_worth_44 : decode M_Game_worth.2.1 44 = .ok (.iload_n 1, 1) := by decide +kernel
theorem d_Game_worth_45 : decode M_Game_worth.2.1 45 = .ok (.iload_n 2, 1) := by decide +kernel
theorem d_Game_worth_46 : decode M_Game_worth.2.1 46 = .ok (.invokevirtual 66, 3) := by decide +kernel
theorem d_Game_worth_49 : decode M_Game_worth.2.1 49 = .ok (.istore 4, 2) := by decide +kernel
theorem d_Game_worth_51 : decode M_Game_worth.2.1 51 = .ok (.aload_n 0, 1) := by decide +kernel
theorem d_Game_worth_52 : decode M_Game_worth.2.1 52 = .ok (.getfield 9, 3) := by decide +kernel
theorem d_Game_worth_55 : decode M_Game_worth.2.1 55 = .ok (.iload_n 1, 1) := by decide +kernel
theorem d_Game_worth_56 : decode M_Game_worth.2.1 56 = .ok (.dup2, 1) := by decide +kernel
theorem d_Game_worth_57 : decode M_Game_worth.2.1 57 = .ok (.iaload, 1) := by decide +kernel
theorem d_Game_worth_58 : decode M_Game_worth.2.1 58 = .ok (.iload 4, 2) := by decide +kernel
theorem d_Game_worth_60 : decode M_Game_worth.2.1 60 = .ok (.iconst 1, 1) := by decide +kernel
theorem d_Game_worth_61 : decode M_Game_worth.2.1 61 = .ok (.iadd, 1) := by decide +kernel
theorem d_Game_worth_62 : decode M_Game_worth.2.1 62 = .ok (.iconst 4, 1) := by decide +kernel
theorem d_Game_worth_63 : decode M_Game_worth.2.1 63 = .ok (.iload_n 2, 1) := by decide +kernel
theorem d_Game_worth_64 : decode M_Game_worth.2.1 64 = .ok (.imul, 1) := by decide +kernel
theorem d_Game_worth_65 : decode M_Game_worth.2.1 65 = .ok (.ishl, 1) := by decide +kernel
theorem d_Game_worth_66 : decode M_Game_worth.2.1 66 = .ok (.ior, 1) := by decide +kernel
theorem d_Game_worth_67 : decode M_Game_worth.2.1 67 = .ok (.iastore, 1) := by decide +kernel
theorem d_Game_worth_68 : decode M_Game_worth.2.1 68 = .ok (.iload 4, 2) := by decide +kernel
theorem d_Game_worth_70 : decode M_Game_worth.2.1 70 = .ok (.ireturn, 1) := by decide +kernel
theorem d_Game_bestMove_0 : decode M_Game_bestMove.2.1 0 = .ok (.iload_n 2, 1) := by decide +kernel
theorem d_Game_bestMove_1 : decode M_Game_bestMove.2.1 1 = .ok (.iconst 2, 1) := by decide +kernel
theorem d_Game_bestMove_2 : decode M_Game_bestMove.2.1 2 = .ok (.irem, 1) := by decide +kernel
theorem d_Game_bestMove_3 : decode M_Game_bestMove.2.1 3 = .ok (.ifCond .ne 7, 3) := by decide +kernel
theorem d_Game_bestMove_6 : decode M_Game_bestMove.2.1 6 = .ok (.iconst 1, 1) := by decide +kernel
theorem d_Game_bestMove_7 : decode M_Game_bestMove.2.1 7 = .ok (.goto 4, 3) := by decide +kernel
