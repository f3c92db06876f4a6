theorem d_PM_outSet_1 : decode M_PM_outSet.2.1 1 = .ok (.getfield 60, 3) := by decide +kernel
theorem d_PM_outSet_4 : decode M_PM_outSet.2.1 4 = .ok (.aload_n 0, 1) := by decide +kernel
theorem d_PM_outSet_5 : decode M_PM_outSet.2.1 5 = .ok (.getfield 25, 3) := by decide +kernel
theorem d_PM_outSet_8 : decode M_PM_outSet.2.1 8 = .ok (.invokevirtual 324, 3) := by decide +kernel
theorem d_PM_outSet_11 : decode M_PM_outSet.2.1 11 = .ok (.aload_n 0, 1) := by decide +kernel
theorem d_PM_outSet_12 : decode M_PM_outSet.2.1 12 = .ok (.getfield 60, 3) := by decide +kernel
theorem d_PM_outSet_15 : decode M_PM_outSet.2.1 15 = .ok (.getfield 327, 3) := by decide +kernel
theorem d_PM_outSet_18 : decode M_PM_outSet.2.1 18 = .ok (.iconst (-1), 1) := by decide +kernel
theorem d_PM_outSet_19 : decode M_PM_outSet.2.1 19 = .ok (.if_icmp .ne 12, 3) := by decide +kernel
theorem d_PM_outSet_22 : decode M_PM_outSet.2.1 22 = .ok (.aload_n 0, 1) := by decide +kernel
theorem d_PM_outSet_23 : decode M_PM_outSet.2.1 23 = .ok (.bipush 6, 2) := by decide +kernel
theorem d_PM_outSet_25 : decode M_PM_outSet.2.1 25 = .ok (.invokevirtual 132, 3) := by decide +kernel
theorem d_PM_outSet_28 : decode M_PM_outSet.2.1 28 = .ok (.goto 14, 3) := by decide +kernel
theorem d_PM_outSet_31 : decode M_PM_outSet.2.1 31 = .ok (.aload_n 0, 1) := by decide +kernel
theorem d_PM_outSet_32 : decode M_PM_outSet.2.1 32 = .ok (.aload_n 0, 1) := by decide +kernel
theorem d_PM_outSet_33 : decode M_PM_outSet.2.1 33 = .ok (.getfield 60, 3) := by decide +kernel
theorem d_PM_outSet_36 : decode M_PM_outSet.2.1 36 = .ok (.getfield 327, 3) := by decide +kernel
theorem d_PM_outSet_39 : decode M_PM_outSet.2.1 39 = .ok (.invokevirtual 182, 3) := by decide +kernel
theorem d_PM_outSet_42 : decode M_PM_outSet.2.1 42 = .ok (.ireturn, 1) := by decide +kernel
theorem d_PM_fits_0 : decode M_PM_fits.2.1 0 = .ok (.aload_n 0, 1) := by decide +kernel
theorem d_PM_fits_1 : decode M_PM_fits.2.1 1 = .ok (.iload_n 1, 1) := by decide +kernel
theorem d_PM_fits_2 : decode M_PM_fits.2.1 2 = .ok (.invokevirtual 330, 3) := by decide +kernel
theorem d_PM_fits_5 : decode M_PM_fits.2.1 5 = .ok (.ifCond .ne 9, 3) := by decide +kernel
theorem d_PM_fits_8 : decode M_PM_fits.2.1 8 = .ok (.aload_n 0, 1) := by decide +kernel
theorem d_PM_fits_9 : decode M_PM_fits.2.1 9 = .ok (.iconst 1, 1) := by decide +kernel
theorem d_PM_fits_10 : decode M_PM_fits.2.1 10 = .ok (.invokevirtual 132, 3) := by decide +kernel
theorem d_PM_fits_13 : decode M_PM_fits.2.1 13 = .ok (.ireturn, 1) := by decide +kernel
theorem d_PM_fits_14 : decode M_PM_fits.2.1 14 = .ok (.aload_n 0, 1) := by decide +kernel
theorem d_PM_fits_15 : decode M_PM_fits.2.1 15 = .ok (.getfield 60, 3) := by decide +kernel
theorem d_PM_fits_18 : decode M_PM_fits.2.1 18 = .ok (.aload_n 0, 1) := by decide +kernel
theorem d_PM_fits_19 : decode M_PM_fits.2.1 19 = .ok (.getfield 25, 3) := by decide +kernel
theorem d_PM_fits_22 : decode M_PM_fits.2.1 22 = .ok (.iload_n 1, 1) := by decide +kernel
theorem d_PM_fits_23 : decode M_PM_fits.2.1 23 = .ok (.invokevirtual 333, 3) := by decide +kernel
theorem d_PM_fits_26 : decode M_PM_fits.2.1 26 = .ok (.aload_n 0, 1) := by decide +kernel
theorem d_PM_fits_27 : decode M_PM_fits.2.1 27 = .ok (.aload_n 0, 1) := by decide +kernel
theorem d_PM_fits_28 : decode M_PM_fits.2.1 28 = .ok (.getfield 60, 3) := by decide +kernel
theorem d_PM_fits_31 : decode M_PM_fits.2.1 31 = .ok (.getfield 336, 3) := by decide +kernel
theorem d_PM_fits_34 : decode M_PM_fits.2.1 34 = .ok (.invokevirtual 182, 3) := by decide +kernel
theorem d_PM_fits_37 : decode M_PM_fits.2.1 37 = .ok (.ireturn, 1) := by decide +kernel
theorem d_PM_firstFault_0 : decode M_PM_firstFault.2.1 0 = .ok (.aload_n 0, 1) := by decide +kernel
theorem d_PM_firstFault_1 : decode M_PM_firstFault.2.1 1 = .ok (.iload_n 1, 1) := by decide +kernel
theorem d_PM_firstFault_2 : decode M_PM_firstFault.2.1 2 = .ok (.invokevirtual 330, 3) := by decide +kernel
theorem d_PM_firstFault_5 : decode M_PM_firstFault.2.1 5 = .ok (.ifCond .eq 17, 3) := by decide +kernel
theorem d_PM_firstFault_8 : decode M_PM_firstFault.2.1 8 = .ok (.iload_n 2, 1) := by decide +kernel
theorem d_PM_firstFault_9 : decode M_PM_firstFault.2.1 9 = .ok (.aload_n 0, 1) := by decide +kernel
theorem d_PM_firstFault_10 : decode M_PM_firstFault.2.1 10 = .ok (.getfield 25, 3) := by decide +kernel
theorem d_PM_firstFault_13 : decode M_PM_firstFault.2.1 13 = .ok (.getfield 206, 3) := by decide +kernel
theorem d_PM_firstFault_16 : decode M_PM_firstFault.2.1 16 = .ok (.invokestatic 108, 3) := by decide +kernel
theorem d_PM_firstFault_19 : decode M_PM_firstFault.2.1 19 = .ok (.ifCond .ne 9, 3) := by decide +kernel
theorem d_PM_firstFault_22 : decode M_PM_firstFault.2.1 22 = .ok (.aload_n 0, 1) := by decide +kernel
theorem d_PM_firstFault_23 : decode M_PM_firstFault.2.1 23 = .ok (.iconst 1, 1) := by decide +kernel
theorem d_PM_firstFault_24 : decode M_PM_firstFault.2.1 24 = .ok (.invokevirtual 132, 3) := by decide +kernel
theorem d_PM_firstFault_27 : decode M_PM_firstFault.2.1 27 = .ok (.ireturn, 1) := by decide +kernel
theorem d_PM_firstFault_28 : decode M_PM_firstFault.2.1 28 = .ok (.aload_n 0, 1) := by decide +kernel
theorem d_PM_firstFault_29 : decode M_PM_firstFault.2.1 29 = .ok (.getfield 60, 3) := by decide +kernel
theorem d_PM_firstFault_32 : decode M_PM_firstFault.2.1 32 = .ok (.aload_n 0, 1) := by decide +kernel
theorem d_PM_firstFault_33 : decode M_PM_firstFault.2.1 33 = .ok (.getfield 25, 3) := by decide +kernel
theorem d_PM_firstFault_36 : decode M_PM_firstFault.2.1 36 = .ok (.iload_n 1, 1) := by decide +kernel
theorem d_PM_firstFault_37 : decode M_PM_firstFault.2.1 37 = .ok (.invokevirtual 333, 3) := by decide +kernel
theorem d_PM_firstFault_40 : decode M_PM_firstFault.2.1 40 = .ok (.aload_n 0, 1) := by decide +kernel
theorem d_PM_firstFault_41 : decode M_PM_firstFault.2.1 41 = .ok (.getfield 60, 3) := by decide +kernel
theorem d_PM_firstFault_44 : decode M_PM_firstFault.2.1 44 = .ok (.getfield 336, 3) := by decide +kernel
theorem d_PM_firstFault_47 : decode M_PM_firstFault.2.1 47 = .ok (.ifCond .ne 10, 3) := by decide +kernel
theorem d_PM_firstFault_50 : decode M_PM_firstFault.2.1 50 = .ok (.aload_n 0, 1) := by decide +kernel
theorem d_PM_firstFault_51 : decode M_PM_firstFault.2.1 51 = .ok (.bipush 6, 2) := by decide +kernel
theorem d_PM_firstFault_53 : decode M_PM_firstFault.2.1 53 = .ok (.invokevirtual 132, 3) := by decide +kernel
theorem d_PM_firstFault_56 : decode M_PM_firstFault.2.1 56 = .ok (.ireturn, 1) := by decide +kernel
theorem d_PM_firstFault_57 : decode M_PM_firstFault.2.1 57 = .ok (.iload_n 1, 1) := by decide +kernel
theorem d_PM_firstFault_58 : decode M_PM_firstFault.2.1 58 = .ok (.iload_n 2, 1) := by decide +kernel
theorem d_PM_firstFault_59 : decode M_PM_firstFault.2.1 59 = .ok (.invokestatic 339, 3) := by decide +kernel
theorem d_PM_firstFault_62 : decode M_PM_firstFault.2.1 62 = .ok (.ifCond .ne 10, 3) := by decide +kernel
theorem d_PM_firstFault_65 : decode M_PM_firstFault.2.1 65 = .ok (.aload_n 0, 1) := by decide +kernel
theorem d_PM_firstFault_66 : decode M_PM_firstFault.2.1 66 = .ok (.bipush 7, 2) := by decide +kernel
theorem d_PM_firstFault_68 : decode M_PM_firstFault.2.1 68 = .ok (.invokevirtual 132, 3) := by decide +kernel
theorem d_PM_firstFault_71 : decode M_PM_firstFault.2.1 71 = .ok (.ireturn, 1) := by decide +kernel
theorem d_PM_firstFault_72 : decode M_PM_firstFault.2.1 72 = .ok (.aload_n 0, 1) := by decide +kernel
theorem d_PM_firstFault_73 : decode M_PM_firstFault.2.1 73 = .ok (.aload_n 0, 1) := by decide +kernel
theorem d_PM_firstFault_74 : decode M_PM_firstFault.2.1 74 = .ok (.getfield 60, 3) := by decide +kernel
theorem d_PM_firstFault_77 : decode M_PM_firstFault.2.1 77 = .ok (.iload_n 2, 1) := by decide +kernel
theorem d_PM_firstFault_78 : decode M_PM_firstFault.2.1 78 = .ok (.invokevirtual 342, 3) := by decide +kernel
theorem d_PM_firstFault_81 : decode M_PM_firstFault.2.1 81 = .ok (.invokevirtual 182, 3) := by decide +kernel
theorem d_PM_firstFault_84 : decode M_PM_firstFault.2.1 84 = .ok (.ireturn, 1) := by decide +kernel
theorem d_PM_oddsThat_0 : decode M_PM_oddsThat.2.1 0 = .ok (.aload_n 0, 1) := by decide +kernel
theorem d_PM_oddsThat_1 : decode M_PM_oddsThat.2.1 1 = .ok (.iload_n 1, 1) := by decide +kernel
theorem d_PM_oddsThat_2 : decode M_PM_oddsThat.2.1 2 = .ok (.invokevirtual 330, 3) := by decide +kernel
theorem d_PM_oddsThat_5 : decode M_PM_oddsThat.2.1 5 = .ok (.ifCond .eq 26, 3) := by decide +kernel
theorem d_PM_oddsThat_8 : decode M_PM_oddsThat.2.1 8 = .ok (.iload_n 2, 1) := by decide +kernel
theorem d_PM_oddsThat_9 : decode M_PM_oddsThat.2.1 9 = .ok (.aload_n 0, 1) := by decide +kernel
theorem d_PM_oddsThat_10 : decode M_PM_oddsThat.2.1 10 = .ok (.getfield 25, 3) := by decide +kernel
theorem d_PM_oddsThat_13 : decode M_PM_oddsThat.2.1 13 = .ok (.getfield 206, 3) := by decide +kernel
theorem d_PM_oddsThat_16 : decode M_PM_oddsThat.2.1 16 = .ok (.invokestatic 108, 3) := by decide +kernel
theorem d_PM_oddsThat_19 : decode M_PM_oddsThat.2.1 19 = .ok (.ifCond .eq 12, 3) := by decide +kernel
theorem d_PM_oddsThat_22 : decode M_PM_oddsThat.2.1 22 = .ok (.iload_n 3, 1) := by decide +kernel
theorem d_PM_oddsThat_23 : decode M_PM_oddsThat.2.1 23 = .ok (.bipush 24, 2) := by decide +kernel
theorem d_PM_oddsThat_25 : decode M_PM_oddsThat.2.1 25 = .ok (.invokestatic 108, 3) := by decide +kernel
theorem d_PM_oddsThat_28 : decode M_PM_oddsThat.2.1 28 = .ok (.ifCond .ne 9, 3) := by decide +kernel
theorem d_PM_oddsThat_31 : decode M_PM_oddsThat.2.1 31 = .ok (.aload_n 0, 1) := by decide +kernel
theorem d_PM_oddsThat_32 : decode M_PM_oddsThat.2.1 32 = .ok (.iconst 1, 1) := by decide +kernel
theorem d_PM_oddsThat_33 : decode M_PM_oddsThat.2.1 33 = .ok (.invokevirtual 112, 3) := by decide +kernel
theorem d_PM_oddsThat_36 : decode M_PM_oddsThat.2.1 36 = .ok (.ireturn, 1) := by decide +kernel
theorem d_PM_oddsThat_37 : decode M_PM_oddsThat.2.1 37 = .ok (.aload_n 0, 1) := by decide +kernel
theorem d_PM_oddsThat_38 : decode M_PM_oddsThat.2.1 38 = .ok (.getfield 60, 3) := by decide +kernel
theorem d_PM_oddsThat_41 : decode M_PM_oddsThat.2.1 41 = .ok (.aload_n 0, 1) := by decide +kernel
theorem d_PM_oddsThat_42 : decode M_PM_oddsThat.2.1 42 = .ok (.getfield 25, 3) := by decide +kernel
theorem d_PM_oddsThat_45 : decode M_PM_oddsThat.2.1 45 = .ok (.iload_n 1, 1) := by decide +kernel
theorem d_PM_oddsThat_46 : decode M_PM_oddsThat.2.1 46 = .ok (.invokevirtual 333, 3) := by decide +kernel
theorem d_PM_oddsThat_49 : decode M_PM_oddsThat.2.1 49 = .ok (.aload_n 0, 1) := by decide +kernel
theorem d_PM_oddsThat_50 : decode M_PM_oddsThat.2.1 50 = .ok (.getfield 60, 3) := by decide +kernel
theorem d_PM_oddsThat_53 : decode M_PM_oddsThat.2.1 53 = .ok (.getfield 336, 3) := by decide +kernel
theorem d_PM_oddsThat_56 : decode M_PM_oddsThat.2.1 56 = .ok (.ifCond .ne 10, 3) := by decide +kernel
theorem d_PM_oddsThat_59 : decode M_PM_oddsThat.2.1 59 = .ok (.aload_n 0, 1) := by decide +kernel
theorem d_PM_oddsThat_60 : decode M_PM_oddsThat.2.1 60 = .ok (.bipush 6, 2) := by decide +kernel
theorem d_PM_oddsThat_62 : decode M_PM_oddsThat.2.1 62 = .ok (.invokevirtual 112, 3) := by decide +kernel
theorem d_PM_oddsThat_65 : decode M_PM_oddsThat.2.1 65 = .ok (.ireturn, 1) := by decide +kernel
theorem d_PM_oddsThat_66 : decode M_PM_oddsThat.2.1 66 = .ok (.iload_n 1, 1) := by decide +kernel
theorem d_PM_oddsThat_67 : decode M_PM_oddsThat.2.1 67 = .ok (.iload_n 2, 1) := by decide +kernel
theorem d_PM_oddsThat_68 : decode M_PM_oddsThat.2.1 68 = .ok (.invokestatic 339, 3) := by decide +kernel
theorem d_PM_oddsThat_71 : decode M_PM_oddsThat.2.1 71 = .ok (.ifCond .ne 10, 3) := by decide +kernel
theorem d_PM_oddsThat_74 : decode M_PM_oddsThat.2.1 74 = .ok (.aload_n 0, 1) := by decide +kernel
theorem d_PM_oddsThat_75 : decode M_PM_oddsThat.2.1 75 = .ok (.bipush 7, 2) := by decide +kernel
theorem d_PM_oddsThat_77 : decode M_PM_oddsThat.2.1 77 = .ok (.invokevirtual 112, 3) := by decide +kernel
theorem d_PM_oddsThat_80 : decode M_PM_oddsThat.2.1 80 = .ok (.ireturn, 1) := by decide +kernel
theorem d_PM_oddsThat_81 : decode M_PM_oddsThat.2.1 81 = .ok (.aload_n 0, 1) := by decide +kernel
theorem d_PM_oddsThat_82 : decode M_PM_oddsThat.2.1 82 = .ok (.aload_n 0, 1) := by decide +kernel
theorem d_PM_oddsThat_83 : decode M_PM_oddsThat.2.1 83 = .ok (.getfield 60, 3) := by decide +kernel
theorem d_PM_oddsThat_86 : decode M_PM_oddsThat.2.1 86 = .ok (.iload_n 2, 1) := by decide +kernel
theorem d_PM_oddsThat_87 : decode M_PM_oddsThat.2.1 87 = .ok (.iload_n 3, 1) := by decide +kernel
theorem d_PM_oddsThat_88 : decode M_PM_oddsThat.2.1 88 = .ok (.invokevirtual 345, 3) := by decide +kernel
theorem d_PM_oddsThat_91 : decode M_PM_oddsThat.2.1 91 = .ok (.i2l, 1) := by decide +kernel
theorem d_PM_oddsThat_92 : decode M_PM_oddsThat.2.1 92 = .ok (.aload_n 0, 1) := by decide +kernel
theorem d_PM_oddsThat_93 : decode M_PM_oddsThat.2.1 93 = .ok (.getfield 60, 3) := by decide +kernel
theorem d_PM_oddsThat_96 : decode M_PM_oddsThat.2.1 96 = .ok (.getfield 336, 3) := by decide +kernel
theorem d_PM_oddsThat_99 : decode M_PM_oddsThat.2.1 99 = .ok (.i2l, 1) := by decide +kernel
theorem d_PM_oddsThat_100 : decode M_PM_oddsThat.2.1 100 = .ok (.invokevirtual 348, 3) := by decide +kernel
theorem d_PM_oddsThat_103 : decode M_PM_oddsThat.2.1 103 = .ok (.ireturn, 1) := by decide +kernel
theorem d_PM_ask_0 : decode M_PM_ask.2.1 0 = .ok (.aload_n 0, 1) := by decide +kernel
theorem d_PM_ask_1 : decode M_PM_ask.2.1 1 = .ok (.iload_n 1, 1) := by decide +kernel
theorem d_PM_ask_2 : decode M_PM_ask.2.1 2 = .ok (.invokevirtual 330, 3) := by decide +kernel
theorem d_PM_ask_5 : decode M_PM_ask.2.1 5 = .ok (.ifCond .eq 11, 3) := by decide +kernel
theorem d_PM_ask_8 : decode M_PM_ask.2.1 8 = .ok (.iload_n 2, 1) := by decide +kernel
theorem d_PM_ask_9 : decode M_PM_ask.2.1 9 = .ok (.iconst 2, 1) := by decide +kernel
theorem d_PM_ask_10 : decode M_PM_ask.2.1 10 = .ok (.invokestatic 108, 3) := by decide +kernel
theorem d_PM_ask_13 : decode M_PM_ask.2.1 13 = .ok (.ifCond .ne 9, 3) := by decide +kernel
theorem d_PM_ask_16 : decode M_PM_ask.2.1 16 = .ok (.aload_n 0, 1) := by decide +kernel
theorem d_PM_ask_17 : decode M_PM_ask.2.1 17 = .ok (.iconst 1, 1) := by decide +kernel
theorem d_PM_ask_18 : decode M_PM_ask.2.1 18 = .ok (.invokevirtual 132, 3) := by decide +kernel
theorem d_PM_ask_21 : decode M_PM_ask.2.1 21 = .ok (.ireturn, 1) := by decide +kernel
theorem d_PM_ask_22 : decode M_PM_ask.2.1 22 = .ok (.aload_n 0, 1) := by decide +kernel
theorem d_PM_ask_23 : decode M_PM_ask.2.1 23 = .ok (.getfield 60, 3) := by decide +kernel
theorem d_PM_ask_26 : decode M_PM_ask.2.1 26 = .ok (.aload_n 0, 1) := by decide +kernel
theorem d_PM_ask_27 : decode M_PM_ask.2.1 27 = .ok (.getfield 25, 3) := by decide +kernel
theorem d_PM_ask_30 : decode M_PM_ask.2.1 30 = .ok (.iload_n 1, 1) := by decide +kernel
theorem d_PM_ask_31 : decode M_PM_ask.2.1 31 = .ok (.invokevirtual 333, 3) := by decide +kernel
theorem d_PM_ask_34 : decode M_PM_ask.2.1 34 = .ok (.aload_n 0, 1) := by decide +kernel
theorem d_PM_ask_35 : decode M_PM_ask.2.1 35 = .ok (.getfield 60, 3) := by decide +kernel
theorem d_PM_ask_38 : decode M_PM_ask.2.1 38 = .ok (.getfield 336, 3) := by decide +kernel
theorem d_PM_ask_41 : decode M_PM_ask.2.1 41 = .ok (.iconst 2, 1) := by decide +kernel
theorem d_PM_ask_42 : decode M_PM_ask.2.1 42 = .ok (.if_icmp .lt 17, 3) := by decide +kernel
theorem d_PM_ask_45 : decode M_PM_ask.2.1 45 = .ok (.aload_n 0, 1) := by decide +kernel
theorem d_PM_ask_46 : decode M_PM_ask.2.1 46 = .ok (.getfield 60, 3) := by decide +kernel
theorem d_PM_ask_49 : decode M_PM_ask.2.1 49 = .ok (.aload_n 0, 1) := by decide +kernel
theorem d_PM_ask_50 : decode M_PM_ask.2.1 50 = .ok (.getfield 25, 3) := by decide +kernel
theorem d_PM_ask_53 : decode M_PM_ask.2.1 53 = .ok (.invokevirtual 352, 3) := by decide +kernel
theorem d_PM_ask_56 : decode M_PM_ask.2.1 56 = .ok (.ifCond .ne 10, 3) := by decide +kernel
theorem d_PM_ask_59 : decode M_PM_ask.2.1 59 = .ok (.aload_n 0, 1) := by decide +kernel
theorem d_PM_ask_60 : decode M_PM_ask.2.1 60 = .ok (.bipush 6, 2) := by decide +kernel
theorem d_PM_ask_62 : decode M_PM_ask.2.1 62 = .ok (.invokevirtual 132, 3) := by decide +kernel
theorem d_PM_ask_65 : decode M_PM_ask.2.1 65 = .ok (.ireturn, 1) := by decide +kernel
theorem d_PM_ask_66 : decode M_PM_ask.2.1 66 = .ok (.aload_n 0, 1) := by decide +kernel
theorem d_PM_ask_67 : decode M_PM_ask.2.1 67 = .ok (.iload_n 2, 1) := by decide +kernel
theorem d_PM_ask_68 : decode M_PM_ask.2.1 68 = .ok (.ifCond .ne 13, 3) := by decide +kernel
theorem d_PM_ask_71 : decode M_PM_ask.2.1 71 = .ok (.aload_n 0, 1) := by decide +kernel
theorem d_PM_ask_72 : decode M_PM_ask.2.1 72 = .ok (.getfield 60, 3) := by decide +kernel
theorem d_PM_ask_75 : decode M_PM_ask.2.1 75 = .ok (.getfield 356, 3) := by decide +kernel
theorem d_PM_ask_78 : decode M_PM_ask.2.1 78 = .ok (.goto 10, 3) := by decide +kernel
theorem d_PM_ask_81 : decode M_PM_ask.2.1 81 = .ok (.aload_n 0, 1) := by decide +kernel
theorem d_PM_ask_82 : decode M_PM_ask.2.1 82 = .ok (.getfield 60, 3) := by decide +kernel
theorem d_PM_ask_85 : decode M_PM_ask.2.1 85 = .ok (.getfield 359, 3) := by decide +kernel
theorem d_PM_ask_88 : decode M_PM_ask.2.1 88 = .ok (.invokevirtual 182, 3) := by decide +kernel
theorem d_PM_ask_91 : decode M_PM_ask.2.1 91 = .ok (.ireturn, 1) := by decide +kernel
theorem d_PM_way_0 : decode M_PM_way.2.1 0 = .ok (.aload_n 0, 1) := by decide +kernel
theorem d_PM_way_1 : decode M_PM_way.2.1 1 = .ok (.iload_n 1, 1) := by decide +kernel
theorem d_PM_way_2 : decode M_PM_way.2.1 2 = .ok (.iload_n 2, 1) := by decide +kernel
theorem d_PM_way_3 : decode M_PM_way.2.1 3 = .ok (.invokevirtual 296, 3) := by decide +kernel
theorem d_PM_way_6 : decode M_PM_way.2.1 6 = .ok (.ifCond .ne 9, 3) := by decide +kernel
theorem d_PM_way_9 : decode M_PM_way.2.1 9 = .ok (.aload_n 0, 1) := by decide +kernel
theorem d_PM_way_10 : decode M_PM_way.2.1 10 = .ok (.iconst 1, 1) := by decide +kernel
theorem d_PM_way_11 : decode M_PM_way.2.1 11 = .ok (.invokevirtual 132, 3) := by decide +kernel
theorem d_PM_way_14 : decode M_PM_way.2.1 14 = .ok (.ireturn, 1) := by decide +kernel
theorem d_PM_way_15 : decode M_PM_way.2.1 15 = .ok (.aload_n 0, 1) := by decide +kernel
theorem d_PM_way_16 : decode M_PM_way.2.1 16 = .ok (.getfield 67, 3) := by decide +kernel
theorem d_PM_way_19 : decode M_PM_way.2.1 19 = .ok (.aload_n 0, 1) := by decide +kernel
theorem d_PM_way_20 : decode M_PM_way.2.1 20 = .ok (.getfield 25, 3) := by decide +kernel
theorem d_PM_way_23 : decode M_PM_way.2.1 23 = .ok (.iload_n 1, 1) := by decide +kernel
theorem d_PM_way_24 : decode M_PM_way.2.1 24 = .ok (.iload_n 2, 1) := by decide +kernel
theorem d_PM_way_25 : decode M_PM_way.2.1 25 = .ok (.invokevirtual 362, 3) := by decide +kernel
theorem d_PM_way_28 : decode M_PM_way.2.1 28 = .ok (.aload_n 0, 1) := by decide +kernel
theorem d_PM_way_29 : decode M_PM_way.2.1 29 = .ok (.getfield 67, 3) := by decide +kernel
theorem d_PM_way_32 : decode M_PM_way.2.1 32 = .ok (.getfield 366, 3) := by decide +kernel
theorem d_PM_way_35 : decode M_PM_way.2.1 35 = .ok (.iconst (-1), 1) := by decide +kernel
theorem d_PM_way_36 : decode M_PM_way.2.1 36 = .ok (.if_icmp .ne 12, 3) := by decide +kernel
theorem d_PM_way_39 : decode M_PM_way.2.1 39 = .ok (.aload_n 0, 1) := by decide +kernel
theorem d_PM_way_40 : decode M_PM_way.2.1 40 = .ok (.bipush 6, 2) := by decide +kernel
theorem d_PM_way_42 : decode M_PM_way.2.1 42 = .ok (.invokevirtual 132, 3) := by decide +kernel
theorem d_PM_way_45 : decode M_PM_way.2.1 45 = .ok (.goto 14, 3) := by decide +kernel
theorem d_PM_way_48 : decode M_PM_way.2.1 48 = .ok (.aload_n 0, 1) := by decide +kernel
theorem d_PM_way_49 : decode M_PM_way.2.1 49 = .ok (.aload_n 0, 1) := by decide +kernel
theorem d_PM_way_50 : decode M_PM_way.2.1 50 = .ok (.getfield 67, 3) := by decide +kernel
theorem d_PM_way_53 : decode M_PM_way.2.1 53 = .ok (.getfield 366, 3) := by decide +kernel
theorem d_PM_way_56 : decode M_PM_way.2.1 56 = .ok (.invokevirtual 182, 3) := by decide +kernel
theorem d_PM_way_59 : decode M_PM_way.2.1 59 = .ok (.ireturn, 1) := by decide +kernel
theorem d_PM_wayAt_0 : decode M_PM_wayAt.2.1 0 = .ok (.aload_n 0, 1) := by decide +kernel
theorem d_PM_wayAt_1 : decode M_PM_wayAt.2.1 1 = .ok (.iload_n 1, 1) := by decide +kernel
theorem d_PM_wayAt_2 : decode M_PM_wayAt.2.1 2 = .ok (.iload_n 2, 1) := by decide +kernel
theorem d_PM_wayAt_3 : decode M_PM_wayAt.2.1 3 = .ok (.invokevirtual 296, 3) := by decide +kernel
theorem d_PM_wayAt_6 : decode M_PM_wayAt.2.1 6 = .ok (.ifCond .eq 7, 3) := by decide +kernel
theorem d_PM_wayAt_9 : decode M_PM_wayAt.2.1 9 = .ok (.iload_n 3, 1) := by decide +kernel
theorem d_PM_wayAt_10 : decode M_PM_wayAt.2.1 10 = .ok (.ifCond .ge 9, 3) := by decide +kernel
theorem d_PM_wayAt_13 : decode M_PM_wayAt.2.1 13 = .ok (.aload_n 0, 1) := by decide +kernel
theorem d_PM_wayAt_14 : decode M_PM_wayAt.2.1 14 = .ok (.iconst 1, 1) := by decide +kernel
theorem d_PM_wayAt_15 : decode M_PM_wayAt.2.1 15 = .ok (.invokevirtual 132, 3) := by decide +kernel
theorem d_PM_wayAt_18 : decode M_PM_wayAt.2.1 18 = .ok (.ireturn, 1) := by decide +kernel
theorem d_PM_wayAt_19 : decode M_PM_wayAt.2.1 19 = .ok (.aload_n 0, 1) := by decide +kernel
theorem d_PM_wayAt_20 : decode M_PM_wayAt.2.1 20 = .ok (.getfield 67, 3) := by decide +kernel
theorem d_PM_wayAt_23 : decode M_PM_wayAt.2.1 23 = .ok (.aload_n 0, 1) := by decide +kernel
theorem d_PM_wayAt_24 : decode M_PM_wayAt.2.1 24 = .ok (.getfield 25, 3) := by decide +kernel
theorem d_PM_wayAt_27 : decode M_PM_wayAt.2.1 27 = .ok (.iload_n 1, 1) := by decide +kernel
theorem d_PM_wayAt_28 : decode M_PM_wayAt.2.1 28 = .ok (.iload_n 2, 1) := by decide +kernel
theorem d_PM_wayAt_29 : decode M_PM_wayAt.2.1 29 = .ok (.invokevirtual 362, 3) := by decide +kernel
theorem d_PM_wayAt_32 : decode M_PM_wayAt.2.1 32 = .ok (.aload_n 0, 1) := by decide +kernel
theorem d_PM_wayAt_33 : decode M_PM_wayAt.2.1 33 = .ok (.getfield 67, 3) := by decide +kernel
theorem d_PM_wayAt_36 : decode M_PM_wayAt.2.1 36 = .ok (.getfield 366, 3) := by decide +kernel
theorem d_PM_wayAt_39 : decode M_PM_wayAt.2.1 39 = .ok (.iconst (-1), 1) := by decide +kernel
theorem d_PM_wayAt_40 : decode M_PM_wayAt.2.1 40 = .ok (.if_icmp .eq 14, 3) := by decide +kernel
theorem d_PM_wayAt_43 : decode M_PM_wayAt.2.1 43 = .ok (.iload_n 3, 1) := by decide +kernel
theorem d_PM_wayAt_44 : decode M_PM_wayAt.2.1 44 = .ok (.aload_n 0, 1) := by decide +kernel
theorem d_PM_wayAt_45 : decode M_PM_wayAt.2.1 45 = .ok (.getfield 67, 3) := by decide +kernel
theorem d_PM_wayAt_48 : decode M_PM_wayAt.2.1 48 = .ok (.getfield 369, 3) := by decide +kernel
theorem d_PM_wayAt_51 : decode M_PM_wayAt.2.1 51 = .ok (.if_icmp .lt 10, 3) := by decide +kernel
theorem d_PM_wayAt_54 : decode M_PM_wayAt.2.1 54 = .ok (.aload_n 0, 1) := by decide +kernel
theorem d_PM_wayAt_55 : decode M_PM_wayAt.2.1 55 = .ok (.bipush 6, 2) := by decide +kernel
theorem d_PM_wayAt_57 : decode M_PM_wayAt.2.1 57 = .ok (.invokevirtual 132, 3) := by decide +kernel
theorem d_PM_wayAt_60 : decode M_PM_wayAt.2.1 60 = .ok (.ireturn, 1) := by decide +kernel
theorem d_PM_wayAt_61 : decode M_PM_wayAt.2.1 61 = .ok (.aload_n 0, 1) := by decide +kernel
theorem d_PM_wayAt_62 : decode M_PM_wayAt.2.1 62 = .ok (.aload_n 0, 1) := by decide +kernel
theorem d_PM_wayAt_63 : decode M_PM_wayAt.2.1 63 = .ok (.getfield 67, 3) := by decide +kernel
theorem d_PM_wayAt_66 : decode M_PM_wayAt.2.1 66 = .ok (.getfield 372, 3) := by decide +kernel
theorem d_PM_wayAt_69 : decode M_PM_wayAt.2.1 69 = .ok (.iload_n 3, 1) := by decide +kernel
theorem d_PM_wayAt_70 : decode M_PM_wayAt.2.1 70 = .ok (.iaload, 1) := by decide +kernel
theorem d_PM_wayAt_71 : decode M_PM_wayAt.2.1 71 = .ok (.invokevirtual 182, 3) := by decide +kernel
theorem d_PM_wayAt_74 : decode M_PM_wayAt.2.1 74 = .ok (.ireturn, 1) := by decide +kernel
theorem d_PM_area_0 : decode M_PM_area.2.1 0 = .ok (.iload_n 1, 1) := by decide +kernel
theorem d_PM_area_1 : decode M_PM_area.2.1 1 = .ok (.iconst 4, 1) := by decide +kernel
theorem d_PM_area_2 : decode M_PM_area.2.1 2 = .ok (.invokestatic 108, 3) := by decide +kernel
theorem d_PM_area_5 : decode M_PM_area.2.1 5 = .ok (.ifCond .eq 14, 3) := by decide +kernel
theorem d_PM_area_8 : decode M_PM_area.2.1 8 = .ok (.iload_n 2, 1) := by decide +kernel
theorem d_PM_area_9 : decode M_PM_area.2.1 9 = .ok (.iconst 3, 1) := by decide +kernel
theorem d_PM_area_10 : decode M_PM_area.2.1 10 = .ok (.if_icmp .lt 9, 3) := by decide +kernel
theorem d_PM_area_13 : decode M_PM_area.2.1 13 = .ok (.iload_n 2, 1) := by decide +kernel
theorem d_PM_area_14 : decode M_PM_area.2.1 14 = .ok (.bipush 20, 2) := by decide +kernel
theorem d_PM_area_16 : decode M_PM_area.2.1 16 = .ok (.if_icmp .le 9, 3) := by decide +kernel
theorem d_PM_area_19 : decode M_PM_area.2.1 19 = .ok (.aload_n 0, 1) := by decide +kernel
theorem d_PM_area_20 : decode M_PM_area.2.1 20 = .ok (.iconst 1, 1) := by decide +kernel
theorem d_PM_area_21 : decode M_PM_area.2.1 21 = .ok (.invokevirtual 112, 3) := by decide +kernel
theorem d_PM_area_24 : decode M_PM_area.2.1 24 = .ok (.ireturn, 1) := by decide +kernel
theorem d_PM_area_25 : decode M_PM_area.2.1 25 = .ok (.aload_n 0, 1) := by decide +kernel
theorem d_PM_area_26 : decode M_PM_area.2.1 26 = .ok (.getfield 11, 3) := by decide +kernel
theorem d_PM_area_29 : decode M_PM_area.2.1 29 = .ok (.iload_n 1, 1) := by decide +kernel
theorem d_PM_area_30 : decode M_PM_area.2.1 30 = .ok (.aaload, 1) := by decide +kernel
theorem d_PM_area_31 : decode M_PM_area.2.1 31 = .ok (.astore_n 3, 1) := by decide +kernel
theorem d_PM_area_32 : decode M_PM_area.2.1 32 = .ok (.aload_n 3, 1) := by decide +kernel
theorem d_PM_area_33 : decode M_PM_area.2.1 33 = .ok (.getfield 140, 3) := by decide +kernel
theorem d_PM_area_36 : decode M_PM_area.2.1 36 = .ok (.ifCond .ne 9, 3) := by decide +kernel
theorem d_PM_area_39 : decode M_PM_area.2.1 39 = .ok (.aload_n 0, 1) := by decide +kernel
theorem d_PM_area_40 : decode M_PM_area.2.1 40 = .ok (.iconst 2, 1) := by decide +kernel
theorem d_PM_area_41 : decode M_PM_area.2.1 41 = .ok (.invokevirtual 112, 3) := by decide +kernel
theorem d_PM_area_44 : decode M_PM_area.2.1 44 = .ok (.ireturn, 1) := by decide +kernel
theorem d_PM_area_45 : decode M_PM_area.2.1 45 = .ok (.aload_n 3, 1) := by decide +kernel
theorem d_PM_area_46 : decode M_PM_area.2.1 46 = .ok (.iconst 0, 1) := by decide +kernel
theorem d_PM_area_47 : decode M_PM_area.2.1 47 = .ok (.iload_n 2, 1) := by decide +kernel
theorem d_PM_area_48 : decode M_PM_area.2.1 48 = .ok (.invokevirtual 146, 3) := by decide +kernel
theorem d_PM_area_51 : decode M_PM_area.2.1 51 = .ok (.ifCond .ne 9, 3) := by decide +kernel
theorem d_PM_area_54 : decode M_PM_area.2.1 54 = .ok (.aload_n 0, 1) := by decide +kernel
theorem d_PM_area_55 : decode M_PM_area.2.1 55 = .ok (.iconst 3, 1) := by decide +kernel
theorem d_PM_area_56 : decode M_PM_area.2.1 56 = .ok (.invokevirtual 112, 3) := by decide +kernel
theorem d_PM_area_59 : decode M_PM_area.2.1 59 = .ok (.ireturn, 1) := by decide +kernel
theorem d_PM_area_60 : decode M_PM_area.2.1 60 = .ok (.aload_n 0, 1) := by decide +kernel
theorem d_PM_area_61 : decode M_PM_area.2.1 61 = .ok (.aload_n 3, 1) := by decide +kernel
theorem d_PM_area_62 : decode M_PM_area.2.1 62 = .ok (.iload_n 2, 1) := by decide +kernel
theorem d_PM_area_63 : decode M_PM_area.2.1 63 = .ok (.invokevirtual 375, 3) := by decide +kernel
theorem d_PM_area_66 : decode M_PM_area.2.1 66 = .ok (.istore 4, 2) := by decide +kernel
theorem d_PM_area_68 : decode M_PM_area.2.1 68 = .ok (.iload 4, 2) := by decide +kernel
theorem d_PM_area_70 : decode M_PM_area.2.1 70 = .ok (.ifCond .eq 10, 3) := by decide +kernel
theorem d_PM_area_73 : decode M_PM_area.2.1 73 = .ok (.aload_n 0, 1) := by decide +kernel
theorem d_PM_area_74 : decode M_PM_area.2.1 74 = .ok (.iload 4, 2) := by decide +kernel
theorem d_PM_area_76 : decode M_PM_area.2.1 76 = .ok (.invokevirtual 112, 3) := by decide +kernel
theorem d_PM_area_79 : decode M_PM_area.2.1 79 = .ok (.ireturn, 1) := by decide +kernel
theorem d_PM_area_80 : decode M_PM_area.2.1 80 = .ok (.aload_n 0, 1) := by decide +kernel
theorem d_PM_area_81 : decode M_PM_area.2.1 81 = .ok (.aload_n 0, 1) := by decide +kernel
theorem d_PM_area_82 : decode M_PM_area.2.1 82 = .ok (.aload_n 3, 1) := by decide +kernel
theorem d_PM_area_83 : decode M_PM_area.2.1 83 = .ok (.iload_n 2, 1) := by decide +kernel
theorem d_PM_area_84 : decode M_PM_area.2.1 84 = .ok (.invokevirtual 379, 3) := by decide +kernel
theorem d_PM_area_87 : decode M_PM_area.2.1 87 = .ok (.invokestatic 383, 3) := by decide +kernel
theorem d_PM_area_90 : decode M_PM_area.2.1 90 = .ok (.ldc2_w 386, 3) := by decide +kernel
theorem d_PM_area_93 : decode M_PM_area.2.1 93 = .ok (.invokevirtual 348, 3) := by decide +kernel
theorem d_PM_area_96 : decode M_PM_area.2.1 96 = .ok (.ireturn, 1) := by decide +kernel
theorem d_PM_game_0 : decode M_PM_game.2.1 0 = .ok (.iload_n 1, 1) := by decide +kernel
theorem d_PM_game_1 : decode M_PM_game.2.1 1 = .ok (.iconst 5, 1) := by decide +kernel
theorem d_PM_game_2 : decode M_PM_game.2.1 2 = .ok (.invokestatic 108, 3) := by decide +kernel
theorem d_PM_game_5 : decode M_PM_game.2.1 5 = .ok (.ifCond .ne 9, 3) := by decide +kernel
theorem d_PM_game_8 : decode M_PM_game.2.1 8 = .ok (.aload_n 0, 1) := by decide +kernel
theorem d_PM_game_9 : decode M_PM_game.2.1 9 = .ok (.iconst 1, 1) := by decide +kernel
theorem d_PM_game_10 : decode M_PM_game.2.1 10 = .ok (.invokevirtual 132, 3) := by decide +kernel
theorem d_PM_game_13 : decode M_PM_game.2.1 13 = .ok (.ireturn, 1) := by decide +kernel
theorem d_PM_game_14 : decode M_PM_game.2.1 14 = .ok (.aload_n 0, 1) := by decide +kernel
theorem d_PM_game_15 : decode M_PM_game.2.1 15 = .ok (.getfield 74, 3) := by decide +kernel
theorem d_PM_game_18 : decode M_PM_game.2.1 18 = .ok (.aload_n 0, 1) := by decide +kernel
theorem d_PM_game_19 : decode M_PM_game.2.1 19 = .ok (.getfield 25, 3) := by decide +kernel
theorem d_PM_game_22 : decode M_PM_game.2.1 22 = .ok (.iload_n 1, 1) := by decide +kernel
theorem d_PM_game_23 : decode M_PM_game.2.1 23 = .ok (.invokevirtual 388, 3) := by decide +kernel
theorem d_PM_game_26 : decode M_PM_game.2.1 26 = .ok (.aload_n 0, 1) := by decide +kernel
theorem d_PM_game_27 : decode M_PM_game.2.1 27 = .ok (.aload_n 0, 1) := by decide +kernel
theorem d_PM_game_28 : decode M_PM_game.2.1 28 = .ok (.getfield 74, 3) := by decide +kernel
theorem d_PM_game_31 : decode M_PM_game.2.1 31 = .ok (.invokevirtual 390, 3) := by decide +kernel
theorem d_PM_game_34 : decode M_PM_game.2.1 34 = .ok (.invokevirtual 182, 3) := by decide +kernel
theorem d_PM_game_37 : decode M_PM_game.2.1 37 = .ok (.ireturn, 1) := by decide +kernel
theorem d_PM_moveOf_0 : decode M_PM_moveOf.2.1 0 = .ok (.iload_n 1, 1) := by decide +kernel
theorem d_PM_moveOf_1 : decode M_PM_moveOf.2.1 1 = .ok (.ifCond .eq 11, 3) := by decide +kernel
theorem d_PM_moveOf_4 : decode M_PM_moveOf.2.1 4 = .ok (.iload_n 1, 1) := by decide +kernel
theorem d_PM_moveOf_5 : decode M_PM_moveOf.2.1 5 = .ok (.iconst 5, 1) := by decide +kernel
theorem d_PM_moveOf_6 : decode M_PM_moveOf.2.1 6 = .ok (.invokestatic 108, 3) := by decide +kernel
theorem d_PM_moveOf_9 : decode M_PM_moveOf.2.1 9 = .ok (.ifCond .ne 9, 3) := by decide +kernel
theorem d_PM_moveOf_12 : decode M_PM_moveOf.2.1 12 = .ok (.aload_n 0, 1) := by decide +kernel
theorem d_PM_moveOf_13 : decode M_PM_moveOf.2.1 13 = .ok (.iconst 1, 1) := by decide +kernel
theorem d_PM_moveOf_14 : decode M_PM_moveOf.2.1 14 = .ok (.invokevirtual 132, 3) := by decide +kernel
theorem d_PM_moveOf_17 : decode M_PM_moveOf.2.1 17 = .ok (.ireturn, 1) := by decide +kernel
theorem d_PM_moveOf_18 : decode M_PM_moveOf.2.1 18 = .ok (.aload_n 0, 1) := by decide +kernel
theorem d_PM_moveOf_19 : decode M_PM_moveOf.2.1 19 = .ok (.getfield 74, 3) := by decide +kernel
theorem d_PM_moveOf_22 : decode M_PM_moveOf.2.1 22 = .ok (.aload_n 0, 1) := by decide +kernel
theorem d_PM_moveOf_23 : decode M_PM_moveOf.2.1 23 = .ok (.getfield 25, 3) := by decide +kernel
theorem d_PM_moveOf_26 : decode M_PM_moveOf.2.1 26 = .ok (.iload_n 1, 1) := by decide +kernel
theorem d_PM_moveOf_27 : decode M_PM_moveOf.2.1 27 = .ok (.invokevirtual 388, 3) := by decide +kernel
theorem d_PM_moveOf_30 : decode M_PM_moveOf.2.1 30 = .ok (.aload_n 0, 1) := by decide +kernel
theorem d_PM_moveOf_31 : decode M_PM_moveOf.2.1 31 = .ok (.getfield 74, 3) := by decide +kernel
theorem d_PM_moveOf_34 : decode M_PM_moveOf.2.1 34 = .ok (.invokevirtual 393, 3) := by decide +kernel
theorem d_PM_moveOf_37 : decode M_PM_moveOf.2.1 37 = .ok (.istore_n 2, 1) := by decide +kernel
theorem d_PM_moveOf_38 : decode M_PM_moveOf.2.1 38 = .ok (.iload_n 2, 1) := by decide +kernel
theorem d_PM_moveOf_39 : decode M_PM_moveOf.2.1 39 = .ok (.iconst (-1), 1) := by decide +kernel
theorem d_PM_moveOf_40 : decode M_PM_moveOf.2.1 40 = .ok (.if_icmp .ne 12, 3) := by decide +kernel
theorem d_PM_moveOf_43 : decode M_PM_moveOf.2.1 43 = .ok (.aload_n 0, 1) := by decide +kernel
theorem d_PM_moveOf_44 : decode M_PM_moveOf.2.1 44 = .ok (.bipush 6, 2) := by decide +kernel
theorem d_PM_moveOf_46 : decode M_PM_moveOf.2.1 46 = .ok (.invokevirtual 132, 3) := by decide +kernel
theorem d_PM_moveOf_49 : decode M_PM_moveOf.2.1 49 = .ok (.goto 8, 3) := by decide +kernel
theorem d_PM_moveOf_52 : decode M_PM_moveOf.2.1 52 = .ok (.aload_n 0, 1) := by decide +kernel
theorem d_PM_moveOf_53 : decode M_PM_moveOf.2.1 53 = .ok (.iload_n 2, 1) := by decide +kernel
theorem d_PM_moveOf_54 : decode M_PM_moveOf.2.1 54 = .ok (.invokevirtual 182, 3) := by decide +kernel
theorem d_PM_moveOf_57 : decode M_PM_moveOf.2.1 57 = .ok (.ireturn, 1) := by decide +kernel
theorem d_PM_misread_0 : decode M_PM_misread.2.1 0 = .ok (.iload_n 1, 1) := by decide +kernel
theorem d_PM_misread_1 : decode M_PM_misread.2.1 1 = .ok (.bipush 13, 2) := by decide +kernel
theorem d_PM_misread_3 : decode M_PM_misread.2.1 3 = .ok (.invokestatic 108, 3) := by decide +kernel
theorem d_PM_misread_6 : decode M_PM_misread.2.1 6 = .ok (.ifCond .eq 12, 3) := by decide +kernel
theorem d_PM_misread_9 : decode M_PM_misread.2.1 9 = .ok (.iload_n 2, 1) := by decide +kernel
theorem d_PM_misread_10 : decode M_PM_misread.2.1 10 = .ok (.bipush 13, 2) := by decide +kernel
theorem d_PM_misread_12 : decode M_PM_misread.2.1 12 = .ok (.invokestatic 108, 3) := by decide +kernel
theorem d_PM_misread_15 : decode M_PM_misread.2.1 15 = .ok (.ifCond .ne 9, 3) := by decide +kernel
theorem d_PM_misread_18 : decode M_PM_misread.2.1 18 = .ok (.aload_n 0, 1) := by decide +kernel
theorem d_PM_misread_19 : decode M_PM_misread.2.1 19 = .ok (.iconst 1, 1) := by decide +kernel
theorem d_PM_misread_20 : decode M_PM_misread.2.1 20 = .ok (.invokevirtual 112, 3) := by decide +kernel
theorem d_PM_misread_23 : decode M_PM_misread.2.1 23 = .ok (.ireturn, 1) := by decide +kernel
theorem d_PM_misread_24 : decode M_PM_misread.2.1 24 = .ok (.lconst 0, 1) := by decide +kernel
theorem d_PM_misread_25 : decode M_PM_misread.2.1 25 = .ok (.lstore_n 3, 1) := by decide +kernel
theorem d_PM_misread_26 : decode M_PM_misread.2.1 26 = .ok (.iload_n 2, 1) := by decide +kernel
theorem d_PM_misread_27 : decode M_PM_misread.2.1 27 = .ok (.istore 5, 2) := by decide +kernel
theorem d_PM_misread_29 : decode M_PM_misread.2.1 29 = .ok (.iload 5, 2) := by decide +kernel
theorem d_PM_misread_31 : decode M_PM_misread.2.1 31 = .ok (.iload_n 1, 1) := by decide +kernel
theorem d_PM_misread_32 : decode M_PM_misread.2.1 32 = .ok (.if_icmp .gt 49, 3) := by decide +kernel
theorem d_PM_misread_35 : decode M_PM_misread.2.1 35 = .ok (.lload_n 3, 1) := by decide +kernel
theorem d_PM_misread_36 : decode M_PM_misread.2.1 36 = .ok (.iload_n 1, 1) := by decide +kernel
theorem d_PM_misread_37 : decode M_PM_misread.2.1 37 = .ok (.iload 5, 2) := by decide +kernel
theorem d_PM_misread_39 : decode M_PM_misread.2.1 39 = .ok (.invokestatic 396, 3) := by decide +kernel
theorem d_PM_misread_42 : decode M_PM_misread.2.1 42 = .ok (.aload_n 0, 1) := by decide +kernel
theorem d_PM_misread_43 : decode M_PM_misread.2.1 43 = .ok (.getfield 25, 3) := by decide +kernel
theorem d_PM_misread_46 : decode M_PM_misread.2.1 46 = .ok (.getfield 209, 3) := by decide +kernel
theorem d_PM_misread_49 : decode M_PM_misread.2.1 49 = .ok (.iload 5, 2) := by decide +kernel
theorem d_PM_misread_51 : decode M_PM_misread.2.1 51 = .ok (.invokestatic 400, 3) := by decide +kernel
theorem d_PM_misread_54 : decode M_PM_misread.2.1 54 = .ok (.lmul, 1) := by decide +kernel
theorem d_PM_misread_55 : decode M_PM_misread.2.1 55 = .ok (.bipush 16, 2) := by decide +kernel
theorem d_PM_misread_57 : decode M_PM_misread.2.1 57 = .ok (.aload_n 0, 1) := by decide +kernel
theorem d_PM_misread_58 : decode M_PM_misread.2.1 58 = .ok (.getfield 25, 3) := by decide +kernel
theorem d_PM_misread_61 : decode M_PM_misread.2.1 61 = .ok (.getfield 209, 3) := by decide +kernel
theorem d_PM_misread_64 : decode M_PM_misread.2.1 64 = .ok (.isub, 1) := by decide +kernel
theorem d_PM_misread_65 : decode M_PM_misread.2.1 65 = .ok (.iload_n 1, 1) := by decide +kernel
theorem d_PM_misread_66 : decode M_PM_misread.2.1 66 = .ok (.iload 5, 2) := by decide +kernel
theorem d_PM_misread_68 : decode M_PM_misread.2.1 68 = .ok (.isub, 1) := by decide +kernel
theorem d_PM_misread_69 : decode M_PM_misread.2.1 69 = .ok (.invokestatic 400, 3) := by decide +kernel
theorem d_PM_misread_72 : decode M_PM_misread.2.1 72 = .ok (.lmul, 1) := by decide +kernel
theorem d_PM_misread_73 : decode M_PM_misread.2.1 73 = .ok (.ladd, 1) := by decide +kernel
theorem d_PM_misread_74 : decode M_PM_misread.2.1 74 = .ok (.lstore_n 3, 1) := by decide +kernel
theorem d_PM_misread_75 : decode M_PM_misread.2.1 75 = .ok (.iinc 5 1, 3) := by decide +kernel
theorem d_PM_misread_78 : decode M_PM_misread.2.1 78 = .ok (.goto (-49), 3) := by decide +kernel
theorem d_PM_misread_81 : decode M_PM_misread.2.1 81 = .ok (.aload_n 0, 1) := by decide +kernel
theorem d_PM_misread_82 : decode M_PM_misread.2.1 82 = .ok (.lload_n 3, 1) := by decide +kernel
theorem d_PM_misread_83 : decode M_PM_misread.2.1 83 = .ok (.bipush 16, 2) := by decide +kernel
theorem d_PM_misread_85 : decode M_PM_misread.2.1 85 = .ok (.iload_n 1, 1) := by decide +kernel
theorem d_PM_misread_86 : decode M_PM_misread.2.1 86 = .ok (.invokestatic 400, 3) := by decide +kernel
theorem d_PM_misread_89 : decode M_PM_misread.2.1 89 = .ok (.invokevirtual 348, 3) := by decide +kernel
theorem d_PM_misread_92 : decode M_PM_misread.2.1 92 = .ok (.ireturn, 1) := by decide +kernel
theorem d_PM_share_0 : decode M_PM_share.2.1 0 = .ok (.iload_n 1, 1) := by decide +kernel
theorem d_PM_share_1 : decode M_PM_share.2.1 1 = .ok (.aload_n 0, 1) := by decide +kernel
theorem d_PM_share_2 : decode M_PM_share.2.1 2 = .ok (.getfield 25, 3) := by decide +kernel
theorem d_PM_share_5 : decode M_PM_share.2.1 5 = .ok (.getfield 206, 3) := by decide +kernel
theorem d_PM_share_8 : decode M_PM_share.2.1 8 = .ok (.invokestatic 108, 3) := by decide +kernel
theorem d_PM_share_11 : decode M_PM_share.2.1 11 = .ok (.ifCond .ne 9, 3) := by decide +kernel
theorem d_PM_share_14 : decode M_PM_share.2.1 14 = .ok (.aload_n 0, 1) := by decide +kernel
theorem d_PM_share_15 : decode M_PM_share.2.1 15 = .ok (.iconst 1, 1) := by decide +kernel
theorem d_PM_share_16 : decode M_PM_share.2.1 16 = .ok (.invokevirtual 112, 3) := by decide +kernel
theorem d_PM_share_19 : decode M_PM_share.2.1 19 = .ok (.ireturn, 1) := by decide +kernel
theorem d_PM_share_20 : decode M_PM_share.2.1 20 = .ok (.aload_n 0, 1) := by decide +kernel
theorem d_PM_share_21 : decode M_PM_share.2.1 21 = .ok (.getfield 25, 3) := by decide +kernel
theorem d_PM_share_24 : decode M_PM_share.2.1 24 = .ok (.aload_n 0, 1) := by decide +kernel
theorem d_PM_share_25 : decode M_PM_share.2.1 25 = .ok (.getfield 25, 3) := by decide +kernel
theorem d_PM_share_28 : decode M_PM_share.2.1 28 = .ok (.invokevirtual 285, 3) := by decide +kernel
theorem d_PM_share_31 : decode M_PM_share.2.1 31 = .ok (.invokevirtual 403, 3) := by decide +kernel
theorem d_PM_share_34 : decode M_PM_share.2.1 34 = .ok (.istore_n 2, 1) := by decide +kernel
theorem d_PM_share_35 : decode M_PM_share.2.1 35 = .ok (.iload_n 2, 1) := by decide +kernel
theorem d_PM_share_36 : decode M_PM_share.2.1 36 = .ok (.ifCond .ne 10, 3) := by decide +kernel
theorem d_PM_share_39 : decode M_PM_share.2.1 39 = .ok (.aload_n 0, 1) := by decide +kernel
theorem d_PM_share_40 : decode M_PM_share.2.1 40 = .ok (.bipush 6, 2) := by decide +kernel
theorem d_PM_share_42 : decode M_PM_share.2.1 42 = .ok (.invokevirtual 112, 3) := by decide +kernel
theorem d_PM_share_45 : decode M_PM_share.2.1 45 = .ok (.ireturn, 1) := by decide +kernel
theorem d_PM_share_46 : decode M_PM_share.2.1 46 = .ok (.aload_n 0, 1) := by decide +kernel
theorem d_PM_share_47 : decode M_PM_share.2.1 47 = .ok (.aload_n 0, 1) := by decide +kernel
theorem d_PM_share_48 : decode M_PM_share.2.1 48 = .ok (.getfield 25, 3) := by decide +kernel
theorem d_PM_share_51 : decode M_PM_share.2.1 51 = .ok (.aload_n 0, 1) := by decide +kernel
theorem d_PM_share_52 : decode M_PM_share.2.1 52 = .ok (.getfield 25, 3) := by decide +kernel
theorem d_PM_share_55 : decode M_PM_share.2.1 55 = .ok (.invokevirtual 285, 3) := by decide +kernel
theorem d_PM_share_58 : decode M_PM_share.2.1 58 = .ok (.aload_n 0, 1) := by decide +kernel
theorem d_PM_share_59 : decode M_PM_share.2.1 59 = .ok (.getfield 25, 3) := by decide +kernel
theorem d_PM_share_62 : decode M_PM_share.2.1 62 = .ok (.iload_n 1, 1) := by decide +kernel
theorem d_PM_share_63 : decode M_PM_share.2.1 63 = .ok (.invokevirtual 236, 3) := by decide +kernel
theorem d_PM_share_66 : decode M_PM_share.2.1 66 = .ok (.iand, 1) := by decide +kernel
theorem d_PM_share_67 : decode M_PM_share.2.1 67 = .ok (.invokevirtual 403, 3) := by decide +kernel
theorem d_PM_share_70 : decode M_PM_share.2.1 70 = .ok (.i2l, 1) := by decide +kernel
theorem d_PM_share_71 : decode M_PM_share.2.1 71 = .ok (.iload_n 2, 1) := by decide +kernel
theorem d_PM_share_72 : decode M_PM_share.2.1 72 = .ok (.i2l, 1) := by decide +kernel
theorem d_PM_share_73 : decode M_PM_share.2.1 73 = .ok (.invokevirtual 348, 3) := by decide +kernel
theorem d_PM_share_76 : decode M_PM_share.2.1 76 = .ok (.ireturn, 1) := by decide +kernel
theorem d_PM_copyPlaces_0 : decode M_PM_copyPlaces.2.1 0 = .ok (.iload_n 1, 1) := by decide +kernel
theorem d_PM_copyPlaces_1 : decode M_PM_copyPlaces.2.1 1 = .ok (.iconst 4, 1) := by decide +kernel
theorem d_PM_copyPlaces_2 : decode M_PM_copyPlaces.2.1 2 = .ok (.invokestatic 108, 3) := by decide +kernel
theorem d_PM_copyPlaces_5 : decode M_PM_copyPlaces.2.1 5 = .ok (.ifCond .ne 9, 3) := by decide +kernel
theorem d_PM_copyPlaces_8 : decode M_PM_copyPlaces.2.1 8 = .ok (.aload_n 0, 1) := by decide +kernel
theorem d_PM_copyPlaces_9 : decode M_PM_copyPlaces.2.1 9 = .ok (.iconst 1, 1) := by decide +kernel
theorem d_PM_copyPlaces_10 : decode M_PM_copyPlaces.2.1 10 = .ok (.invokevirtual 132, 3) := by decide +kernel
theorem d_PM_copyPlaces_13 : decode M_PM_copyPlaces.2.1 13 = .ok (.ireturn, 1) := by decide +kernel
theorem d_PM_copyPlaces_14 : decode M_PM_copyPlaces.2.1 14 = .ok (.aload_n 0, 1) := by decide +kernel
theorem d_PM_copyPlaces_15 : decode M_PM_copyPlaces.2.1 15 = .ok (.getfield 11, 3) := by decide +kernel
theorem d_PM_copyPlaces_18 : decode M_PM_copyPlaces.2.1 18 = .ok (.iload_n 1, 1) := by decide +kernel
theorem d_PM_copyPlaces_19 : decode M_PM_copyPlaces.2.1 19 = .ok (.aaload, 1) := by decide +kernel
theorem d_PM_copyPlaces_20 : decode M_PM_copyPlaces.2.1 20 = .ok (.astore_n 2, 1) := by decide +kernel
theorem d_PM_copyPlaces_21 : decode M_PM_copyPlaces.2.1 21 = .ok (.aload_n 2, 1) := by decide +kernel
theorem d_PM_copyPlaces_22 : decode M_PM_copyPlaces.2.1 22 = .ok (.getfield 140, 3) := by decide +kernel
theorem d_PM_copyPlaces_25 : decode M_PM_copyPlaces.2.1 25 = .ok (.ifCond .ne 9, 3) := by decide +kernel
theorem d_PM_copyPlaces_28 : decode M_PM_copyPlaces.2.1 28 = .ok (.aload_n 0, 1) := by decide +kernel
theorem d_PM_copyPlaces_29 : decode M_PM_copyPlaces.2.1 29 = .ok (.iconst 2, 1) := by decide +kernel
theorem d_PM_copyPlaces_30 : decode M_PM_copyPlaces.2.1 30 = .ok (.invokevirtual 132, 3) := by decide +kernel
theorem d_PM_copyPlaces_33 : decode M_PM_copyPlaces.2.1 33 = .ok (.ireturn, 1) := by decide +kernel
theorem d_PM_copyPlaces_34 : decode M_PM_copyPlaces.2.1 34 = .ok (.aload_n 2, 1) := by decide +kernel
theorem d_PM_copyPlaces_35 : decode M_PM_copyPlaces.2.1 35 = .ok (.iconst 0, 1) := by decide +kernel
theorem d_PM_copyPlaces_36 : decode M_PM_copyPlaces.2.1 36 = .ok (.iconst 2, 1) := by decide +kernel
theorem d_PM_copyPlaces_37 : decode M_PM_copyPlaces.2.1 37 = .ok (.aload_n 0, 1) := by decide +kernel
theorem d_PM_copyPlaces_38 : decode M_PM_copyPlaces.2.1 38 = .ok (.getfield 25, 3) := by decide +kernel
theorem d_PM_copyPlaces_41 : decode M_PM_copyPlaces.2.1 41 = .ok (.getfield 203, 3) := by decide +kernel
theorem d_PM_copyPlaces_44 : decode M_PM_copyPlaces.2.1 44 = .ok (.imul, 1) := by decide +kernel
theorem d_PM_copyPlaces_45 : decode M_PM_copyPlaces.2.1 45 = .ok (.invokevirtual 146, 3) := by decide +kernel
theorem d_PM_copyPlaces_48 : decode M_PM_copyPlaces.2.1 48 = .ok (.ifCond .ne 9, 3) := by decide +kernel
theorem d_PM_copyPlaces_51 : decode M_PM_copyPlaces.2.1 51 = .ok (.aload_n 0, 1) := by decide +kernel
theorem d_PM_copyPlaces_52 : decode M_PM_copyPlaces.2.1 52 = .ok (.iconst 3, 1) := by decide +kernel
theorem d_PM_copyPlaces_53 : decode M_PM_copyPlaces.2.1 53 = .ok (.invokevirtual 132, 3) := by decide +kernel
theorem d_PM_copyPlaces_56 : decode M_PM_copyPlaces.2.1 56 = .ok (.ireturn, 1) := by decide +kernel
theorem d_PM_copyPlaces_57 : decode M_PM_copyPlaces.2.1 57 = .ok (.aload_n 0, 1) := by decide +kernel
theorem d_PM_copyPlaces_58 : decode M_PM_copyPlaces.2.1 58 = .ok (.getfield 53, 3) := by decide +kernel
theorem d_PM_copyPlaces_61 : decode M_PM_copyPlaces.2.1 61 = .ok (.aload_n 0, 1) := by decide +kernel
theorem d_PM_copyPlaces_62 : decode M_PM_copyPlaces.2.1 62 = .ok (.getfield 25, 3) := by decide +kernel
theorem d_PM_copyPlaces_65 : decode M_PM_copyPlaces.2.1 65 = .ok (.invokevirtual 260, 3) := by decide +kernel
theorem d_PM_copyPlaces_68 : decode M_PM_copyPlaces.2.1 68 = .ok (.aload_n 0, 1) := by decide +kernel
theorem d_PM_copyPlaces_69 : decode M_PM_copyPlaces.2.1 69 = .ok (.getfield 53, 3) := by decide +kernel
theorem d_PM_copyPlaces_72 : decode M_PM_copyPlaces.2.1 72 = .ok (.aload_n 0, 1) := by decide +kernel
theorem d_PM_copyPlaces_73 : decode M_PM_copyPlaces.2.1 73 = .ok (.getfield 25, 3) := by decide +kernel
theorem d_PM_copyPlaces_76 : decode M_PM_copyPlaces.2.1 76 = .ok (.invokevirtual 406, 3) := by decide +kernel
theorem d_PM_copyPlaces_79 : decode M_PM_copyPlaces.2.1 79 = .ok (.invokestatic 309, 3) := by decide +kernel
theorem d_PM_copyPlaces_82 : decode M_PM_copyPlaces.2.1 82 = .ok (.aload_n 0, 1) := by decide +kernel
theorem d_PM_copyPlaces_83 : decode M_PM_copyPlaces.2.1 83 = .ok (.getfield 25, 3) := by decide +kernel
theorem d_PM_copyPlaces_86 : decode M_PM_copyPlaces.2.1 86 = .ok (.getfield 203, 3) := by decide +kernel
theorem d_PM_copyPlaces_89 : decode M_PM_copyPlaces.2.1 89 = .ok (.if_icmp .ge 10, 3) := by decide +kernel
theorem d_PM_copyPlaces_92 : decode M_PM_copyPlaces.2.1 92 = .ok (.aload_n 0, 1) := by decide +kernel
theorem d_PM_copyPlaces_93 : decode M_PM_copyPlaces.2.1 93 = .ok (.bipush 6, 2) := by decide +kernel
theorem d_PM_copyPlaces_95 : decode M_PM_copyPlaces.2.1 95 = .ok (.invokevirtual 132, 3) := by decide +kernel
theorem d_PM_copyPlaces_98 : decode M_PM_copyPlaces.2.1 98 = .ok (.ireturn, 1) := by decide +kernel
theorem d_PM_copyPlaces_99 : decode M_PM_copyPlaces.2.1 99 = .ok (.iconst 0, 1) := by decide +kernel
theorem d_PM_copyPlaces_100 : decode M_PM_copyPlaces.2.1 100 = .ok (.istore_n 3, 1) := by decide +kernel
theorem d_PM_copyPlaces_101 : decode M_PM_copyPlaces.2.1 101 = .ok (.iload_n 3, 1) := by decide +kernel
theorem d_PM_copyPlaces_102 : decode M_PM_copyPlaces.2.1 102 = .ok (.aload_n 0, 1) := by decide +kernel
theorem d_PM_copyPlaces_103 : decode M_PM_copyPlaces.2.1 103 = .ok (.getfield 25, 3) := by decide +kernel
theorem d_PM_copyPlaces_106 : decode M_PM_copyPlaces.2.1 106 = .ok (.getfield 203, 3) := by decide +kernel
theorem d_PM_copyPlaces_109 : decode M_PM_copyPlaces.2.1 109 = .ok (.if_icmp .ge 45, 3) := by decide +kernel
theorem d_PM_copyPlaces_112 : decode M_PM_copyPlaces.2.1 112 = .ok (.aload_n 2, 1) := by decide +kernel
theorem d_PM_copyPlaces_113 : decode M_PM_copyPlaces.2.1 113 = .ok (.iconst 2, 1) := by decide +kernel
theorem d_PM_copyPlaces_114 : decode M_PM_copyPlaces.2.1 114 = .ok (.iload_n 3, 1) := by decide +kernel
theorem d_PM_copyPlaces_115 : decode M_PM_copyPlaces.2.1 115 = .ok (.imul, 1) := by decide +kernel
theorem d_PM_copyPlaces_116 : decode M_PM_copyPlaces.2.1 116 = .ok (.aload_n 0, 1) := by decide +kernel
theorem d_PM_copyPlaces_117 : decode M_PM_copyPlaces.2.1 117 = .ok (.getfield 53, 3) := by decide +kernel
theorem d_PM_copyPlaces_120 : decode M_PM_copyPlaces.2.1 120 = .ok (.getfield 274, 3) := by decide +kernel
theorem d_PM_copyPlaces_123 : decode M_PM_copyPlaces.2.1 123 = .ok (.iload_n 3, 1) := by decide +kernel
theorem d_PM_copyPlaces_124 : decode M_PM_copyPlaces.2.1 124 = .ok (.iaload, 1) := by decide +kernel
theorem d_PM_copyPlaces_125 : decode M_PM_copyPlaces.2.1 125 = .ok (.i2l, 1) := by decide +kernel
theorem d_PM_copyPlaces_126 : decode M_PM_copyPlaces.2.1 126 = .ok (.invokevirtual 128, 3) := by decide +kernel
theorem d_PM_copyPlaces_129 : decode M_PM_copyPlaces.2.1 129 = .ok (.aload_n 2, 1) := by decide +kernel
theorem d_PM_copyPlaces_130 : decode M_PM_copyPlaces.2.1 130 = .ok (.iconst 2, 1) := by decide +kernel
theorem d_PM_copyPlaces_131 : decode M_PM_copyPlaces.2.1 131 = .ok (.iload_n 3, 1) := by decide +kernel
theorem d_PM_copyPlaces_132 : decode M_PM_copyPlaces.2.1 132 = .ok (.imul, 1) := by decide +kernel
theorem d_PM_copyPlaces_133 : decode M_PM_copyPlaces.2.1 133 = .ok (.iconst 1, 1) := by decide +kernel
theorem d_PM_copyPlaces_134 : decode M_PM_copyPlaces.2.1 134 = .ok (.iadd, 1) := by decide +kernel
theorem d_PM_copyPlaces_135 : decode M_PM_copyPlaces.2.1 135 = .ok (.aload_n 0, 1) := by decide +kernel
theorem d_PM_copyPlaces_136 : decode M_PM_copyPlaces.2.1 136 = .ok (.getfield 53, 3) := by decide +kernel
theorem d_PM_copyPlaces_139 : decode M_PM_copyPlaces.2.1 139 = .ok (.getfield 277, 3) := by decide +kernel
theorem d_PM_copyPlaces_142 : decode M_PM_copyPlaces.2.1 142 = .ok (.iload_n 3, 1) := by decide +kernel
theorem d_PM_copyPlaces_143 : decode M_PM_copyPlaces.2.1 143 = .ok (.iaload, 1) := by decide +kernel
theorem d_PM_copyPlaces_144 : decode M_PM_copyPlaces.2.1 144 = .ok (.i2l, 1) := by decide +kernel
theorem d_PM_copyPlaces_145 : decode M_PM_copyPlaces.2.1 145 = .ok (.invokevirtual 128, 3) := by decide +kernel
theorem d_PM_copyPlaces_148 : decode M_PM_copyPlaces.2.1 148 = .ok (.iinc 3 1, 3) := by decide +kernel
theorem d_PM_copyPlaces_151 : decode M_PM_copyPlaces.2.1 151 = .ok (.goto (-50), 3) := by decide +kernel
theorem d_PM_copyPlaces_154 : decode M_PM_copyPlaces.2.1 154 = .ok (.aload_n 0, 1) := by decide +kernel
theorem d_PM_copyPlaces_155 : decode M_PM_copyPlaces.2.1 155 = .ok (.aload_n 0, 1) := by decide +kernel
theorem d_PM_copyPlaces_156 : decode M_PM_copyPlaces.2.1 156 = .ok (.getfield 25, 3) := by decide +kernel
theorem d_PM_copyPlaces_159 : decode M_PM_copyPlaces.2.1 159 = .ok (.getfield 203, 3) := by decide +kernel
theorem d_PM_copyPlaces_162 : decode M_PM_copyPlaces.2.1 162 = .ok (.invokevirtual 182, 3) := by decide +kernel
theorem d_PM_copyPlaces_165 : decode M_PM_copyPlaces.2.1 165 = .ok (.ireturn, 1) := by decide +kernel
theorem d_PM_live_0 : decode M_PM_live.2.1 0 = .ok (.iload_n 1, 1) := by decide +kernel
theorem d_PM_live_1 : decode M_PM_live.2.1 1 = .ok (.sipush 10000, 3) := by decide +kernel
theorem d_PM_live_4 : decode M_PM_live.2.1 4 = .ok (.invokestatic 108, 3) := by decide +kernel
theorem d_PM_live_7 : decode M_PM_live.2.1 7 = .ok (.ifCond .ne 9, 3) := by decide +kernel
theorem d_PM_live_10 : decode M_PM_live.2.1 10 = .ok (.aload_n 0, 1) := by decide +kernel
theorem d_PM_live_11 : decode M_PM_live.2.1 11 = .ok (.iconst 1, 1) := by decide +kernel
theorem d_PM_live_12 : decode M_PM_live.2.1 12 = .ok (.invokevirtual 132, 3) := by decide +kernel
theorem d_PM_live_15 : decode M_PM_live.2.1 15 = .ok (.ireturn, 1) := by decide +kernel
theorem d_PM_live_16 : decode M_PM_live.2.1 16 = .ok (.aload_n 0, 1) := by decide +kernel
theorem d_PM_live_17 : decode M_PM_live.2.1 17 = .ok (.getfield 35, 3) := by decide +kernel
theorem d_PM_live_20 : decode M_PM_live.2.1 20 = .ok (.getfield 410, 3) := by decide +kernel
theorem d_PM_live_23 : decode M_PM_live.2.1 23 = .ok (.ifCond .ne 10, 3) := by decide +kernel
theorem d_PM_live_26 : decode M_PM_live.2.1 26 = .ok (.aload_n 0, 1) := by decide +kernel
theorem d_PM_live_27 : decode M_PM_live.2.1 27 = .ok (.bipush 6, 2) := by decide +kernel
theorem d_PM_live_29 : decode M_PM_live.2.1 29 = .ok (.invokevirtual 132, 3) := by decide +kernel
theorem d_PM_live_32 : decode M_PM_live.2.1 32 = .ok (.ireturn, 1) := by decide +kernel
theorem d_PM_live_33 : decode M_PM_live.2.1 33 = .ok (.aload_n 0, 1) := by decide +kernel
theorem d_PM_live_34 : decode M_PM_live.2.1 34 = .ok (.getfield 81, 3) := by decide +kernel
theorem d_PM_live_37 : decode M_PM_live.2.1 37 = .ok (.aload_n 0, 1) := by decide +kernel
theorem d_PM_live_38 : decode M_PM_live.2.1 38 = .ok (.getfield 25, 3) := by decide +kernel
theorem d_PM_live_41 : decode M_PM_live.2.1 41 = .ok (.aload_n 0, 1) := by decide +kernel
theorem d_PM_live_42 : decode M_PM_live.2.1 42 = .ok (.getfield 35, 3) := by decide +kernel
theorem d_PM_live_45 : decode M_PM_live.2.1 45 = .ok (.iload_n 1, 1) := by decide +kernel
theorem d_PM_live_46 : decode M_PM_live.2.1 46 = .ok (.invokevirtual 411, 3) := by decide +kernel
theorem d_PM_live_49 : decode M_PM_live.2.1 49 = .ok (.aload_n 0, 1) := by decide +kernel
theorem d_PM_live_50 : decode M_PM_live.2.1 50 = .ok (.getfield 81, 3) := by decide +kernel
theorem d_PM_live_53 : decode M_PM_live.2.1 53 = .ok (.getfield 415, 3) := by decide +kernel
theorem d_PM_live_56 : decode M_PM_live.2.1 56 = .ok (.iconst 0, 1) := by decide +kernel
theorem d_PM_live_57 : decode M_PM_live.2.1 57 = .ok (.aload_n 0, 1) := by decide +kernel
theorem d_PM_live_58 : decode M_PM_live.2.1 58 = .ok (.getfield 85, 3) := by decide +kernel
theorem d_PM_live_61 : decode M_PM_live.2.1 61 = .ok (.iconst 0, 1) := by decide +kernel
theorem d_PM_live_62 : decode M_PM_live.2.1 62 = .ok (.iconst 5, 1) := by decide +kernel
theorem d_PM_live_63 : decode M_PM_live.2.1 63 = .ok (.invokestatic 149, 3) := by decide +kernel
theorem d_PM_live_66 : decode M_PM_live.2.1 66 = .ok (.aload_n 0, 1) := by decide +kernel
theorem d_PM_live_67 : decode M_PM_live.2.1 67 = .ok (.iconst 1, 1) := by decide +kernel
theorem d_PM_live_68 : decode M_PM_live.2.1 68 = .ok (.putfield 89, 3) := by decide +kernel
theorem d_PM_live_71 : decode M_PM_live.2.1 71 = .ok (.aload_n 0, 1) := by decide +kernel
theorem d_PM_live_72 : decode M_PM_live.2.1 72 = .ok (.aload_n 0, 1) := by decide +kernel
theorem d_PM_live_73 : decode M_PM_live.2.1 73 = .ok (.getfield 81, 3) := by decide +kernel
theorem d_PM_live_76 : decode M_PM_live.2.1 76 = .ok (.getfield 418, 3) := by decide +kernel
theorem d_PM_live_79 : decode M_PM_live.2.1 79 = .ok (.invokevirtual 182, 3) := by decide +kernel
theorem d_PM_live_82 : decode M_PM_live.2.1 82 = .ok (.ireturn, 1) := by decide +kernel
theorem d_PM_lived_0 : decode M_PM_lived.2.1 0 = .ok (.iload_n 1, 1) := by decide +kernel
theorem d_PM_lived_1 : decode M_PM_lived.2.1 1 = .ok (.iconst 5, 1) := by decide +kernel
theorem d_PM_lived_2 : decode M_PM_lived.2.1 2 = .ok (.invokestatic 108, 3) := by decide +kernel
theorem d_PM_lived_5 : decode M_PM_lived.2.1 5 = .ok (.ifCond .ne 9, 3) := by decide +kernel
theorem d_PM_lived_8 : decode M_PM_lived.2.1 8 = .ok (.aload_n 0, 1) := by decide +kernel
theorem d_PM_lived_9 : decode M_PM_lived.2.1 9 = .ok (.iconst 1, 1) := by decide +kernel
theorem d_PM_lived_10 : decode M_PM_lived.2.1 10 = .ok (.invokevirtual 132, 3) := by decide +kernel
theorem d_PM_lived_13 : decode M_PM_lived.2.1 13 = .ok (.ireturn, 1) := by decide +kernel
theorem d_PM_lived_14 : decode M_PM_lived.2.1 14 = .ok (.aload_n 0, 1) := by decide +kernel
theorem d_PM_lived_15 : decode M_PM_lived.2.1 15 = .ok (.getfield 89, 3) := by decide +kernel
theorem d_PM_lived_18 : decode M_PM_lived.2.1 18 = .ok (.ifCond .eq 16, 3) := by decide +kernel
theorem d_PM_lived_21 : decode M_PM_lived.2.1 21 = .ok (.aload_n 0, 1) := by decide +kernel
theorem d_PM_lived_22 : decode M_PM_lived.2.1 22 = .ok (.aload_n 0, 1) := by decide +kernel
theorem d_PM_lived_23 : decode M_PM_lived.2.1 23 = .ok (.getfield 85, 3) := by decide +kernel
theorem d_PM_lived_26 : decode M_PM_lived.2.1 26 = .ok (.iload_n 1, 1) := by decide +kernel
theorem d_PM_lived_27 : decode M_PM_lived.2.1 27 = .ok (.iaload, 1) := by decide +kernel
theorem d_PM_lived_28 : decode M_PM_lived.2.1 28 = .ok (.invokevirtual 182, 3) := by decide +kernel
theorem d_PM_lived_31 : decode M_PM_lived.2.1 31 = .ok (.goto 9, 3) := by decide +kernel
theorem d_PM_lived_34 : decode M_PM_lived.2.1 34 = .ok (.aload_n 0, 1) := by decide +kernel
theorem d_PM_lived_35 : decode M_PM_lived.2.1 35 = .ok (.bipush 6, 2) := by decide +kernel
theorem d_PM_lived_37 : decode M_PM_lived.2.1 37 = .ok (.invokevirtual 132, 3) := by decide +kernel
theorem d_PM_lived_40 : decode M_PM_lived.2.1 40 = .ok (.ireturn, 1) := by decide +kernel
theorem d_PM_mean_0 : decode M_PM_mean.2.1 0 = .ok (.iload_n 1, 1) := by decide +kernel
theorem d_PM_mean_1 : decode M_PM_mean.2.1 1 = .ok (.sipush 10000, 3) := by decide +kernel
theorem d_PM_mean_4 : decode M_PM_mean.2.1 4 = .ok (.invokestatic 108, 3) := by decide +kernel
theorem d_PM_mean_7 : decode M_PM_mean.2.1 7 = .ok (.ifCond .eq 25, 3) := by decide +kernel
theorem d_PM_mean_10 : decode M_PM_mean.2.1 10 = .ok (.iload_n 2, 1) := by decide +kernel
theorem d_PM_mean_11 : decode M_PM_mean.2.1 11 = .ok (.iconst 1, 1) := by decide +kernel
theorem d_PM_mean_12 : decode M_PM_mean.2.1 12 = .ok (.if_icmp .lt 20, 3) := by decide +kernel
theorem d_PM_mean_15 : decode M_PM_mean.2.1 15 = .ok (.iload_n 2, 1) := by decide +kernel
theorem d_PM_mean_16 : decode M_PM_mean.2.1 16 = .ok (.bipush 20, 2) := by decide +kernel
theorem d_PM_mean_18 : decode M_PM_mean.2.1 18 = .ok (.if_icmp .gt 14, 3) := by decide +kernel
theorem d_PM_mean_21 : decode M_PM_mean.2.1 21 = .ok (.iload_n 1, 1) := by decide +kernel
theorem d_PM_mean_22 : decode M_PM_mean.2.1 22 = .ok (.iload_n 2, 1) := by decide +kernel
theorem d_PM_mean_23 : decode M_PM_mean.2.1 23 = .ok (.iadd, 1) := by decide +kernel
theorem d_PM_mean_24 : decode M_PM_mean.2.1 24 = .ok (.iconst 1, 1) := by decide +kernel
theorem d_PM_mean_25 : decode M_PM_mean.2.1 25 = .ok (.isub, 1) := by decide +kernel
theorem d_PM_mean_26 : decode M_PM_mean.2.1 26 = .ok (.sipush 9999, 3) := by decide +kernel
theorem d_PM_mean_29 : decode M_PM_mean.2.1 29 = .ok (.if_icmp .le 9, 3) := by decide +kernel
theorem d_PM_mean_32 : decode M_PM_mean.2.1 32 = .ok (.aload_n 0, 1) := by decide +kernel
theorem d_PM_mean_33 : decode M_PM_mean.2.1 33 = .ok (.iconst 1, 1) := by decide +kernel
theorem d_PM_mean_34 : decode M_PM_mean.2.1 34 = .ok (.invokevirtual 112, 3) := by decide +kernel
theorem d_PM_mean_37 : decode M_PM_mean.2.1 37 = .ok (.ireturn, 1) := by decide +kernel
theorem d_PM_mean_38 : decode M_PM_mean.2.1 38 = .ok (.aload_n 0, 1) := by decide +kernel
theorem d_PM_mean_39 : decode M_PM_mean.2.1 39 = .ok (.getfield 35, 3) := by decide +kernel
theorem d_PM_mean_42 : decode M_PM_mean.2.1 42 = .ok (.getfield 410, 3) := by decide +kernel
theorem d_PM_mean_45 : decode M_PM_mean.2.1 45 = .ok (.ifCond .ne 10, 3) := by decide +kernel
theorem d_PM_mean_48 : decode M_PM_mean.2.1 48 = .ok (.aload_n 0, 1) := by decide +kernel
theorem d_PM_mean_49 : decode M_PM_mean.2.1 49 = .ok (.bipush 6, 2) := by decide +kernel
theorem d_PM_mean_51 : decode M_PM_mean.2.1 51 = .ok (.invokevirtual 112, 3) := by decide +kernel
theorem d_PM_mean_54 : decode M_PM_mean.2.1 54 = .ok (.ireturn, 1) := by decide +kernel
theorem d_PM_mean_55 : decode M_PM_mean.2.1 55 = .ok (.lconst 0, 1) := by decide +kernel
theorem d_PM_mean_56 : decode M_PM_mean.2.1 56 = .ok (.lstore_n 3, 1) := by decide +kernel
theorem d_PM_mean_57 : decode M_PM_mean.2.1 57 = .ok (.iconst 0, 1) := by decide +kernel
theorem d_PM_mean_58 : decode M_PM_mean.2.1 58 = .ok (.istore 5, 2) := by decide +kernel
theorem d_PM_mean_60 : decode M_PM_mean.2.1 60 = .ok (.iload 5, 2) := by decide +kernel
theorem d_PM_mean_62 : decode M_PM_mean.2.1 62 = .ok (.iload_n 2, 1) := by decide +kernel
theorem d_PM_mean_63 : decode M_PM_mean.2.1 63 = .ok (.if_icmp .ge 68, 3) := by decide +kernel
theorem d_PM_mean_66 : decode M_PM_mean.2.1 66 = .ok (.aload_n 0, 1) := by decide +kernel
theorem d_PM_mean_67 : decode M_PM_mean.2.1 67 = .ok (.getfield 29, 3) := by decide +kernel
theorem d_PM_mean_70 : decode M_PM_mean.2.1 70 = .ok (.aload_n 0, 1) := by decide +kernel
theorem d_PM_mean_71 : decode M_PM_mean.2.1 71 = .ok (.getfield 25, 3) := by decide +kernel
theorem d_PM_mean_74 : decode M_PM_mean.2.1 74 = .ok (.invokevirtual 172, 3) := by decide +kernel
theorem d_PM_mean_77 : decode M_PM_mean.2.1 77 = .ok (.aload_n 0, 1) := by decide +kernel
theorem d_PM_mean_78 : decode M_PM_mean.2.1 78 = .ok (.getfield 81, 3) := by decide +kernel
theorem d_PM_mean_81 : decode M_PM_mean.2.1 81 = .ok (.aload_n 0, 1) := by decide +kernel
theorem d_PM_mean_82 : decode M_PM_mean.2.1 82 = .ok (.getfield 29, 3) := by decide +kernel
theorem d_PM_mean_85 : decode M_PM_mean.2.1 85 = .ok (.aload_n 0, 1) := by decide +kernel
theorem d_PM_mean_86 : decode M_PM_mean.2.1 86 = .ok (.getfield 35, 3) := by decide +kernel
theorem d_PM_mean_89 : decode M_PM_mean.2.1 89 = .ok (.iload_n 1, 1) := by decide +kernel
theorem d_PM_mean_90 : decode M_PM_mean.2.1 90 = .ok (.iload 5, 2) := by decide +kernel
theorem d_PM_mean_92 : decode M_PM_mean.2.1 92 = .ok (.iadd, 1) := by decide +kernel
theorem d_PM_mean_93 : decode M_PM_mean.2.1 93 = .ok (.invokevirtual 411, 3) := by decide +kernel
theorem d_PM_mean_96 : decode M_PM_mean.2.1 96 = .ok (.aload_n 0, 1) := by decide +kernel
theorem d_PM_mean_97 : decode M_PM_mean.2.1 97 = .ok (.getfield 53, 3) := by decide +kernel
theorem d_PM_mean_100 : decode M_PM_mean.2.1 100 = .ok (.aload_n 0, 1) := by decide +kernel
theorem d_PM_mean_101 : decode M_PM_mean.2.1 101 = .ok (.getfield 29, 3) := by decide +kernel
theorem d_PM_mean_104 : decode M_PM_mean.2.1 104 = .ok (.invokevirtual 260, 3) := by decide +kernel
theorem d_PM_mean_107 : decode M_PM_mean.2.1 107 = .ok (.lload_n 3, 1) := by decide +kernel
theorem d_PM_mean_108 : decode M_PM_mean.2.1 108 = .ok (.aload_n 0, 1) := by decide +kernel
theorem d_PM_mean_109 : decode M_PM_mean.2.1 109 = .ok (.getfield 53, 3) := by decide +kernel
theorem d_PM_mean_112 : decode M_PM_mean.2.1 112 = .ok (.aload_n 0, 1) := by decide +kernel
theorem d_PM_mean_113 : decode M_PM_mean.2.1 113 = .ok (.getfield 29, 3) := by decide +kernel
theorem d_PM_mean_116 : decode M_PM_mean.2.1 116 = .ok (.invokevirtual 406, 3) := by decide +kernel
theorem d_PM_mean_119 : decode M_PM_mean.2.1 119 = .ok (.invokestatic 309, 3) := by decide +kernel
theorem d_PM_mean_122 : decode M_PM_mean.2.1 122 = .ok (.i2l, 1) := by decide +kernel
theorem d_PM_mean_123 : decode M_PM_mean.2.1 123 = .ok (.ladd, 1) := by decide +kernel
theorem d_PM_mean_124 : decode M_PM_mean.2.1 124 = .ok (.lstore_n 3, 1) := by decide +kernel
theorem d_PM_mean_125 : decode M_PM_mean.2.1 125 = .ok (.iinc 5 1, 3) := by decide +kernel
theorem d_PM_mean_128 : decode M_PM_mean.2.1 128 = .ok (.goto (-68), 3) := by decide +kernel
theorem d_PM_mean_131 : decode M_PM_mean.2.1 131 = .ok (.aload_n 0, 1) := by decide +kernel
theorem d_PM_mean_132 : decode M_PM_mean.2.1 132 = .ok (.lload_n 3, 1) := by decide +kernel
theorem d_PM_mean_133 : decode M_PM_mean.2.1 133 = .ok (.iload_n 2, 1) := by decide +kernel
theorem d_PM_mean_134 : decode M_PM_mean.2.1 134 = .ok (.i2l, 1) := by decide +kernel
theorem d_PM_mean_135 : decode M_PM_mean.2.1 135 = .ok (.invokevirtual 348, 3) := by decide +kernel
theorem d_PM_mean_138 : decode M_PM_mean.2.1 138 = .ok (.ireturn, 1) := by decide +kernel
theorem d_PM_mark_0 : decode M_PM_mark.2.1 0 = .ok (.aload_n 0, 1) := by decide +kernel
theorem d_PM_mark_1 : decode M_PM_mark.2.1 1 = .ok (.getfield 93, 3) := by decide +kernel
theorem d_PM_mark_4 : decode M_PM_mark.2.1 4 = .ok (.iconst 3, 1) := by decide +kernel
theorem d_PM_mark_5 : decode M_PM_mark.2.1 5 = .ok (.if_icmp .lt 9, 3) := by decide +kernel
theorem d_PM_mark_8 : decode M_PM_mark.2.1 8 = .ok (.aload_n 0, 1) := by decide +kernel
theorem d_PM_mark_9 : decode M_PM_mark.2.1 9 = .ok (.iconst 4, 1) := by decide +kernel
theorem d_PM_mark_10 : decode M_PM_mark.2.1 10 = .ok (.invokevirtual 132, 3) := by decide +kernel
theorem d_PM_mark_13 : decode M_PM_mark.2.1 13 = .ok (.ireturn, 1) := by decide +kernel
theorem d_PM_mark_14 : decode M_PM_mark.2.1 14 = .ok (.aload_n 0, 1) := by decide +kernel
theorem d_PM_mark_15 : decode M_PM_mark.2.1 15 = .ok (.getfield 42, 3) := by decide +kernel
theorem d_PM_mark_18 : decode M_PM_mark.2.1 18 = .ok (.aload_n 0, 1) := by decide +kernel
theorem d_PM_mark_19 : decode M_PM_mark.2.1 19 = .ok (.getfield 93, 3) := by decide +kernel
theorem d_PM_mark_22 : decode M_PM_mark.2.1 22 = .ok (.aaload, 1) := by decide +kernel
theorem d_PM_mark_23 : decode M_PM_mark.2.1 23 = .ok (.aload_n 0, 1) := by decide +kernel
theorem d_PM_mark_24 : decode M_PM_mark.2.1 24 = .ok (.getfield 25, 3) := by decide +kernel
theorem d_PM_mark_27 : decode M_PM_mark.2.1 27 = .ok (.invokevirtual 172, 3) := by decide +kernel
theorem d_PM_mark_30 : decode M_PM_mark.2.1 30 = .ok (.aload_n 0, 1) := by decide +kernel
theorem d_PM_mark_31 : decode M_PM_mark.2.1 31 = .ok (.getfield 46, 3) := by decide +kernel
theorem d_PM_mark_34 : decode M_PM_mark.2.1 34 = .ok (.aload_n 0, 1) := by decide +kernel
theorem d_PM_mark_35 : decode M_PM_mark.2.1 35 = .ok (.getfield 93, 3) := by decide +kernel
theorem d_PM_mark_38 : decode M_PM_mark.2.1 38 = .ok (.aaload, 1) := by decide +kernel
theorem d_PM_mark_39 : decode M_PM_mark.2.1 39 = .ok (.aload_n 0, 1) := by decide +kernel
theorem d_PM_mark_40 : decode M_PM_mark.2.1 40 = .ok (.getfield 35, 3) := by decide +kernel
theorem d_PM_mark_43 : decode M_PM_mark.2.1 43 = .ok (.invokevirtual 191, 3) := by decide +kernel
theorem d_PM_mark_46 : decode M_PM_mark.2.1 46 = .ok (.aload_n 0, 1) := by decide +kernel
theorem d_PM_mark_47 : decode M_PM_mark.2.1 47 = .ok (.dup, 1) := by decide +kernel
theorem d_PM_mark_48 : decode M_PM_mark.2.1 48 = .ok (.getfield 93, 3) := by decide +kernel
theorem d_PM_mark_51 : decode M_PM_mark.2.1 51 = .ok (.iconst 1, 1) := by decide +kernel
theorem d_PM_mark_52 : decode M_PM_mark.2.1 52 = .ok (.iadd, 1) := by decide +kernel
theorem d_PM_mark_53 : decode M_PM_mark.2.1 53 = .ok (.putfield 93, 3) := by decide +kernel
theorem d_PM_mark_56 : decode M_PM_mark.2.1 56 = .ok (.aload_n 0, 1) := by decide +kernel
theorem d_PM_mark_57 : decode M_PM_mark.2.1 57 = .ok (.aload_n 0, 1) := by decide +kernel
theorem d_PM_mark_58 : decode M_PM_mark.2.1 58 = .ok (.getfield 93, 3) := by decide +kernel
theorem d_PM_mark_61 : decode M_PM_mark.2.1 61 = .ok (.invokevirtual 182, 3) := by decide +kernel
theorem d_PM_mark_64 : decode M_PM_mark.2.1 64 = .ok (.ireturn, 1) := by decide +kernel
theorem d_PM_undo_0 : decode M_PM_undo.2.1 0 = .ok (.aload_n 0, 1) := by decide +kernel
theorem d_PM_undo_1 : decode M_PM_undo.2.1 1 = .ok (.getfield 93, 3) := by decide +kernel
theorem d_PM_undo_4 : decode M_PM_undo.2.1 4 = .ok (.ifCond .gt 10, 3) := by decide +kernel
theorem d_PM_undo_7 : decode M_PM_undo.2.1 7 = .ok (.aload_n 0, 1) := by decide +kernel
theorem d_PM_undo_8 : decode M_PM_undo.2.1 8 = .ok (.bipush 6, 2) := by decide +kernel
theorem d_PM_undo_10 : decode M_PM_undo.2.1 10 = .ok (.invokevirtual 132, 3) := by decide +kernel
theorem d_PM_undo_13 : decode M_PM_undo.2.1 13 = .ok (.ireturn, 1) := by decide +kernel
theorem d_PM_undo_14 : decode M_PM_undo.2.1 14 = .ok (.aload_n 0, 1) := by decide +kernel
theorem d_PM_undo_15 : decode M_PM_undo.2.1 15 = .ok (.dup, 1) := by decide +kernel
theorem d_PM_undo_16 : decode M_PM_undo.2.1 16 = .ok (.getfield 93, 3) := by decide +kernel
theorem d_PM_undo_19 : decode M_PM_undo.2.1 19 = .ok (.iconst 1, 1) := by decide +kernel
theorem d_PM_undo_20 : decode M_PM_undo.2.1 20 = .ok (.isub, 1) := by decide +kernel
theorem d_PM_undo_21 : decode M_PM_undo.2.1 21 = .ok (.putfield 93, 3) := by decide +kernel
theorem d_PM_undo_24 : decode M_PM_undo.2.1 24 = .ok (.aload_n 0, 1) := by decide +kernel
theorem d_PM_undo_25 : decode M_PM_undo.2.1 25 = .ok (.getfield 25, 3) := by decide +kernel
theorem d_PM_undo_28 : decode M_PM_undo.2.1 28 = .ok (.aload_n 0, 1) := by decide +kernel
theorem d_PM_undo_29 : decode M_PM_undo.2.1 29 = .ok (.getfield 42, 3) := by decide +kernel
theorem d_PM_undo_32 : decode M_PM_undo.2.1 32 = .ok (.aload_n 0, 1) := by decide +kernel
theorem d_PM_undo_33 : decode M_PM_undo.2.1 33 = .ok (.getfield 93, 3) := by decide +kernel
theorem d_PM_undo_36 : decode M_PM_undo.2.1 36 = .ok (.aaload, 1) := by decide +kernel
theorem d_PM_undo_37 : decode M_PM_undo.2.1 37 = .ok (.invokevirtual 172, 3) := by decide +kernel
theorem d_PM_undo_40 : decode M_PM_undo.2.1 40 = .ok (.aload_n 0, 1) := by decide +kernel
theorem d_PM_undo_41 : decode M_PM_undo.2.1 41 = .ok (.getfield 35, 3) := by decide +kernel
theorem d_PM_undo_44 : decode M_PM_undo.2.1 44 = .ok (.aload_n 0, 1) := by decide +kernel
theorem d_PM_undo_45 : decode M_PM_undo.2.1 45 = .ok (.getfield 46, 3) := by decide +kernel
theorem d_PM_undo_48 : decode M_PM_undo.2.1 48 = .ok (.aload_n 0, 1) := by decide +kernel
theorem d_PM_undo_49 : decode M_PM_undo.2.1 49 = .ok (.getfield 93, 3) := by decide +kernel
theorem d_PM_undo_52 : decode M_PM_undo.2.1 52 = .ok (.aaload, 1) := by decide +kernel
theorem d_PM_undo_53 : decode M_PM_undo.2.1 53 = .ok (.invokevirtual 191, 3) := by decide +kernel
theorem d_PM_undo_56 : decode M_PM_undo.2.1 56 = .ok (.aload_n 0, 1) := by decide +kernel
theorem d_PM_undo_57 : decode M_PM_undo.2.1 57 = .ok (.aload_n 0, 1) := by decide +kernel
theorem d_PM_undo_58 : decode M_PM_undo.2.1 58 = .ok (.getfield 93, 3) := by decide +kernel
theorem d_PM_undo_61 : decode M_PM_undo.2.1 61 = .ok (.invokevirtual 182, 3) := by decide +kernel
theorem d_PM_undo_64 : decode M_PM_undo.2.1 64 = .ok (.ireturn, 1) := by decide +kernel
theorem d_PM_fail_0 : decode M_PM_fail.2.1 0 = .ok (.aload_n 0, 1) := by decide +kernel
theorem d_PM_fail_1 : decode M_PM_fail.2.1 1 = .ok (.iload_n 1, 1) := by decide +kernel
theorem d_PM_fail_2 : decode M_PM_fail.2.1 2 = .ok (.putfield 97, 3) := by decide +kernel
theorem d_PM_fail_5 : decode M_PM_fail.2.1 5 = .ok (.iconst (-1), 1) := by decide +kernel
theorem d_PM_fail_6 : decode M_PM_fail.2.1 6 = .ok (.ireturn, 1) := by decide +kernel
theorem d_PM_refuse_0 : decode M_PM_refuse.2.1 0 = .ok (.aload_n 0, 1) := by decide +kernel
theorem d_PM_refuse_1 : decode M_PM_refuse.2.1 1 = .ok (.iload_n 1, 1) := by decide +kernel
theorem d_PM_refuse_2 : decode M_PM_refuse.2.1 2 = .ok (.putfield 97, 3) := by decide +kernel
theorem d_PM_refuse_5 : decode M_PM_refuse.2.1 5 = .ok (.iconst 0, 1) := by decide +kernel
theorem d_PM_refuse_6 : decode M_PM_refuse.2.1 6 = .ok (.ireturn, 1) := by decide +kernel
theorem d_PM_answer_0 : decode M_PM_answer.2.1 0 = .ok (.aload_n 0, 1) := by decide +kernel
theorem d_PM_answer_1 : decode M_PM_answer.2.1 1 = .ok (.iconst 0, 1) := by decide +kernel
theorem d_PM_answer_2 : decode M_PM_answer.2.1 2 = .ok (.putfield 97, 3) := by decide +kernel
theorem d_PM_answer_5 : decode M_PM_answer.2.1 5 = .ok (.iload_n 1, 1) := by decide +kernel
theorem d_PM_answer_6 : decode M_PM_answer.2.1 6 = .ok (.ireturn, 1) := by decide +kernel
theorem d_PM_accept_0 : decode M_PM_accept.2.1 0 = .ok (.aload_n 0, 1) := by decide +kernel
theorem d_PM_accept_1 : decode M_PM_accept.2.1 1 = .ok (.iconst 0, 1) := by decide +kernel
theorem d_PM_accept_2 : decode M_PM_accept.2.1 2 = .ok (.putfield 97, 3) := by decide +kernel
theorem d_PM_accept_5 : decode M_PM_accept.2.1 5 = .ok (.iconst 1, 1) := by decide +kernel
theorem d_PM_accept_6 : decode M_PM_accept.2.1 6 = .ok (.ireturn, 1) := by decide +kernel
theorem d_PM_acceptFraction_0 : decode M_PM_acceptFraction.2.1 0 = .ok (.lload_n 1, 1) := by decide +kernel
theorem d_PM_acceptFraction_1 : decode M_PM_acceptFraction.2.1 1 = .ok (.lload_n 3, 1) := by decide +kernel
theorem d_PM_acceptFraction_2 : decode M_PM_acceptFraction.2.1 2 = .ok (.invokestatic 419, 3) := by decide +kernel
theorem d_PM_acceptFraction_5 : decode M_PM_acceptFraction.2.1 5 = .ok (.lstore 5, 2) := by decide +kernel
theorem d_PM_acceptFraction_7 : decode M_PM_acceptFraction.2.1 7 = .ok (.lload 5, 2) := by decide +kernel
theorem d_PM_acceptFraction_9 : decode M_PM_acceptFraction.2.1 9 = .ok (.lconst 0, 1) := by decide +kernel
theorem d_PM_acceptFraction_10 : decode M_PM_acceptFraction.2.1 10 = .ok (.lcmp, 1) := by decide +kernel
theorem d_PM_acceptFraction_11 : decode M_PM_acceptFraction.2.1 11 = .ok (.ifCond .le 19, 3) := by decide +kernel
theorem d_PM_acceptFraction_14 : decode M_PM_acceptFraction.2.1 14 = .ok (.aload_n 0, 1) := by decide +kernel
theorem d_PM_acceptFraction_15 : decode M_PM_acceptFraction.2.1 15 = .ok (.lload_n 1, 1) := by decide +kernel
theorem d_PM_acceptFraction_16 : decode M_PM_acceptFraction.2.1 16 = .ok (.lload 5, 2) := by decide +kernel
theorem d_PM_acceptFraction_18 : decode M_PM_acceptFraction.2.1 18 = .ok (.ldiv, 1) := by decide +kernel
theorem d_PM_acceptFraction_19 : decode M_PM_acceptFraction.2.1 19 = .ok (.putfield 100, 3) := by decide +kernel
theorem d_PM_acceptFraction_22 : decode M_PM_acceptFraction.2.1 22 = .ok (.aload_n 0, 1) := by decide +kernel
theorem d_PM_acceptFraction_23 : decode M_PM_acceptFraction.2.1 23 = .ok (.lload_n 3, 1) := by decide +kernel
theorem d_PM_acceptFraction_24 : decode M_PM_acceptFraction.2.1 24 = .ok (.lload 5, 2) := by decide +kernel
theorem d_PM_acceptFraction_26 : decode M_PM_acceptFraction.2.1 26 = .ok (.ldiv, 1) := by decide +kernel
theorem d_PM_acceptFraction_27 : decode M_PM_acceptFraction.2.1 27 = .ok (.putfield 104, 3) := by decide +kernel
theorem d_PM_acceptFraction_30 : decode M_PM_acceptFraction.2.1 30 = .ok (.aload_n 0, 1) := by decide +kernel
theorem d_PM_acceptFraction_31 : decode M_PM_acceptFraction.2.1 31 = .ok (.invokevirtual 120, 3) := by decide +kernel
theorem d_PM_acceptFraction_34 : decode M_PM_acceptFraction.2.1 34 = .ok (.ireturn, 1) := by decide +kernel
theorem d_PM_commonDivisor_0 : decode M_PM_commonDivisor.2.1 0 = .ok (.lload_n 0, 1) := by decide +kernel
theorem d_PM_commonDivisor_1 : decode M_PM_commonDivisor.2.1 1 = .ok (.lstore 4, 2) := by decide +kernel
theorem d_PM_commonDivisor_3 : decode M_PM_commonDivisor.2.1 3 = .ok (.lload_n 2, 1) := by decide +kernel
theorem d_PM_commonDivisor_4 : decode M_PM_commonDivisor.2.1 4 = .ok (.lstore 6, 2) := by decide +kernel
theorem d_PM_commonDivisor_6 : decode M_PM_commonDivisor.2.1 6 = .ok (.iconst 0, 1) := by decide +kernel
theorem d_PM_commonDivisor_7 : decode M_PM_commonDivisor.2.1 7 = .ok (.istore 8, 2) := by decide +kernel
theorem d_PM_commonDivisor_9 : decode M_PM_commonDivisor.2.1 9 = .ok (.iload 8, 2) := by decide +kernel
theorem d_PM_commonDivisor_11 : decode M_PM_commonDivisor.2.1 11 = .ok (.bipush 100, 2) := by decide +kernel
theorem d_PM_commonDivisor_13 : decode M_PM_commonDivisor.2.1 13 = .ok (.if_icmp .ge 31, 3) := by decide +kernel
theorem d_PM_commonDivisor_16 : decode M_PM_commonDivisor.2.1 16 = .ok (.lload 6, 2) := by decide +kernel
theorem d_PM_commonDivisor_18 : decode M_PM_commonDivisor.2.1 18 = .ok (.lconst 0, 1) := by decide +kernel
theorem d_PM_commonDivisor_19 : decode M_PM_commonDivisor.2.1 19 = .ok (.lcmp, 1) := by decide +kernel
theorem d_PM_commonDivisor_20 : decode M_PM_commonDivisor.2.1 20 = .ok (.ifCond .eq 24, 3) := by decide +kernel
theorem d_PM_commonDivisor_23 : decode M_PM_commonDivisor.2.1 23 = .ok (.lload 4, 2) := by decide +kernel
theorem d_PM_commonDivisor_25 : decode M_PM_commonDivisor.2.1 25 = .ok (.lload 6, 2) := by decide +kernel
theorem d_PM_commonDivisor_27 : decode M_PM_commonDivisor.2.1 27 = .ok (.lrem, 1) := by decide +kernel
theorem d_PM_commonDivisor_28 : decode M_PM_commonDivisor.2.1 28 = .ok (.lstore 9, 2) := by decide +kernel
theorem d_PM_commonDivisor_30 : decode M_PM_commonDivisor.2.1 30 = .ok (.lload 6, 2) := by decide +kernel
theorem d_PM_commonDivisor_32 : decode M_PM_commonDivisor.2.1 32 = .ok (.lstore 4, 2) := by decide +kernel
theorem d_PM_commonDivisor_34 : decode M_PM_commonDivisor.2.1 34 = .ok (.lload 9, 2) := by decide +kernel
theorem d_PM_commonDivisor_36 : decode M_PM_commonDivisor.2.1 36 = .ok (.lstore 6, 2) := by decide +kernel
theorem d_PM_commonDivisor_38 : decode M_PM_commonDivisor.2.1 38 = .ok (.iinc 8 1, 3) := by decide +kernel
theorem d_PM_commonDivisor_41 : decode M_PM_commonDivisor.2.1 41 = .ok (.goto (-32), 3) := by decide +kernel
theorem d_PM_commonDivisor_44 : decode M_PM_commonDivisor.2.1 44 = .ok (.lload 4, 2) := by decide +kernel
theorem d_PM_commonDivisor_46 : decode M_PM_commonDivisor.2.1 46 = .ok (.lreturn, 1) := by decide +kernel
theorem d_PM_within_0 : decode M_PM_within.2.1 0 = .ok (.iload_n 0, 1) := by decide +kernel
theorem d_PM_within_1 : decode M_PM_within.2.1 1 = .ok (.ifCond .lt 12, 3) := by decide +kernel
theorem d_PM_within_4 : decode M_PM_within.2.1 4 = .ok (.iload_n 0, 1) := by decide +kernel
theorem d_PM_within_5 : decode M_PM_within.2.1 5 = .ok (.iload_n 1, 1) := by decide +kernel
theorem d_PM_within_6 : decode M_PM_within.2.1 6 = .ok (.if_icmp .ge 7, 3) := by decide +kernel
theorem d_PM_within_9 : decode M_PM_within.2.1 9 = .ok (.iconst 1, 1) := by decide +kernel
theorem d_PM_within_10 : decode M_PM_within.2.1 10 = .ok (.goto 4, 3) := by decide +kernel
theorem d_PM_within_13 : decode M_PM_within.2.1 13 = .ok (.iconst 0, 1) := by decide +kernel
theorem d_PM_within_14 : decode M_PM_within.2.1 14 = .ok (.ireturn, 1) := by decide +kernel
theorem d_PM_has_0 : decode M_PM_has.2.1 0 = .ok (.iload_n 0, 1) := by decide +kernel
theorem d_PM_has_1 : decode M_PM_has.2.1 1 = .ok (.iload_n 1, 1) := by decide +kernel
theorem d_PM_has_2 : decode M_PM_has.2.1 2 = .ok (.ishr, 1) := by decide +kernel
theorem d_PM_has_3 : decode M_PM_has.2.1 3 = .ok (.iconst 1, 1) := by decide +kernel
theorem d_PM_has_4 : decode M_PM_has.2.1 4 = .ok (.iand, 1) := by decide +kernel
theorem d_PM_has_5 : decode M_PM_has.2.1 5 = .ok (.ifCond .eq 7, 3) := by decide +kernel
theorem d_PM_has_8 : decode M_PM_has.2.1 8 = .ok (.iconst 1, 1) := by decide +kernel
theorem d_PM_has_9 : decode M_PM_has.2.1 9 = .ok (.goto 4, 3) := by decide +kernel
theorem d_PM_has_12 : decode M_PM_has.2.1 12 = .ok (.iconst 0, 1) := by decide +kernel
theorem d_PM_has_13 : decode M_PM_has.2.1 13 = .ok (.ireturn, 1) := by decide +kernel
theorem d_PM_canBePaces_0 : decode M_PM_canBePaces.2.1 0 = .ok (.iload_n 0, 1) := by decide +kernel
theorem d_PM_canBePaces_1 : decode M_PM_canBePaces.2.1 1 = .ok (.bipush (-99), 2) := by decide +kernel
theorem d_PM_canBePaces_3 : decode M_PM_canBePaces.2.1 3 = .ok (.if_icmp .lt 13, 3) := by decide +kernel
theorem d_PM_canBePaces_6 : decode M_PM_canBePaces.2.1 6 = .ok (.iload_n 0, 1) := by decide +kernel
theorem d_PM_canBePaces_7 : decode M_PM_canBePaces.2.1 7 = .ok (.bipush 99, 2) := by decide +kernel
theorem d_PM_canBePaces_9 : decode M_PM_canBePaces.2.1 9 = .ok (.if_icmp .gt 7, 3) := by decide +kernel
theorem d_PM_canBePaces_12 : decode M_PM_canBePaces.2.1 12 = .ok (.iconst 1, 1) := by decide +kernel
theorem d_PM_canBePaces_13 : decode M_PM_canBePaces.2.1 13 = .ok (.goto 4, 3) := by decide +kernel
theorem d_PM_canBePaces_16 : decode M_PM_canBePaces.2.1 16 = .ok (.iconst 0, 1) := by decide +kernel
theorem d_PM_canBePaces_17 : decode M_PM_canBePaces.2.1 17 = .ok (.ireturn, 1) := by decide +kernel
theorem d_PM_twoPlaces_0 : decode M_PM_twoPlaces.2.1 0 = .ok (.iload_n 1, 1) := by decide +kernel
theorem d_PM_twoPlaces_1 : decode M_PM_twoPlaces.2.1 1 = .ok (.aload_n 0, 1) := by decide +kernel
theorem d_PM_twoPlaces_2 : decode M_PM_twoPlaces.2.1 2 = .ok (.getfield 25, 3) := by decide +kernel
theorem d_PM_twoPlaces_5 : decode M_PM_twoPlaces.2.1 5 = .ok (.getfield 203, 3) := by decide +kernel
theorem d_PM_twoPlaces_8 : decode M_PM_twoPlaces.2.1 8 = .ok (.invokestatic 108, 3) := by decide +kernel
theorem d_PM_twoPlaces_11 : decode M_PM_twoPlaces.2.1 11 = .ok (.ifCond .eq 26, 3) := by decide +kernel
theorem d_PM_twoPlaces_14 : decode M_PM_twoPlaces.2.1 14 = .ok (.iload_n 2, 1) := by decide +kernel
theorem d_PM_twoPlaces_15 : decode M_PM_twoPlaces.2.1 15 = .ok (.aload_n 0, 1) := by decide +kernel
theorem d_PM_twoPlaces_16 : decode M_PM_twoPlaces.2.1 16 = .ok (.getfield 25, 3) := by decide +kernel
theorem d_PM_twoPlaces_19 : decode M_PM_twoPlaces.2.1 19 = .ok (.getfield 203, 3) := by decide +kernel
theorem d_PM_twoPlaces_22 : decode M_PM_twoPlaces.2.1 22 = .ok (.invokestatic 108, 3) := by decide +kernel
theorem d_PM_twoPlaces_25 : decode M_PM_twoPlaces.2.1 25 = .ok (.ifCond .eq 12, 3) := by decide +kernel
theorem d_PM_twoPlaces_28 : decode M_PM_twoPlaces.2.1 28 = .ok (.iload_n 1, 1) := by decide +kernel
theorem d_PM_twoPlaces_29 : decode M_PM_twoPlaces.2.1 29 = .ok (.iload_n 2, 1) := by decide +kernel
theorem d_PM_twoPlaces_30 : decode M_PM_twoPlaces.2.1 30 = .ok (.if_icmp .eq 7, 3) := by decide +kernel
theorem d_PM_twoPlaces_33 : decode M_PM_twoPlaces.2.1 33 = .ok (.iconst 1, 1) := by decide +kernel
theorem d_PM_twoPlaces_34 : decode M_PM_twoPlaces.2.1 34 = .ok (.goto 4, 3) := by decide +kernel
theorem d_PM_twoPlaces_37 : decode M_PM_twoPlaces.2.1 37 = .ok (.iconst 0, 1) := by decide +kernel
theorem d_PM_twoPlaces_38 : decode M_PM_twoPlaces.2.1 38 = .ok (.ireturn, 1) := by decide +kernel
theorem d_PM_canBeWalkers_0 : decode M_PM_canBeWalkers.2.1 0 = .ok (.iload_n 1, 1) := by decide +kernel
theorem d_PM_canBeWalkers_1 : decode M_PM_canBeWalkers.2.1 1 = .ok (.iconst 1, 1) := by decide +kernel
theorem d_PM_canBeWalkers_2 : decode M_PM_canBeWalkers.2.1 2 = .ok (.aload_n 0, 1) := by decide +kernel
theorem d_PM_canBeWalkers_3 : decode M_PM_canBeWalkers.2.1 3 = .ok (.getfield 25, 3) := by decide +kernel
theorem d_PM_canBeWalkers_6 : decode M_PM_canBeWalkers.2.1 6 = .ok (.getfield 206, 3) := by decide +kernel
theorem d_PM_canBeWalkers_9 : decode M_PM_canBeWalkers.2.1 9 = .ok (.ishl, 1) := by decide +kernel
theorem d_PM_canBeWalkers_10 : decode M_PM_canBeWalkers.2.1 10 = .ok (.invokestatic 108, 3) := by decide +kernel
theorem d_PM_canBeWalkers_13 : decode M_PM_canBeWalkers.2.1 13 = .ok (.ifCond .eq 15, 3) := by decide +kernel
theorem d_PM_canBeWalkers_16 : decode M_PM_canBeWalkers.2.1 16 = .ok (.iload_n 1, 1) := by decide +kernel
theorem d_PM_canBeWalkers_17 : decode M_PM_canBeWalkers.2.1 17 = .ok (.invokestatic 309, 3) := by decide +kernel
theorem d_PM_canBeWalkers_20 : decode M_PM_canBeWalkers.2.1 20 = .ok (.iconst 2, 1) := by decide +kernel
theorem d_PM_canBeWalkers_21 : decode M_PM_canBeWalkers.2.1 21 = .ok (.if_icmp .gt 7, 3) := by decide +kernel
theorem d_PM_canBeWalkers_24 : decode M_PM_canBeWalkers.2.1 24 = .ok (.iconst 1, 1) := by decide +kernel
theorem d_PM_canBeWalkers_25 : decode M_PM_canBeWalkers.2.1 25 = .ok (.goto 4, 3) := by decide +kernel
theorem d_PM_canBeWalkers_28 : decode M_PM_canBeWalkers.2.1 28 = .ok (.iconst 0, 1) := by decide +kernel
theorem d_PM_canBeWalkers_29 : decode M_PM_canBeWalkers.2.1 29 = .ok (.ireturn, 1) := by decide +kernel
theorem d_PM_spotFault_0 : decode M_PM_spotFault.2.1 0 = .ok (.iload_n 1, 1) := by decide +kernel
theorem d_PM_spotFault_1 : decode M_PM_spotFault.2.1 1 = .ok (.iconst 4, 1) := by decide +kernel
theorem d_PM_spotFault_2 : decode M_PM_spotFault.2.1 2 = .ok (.invokestatic 108, 3) := by decide +kernel
theorem d_PM_spotFault_5 : decode M_PM_spotFault.2.1 5 = .ok (.ifCond .ne 5, 3) := by decide +kernel
theorem d_PM_spotFault_8 : decode M_PM_spotFault.2.1 8 = .ok (.iconst 1, 1) := by decide +kernel
theorem d_PM_spotFault_9 : decode M_PM_spotFault.2.1 9 = .ok (.ireturn, 1) := by decide +kernel
theorem d_PM_spotFault_10 : decode M_PM_spotFault.2.1 10 = .ok (.aload_n 0, 1) := by decide +kernel
theorem d_PM_spotFault_11 : decode M_PM_spotFault.2.1 11 = .ok (.getfield 11, 3) := by decide +kernel
theorem d_PM_spotFault_14 : decode M_PM_spotFault.2.1 14 = .ok (.iload_n 1, 1) := by decide +kernel
theorem d_PM_spotFault_15 : decode M_PM_spotFault.2.1 15 = .ok (.aaload, 1) := by decide +kernel
theorem d_PM_spotFault_16 : decode M_PM_spotFault.2.1 16 = .ok (.getfield 140, 3) := by decide +kernel
theorem d_PM_spotFault_19 : decode M_PM_spotFault.2.1 19 = .ok (.ifCond .ne 5, 3) := by decide +kernel
theorem d_PM_spotFault_22 : decode M_PM_spotFault.2.1 22 = .ok (.iconst 2, 1) := by decide +kernel
theorem d_PM_spotFault_23 : decode M_PM_spotFault.2.1 23 = .ok (.ireturn, 1) := by decide +kernel
theorem d_PM_spotFault_24 : decode M_PM_spotFault.2.1 24 = .ok (.iload_n 2, 1) := by decide +kernel
theorem d_PM_spotFault_25 : decode M_PM_spotFault.2.1 25 = .ok (.aload_n 0, 1) := by decide +kernel
theorem d_PM_spotFault_26 : decode M_PM_spotFault.2.1 26 = .ok (.getfield 11, 3) := by decide +kernel
theorem d_PM_spotFault_29 : decode M_PM_spotFault.2.1 29 = .ok (.iload_n 1, 1) := by decide +kernel
theorem d_PM_spotFault_30 : decode M_PM_spotFault.2.1 30 = .ok (.aaload, 1) := by decide +kernel
theorem d_PM_spotFault_31 : decode M_PM_spotFault.2.1 31 = .ok (.getfield 423, 3) := by decide +kernel
theorem d_PM_spotFault_34 : decode M_PM_spotFault.2.1 34 = .ok (.invokestatic 108, 3) := by decide +kernel
theorem d_PM_spotFault_37 : decode M_PM_spotFault.2.1 37 = .ok (.ifCond .eq 7, 3) := by decide +kernel
theorem d_PM_spotFault_40 : decode M_PM_spotFault.2.1 40 = .ok (.iconst 0, 1) := by decide +kernel
theorem d_PM_spotFault_41 : decode M_PM_spotFault.2.1 41 = .ok (.goto 4, 3) := by decide +kernel
theorem d_PM_spotFault_44 : decode M_PM_spotFault.2.1 44 = .ok (.iconst 3, 1) := by decide +kernel
theorem d_PM_spotFault_45 : decode M_PM_spotFault.2.1 45 = .ok (.ireturn, 1) := by decide +kernel
theorem d_PM_toldByChart_0 : decode M_PM_toldByChart.2.1 0 = .ok (.aload_n 0, 1) := by decide +kernel
theorem d_PM_toldByChart_1 : decode M_PM_toldByChart.2.1 1 = .ok (.getfield 53, 3) := by decide +kernel
theorem d_PM_toldByChart_4 : decode M_PM_toldByChart.2.1 4 = .ok (.aload_n 0, 1) := by decide +kernel
theorem d_PM_toldByChart_5 : decode M_PM_toldByChart.2.1 5 = .ok (.getfield 25, 3) := by decide +kernel
theorem d_PM_toldByChart_8 : decode M_PM_toldByChart.2.1 8 = .ok (.invokevirtual 260, 3) := by decide +kernel
theorem d_PM_toldByChart_11 : decode M_PM_toldByChart.2.1 11 = .ok (.iload_n 1, 1) := by decide +kernel
theorem d_PM_toldByChart_12 : decode M_PM_toldByChart.2.1 12 = .ok (.tableswitch 118 6 11 #[40, 118, 52, 118, 64, 91], 40) := by decide +kernel
theorem d_PM_toldByChart_52 : decode M_PM_toldByChart.2.1 52 = .ok (.aload_n 0, 1) := by decide +kernel
theorem d_PM_toldByChart_53 : decode M_PM_toldByChart.2.1 53 = .ok (.getfield 53, 3) := by decide +kernel
theorem d_PM_toldByChart_56 : decode M_PM_toldByChart.2.1 56 = .ok (.aload_n 0, 1) := by decide +kernel
theorem d_PM_toldByChart_57 : decode M_PM_toldByChart.2.1 57 = .ok (.getfield 25, 3) := by decide +kernel
theorem d_PM_toldByChart_60 : decode M_PM_toldByChart.2.1 60 = .ok (.invokevirtual 406, 3) := by decide +kernel
theorem d_PM_toldByChart_63 : decode M_PM_toldByChart.2.1 63 = .ok (.ireturn, 1) := by decide +kernel
theorem d_PM_toldByChart_64 : decode M_PM_toldByChart.2.1 64 = .ok (.aload_n 0, 1) := by decide +kernel
theorem d_PM_toldByChart_65 : decode M_PM_toldByChart.2.1 65 = .ok (.getfield 53, 3) := by decide +kernel
theorem d_PM_toldByChart_68 : decode M_PM_toldByChart.2.1 68 = .ok (.aload_n 0, 1) := by decide +kernel
theorem d_PM_toldByChart_69 : decode M_PM_toldByChart.2.1 69 = .ok (.getfield 25, 3) := by decide +kernel
theorem d_PM_toldByChart_72 : decode M_PM_toldByChart.2.1 72 = .ok (.invokevirtual 424, 3) := by decide +kernel
theorem d_PM_toldByChart_75 : decode M_PM_toldByChart.2.1 75 = .ok (.ireturn, 1) := by decide +kernel
theorem d_PM_toldByChart_76 : decode M_PM_toldByChart.2.1 76 = .ok (.aload_n 0, 1) := by decide +kernel
theorem d_PM_toldByChart_77 : decode M_PM_toldByChart.2.1 77 = .ok (.getfield 25, 3) := by decide +kernel
theorem d_PM_toldByChart_80 : decode M_PM_toldByChart.2.1 80 = .ok (.invokevirtual 285, 3) := by decide +kernel
theorem d_PM_toldByChart_83 : decode M_PM_toldByChart.2.1 83 = .ok (.invokestatic 309, 3) := by decide +kernel
theorem d_PM_toldByChart_86 : decode M_PM_toldByChart.2.1 86 = .ok (.aload_n 0, 1) := by decide +kernel
theorem d_PM_toldByChart_87 : decode M_PM_toldByChart.2.1 87 = .ok (.getfield 25, 3) := by decide +kernel
theorem d_PM_toldByChart_90 : decode M_PM_toldByChart.2.1 90 = .ok (.getfield 203, 3) := by decide +kernel
theorem d_PM_toldByChart_93 : decode M_PM_toldByChart.2.1 93 = .ok (.isub, 1) := by decide +kernel
theorem d_PM_toldByChart_94 : decode M_PM_toldByChart.2.1 94 = .ok (.aload_n 0, 1) := by decide +kernel
theorem d_PM_toldByChart_95 : decode M_PM_toldByChart.2.1 95 = .ok (.getfield 53, 3) := by decide +kernel
theorem d_PM_toldByChart_98 : decode M_PM_toldByChart.2.1 98 = .ok (.getfield 427, 3) := by decide +kernel
theorem d_PM_toldByChart_101 : decode M_PM_toldByChart.2.1 101 = .ok (.iadd, 1) := by decide +kernel
theorem d_PM_toldByChart_102 : decode M_PM_toldByChart.2.1 102 = .ok (.ireturn, 1) := by decide +kernel
theorem d_PM_toldByChart_103 : decode M_PM_toldByChart.2.1 103 = .ok (.aload_n 0, 1) := by decide +kernel
theorem d_PM_toldByChart_104 : decode M_PM_toldByChart.2.1 104 = .ok (.getfield 53, 3) := by decide +kernel
theorem d_PM_toldByChart_107 : decode M_PM_toldByChart.2.1 107 = .ok (.aload_n 0, 1) := by decide +kernel
theorem d_PM_toldByChart_108 : decode M_PM_toldByChart.2.1 108 = .ok (.getfield 25, 3) := by decide +kernel
theorem d_PM_toldByChart_111 : decode M_PM_toldByChart.2.1 111 = .ok (.aload_n 0, 1) := by decide +kernel
theorem d_PM_toldByChart_112 : decode M_PM_toldByChart.2.1 112 = .ok (.getfield 25, 3) := by decide +kernel
theorem d_PM_toldByChart_115 : decode M_PM_toldByChart.2.1 115 = .ok (.invokevirtual 285, 3) := by decide +kernel
theorem d_PM_toldByChart_118 : decode M_PM_toldByChart.2.1 118 = .ok (.invokevirtual 430, 3) := by decide +kernel
theorem d_PM_toldByChart_121 : decode M_PM_toldByChart.2.1 121 = .ok (.ifCond .eq 7, 3) := by decide +kernel
theorem d_PM_toldByChart_124 : decode M_PM_toldByChart.2.1 124 = .ok (.iconst 1, 1) := by decide +kernel
theorem d_PM_toldByChart_125 : decode M_PM_toldByChart.2.1 125 = .ok (.goto 4, 3) := by decide +kernel
theorem d_PM_toldByChart_128 : decode M_PM_toldByChart.2.1 128 = .ok (.iconst 0, 1) := by decide +kernel
theorem d_PM_toldByChart_129 : decode M_PM_toldByChart.2.1 129 = .ok (.ireturn, 1) := by decide +kernel
theorem d_PM_toldByChart_130 : decode M_PM_toldByChart.2.1 130 = .ok (.aload_n 0, 1) := by decide +kernel
theorem d_PM_toldByChart_131 : decode M_PM_toldByChart.2.1 131 = .ok (.getfield 53, 3) := by decide +kernel
theorem d_PM_toldByChart_134 : decode M_PM_toldByChart.2.1 134 = .ok (.aload_n 0, 1) := by decide +kernel
theorem d_PM_toldByChart_135 : decode M_PM_toldByChart.2.1 135 = .ok (.getfield 25, 3) := by decide +kernel
theorem d_PM_toldByChart_138 : decode M_PM_toldByChart.2.1 138 = .ok (.invokevirtual 433, 3) := by decide +kernel
theorem d_PM_toldByChart_141 : decode M_PM_toldByChart.2.1 141 = .ok (.ireturn, 1) := by decide +kernel
theorem d_PM_cornersFault_0 : decode M_PM_cornersFault.2.1 0 = .ok (.aload_n 0, 1) := by decide +kernel
theorem d_PM_cornersFault_1 : decode M_PM_cornersFault.2.1 1 = .ok (.getfield 53, 3) := by decide +kernel
theorem d_PM_cornersFault_4 : decode M_PM_cornersFault.2.1 4 = .ok (.aload_n 0, 1) := by decide +kernel
theorem d_PM_cornersFault_5 : decode M_PM_cornersFault.2.1 5 = .ok (.getfield 25, 3) := by decide +kernel
theorem d_PM_cornersFault_8 : decode M_PM_cornersFault.2.1 8 = .ok (.invokevirtual 260, 3) := by decide +kernel
theorem d_PM_cornersFault_11 : decode M_PM_cornersFault.2.1 11 = .ok (.iconst 0, 1) := by decide +kernel
theorem d_PM_cornersFault_12 : decode M_PM_cornersFault.2.1 12 = .ok (.istore_n 3, 1) := by decide +kernel
theorem d_PM_cornersFault_13 : decode M_PM_cornersFault.2.1 13 = .ok (.iconst 0, 1) := by decide +kernel
theorem d_PM_cornersFault_14 : decode M_PM_cornersFault.2.1 14 = .ok (.istore 4, 2) := by decide +kernel
theorem d_PM_cornersFault_16 : decode M_PM_cornersFault.2.1 16 = .ok (.iload 4, 2) := by decide +kernel
theorem d_PM_cornersFault_18 : decode M_PM_cornersFault.2.1 18 = .ok (.iload_n 2, 1) := by decide +kernel
theorem d_PM_cornersFault_19 : decode M_PM_cornersFault.2.1 19 = .ok (.if_icmp .ge 57, 3) := by decide +kernel
theorem d_PM_cornersFault_22 : decode M_PM_cornersFault.2.1 22 = .ok (.aload_n 1, 1) := by decide +kernel
theorem d_PM_cornersFault_23 : decode M_PM_cornersFault.2.1 23 = .ok (.getfield 136, 3) := by decide +kernel
theorem d_PM_cornersFault_26 : decode M_PM_cornersFault.2.1 26 = .ok (.iload 4, 2) := by decide +kernel
theorem d_PM_cornersFault_28 : decode M_PM_cornersFault.2.1 28 = .ok (.laload, 1) := by decide +kernel
theorem d_PM_cornersFault_29 : decode M_PM_cornersFault.2.1 29 = .ok (.lstore 5, 2) := by decide +kernel
theorem d_PM_cornersFault_31 : decode M_PM_cornersFault.2.1 31 = .ok (.lload 5, 2) := by decide +kernel
theorem d_PM_cornersFault_33 : decode M_PM_cornersFault.2.1 33 = .ok (.lconst 0, 1) := by decide +kernel
theorem d_PM_cornersFault_34 : decode M_PM_cornersFault.2.1 34 = .ok (.lcmp, 1) := by decide +kernel
theorem d_PM_cornersFault_35 : decode M_PM_cornersFault.2.1 35 = .ok (.ifCond .lt 17, 3) := by decide +kernel
theorem d_PM_cornersFault_38 : decode M_PM_cornersFault.2.1 38 = .ok (.lload 5, 2) := by decide +kernel
theorem d_PM_cornersFault_40 : decode M_PM_cornersFault.2.1 40 = .ok (.aload_n 0, 1) := by decide +kernel
theorem d_PM_cornersFault_41 : decode M_PM_cornersFault.2.1 41 = .ok (.getfield 25, 3) := by decide +kernel
theorem d_PM_cornersFault_44 : decode M_PM_cornersFault.2.1 44 = .ok (.getfield 203, 3) := by decide +kernel
theorem d_PM_cornersFault_47 : decode M_PM_cornersFault.2.1 47 = .ok (.i2l, 1) := by decide +kernel
theorem d_PM_cornersFault_48 : decode M_PM_cornersFault.2.1 48 = .ok (.lcmp, 1) := by decide +kernel
theorem d_PM_cornersFault_49 : decode M_PM_cornersFault.2.1 49 = .ok (.ifCond .lt 5, 3) := by decide +kernel
theorem d_PM_cornersFault_52 : decode M_PM_cornersFault.2.1 52 = .ok (.iconst 5, 1) := by decide +kernel
theorem d_PM_cornersFault_53 : decode M_PM_cornersFault.2.1 53 = .ok (.ireturn, 1) := by decide +kernel
theorem d_PM_cornersFault_54 : decode M_PM_cornersFault.2.1 54 = .ok (.aload_n 0, 1) := by decide +kernel
theorem d_PM_cornersFault_55 : decode M_PM_cornersFault.2.1 55 = .ok (.getfield 53, 3) := by decide +kernel
theorem d_PM_cornersFault_58 : decode M_PM_cornersFault.2.1 58 = .ok (.lload 5, 2) := by decide +kernel
theorem d_PM_cornersFault_60 : decode M_PM_cornersFault.2.1 60 = .ok (.l2i, 1) := by decide +kernel
theorem d_PM_cornersFault_61 : decode M_PM_cornersFault.2.1 61 = .ok (.invokevirtual 271, 3) := by decide +kernel
theorem d_PM_cornersFault_64 : decode M_PM_cornersFault.2.1 64 = .ok (.ifCond .ne 6, 3) := by decide +kernel
theorem d_PM_cornersFault_67 : decode M_PM_cornersFault.2.1 67 = .ok (.bipush 6, 2) := by decide +kernel
theorem d_PM_cornersFault_69 : decode M_PM_cornersFault.2.1 69 = .ok (.istore_n 3, 1) := by decide +kernel
theorem d_PM_cornersFault_70 : decode M_PM_cornersFault.2.1 70 = .ok (.iinc 4 1, 3) := by decide +kernel
theorem d_PM_cornersFault_73 : decode M_PM_cornersFault.2.1 73 = .ok (.goto (-57), 3) := by decide +kernel
theorem d_PM_cornersFault_76 : decode M_PM_cornersFault.2.1 76 = .ok (.iload_n 3, 1) := by decide +kernel
theorem d_PM_cornersFault_77 : decode M_PM_cornersFault.2.1 77 = .ok (.ireturn, 1) := by decide +kernel
theorem d_PM_twiceArea_0 : decode M_PM_twiceArea.2.1 0 = .ok (.lconst 0, 1) := by decide +kernel
theorem d_PM_twiceArea_1 : decode M_PM_twiceArea.2.1 1 = .ok (.lstore_n 3, 1) := by decide +kernel
theorem d_PM_twiceArea_2 : decode M_PM_twiceArea.2.1 2 = .ok (.iconst 0, 1) := by decide +kernel
theorem d_PM_twiceArea_3 : decode M_PM_twiceArea.2.1 3 = .ok (.istore 5, 2) := by decide +kernel
theorem d_PM_twiceArea_5 : decode M_PM_twiceArea.2.1 5 = .ok (.iload 5, 2) := by decide +kernel
theorem d_PM_twiceArea_7 : decode M_PM_twiceArea.2.1 7 = .ok (.iload_n 2, 1) := by decide +kernel
theorem d_PM_twiceArea_8 : decode M_PM_twiceArea.2.1 8 = .ok (.if_icmp .ge 93, 3) := by decide +kernel
theorem d_PM_twiceArea_11 : decode M_PM_twiceArea.2.1 11 = .ok (.aload_n 1, 1) := by decide +kernel
theorem d_PM_twiceArea_12 : decode M_PM_twiceArea.2.1 12 = .ok (.getfield 136, 3) := by decide +kernel
theorem d_PM_twiceArea_15 : decode M_PM_twiceArea.2.1 15 = .ok (.iload 5, 2) := by decide +kernel
theorem d_PM_twiceArea_17 : decode M_PM_twiceArea.2.1 17 = .ok (.laload, 1) := by decide +kernel
theorem d_PM_twiceArea_18 : decode M_PM_twiceArea.2.1 18 = .ok (.l2i, 1) := by decide +kernel
theorem d_PM_twiceArea_19 : decode M_PM_twiceArea.2.1 19 = .ok (.istore 6, 2) := by decide +kernel
theorem d_PM_twiceArea_21 : decode M_PM_twiceArea.2.1 21 = .ok (.aload_n 1, 1) := by decide +kernel
theorem d_PM_twiceArea_22 : decode M_PM_twiceArea.2.1 22 = .ok (.getfield 136, 3) := by decide +kernel
theorem d_PM_twiceArea_25 : decode M_PM_twiceArea.2.1 25 = .ok (.iload 5, 2) := by decide +kernel
theorem d_PM_twiceArea_27 : decode M_PM_twiceArea.2.1 27 = .ok (.iconst 1, 1) := by decide +kernel
theorem d_PM_twiceArea_28 : decode M_PM_twiceArea.2.1 28 = .ok (.iadd, 1) := by decide +kernel
theorem d_PM_twiceArea_29 : decode M_PM_twiceArea.2.1 29 = .ok (.iload_n 2, 1) := by decide +kernel
theorem d_PM_twiceArea_30 : decode M_PM_twiceArea.2.1 30 = .ok (.if_icmp .ge 10, 3) := by decide +kernel
theorem d_PM_twiceArea_33 : decode M_PM_twiceArea.2.1 33 = .ok (.iload 5, 2) := by decide +kernel
theorem d_PM_twiceArea_35 : decode M_PM_twiceArea.2.1 35 = .ok (.iconst 1, 1) := by decide +kernel
theorem d_PM_twiceArea_36 : decode M_PM_twiceArea.2.1 36 = .ok (.iadd, 1) := by decide +kernel
theorem d_PM_twiceArea_37 : decode M_PM_twiceArea.2.1 37 = .ok (.goto 4, 3) := by decide +kernel
theorem d_PM_twiceArea_40 : decode M_PM_twiceArea.2.1 40 = .ok (.iconst 0, 1) := by decide +kernel
theorem d_PM_twiceArea_41 : decode M_PM_twiceArea.2.1 41 = .ok (.laload, 1) := by decide +kernel
theorem d_PM_twiceArea_42 : decode M_PM_twiceArea.2.1 42 = .ok (.l2i, 1) := by decide +kernel
theorem d_PM_twiceArea_43 : decode M_PM_twiceArea.2.1 43 = .ok (.istore 7, 2) := by decide +kernel
theorem d_PM_twiceArea_45 : decode M_PM_twiceArea.2.1 45 = .ok (.lload_n 3, 1) := by decide +kernel
theorem d_PM_twiceArea_46 : decode M_PM_twiceArea.2.1 46 = .ok (.aload_n 0, 1) := by decide +kernel
theorem d_PM_twiceArea_47 : decode M_PM_twiceArea.2.1 47 = .ok (.getfield 53, 3) := by decide +kernel
theorem d_PM_twiceArea_50 : decode M_PM_twiceArea.2.1 50 = .ok (.getfield 274, 3) := by decide +kernel
theorem d_PM_twiceArea_53 : decode M_PM_twiceArea.2.1 53 = .ok (.iload 6, 2) := by decide +kernel
theorem d_PM_twiceArea_55 : decode M_PM_twiceArea.2.1 55 = .ok (.iaload, 1) := by decide +kernel
theorem d_PM_twiceArea_56 : decode M_PM_twiceArea.2.1 56 = .ok (.i2l, 1) := by decide +kernel
theorem d_PM_twiceArea_57 : decode M_PM_twiceArea.2.1 57 = .ok (.aload_n 0, 1) := by decide +kernel
theorem d_PM_twiceArea_58 : decode M_PM_twiceArea.2.1 58 = .ok (.getfield 53, 3) := by decide +kernel
theorem d_PM_twiceArea_61 : decode M_PM_twiceArea.2.1 61 = .ok (.getfield 277, 3) := by decide +kernel
theorem d_PM_twiceArea_64 : decode M_PM_twiceArea.2.1 64 = .ok (.iload 7, 2) := by decide +kernel
theorem d_PM_twiceArea_66 : decode M_PM_twiceArea.2.1 66 = .ok (.iaload, 1) := by decide +kernel
theorem d_PM_twiceArea_67 : decode M_PM_twiceArea.2.1 67 = .ok (.i2l, 1) := by decide +kernel
theorem d_PM_twiceArea_68 : decode M_PM_twiceArea.2.1 68 = .ok (.lmul, 1) := by decide +kernel
theorem d_PM_twiceArea_69 : decode M_PM_twiceArea.2.1 69 = .ok (.aload_n 0, 1) := by decide +kernel
theorem d_PM_twiceArea_70 : decode M_PM_twiceArea.2.1 70 = .ok (.getfield 53, 3) := by decide +kernel
theorem d_PM_twiceArea_73 : decode M_PM_twiceArea.2.1 73 = .ok (.getfield 277, 3) := by decide +kernel
theorem d_PM_twiceArea_76 : decode M_PM_twiceArea.2.1 76 = .ok (.iload 6, 2) := by decide +kernel
theorem d_PM_twiceArea_78 : decode M_PM_twiceArea.2.1 78 = .ok (.iaload, 1) := by decide +kernel
theorem d_PM_twiceArea_79 : decode M_PM_twiceArea.2.1 79 = .ok (.i2l, 1) := by decide +kernel
theorem d_PM_twiceArea_80 : decode M_PM_twiceArea.2.1 80 = .ok (.aload_n 0, 1) := by decide +kernel
theorem d_PM_twiceArea_81 : decode M_PM_twiceArea.2.1 81 = .ok (.getfield 53, 3) := by decide +kernel
theorem d_PM_twiceArea_84 : decode M_PM_twiceArea.2.1 84 = .ok (.getfield 274, 3) := by decide +kernel
theorem d_PM_twiceArea_87 : decode M_PM_twiceArea.2.1 87 = .ok (.iload 7, 2) := by decide +kernel
theorem d_PM_twiceArea_89 : decode M_PM_twiceArea.2.1 89 = .ok (.iaload, 1) := by decide +kernel
theorem d_PM_twiceArea_90 : decode M_PM_twiceArea.2.1 90 = .ok (.i2l, 1) := by decide +kernel
theorem d_PM_twiceArea_91 : decode M_PM_twiceArea.2.1 91 = .ok (.lmul, 1) := by decide +kernel
theorem d_PM_twiceArea_92 : decode M_PM_twiceArea.2.1 92 = .ok (.lsub, 1) := by decide +kernel
theorem d_PM_twiceArea_93 : decode M_PM_twiceArea.2.1 93 = .ok (.ladd, 1) := by decide +kernel
theorem d_PM_twiceArea_94 : decode M_PM_twiceArea.2.1 94 = .ok (.lstore_n 3, 1) := by decide +kernel
theorem d_PM_twiceArea_95 : decode M_PM_twiceArea.2.1 95 = .ok (.iinc 5 1, 3) := by decide +kernel
theorem d_PM_twiceArea_98 : decode M_PM_twiceArea.2.1 98 = .ok (.goto (-93), 3) := by decide +kernel
theorem d_PM_twiceArea_101 : decode M_PM_twiceArea.2.1 101 = .ok (.lload_n 3, 1) := by decide +kernel
theorem d_PM_twiceArea_102 : decode M_PM_twiceArea.2.1 102 = .ok (.lreturn, 1) := by decide +kernel
theorem d_PM_choose_0 : decode M_PM_choose.2.1 0 = .ok (.lconst 1, 1) := by decide +kernel
theorem d_PM_choose_1 : decode M_PM_choose.2.1 1 = .ok (.lstore_n 2, 1) := by decide +kernel
theorem d_PM_choose_2 : decode M_PM_choose.2.1 2 = .ok (.iconst 1, 1) := by decide +kernel
theorem d_PM_choose_3 : decode M_PM_choose.2.1 3 = .ok (.istore 4, 2) := by decide +kernel
theorem d_PM_choose_5 : decode M_PM_choose.2.1 5 = .ok (.iload 4, 2) := by decide +kernel
theorem d_PM_choose_7 : decode M_PM_choose.2.1 7 = .ok (.iload_n 1, 1) := by decide +kernel
theorem d_PM_choose_8 : decode M_PM_choose.2.1 8 = .ok (.if_icmp .gt 23, 3) := by decide +kernel
theorem d_PM_choose_11 : decode M_PM_choose.2.1 11 = .ok (.lload_n 2, 1) := by decide +kernel
theorem d_PM_choose_12 : decode M_PM_choose.2.1 12 = .ok (.iload_n 0, 1) := by decide +kernel
theorem d_PM_choose_13 : decode M_PM_choose.2.1 13 = .ok (.iload_n 1, 1) := by decide +kernel
theorem d_PM_choose_14 : decode M_PM_choose.2.1 14 = .ok (.isub, 1) := by decide +kernel
theorem d_PM_choose_15 : decode M_PM_choose.2.1 15 = .ok (.iload 4, 2) := by decide +kernel
theorem d_PM_choose_17 : decode M_PM_choose.2.1 17 = .ok (.iadd, 1) := by decide +kernel
theorem d_PM_choose_18 : decode M_PM_choose.2.1 18 = .ok (.i2l, 1) := by decide +kernel
theorem d_PM_choose_19 : decode M_PM_choose.2.1 19 = .ok (.lmul, 1) := by decide +kernel
theorem d_PM_choose_20 : decode M_PM_choose.2.1 20 = .ok (.iload 4, 2) := by decide +kernel
theorem d_PM_choose_22 : decode M_PM_choose.2.1 22 = .ok (.i2l, 1) := by decide +kernel
theorem d_PM_choose_23 : decode M_PM_choose.2.1 23 = .ok (.ldiv, 1) := by decide +kernel
theorem d_PM_choose_24 : decode M_PM_choose.2.1 24 = .ok (.lstore_n 2, 1) := by decide +kernel
theorem d_PM_choose_25 : decode M_PM_choose.2.1 25 = .ok (.iinc 4 1, 3) := by decide +kernel
theorem d_PM_choose_28 : decode M_PM_choose.2.1 28 = .ok (.goto (-23), 3) := by decide +kernel
theorem d_PM_choose_31 : decode M_PM_choose.2.1 31 = .ok (.lload_n 2, 1) := by decide +kernel
theorem d_PM_choose_32 : decode M_PM_choose.2.1 32 = .ok (.lreturn, 1) := by decide +kernel
theorem d_PM_power_0 : decode M_PM_power.2.1 0 = .ok (.lconst 1, 1) := by decide +kernel
theorem d_PM_power_1 : decode M_PM_power.2.1 1 = .ok (.lstore_n 2, 1) := by decide +kernel
theorem d_PM_power_2 : decode M_PM_power.2.1 2 = .ok (.iconst 0, 1) := by decide +kernel
theorem d_PM_power_3 : decode M_PM_power.2.1 3 = .ok (.istore 4, 2) := by decide +kernel
theorem d_PM_power_5 : decode M_PM_power.2.1 5 = .ok (.iload 4, 2) := by decide +kernel
theorem d_PM_power_7 : decode M_PM_power.2.1 7 = .ok (.iload_n 1, 1) := by decide +kernel
theorem d_PM_power_8 : decode M_PM_power.2.1 8 = .ok (.if_icmp .ge 14, 3) := by decide +kernel
theorem d_PM_power_11 : decode M_PM_power.2.1 11 = .ok (.lload_n 2, 1) := by decide +kernel
theorem d_PM_power_12 : decode M_PM_power.2.1 12 = .ok (.iload_n 0, 1) := by decide +kernel
theorem d_PM_power_13 : decode M_PM_power.2.1 13 = .ok (.i2l, 1) := by decide +kernel
theorem d_PM_power_14 : decode M_PM_power.2.1 14 = .ok (.lmul, 1) := by decide +kernel
theorem d_PM_power_15 : decode M_PM_power.2.1 15 = .ok (.lstore_n 2, 1) := by decide +kernel
theorem d_PM_power_16 : decode M_PM_power.2.1 16 = .ok (.iinc 4 1, 3) := by decide +kernel
theorem d_PM_power_19 : decode M_PM_power.2.1 19 = .ok (.goto (-14), 3) := by decide +kernel
theorem d_PM_power_22 : decode M_PM_power.2.1 22 = .ok (.lload_n 2, 1) := by decide +kernel
theorem d_PM_power_23 : decode M_PM_power.2.1 23 = .ok (.lreturn, 1) := by decide +kernel
theorem d_Mo_init_0 : decode M_Mo_init.2.1 0 = .ok (.aload_n 0, 1) := by decide +kernel
theorem d_Mo_init_1 : decode M_Mo_init.2.1 1 = .ok (.invokespecial 1, 3) := by decide +kernel
theorem d_Mo_init_4 : decode M_Mo_init.2.1 4 = .ok (.aload_n 0, 1) := by decide +kernel
theorem d_Mo_init_5 : decode M_Mo_init.2.1 5 = .ok (.sipush 2332, 3) := by decide +kernel
theorem d_Mo_init_8 : decode M_Mo_init.2.1 8 = .ok (.newarray .int, 2) := by decide +kernel
theorem d_Mo_init_10 : decode M_Mo_init.2.1 10 = .ok (.putfield 7, 3) := by decide +kernel
theorem d_Mo_init_13 : decode M_Mo_init.2.1 13 = .ok (.aload_n 0, 1) := by decide +kernel
theorem d_Mo_init_14 : decode M_Mo_init.2.1 14 = .ok (.bipush 66, 2) := by decide +kernel
theorem d_Mo_init_16 : decode M_Mo_init.2.1 16 = .ok (.newarray .long, 2) := by decide +kernel
theorem d_Mo_init_18 : decode M_Mo_init.2.1 18 = .ok (.putfield 13, 3) := by decide +kernel
theorem d_Mo_init_21 : decode M_Mo_init.2.1 21 = .ok (.aload_n 0, 1) := by decide +kernel
theorem d_Mo_init_22 : decode M_Mo_init.2.1 22 = .ok (.lconst 1, 1) := by decide +kernel
theorem d_Mo_init_23 : decode M_Mo_init.2.1 23 = .ok (.putfield 17, 3) := by decide +kernel
theorem d_Mo_init_26 : decode M_Mo_init.2.1 26 = .ok (.aload_n 0, 1) := by decide +kernel
theorem d_Mo_init_27 : decode M_Mo_init.2.1 27 = .ok (.iconst 4, 1) := by decide +kernel
theorem d_Mo_init_28 : decode M_Mo_init.2.1 28 = .ok (.newarray .int, 2) := by decide +kernel
theorem d_Mo_init_30 : decode M_Mo_init.2.1 30 = .ok (.putfield 21, 3) := by decide +kernel
theorem d_Mo_init_33 : decode M_Mo_init.2.1 33 = .ok (.aload_n 0, 1) := by decide +kernel
theorem d_Mo_init_34 : decode M_Mo_init.2.1 34 = .ok (.iconst 4, 1) := by decide +kernel
theorem d_Mo_init_35 : decode M_Mo_init.2.1 35 = .ok (.newarray .int, 2) := by decide +kernel
theorem d_Mo_init_37 : decode M_Mo_init.2.1 37 = .ok (.dup, 1) := by decide +kernel
theorem d_Mo_init_38 : decode M_Mo_init.2.1 38 = .ok (.iconst 0, 1) := by decide +kernel
theorem d_Mo_init_39 : decode M_Mo_init.2.1 39 = .ok (.iconst (-1), 1) := by decide +kernel
theorem d_Mo_init_40 : decode M_Mo_init.2.1 40 = .ok (.iastore, 1) := by decide +kernel
theorem d_Mo_init_41 : decode M_Mo_init.2.1 41 = .ok (.dup, 1) := by decide +kernel
theorem d_Mo_init_42 : decode M_Mo_init.2.1 42 = .ok (.iconst 1, 1) := by decide +kernel
theorem d_Mo_init_43 : decode M_Mo_init.2.1 43 = .ok (.iconst (-1), 1) := by decide +kernel
theorem d_Mo_init_44 : decode M_Mo_init.2.1 44 = .ok (.iastore, 1) := by decide +kernel
theorem d_Mo_init_45 : decode M_Mo_init.2.1 45 = .ok (.dup, 1) := by decide +kernel
theorem d_Mo_init_46 : decode M_Mo_init.2.1 46 = .ok (.iconst 2, 1) := by decide +kernel
theorem d_Mo_init_47 : decode M_Mo_init.2.1 47 = .ok (.iconst (-1), 1) := by decide +kernel
theorem d_Mo_init_48 : decode M_Mo_init.2.1 48 = .ok (.iastore, 1) := by decide +kernel
theorem d_Mo_init_49 : decode M_Mo_init.2.1 49 = .ok (.dup, 1) := by decide +kernel
theorem d_Mo_init_50 : decode M_Mo_init.2.1 50 = .ok (.iconst 3, 1) := by decide +kernel
theorem d_Mo_init_51 : decode M_Mo_init.2.1 51 = .ok (.iconst (-1), 1) := by decide +kernel
theorem d_Mo_init_52 : decode M_Mo_init.2.1 52 = .ok (.iastore, 1) := by decide +kernel
theorem d_Mo_init_53 : decode M_Mo_init.2.1 53 = .ok (.putfield 24, 3) := by decide +kernel
theorem d_Mo_init_56 : decode M_Mo_init.2.1 56 = .ok (.aload_n 0, 1) := by decide +kernel
theorem d_Mo_init_57 : decode M_Mo_init.2.1 57 = .ok (.sipush 240, 3) := by decide +kernel
theorem d_Mo_init_60 : decode M_Mo_init.2.1 60 = .ok (.newarray .long, 2) := by decide +kernel
theorem d_Mo_init_62 : decode M_Mo_init.2.1 62 = .ok (.putfield 27, 3) := by decide +kernel
theorem d_Mo_init_65 : decode M_Mo_init.2.1 65 = .ok (.aload_n 0, 1) := by decide +kernel
theorem d_Mo_init_66 : decode M_Mo_init.2.1 66 = .ok (.sipush 900, 3) := by decide +kernel
theorem d_Mo_init_69 : decode M_Mo_init.2.1 69 = .ok (.newarray .byte, 2) := by decide +kernel
theorem d_Mo_init_71 : decode M_Mo_init.2.1 71 = .ok (.putfield 30, 3) := by decide +kernel
theorem d_Mo_init_74 : decode M_Mo_init.2.1 74 = .ok (.aload_n 0, 1) := by decide +kernel
theorem d_Mo_init_75 : decode M_Mo_init.2.1 75 = .ok (.sipush 900, 3) := by decide +kernel
theorem d_Mo_init_78 : decode M_Mo_init.2.1 78 = .ok (.newarray .byte, 2) := by decide +kernel
theorem d_Mo_init_80 : decode M_Mo_init.2.1 80 = .ok (.putfield 34, 3) := by decide +kernel
theorem d_Mo_init_83 : decode M_Mo_init.2.1 83 = .ok (.aload_n 0, 1) := by decide +kernel
theorem d_Mo_init_84 : decode M_Mo_init.2.1 84 = .ok (.iconst (-1), 1) := by decide +kernel
theorem d_Mo_init_85 : decode M_Mo_init.2.1 85 = .ok (.putfield 37, 3) := by decide +kernel
theorem d_Mo_init_88 : decode M_Mo_init.2.1 88 = .ok (.aload_n 0, 1) := by decide +kernel
theorem d_Mo_init_89 : decode M_Mo_init.2.1 89 = .ok (.iconst (-1), 1) := by decide +kernel
theorem d_Mo_init_90 : decode M_Mo_init.2.1 90 = .ok (.putfield 41, 3) := by decide +kernel
theorem d_Mo_init_93 : decode M_Mo_init.2.1 93 = .ok (.aload_n 0, 1) := by decide +kernel
theorem d_Mo_init_94 : decode M_Mo_init.2.1 94 = .ok (.iconst 3, 1) := by decide +kernel
theorem d_Mo_init_95 : decode M_Mo_init.2.1 95 = .ok (.newarray .int, 2) := by decide +kernel
theorem d_Mo_init_97 : decode M_Mo_init.2.1 97 = .ok (.putfield 44, 3) := by decide +kernel
theorem d_Mo_init_100 : decode M_Mo_init.2.1 100 = .ok (.aload_n 0, 1) := by decide +kernel
theorem d_Mo_init_101 : decode M_Mo_init.2.1 101 = .ok (.bipush 7, 2) := by decide +kernel
theorem d_Mo_init_103 : decode M_Mo_init.2.1 103 = .ok (.newarray .int, 2) := by decide +kernel
theorem d_Mo_init_105 : decode M_Mo_init.2.1 105 = .ok (.putfield 47, 3) := by decide +kernel
theorem d_Mo_init_108 : decode M_Mo_init.2.1 108 = .ok (.aload_n 0, 1) := by decide +kernel
theorem d_Mo_init_109 : decode M_Mo_init.2.1 109 = .ok (.bipush 7, 2) := by decide +kernel
theorem d_Mo_init_111 : decode M_Mo_init.2.1 111 = .ok (.newarray .int, 2) := by decide +kernel
theorem d_Mo_init_113 : decode M_Mo_init.2.1 113 = .ok (.putfield 50, 3) := by decide +kernel
theorem d_Mo_init_116 : decode M_Mo_init.2.1 116 = .ok (.aload_n 0, 1) := by decide +kernel
theorem d_Mo_init_117 : decode M_Mo_init.2.1 117 = .ok (.bipush 7, 2) := by decide +kernel
theorem d_Mo_init_119 : decode M_Mo_init.2.1 119 = .ok (.newarray .int, 2) := by decide +kernel
theorem d_Mo_init_121 : decode M_Mo_init.2.1 121 = .ok (.putfield 53, 3) := by decide +kernel
theorem d_Mo_init_124 : decode M_Mo_init.2.1 124 = .ok (.aload_n 0, 1) := by decide +kernel
theorem d_Mo_init_125 : decode M_Mo_init.2.1 125 = .ok (.sipush 576, 3) := by decide +kernel
theorem d_Mo_init_128 : decode M_Mo_init.2.1 128 = .ok (.newarray .int, 2) := by decide +kernel
theorem d_Mo_init_130 : decode M_Mo_init.2.1 130 = .ok (.putfield 56, 3) := by decide +kernel
theorem d_Mo_init_133 : decode M_Mo_init.2.1 133 = .ok (.aload_n 0, 1) := by decide +kernel
theorem d_Mo_init_134 : decode M_Mo_init.2.1 134 = .ok (.sipush 4032, 3) := by decide +kernel
theorem d_Mo_init_137 : decode M_Mo_init.2.1 137 = .ok (.newarray .int, 2) := by decide +kernel
theorem d_Mo_init_139 : decode M_Mo_init.2.1 139 = .ok (.putfield 59, 3) := by decide +kernel
theorem d_Mo_init_142 : decode M_Mo_init.2.1 142 = .ok (.aload_n 0, 1) := by decide +kernel
theorem d_Mo_init_143 : decode M_Mo_init.2.1 143 = .ok (.sipush 4032, 3) := by decide +kernel
theorem d_Mo_init_146 : decode M_Mo_init.2.1 146 = .ok (.newarray .int, 2) := by decide +kernel
theorem d_Mo_init_148 : decode M_Mo_init.2.1 148 = .ok (.putfield 62, 3) := by decide +kernel
theorem d_Mo_init_151 : decode M_Mo_init.2.1 151 = .ok (.aload_n 0, 1) := by decide +kernel
theorem d_Mo_init_152 : decode M_Mo_init.2.1 152 = .ok (.iconst 4, 1) := by decide +kernel
theorem d_Mo_init_153 : decode M_Mo_init.2.1 153 = .ok (.newarray .int, 2) := by decide +kernel
theorem d_Mo_init_155 : decode M_Mo_init.2.1 155 = .ok (.putfield 65, 3) := by decide +kernel
theorem d_Mo_init_158 : decode M_Mo_init.2.1 158 = .ok (.aload_n 0, 1) := by decide +kernel
theorem d_Mo_init_159 : decode M_Mo_init.2.1 159 = .ok (.bipush 7, 2) := by decide +kernel
theorem d_Mo_init_161 : decode M_Mo_init.2.1 161 = .ok (.newarray .int, 2) := by decide +kernel
theorem d_Mo_init_163 : decode M_Mo_init.2.1 163 = .ok (.putfield 68, 3) := by decide +kernel
theorem d_Mo_init_166 : decode M_Mo_init.2.1 166 = .ok (.aload_n 0, 1) := by decide +kernel
theorem d_Mo_init_167 : decode M_Mo_init.2.1 167 = .ok (.bipush 8, 2) := by decide +kernel
theorem d_Mo_init_169 : decode M_Mo_init.2.1 169 = .ok (.newarray .int, 2) := by decide +kernel
theorem d_Mo_init_171 : decode M_Mo_init.2.1 171 = .ok (.putfield 71, 3) := by decide +kernel
theorem d_Mo_init_174 : decode M_Mo_init.2.1 174 = .ok (.aload_n 0, 1) := by decide +kernel
theorem d_Mo_init_175 : decode M_Mo_init.2.1 175 = .ok (.bipush 8, 2) := by decide +kernel
theorem d_Mo_init_177 : decode M_Mo_init.2.1 177 = .ok (.newarray .int, 2) := by decide +kernel
theorem d_Mo_init_179 : decode M_Mo_init.2.1 179 = .ok (.putfield 74, 3) := by decide +kernel
theorem d_Mo_init_182 : decode M_Mo_init.2.1 182 = .ok (.aload_n 0, 1) := by decide +kernel
theorem d_Mo_init_183 : decode M_Mo_init.2.1 183 = .ok (.iconst 5, 1) := by decide +kernel
theorem d_Mo_init_184 : decode M_Mo_init.2.1 184 = .ok (.newarray .int, 2) := by decide +kernel
theorem d_Mo_init_186 : decode M_Mo_init.2.1 186 = .ok (.putfield 77, 3) := by decide +kernel
theorem d_Mo_init_189 : decode M_Mo_init.2.1 189 = .ok (.aload_n 0, 1) := by decide +kernel
theorem d_Mo_init_190 : decode M_Mo_init.2.1 190 = .ok (.iconst 5, 1) := by decide +kernel
theorem d_Mo_init_191 : decode M_Mo_init.2.1 191 = .ok (.newarray .int, 2) := by decide +kernel
theorem d_Mo_init_193 : decode M_Mo_init.2.1 193 = .ok (.putfield 80, 3) := by decide +kernel
theorem d_Mo_init_196 : decode M_Mo_init.2.1 196 = .ok (.aload_n 0, 1) := by decide +kernel
theorem d_Mo_init_197 : decode M_Mo_init.2.1 197 = .ok (.iconst 5, 1) := by decide +kernel
theorem d_Mo_init_198 : decode M_Mo_init.2.1 198 = .ok (.newarray .int, 2) := by decide +kernel
theorem d_Mo_init_200 : decode M_Mo_init.2.1 200 = .ok (.putfield 83, 3) := by decide +kernel
theorem d_Mo_init_203 : decode M_Mo_init.2.1 203 = .ok (.aload_n 0, 1) := by decide +kernel
theorem d_Mo_init_204 : decode M_Mo_init.2.1 204 = .ok (.iconst 5, 1) := by decide +kernel
theorem d_Mo_init_205 : decode M_Mo_init.2.1 205 = .ok (.newarray .int, 2) := by decide +kernel
theorem d_Mo_init_207 : decode M_Mo_init.2.1 207 = .ok (.putfield 86, 3) := by decide +kernel
theorem d_Mo_init_210 : decode M_Mo_init.2.1 210 = .ok (.aload_n 0, 1) := by decide +kernel
theorem d_Mo_init_211 : decode M_Mo_init.2.1 211 = .ok (.bipush 13, 2) := by decide +kernel
theorem d_Mo_init_213 : decode M_Mo_init.2.1 213 = .ok (.newarray .long, 2) := by decide +kernel
theorem d_Mo_init_215 : decode M_Mo_init.2.1 215 = .ok (.putfield 89, 3) := by decide +kernel
theorem d_Mo_init_218 : decode M_Mo_init.2.1 218 = .ok (.aload_n 0, 1) := by decide +kernel
theorem d_Mo_init_219 : decode M_Mo_init.2.1 219 = .ok (.bipush 80, 2) := by decide +kernel
theorem d_Mo_init_221 : decode M_Mo_init.2.1 221 = .ok (.newarray .int, 2) := by decide +kernel
theorem d_Mo_init_223 : decode M_Mo_init.2.1 223 = .ok (.putfield 92, 3) := by decide +kernel
theorem d_Mo_init_226 : decode M_Mo_init.2.1 226 = .ok (.aload_n 0, 1) := by decide +kernel
theorem d_Mo_init_227 : decode M_Mo_init.2.1 227 = .ok (.iconst 5, 1) := by decide +kernel
theorem d_Mo_init_228 : decode M_Mo_init.2.1 228 = .ok (.newarray .int, 2) := by decide +kernel
theorem d_Mo_init_230 : decode M_Mo_init.2.1 230 = .ok (.putfield 95, 3) := by decide +kernel
theorem d_Mo_init_233 : decode M_Mo_init.2.1 233 = .ok (.aload_n 0, 1) := by decide +kernel
theorem d_Mo_init_234 : decode M_Mo_init.2.1 234 = .ok (.iconst 5, 1) := by decide +kernel
theorem d_Mo_init_235 : decode M_Mo_init.2.1 235 = .ok (.newarray .int, 2) := by decide +kernel
theorem d_Mo_init_237 : decode M_Mo_init.2.1 237 = .ok (.putfield 98, 3) := by decide +kernel
theorem d_Mo_init_240 : decode M_Mo_init.2.1 240 = .ok (.aload_n 0, 1) := by decide +kernel
theorem d_Mo_init_241 : decode M_Mo_init.2.1 241 = .ok (.iconst 0, 1) := by decide +kernel
theorem d_Mo_init_242 : decode M_Mo_init.2.1 242 = .ok (.invokevirtual 101, 3) := by decide +kernel
theorem d_Mo_init_245 : decode M_Mo_init.2.1 245 = .ok (.return_, 1) := by decide +kernel
theorem d_Mo_plain_0 : decode M_Mo_plain.2.1 0 = .ok (.iconst 0, 1) := by decide +kernel
theorem d_Mo_plain_1 : decode M_Mo_plain.2.1 1 = .ok (.istore_n 2, 1) := by decide +kernel
theorem d_Mo_plain_2 : decode M_Mo_plain.2.1 2 = .ok (.iload_n 2, 1) := by decide +kernel
theorem d_Mo_plain_3 : decode M_Mo_plain.2.1 3 = .ok (.sipush 450, 3) := by decide +kernel
theorem d_Mo_plain_6 : decode M_Mo_plain.2.1 6 = .ok (.if_icmp .ge 18, 3) := by decide +kernel
theorem d_Mo_plain_9 : decode M_Mo_plain.2.1 9 = .ok (.aload_n 0, 1) := by decide +kernel
theorem d_Mo_plain_10 : decode M_Mo_plain.2.1 10 = .ok (.getfield 7, 3) := by decide +kernel
theorem d_Mo_plain_13 : decode M_Mo_plain.2.1 13 = .ok (.iload_n 1, 1) := by decide +kernel
theorem d_Mo_plain_14 : decode M_Mo_plain.2.1 14 = .ok (.iload_n 2, 1) := by decide +kernel
theorem d_Mo_plain_15 : decode M_Mo_plain.2.1 15 = .ok (.iadd, 1) := by decide +kernel
theorem d_Mo_plain_16 : decode M_Mo_plain.2.1 16 = .ok (.iconst 0, 1) := by decide +kernel
theorem d_Mo_plain_17 : decode M_Mo_plain.2.1 17 = .ok (.iastore, 1) := by decide +kernel
theorem d_Mo_plain_18 : decode M_Mo_plain.2.1 18 = .ok (.iinc 2 1, 3) := by decide +kernel
theorem d_Mo_plain_21 : decode M_Mo_plain.2.1 21 = .ok (.goto (-19), 3) := by decide +kernel
theorem d_Mo_plain_24 : decode M_Mo_plain.2.1 24 = .ok (.aload_n 0, 1) := by decide +kernel
theorem d_Mo_plain_25 : decode M_Mo_plain.2.1 25 = .ok (.getfield 7, 3) := by decide +kernel
theorem d_Mo_plain_28 : decode M_Mo_plain.2.1 28 = .ok (.iload_n 1, 1) := by decide +kernel
theorem d_Mo_plain_29 : decode M_Mo_plain.2.1 29 = .ok (.iconst 3, 1) := by decide +kernel
theorem d_Mo_plain_30 : decode M_Mo_plain.2.1 30 = .ok (.iadd, 1) := by decide +kernel
theorem d_Mo_plain_31 : decode M_Mo_plain.2.1 31 = .ok (.iconst 2, 1) := by decide +kernel
theorem d_Mo_plain_32 : decode M_Mo_plain.2.1 32 = .ok (.iastore, 1) := by decide +kernel
theorem d_Mo_plain_33 : decode M_Mo_plain.2.1 33 = .ok (.aload_n 0, 1) := by decide +kernel
theorem d_Mo_plain_34 : decode M_Mo_plain.2.1 34 = .ok (.getfield 7, 3) := by decide +kernel
theorem d_Mo_plain_37 : decode M_Mo_plain.2.1 37 = .ok (.iload_n 1, 1) := by decide +kernel
theorem d_Mo_plain_38 : decode M_Mo_plain.2.1 38 = .ok (.iconst 4, 1) := by decide +kernel
theorem d_Mo_plain_39 : decode M_Mo_plain.2.1 39 = .ok (.iadd, 1) := by decide +kernel
theorem d_Mo_plain_40 : decode M_Mo_plain.2.1 40 = .ok (.iconst (-1), 1) := by decide +kernel
theorem d_Mo_plain_41 : decode M_Mo_plain.2.1 41 = .ok (.iastore, 1) := by decide +kernel
theorem d_Mo_plain_42 : decode M_Mo_plain.2.1 42 = .ok (.aload_n 0, 1) := by decide +kernel
theorem d_Mo_plain_43 : decode M_Mo_plain.2.1 43 = .ok (.getfield 7, 3) := by decide +kernel
theorem d_Mo_plain_46 : decode M_Mo_plain.2.1 46 = .ok (.iload_n 1, 1) := by decide +kernel
theorem d_Mo_plain_47 : decode M_Mo_plain.2.1 47 = .ok (.bipush 7, 2) := by decide +kernel
theorem d_Mo_plain_49 : decode M_Mo_plain.2.1 49 = .ok (.iadd, 1) := by decide +kernel
theorem d_Mo_plain_50 : decode M_Mo_plain.2.1 50 = .ok (.iconst (-1), 1) := by decide +kernel
theorem d_Mo_plain_51 : decode M_Mo_plain.2.1 51 = .ok (.iastore, 1) := by decide +kernel
theorem d_Mo_plain_52 : decode M_Mo_plain.2.1 52 = .ok (.return_, 1) := by decide +kernel
theorem d_Mo_status_0 : decode M_Mo_status.2.1 0 = .ok (.aload_n 0, 1) := by decide +kernel
theorem d_Mo_status_1 : decode M_Mo_status.2.1 1 = .ok (.getfield 105, 3) := by decide +kernel
theorem d_Mo_status_4 : decode M_Mo_status.2.1 4 = .ok (.ireturn, 1) := by decide +kernel
theorem d_Mo_top_0 : decode M_Mo_top.2.1 0 = .ok (.aload_n 0, 1) := by decide +kernel
theorem d_Mo_top_1 : decode M_Mo_top.2.1 1 = .ok (.getfield 108, 3) := by decide +kernel
theorem d_Mo_top_4 : decode M_Mo_top.2.1 4 = .ok (.lreturn, 1) := by decide +kernel
theorem d_Mo_bottom_0 : decode M_Mo_bottom.2.1 0 = .ok (.aload_n 0, 1) := by decide +kernel
theorem d_Mo_bottom_1 : decode M_Mo_bottom.2.1 1 = .ok (.getfield 17, 3) := by decide +kernel
theorem d_Mo_bottom_4 : decode M_Mo_bottom.2.1 4 = .ok (.lreturn, 1) := by decide +kernel
theorem d_Mo_is_0 : decode M_Mo_is.2.1 0 = .ok (.aload_n 0, 1) := by decide +kernel
theorem d_Mo_is_1 : decode M_Mo_is.2.1 1 = .ok (.iload_n 1, 1) := by decide +kernel
theorem d_Mo_is_2 : decode M_Mo_is.2.1 2 = .ok (.putfield 105, 3) := by decide +kernel
theorem d_Mo_is_5 : decode M_Mo_is.2.1 5 = .ok (.iload_n 1, 1) := by decide +kernel
theorem d_Mo_is_6 : decode M_Mo_is.2.1 6 = .ok (.ifCond .ne 7, 3) := by decide +kernel
theorem d_Mo_is_9 : decode M_Mo_is.2.1 9 = .ok (.iconst 1, 1) := by decide +kernel
theorem d_Mo_is_10 : decode M_Mo_is.2.1 10 = .ok (.goto 4, 3) := by decide +kernel
theorem d_Mo_is_13 : decode M_Mo_is.2.1 13 = .ok (.iconst 0, 1) := by decide +kernel
theorem d_Mo_is_14 : decode M_Mo_is.2.1 14 = .ok (.ireturn, 1) := by decide +kernel
theorem d_Mo_refuse_0 : decode M_Mo_refuse.2.1 0 = .ok (.aload_n 0, 1) := by decide +kernel
theorem d_Mo_refuse_1 : decode M_Mo_refuse.2.1 1 = .ok (.iload_n 1, 1) := by decide +kernel
theorem d_Mo_refuse_2 : decode M_Mo_refuse.2.1 2 = .ok (.putfield 105, 3) := by decide +kernel
theorem d_Mo_refuse_5 : decode M_Mo_refuse.2.1 5 = .ok (.iconst (-1), 1) := by decide +kernel
theorem d_Mo_refuse_6 : decode M_Mo_refuse.2.1 6 = .ok (.ireturn, 1) := by decide +kernel
theorem d_Mo_gives_0 : decode M_Mo_gives.2.1 0 = .ok (.aload_n 0, 1) := by decide +kernel
theorem d_Mo_gives_1 : decode M_Mo_gives.2.1 1 = .ok (.iconst 0, 1) := by decide +kernel
theorem d_Mo_gives_2 : decode M_Mo_gives.2.1 2 = .ok (.putfield 105, 3) := by decide +kernel
theorem d_Mo_gives_5 : decode M_Mo_gives.2.1 5 = .ok (.iload_n 1, 1) := by decide +kernel
theorem d_Mo_gives_6 : decode M_Mo_gives.2.1 6 = .ok (.ireturn, 1) := by decide +kernel
theorem d_Mo_orNone_0 : decode M_Mo_orNone.2.1 0 = .ok (.iload_n 1, 1) := by decide +kernel
theorem d_Mo_orNone_1 : decode M_Mo_orNone.2.1 1 = .ok (.iconst (-1), 1) := by decide +kernel
theorem d_Mo_orNone_2 : decode M_Mo_orNone.2.1 2 = .ok (.if_icmp .ne 10, 3) := by decide +kernel
theorem d_Mo_orNone_5 : decode M_Mo_orNone.2.1 5 = .ok (.aload_n 0, 1) := by decide +kernel
theorem d_Mo_orNone_6 : decode M_Mo_orNone.2.1 6 = .ok (.bipush 6, 2) := by decide +kernel
theorem d_Mo_orNone_8 : decode M_Mo_orNone.2.1 8 = .ok (.invokevirtual 111, 3) := by decide +kernel
theorem d_Mo_orNone_11 : decode M_Mo_orNone.2.1 11 = .ok (.ireturn, 1) := by decide +kernel
theorem d_Mo_orNone_12 : decode M_Mo_orNone.2.1 12 = .ok (.aload_n 0, 1) := by decide +kernel
theorem d_Mo_orNone_13 : decode M_Mo_orNone.2.1 13 = .ok (.iload_n 1, 1) := by decide +kernel
theorem d_Mo_orNone_14 : decode M_Mo_orNone.2.1 14 = .ok (.invokevirtual 115, 3) := by decide +kernel
theorem d_Mo_orNone_17 : decode M_Mo_orNone.2.1 17 = .ok (.ireturn, 1) := by decide +kernel
theorem d_Mo_tellsBy_0 : decode M_Mo_tellsBy.2.1 0 = .ok (.lload_n 1, 1) := by decide +kernel
theorem d_Mo_tellsBy_1 : decode M_Mo_tellsBy.2.1 1 = .ok (.lstore 5, 2) := by decide +kernel
theorem d_Mo_tellsBy_3 : decode M_Mo_tellsBy.2.1 3 = .ok (.lload_n 3, 1) := by decide +kernel
theorem d_Mo_tellsBy_4 : decode M_Mo_tellsBy.2.1 4 = .ok (.lstore 7, 2) := by decide +kernel
theorem d_Mo_tellsBy_6 : decode M_Mo_tellsBy.2.1 6 = .ok (.lload 7, 2) := by decide +kernel
theorem d_Mo_tellsBy_8 : decode M_Mo_tellsBy.2.1 8 = .ok (.lconst 0, 1) := by decide +kernel
theorem d_Mo_tellsBy_9 : decode M_Mo_tellsBy.2.1 9 = .ok (.lcmp, 1) := by decide +kernel
theorem d_Mo_tellsBy_10 : decode M_Mo_tellsBy.2.1 10 = .ok (.ifCond .eq 21, 3) := by decide +kernel
theorem d_Mo_tellsBy_13 : decode M_Mo_tellsBy.2.1 13 = .ok (.lload 5, 2) := by decide +kernel
theorem d_Mo_tellsBy_15 : decode M_Mo_tellsBy.2.1 15 = .ok (.lload 7, 2) := by decide +kernel
theorem d_Mo_tellsBy_17 : decode M_Mo_tellsBy.2.1 17 = .ok (.lrem, 1) := by decide +kernel
theorem d_Mo_tellsBy_18 : decode M_Mo_tellsBy.2.1 18 = .ok (.lstore 9, 2) := by decide +kernel
theorem d_Mo_tellsBy_20 : decode M_Mo_tellsBy.2.1 20 = .ok (.lload 7, 2) := by decide +kernel
theorem d_Mo_tellsBy_22 : decode M_Mo_tellsBy.2.1 22 = .ok (.lstore 5, 2) := by decide +kernel
theorem d_Mo_tellsBy_24 : decode M_Mo_tellsBy.2.1 24 = .ok (.lload 9, 2) := by decide +kernel
theorem d_Mo_tellsBy_26 : decode M_Mo_tellsBy.2.1 26 = .ok (.lstore 7, 2) := by decide +kernel
theorem d_Mo_tellsBy_28 : decode M_Mo_tellsBy.2.1 28 = .ok (.goto (-22), 3) := by decide +kernel
theorem d_Mo_tellsBy_31 : decode M_Mo_tellsBy.2.1 31 = .ok (.aload_n 0, 1) := by decide +kernel
theorem d_Mo_tellsBy_32 : decode M_Mo_tellsBy.2.1 32 = .ok (.lload_n 1, 1) := by decide +kernel
theorem d_Mo_tellsBy_33 : decode M_Mo_tellsBy.2.1 33 = .ok (.lload 5, 2) := by decide +kernel
theorem d_Mo_tellsBy_35 : decode M_Mo_tellsBy.2.1 35 = .ok (.ldiv, 1) := by decide +kernel
theorem d_Mo_tellsBy_36 : decode M_Mo_tellsBy.2.1 36 = .ok (.putfield 108, 3) := by decide +kernel
theorem d_Mo_tellsBy_39 : decode M_Mo_tellsBy.2.1 39 = .ok (.aload_n 0, 1) := by decide +kernel
theorem d_Mo_tellsBy_40 : decode M_Mo_tellsBy.2.1 40 = .ok (.lload_n 3, 1) := by decide +kernel
theorem d_Mo_tellsBy_41 : decode M_Mo_tellsBy.2.1 41 = .ok (.lload 5, 2) := by decide +kernel
theorem d_Mo_tellsBy_43 : decode M_Mo_tellsBy.2.1 43 = .ok (.ldiv, 1) := by decide +kernel
theorem d_Mo_tellsBy_44 : decode M_Mo_tellsBy.2.1 44 = .ok (.putfield 17, 3) := by decide +kernel
theorem d_Mo_tellsBy_47 : decode M_Mo_tellsBy.2.1 47 = .ok (.aload_n 0, 1) := by decide +kernel
theorem d_Mo_tellsBy_48 : decode M_Mo_tellsBy.2.1 48 = .ok (.iconst 0, 1) := by decide +kernel
theorem d_Mo_tellsBy_49 : decode M_Mo_tellsBy.2.1 49 = .ok (.invokevirtual 118, 3) := by decide +kernel
theorem d_Mo_tellsBy_52 : decode M_Mo_tellsBy.2.1 52 = .ok (.ireturn, 1) := by decide +kernel
theorem d_Mo_isTray_0 : decode M_Mo_isTray.2.1 0 = .ok (.iload_n 0, 1) := by decide +kernel
theorem d_Mo_isTray_1 : decode M_Mo_isTray.2.1 1 = .ok (.ifCond .lt 12, 3) := by decide +kernel
theorem d_Mo_isTray_4 : decode M_Mo_isTray.2.1 4 = .ok (.iload_n 0, 1) := by decide +kernel
theorem d_Mo_isTray_5 : decode M_Mo_isTray.2.1 5 = .ok (.iconst 4, 1) := by decide +kernel
theorem d_Mo_isTray_6 : decode M_Mo_isTray.2.1 6 = .ok (.if_icmp .ge 7, 3) := by decide +kernel
theorem d_Mo_isTray_9 : decode M_Mo_isTray.2.1 9 = .ok (.iconst 1, 1) := by decide +kernel
theorem d_Mo_isTray_10 : decode M_Mo_isTray.2.1 10 = .ok (.goto 4, 3) := by decide +kernel
theorem d_Mo_isTray_13 : decode M_Mo_isTray.2.1 13 = .ok (.iconst 0, 1) := by decide +kernel
theorem d_Mo_isTray_14 : decode M_Mo_isTray.2.1 14 = .ok (.ireturn, 1) := by decide +kernel
theorem d_Mo_cut_0 : decode M_Mo_cut.2.1 0 = .ok (.iload_n 2, 1) := by decide +kernel
theorem d_Mo_cut_1 : decode M_Mo_cut.2.1 1 = .ok (.ifCond .ne 10, 3) := by decide +kernel
theorem d_Mo_cut_4 : decode M_Mo_cut.2.1 4 = .ok (.lload_n 0, 1) := by decide +kernel
theorem d_Mo_cut_5 : decode M_Mo_cut.2.1 5 = .ok (.l2i, 1) := by decide +kernel
theorem d_Mo_cut_6 : decode M_Mo_cut.2.1 6 = .ok (.i2b, 1) := by decide +kernel
theorem d_Mo_cut_7 : decode M_Mo_cut.2.1 7 = .ok (.i2l, 1) := by decide +kernel
theorem d_Mo_cut_8 : decode M_Mo_cut.2.1 8 = .ok (.goto 27, 3) := by decide +kernel
theorem d_Mo_cut_11 : decode M_Mo_cut.2.1 11 = .ok (.iload_n 2, 1) := by decide +kernel
theorem d_Mo_cut_12 : decode M_Mo_cut.2.1 12 = .ok (.iconst 1, 1) := by decide +kernel
theorem d_Mo_cut_13 : decode M_Mo_cut.2.1 13 = .ok (.if_icmp .ne 10, 3) := by decide +kernel
theorem d_Mo_cut_16 : decode M_Mo_cut.2.1 16 = .ok (.lload_n 0, 1) := by decide +kernel
theorem d_Mo_cut_17 : decode M_Mo_cut.2.1 17 = .ok (.l2i, 1) := by decide +kernel
theorem d_Mo_cut_18 : decode M_Mo_cut.2.1 18 = .ok (.i2s, 1) := by decide +kernel
theorem d_Mo_cut_19 : decode M_Mo_cut.2.1 19 = .ok (.i2l, 1) := by decide +kernel
theorem d_Mo_cut_20 : decode M_Mo_cut.2.1 20 = .ok (.goto 15, 3) := by decide +kernel
theorem d_Mo_cut_23 : decode M_Mo_cut.2.1 23 = .ok (.iload_n 2, 1) := by decide +kernel
theorem d_Mo_cut_24 : decode M_Mo_cut.2.1 24 = .ok (.iconst 2, 1) := by decide +kernel
theorem d_Mo_cut_25 : decode M_Mo_cut.2.1 25 = .ok (.if_icmp .ne 9, 3) := by decide +kernel
theorem d_Mo_cut_28 : decode M_Mo_cut.2.1 28 = .ok (.lload_n 0, 1) := by decide +kernel
theorem d_Mo_cut_29 : decode M_Mo_cut.2.1 29 = .ok (.l2i, 1) := by decide +kernel
theorem d_Mo_cut_30 : decode M_Mo_cut.2.1 30 = .ok (.i2l, 1) := by decide +kernel
theorem d_Mo_cut_31 : decode M_Mo_cut.2.1 31 = .ok (.goto 4, 3) := by decide +kernel
theorem d_Mo_cut_34 : decode M_Mo_cut.2.1 34 = .ok (.lload_n 0, 1) := by decide +kernel
theorem d_Mo_cut_35 : decode M_Mo_cut.2.1 35 = .ok (.lreturn, 1) := by decide +kernel
theorem d_Mo_tray_0 : decode M_Mo_tray.2.1 0 = .ok (.iload_n 1, 1) := by decide +kernel
theorem d_Mo_tray_1 : decode M_Mo_tray.2.1 1 = .ok (.invokestatic 122, 3) := by decide +kernel
theorem d_Mo_tray_4 : decode M_Mo_tray.2.1 4 = .ok (.ifCond .eq 22, 3) := by decide +kernel
theorem d_Mo_tray_7 : decode M_Mo_tray.2.1 7 = .ok (.iload_n 2, 1) := by decide +kernel
theorem d_Mo_tray_8 : decode M_Mo_tray.2.1 8 = .ok (.ifCond .lt 18, 3) := by decide +kernel
theorem d_Mo_tray_11 : decode M_Mo_tray.2.1 11 = .ok (.iload_n 2, 1) := by decide +kernel
theorem d_Mo_tray_12 : decode M_Mo_tray.2.1 12 = .ok (.iconst 3, 1) := by decide +kernel
theorem d_Mo_tray_13 : decode M_Mo_tray.2.1 13 = .ok (.if_icmp .gt 13, 3) := by decide +kernel
theorem d_Mo_tray_16 : decode M_Mo_tray.2.1 16 = .ok (.iload_n 3, 1) := by decide +kernel
theorem d_Mo_tray_17 : decode M_Mo_tray.2.1 17 = .ok (.ifCond .lt 9, 3) := by decide +kernel
theorem d_Mo_tray_20 : decode M_Mo_tray.2.1 20 = .ok (.iload_n 3, 1) := by decide +kernel
theorem d_Mo_tray_21 : decode M_Mo_tray.2.1 21 = .ok (.bipush 60, 2) := by decide +kernel
theorem d_Mo_tray_23 : decode M_Mo_tray.2.1 23 = .ok (.if_icmp .le 9, 3) := by decide +kernel
theorem d_Mo_tray_26 : decode M_Mo_tray.2.1 26 = .ok (.aload_n 0, 1) := by decide +kernel
theorem d_Mo_tray_27 : decode M_Mo_tray.2.1 27 = .ok (.iconst 1, 1) := by decide +kernel
theorem d_Mo_tray_28 : decode M_Mo_tray.2.1 28 = .ok (.invokevirtual 118, 3) := by decide +kernel
theorem d_Mo_tray_31 : decode M_Mo_tray.2.1 31 = .ok (.ireturn, 1) := by decide +kernel
theorem d_Mo_tray_32 : decode M_Mo_tray.2.1 32 = .ok (.aload_n 0, 1) := by decide +kernel
theorem d_Mo_tray_33 : decode M_Mo_tray.2.1 33 = .ok (.getfield 21, 3) := by decide +kernel
theorem d_Mo_tray_36 : decode M_Mo_tray.2.1 36 = .ok (.iload_n 1, 1) := by decide +kernel
theorem d_Mo_tray_37 : decode M_Mo_tray.2.1 37 = .ok (.iload_n 2, 1) := by decide +kernel
theorem d_Mo_tray_38 : decode M_Mo_tray.2.1 38 = .ok (.iastore, 1) := by decide +kernel
theorem d_Mo_tray_39 : decode M_Mo_tray.2.1 39 = .ok (.aload_n 0, 1) := by decide +kernel
theorem d_Mo_tray_40 : decode M_Mo_tray.2.1 40 = .ok (.getfield 24, 3) := by decide +kernel
theorem d_Mo_tray_43 : decode M_Mo_tray.2.1 43 = .ok (.iload_n 1, 1) := by decide +kernel
theorem d_Mo_tray_44 : decode M_Mo_tray.2.1 44 = .ok (.iload_n 3, 1) := by decide +kernel
theorem d_Mo_tray_45 : decode M_Mo_tray.2.1 45 = .ok (.iastore, 1) := by decide +kernel
theorem d_Mo_tray_46 : decode M_Mo_tray.2.1 46 = .ok (.iconst 0, 1) := by decide +kernel
theorem d_Mo_tray_47 : decode M_Mo_tray.2.1 47 = .ok (.istore 4, 2) := by decide +kernel
theorem d_Mo_tray_49 : decode M_Mo_tray.2.1 49 = .ok (.iload 4, 2) := by decide +kernel
theorem d_Mo_tray_51 : decode M_Mo_tray.2.1 51 = .ok (.iload_n 3, 1) := by decide +kernel
theorem d_Mo_tray_52 : decode M_Mo_tray.2.1 52 = .ok (.if_icmp .ge 22, 3) := by decide +kernel
theorem d_Mo_tray_55 : decode M_Mo_tray.2.1 55 = .ok (.aload_n 0, 1) := by decide +kernel
theorem d_Mo_tray_56 : decode M_Mo_tray.2.1 56 = .ok (.getfield 27, 3) := by decide +kernel
theorem d_Mo_tray_59 : decode M_Mo_tray.2.1 59 = .ok (.bipush 60, 2) := by decide +kernel
theorem d_Mo_tray_61 : decode M_Mo_tray.2.1 61 = .ok (.iload_n 1, 1) := by decide +kernel
theorem d_Mo_tray_62 : decode M_Mo_tray.2.1 62 = .ok (.imul, 1) := by decide +kernel
theorem d_Mo_tray_63 : decode M_Mo_tray.2.1 63 = .ok (.iload 4, 2) := by decide +kernel
theorem d_Mo_tray_65 : decode M_Mo_tray.2.1 65 = .ok (.iadd, 1) := by decide +kernel
theorem d_Mo_tray_66 : decode M_Mo_tray.2.1 66 = .ok (.lconst 0, 1) := by decide +kernel
theorem d_Mo_tray_67 : decode M_Mo_tray.2.1 67 = .ok (.lastore, 1) := by decide +kernel
theorem d_Mo_tray_68 : decode M_Mo_tray.2.1 68 = .ok (.iinc 4 1, 3) := by decide +kernel
theorem d_Mo_tray_71 : decode M_Mo_tray.2.1 71 = .ok (.goto (-22), 3) := by decide +kernel
theorem d_Mo_tray_74 : decode M_Mo_tray.2.1 74 = .ok (.aload_n 0, 1) := by decide +kernel
theorem d_Mo_tray_75 : decode M_Mo_tray.2.1 75 = .ok (.iconst 0, 1) := by decide +kernel
theorem d_Mo_tray_76 : decode M_Mo_tray.2.1 76 = .ok (.invokevirtual 118, 3) := by decide +kernel
theorem d_Mo_tray_79 : decode M_Mo_tray.2.1 79 = .ok (.ireturn, 1) := by decide +kernel
theorem d_Mo_wrongPlace_0 : decode M_Mo_wrongPlace.2.1 0 = .ok (.iload_n 1, 1) := by decide +kernel
theorem d_Mo_wrongPlace_1 : decode M_Mo_wrongPlace.2.1 1 = .ok (.invokestatic 122, 3) := by decide +kernel
theorem d_Mo_wrongPlace_4 : decode M_Mo_wrongPlace.2.1 4 = .ok (.ifCond .ne 7, 3) := by decide +kernel
theorem d_Mo_wrongPlace_7 : decode M_Mo_wrongPlace.2.1 7 = .ok (.iconst 1, 1) := by decide +kernel
theorem d_Mo_wrongPlace_8 : decode M_Mo_wrongPlace.2.1 8 = .ok (.goto 36, 3) := by decide +kernel
theorem d_Mo_wrongPlace_11 : decode M_Mo_wrongPlace.2.1 11 = .ok (.aload_n 0, 1) := by decide +kernel
theorem d_Mo_wrongPlace_12 : decode M_Mo_wrongPlace.2.1 12 = .ok (.getfield 24, 3) := by decide +kernel
theorem d_Mo_wrongPlace_15 : decode M_Mo_wrongPlace.2.1 15 = .ok (.iload_n 1, 1) := by decide +kernel
theorem d_Mo_wrongPlace_16 : decode M_Mo_wrongPlace.2.1 16 = .ok (.iaload, 1) := by decide +kernel
theorem d_Mo_wrongPlace_17 : decode M_Mo_wrongPlace.2.1 17 = .ok (.iconst (-1), 1) := by decide +kernel
theorem d_Mo_wrongPlace_18 : decode M_Mo_wrongPlace.2.1 18 = .ok (.if_icmp .ne 7, 3) := by decide +kernel
theorem d_Mo_wrongPlace_21 : decode M_Mo_wrongPlace.2.1 21 = .ok (.iconst 2, 1) := by decide +kernel
theorem d_Mo_wrongPlace_22 : decode M_Mo_wrongPlace.2.1 22 = .ok (.goto 22, 3) := by decide +kernel
theorem d_Mo_wrongPlace_25 : decode M_Mo_wrongPlace.2.1 25 = .ok (.iload_n 2, 1) := by decide +kernel
theorem d_Mo_wrongPlace_26 : decode M_Mo_wrongPlace.2.1 26 = .ok (.ifCond .lt 13, 3) := by decide +kernel
theorem d_Mo_wrongPlace_29 : decode M_Mo_wrongPlace.2.1 29 = .ok (.iload_n 2, 1) := by decide +kernel
theorem d_Mo_wrongPlace_30 : decode M_Mo_wrongPlace.2.1 30 = .ok (.aload_n 0, 1) := by decide +kernel
theorem d_Mo_wrongPlace_31 : decode M_Mo_wrongPlace.2.1 31 = .ok (.getfield 24, 3) := by decide +kernel
theorem d_Mo_wrongPlace_34 : decode M_Mo_wrongPlace.2.1 34 = .ok (.iload_n 1, 1) := by decide +kernel
theorem d_Mo_wrongPlace_35 : decode M_Mo_wrongPlace.2.1 35 = .ok (.iaload, 1) := by decide +kernel
theorem d_Mo_wrongPlace_36 : decode M_Mo_wrongPlace.2.1 36 = .ok (.if_icmp .lt 7, 3) := by decide +kernel
theorem d_Mo_wrongPlace_39 : decode M_Mo_wrongPlace.2.1 39 = .ok (.iconst 3, 1) := by decide +kernel
theorem d_Mo_wrongPlace_40 : decode M_Mo_wrongPlace.2.1 40 = .ok (.goto 4, 3) := by decide +kernel
theorem d_Mo_wrongPlace_43 : decode M_Mo_wrongPlace.2.1 43 = .ok (.iconst 0, 1) := by decide +kernel
theorem d_Mo_wrongPlace_44 : decode M_Mo_wrongPlace.2.1 44 = .ok (.ireturn, 1) := by decide +kernel
theorem d_Mo_write_0 : decode M_Mo_write.2.1 0 = .ok (.aload_n 0, 1) := by decide +kernel
theorem d_Mo_write_1 : decode M_Mo_write.2.1 1 = .ok (.iload_n 1, 1) := by decide +kernel
theorem d_Mo_write_2 : decode M_Mo_write.2.1 2 = .ok (.iload_n 2, 1) := by decide +kernel
theorem d_Mo_write_3 : decode M_Mo_write.2.1 3 = .ok (.invokevirtual 125, 3) := by decide +kernel
theorem d_Mo_write_6 : decode M_Mo_write.2.1 6 = .ok (.istore 5, 2) := by decide +kernel
theorem d_Mo_write_8 : decode M_Mo_write.2.1 8 = .ok (.iload 5, 2) := by decide +kernel
theorem d_Mo_write_10 : decode M_Mo_write.2.1 10 = .ok (.ifCond .ne 24, 3) := by decide +kernel
theorem d_Mo_write_13 : decode M_Mo_write.2.1 13 = .ok (.aload_n 0, 1) := by decide +kernel
theorem d_Mo_write_14 : decode M_Mo_write.2.1 14 = .ok (.getfield 27, 3) := by decide +kernel
theorem d_Mo_write_17 : decode M_Mo_write.2.1 17 = .ok (.bipush 60, 2) := by decide +kernel
theorem d_Mo_write_19 : decode M_Mo_write.2.1 19 = .ok (.iload_n 1, 1) := by decide +kernel
theorem d_Mo_write_20 : decode M_Mo_write.2.1 20 = .ok (.imul, 1) := by decide +kernel
theorem d_Mo_write_21 : decode M_Mo_write.2.1 21 = .ok (.iload_n 2, 1) := by decide +kernel
theorem d_Mo_write_22 : decode M_Mo_write.2.1 22 = .ok (.iadd, 1) := by decide +kernel
theorem d_Mo_write_23 : decode M_Mo_write.2.1 23 = .ok (.lload_n 3, 1) := by decide +kernel
theorem d_Mo_write_24 : decode M_Mo_write.2.1 24 = .ok (.aload_n 0, 1) := by decide +kernel
theorem d_Mo_write_25 : decode M_Mo_write.2.1 25 = .ok (.getfield 21, 3) := by decide +kernel
theorem d_Mo_write_28 : decode M_Mo_write.2.1 28 = .ok (.iload_n 1, 1) := by decide +kernel
theorem d_Mo_write_29 : decode M_Mo_write.2.1 29 = .ok (.iaload, 1) := by decide +kernel
theorem d_Mo_write_30 : decode M_Mo_write.2.1 30 = .ok (.invokestatic 129, 3) := by decide +kernel
theorem d_Mo_write_33 : decode M_Mo_write.2.1 33 = .ok (.lastore, 1) := by decide +kernel
theorem d_Mo_write_34 : decode M_Mo_write.2.1 34 = .ok (.aload_n 0, 1) := by decide +kernel
theorem d_Mo_write_35 : decode M_Mo_write.2.1 35 = .ok (.iload 5, 2) := by decide +kernel
theorem d_Mo_write_37 : decode M_Mo_write.2.1 37 = .ok (.invokevirtual 118, 3) := by decide +kernel
theorem d_Mo_write_40 : decode M_Mo_write.2.1 40 = .ok (.ireturn, 1) := by decide +kernel
theorem d_Mo_read_0 : decode M_Mo_read.2.1 0 = .ok (.aload_n 0, 1) := by decide +kernel
theorem d_Mo_read_1 : decode M_Mo_read.2.1 1 = .ok (.aload_n 0, 1) := by decide +kernel
theorem d_Mo_read_2 : decode M_Mo_read.2.1 2 = .ok (.iload_n 1, 1) := by decide +kernel
theorem d_Mo_read_3 : decode M_Mo_read.2.1 3 = .ok (.iload_n 2, 1) := by decide +kernel
theorem d_Mo_read_4 : decode M_Mo_read.2.1 4 = .ok (.invokevirtual 125, 3) := by decide +kernel
theorem d_Mo_read_7 : decode M_Mo_read.2.1 7 = .ok (.putfield 105, 3) := by decide +kernel
theorem d_Mo_read_10 : decode M_Mo_read.2.1 10 = .ok (.aload_n 0, 1) := by decide +kernel
theorem d_Mo_read_11 : decode M_Mo_read.2.1 11 = .ok (.getfield 105, 3) := by decide +kernel
theorem d_Mo_read_14 : decode M_Mo_read.2.1 14 = .ok (.ifCond .le 9, 3) := by decide +kernel
theorem d_Mo_read_17 : decode M_Mo_read.2.1 17 = .ok (.ldc2_w 133, 3) := by decide +kernel
theorem d_Mo_read_20 : decode M_Mo_read.2.1 20 = .ok (.goto 14, 3) := by decide +kernel
theorem d_Mo_read_23 : decode M_Mo_read.2.1 23 = .ok (.aload_n 0, 1) := by decide +kernel
theorem d_Mo_read_24 : decode M_Mo_read.2.1 24 = .ok (.getfield 27, 3) := by decide +kernel
theorem d_Mo_read_27 : decode M_Mo_read.2.1 27 = .ok (.bipush 60, 2) := by decide +kernel
theorem d_Mo_read_29 : decode M_Mo_read.2.1 29 = .ok (.iload_n 1, 1) := by decide +kernel
theorem d_Mo_read_30 : decode M_Mo_read.2.1 30 = .ok (.imul, 1) := by decide +kernel
theorem d_Mo_read_31 : decode M_Mo_read.2.1 31 = .ok (.iload_n 2, 1) := by decide +kernel
theorem d_Mo_read_32 : decode M_Mo_read.2.1 32 = .ok (.iadd, 1) := by decide +kernel
theorem d_Mo_read_33 : decode M_Mo_read.2.1 33 = .ok (.laload, 1) := by decide +kernel
theorem d_Mo_read_34 : decode M_Mo_read.2.1 34 = .ok (.lreturn, 1) := by decide +kernel
theorem d_Mo_pour_0 : decode M_Mo_pour.2.1 0 = .ok (.iload_n 1, 1) := by decide +kernel
theorem d_Mo_pour_1 : decode M_Mo_pour.2.1 1 = .ok (.invokestatic 122, 3) := by decide +kernel
theorem d_Mo_pour_4 : decode M_Mo_pour.2.1 4 = .ok (.ifCond .eq 24, 3) := by decide +kernel
theorem d_Mo_pour_7 : decode M_Mo_pour.2.1 7 = .ok (.iload_n 3, 1) := by decide +kernel
theorem d_Mo_pour_8 : decode M_Mo_pour.2.1 8 = .ok (.invokestatic 122, 3) := by decide +kernel
theorem d_Mo_pour_11 : decode M_Mo_pour.2.1 11 = .ok (.ifCond .eq 17, 3) := by decide +kernel
theorem d_Mo_pour_14 : decode M_Mo_pour.2.1 14 = .ok (.iload_n 2, 1) := by decide +kernel
theorem d_Mo_pour_15 : decode M_Mo_pour.2.1 15 = .ok (.ifCond .lt 13, 3) := by decide +kernel
theorem d_Mo_pour_18 : decode M_Mo_pour.2.1 18 = .ok (.iload 4, 2) := by decide +kernel
theorem d_Mo_pour_20 : decode M_Mo_pour.2.1 20 = .ok (.ifCond .lt 8, 3) := by decide +kernel
theorem d_Mo_pour_23 : decode M_Mo_pour.2.1 23 = .ok (.iload 5, 2) := by decide +kernel
theorem d_Mo_pour_25 : decode M_Mo_pour.2.1 25 = .ok (.ifCond .ge 9, 3) := by decide +kernel
theorem d_Mo_pour_28 : decode M_Mo_pour.2.1 28 = .ok (.aload_n 0, 1) := by decide +kernel
theorem d_Mo_pour_29 : decode M_Mo_pour.2.1 29 = .ok (.iconst 1, 1) := by decide +kernel
theorem d_Mo_pour_30 : decode M_Mo_pour.2.1 30 = .ok (.invokevirtual 118, 3) := by decide +kernel
theorem d_Mo_pour_33 : decode M_Mo_pour.2.1 33 = .ok (.ireturn, 1) := by decide +kernel
theorem d_Mo_pour_34 : decode M_Mo_pour.2.1 34 = .ok (.aload_n 0, 1) := by decide +kernel
theorem d_Mo_pour_35 : decode M_Mo_pour.2.1 35 = .ok (.getfield 24, 3) := by decide +kernel
theorem d_Mo_pour_38 : decode M_Mo_pour.2.1 38 = .ok (.iload_n 1, 1) := by decide +kernel
theorem d_Mo_pour_39 : decode M_Mo_pour.2.1 39 = .ok (.iaload, 1) := by decide +kernel
theorem d_Mo_pour_40 : decode M_Mo_pour.2.1 40 = .ok (.iconst (-1), 1) := by decide +kernel
theorem d_Mo_pour_41 : decode M_Mo_pour.2.1 41 = .ok (.if_icmp .eq 13, 3) := by decide +kernel
theorem d_Mo_pour_44 : decode M_Mo_pour.2.1 44 = .ok (.aload_n 0, 1) := by decide +kernel
theorem d_Mo_pour_45 : decode M_Mo_pour.2.1 45 = .ok (.getfield 24, 3) := by decide +kernel
theorem d_Mo_pour_48 : decode M_Mo_pour.2.1 48 = .ok (.iload_n 3, 1) := by decide +kernel
theorem d_Mo_pour_49 : decode M_Mo_pour.2.1 49 = .ok (.iaload, 1) := by decide +kernel
theorem d_Mo_pour_50 : decode M_Mo_pour.2.1 50 = .ok (.iconst (-1), 1) := by decide +kernel
theorem d_Mo_pour_51 : decode M_Mo_pour.2.1 51 = .ok (.if_icmp .ne 9, 3) := by decide +kernel
theorem d_Mo_pour_54 : decode M_Mo_pour.2.1 54 = .ok (.aload_n 0, 1) := by decide +kernel
theorem d_Mo_pour_55 : decode M_Mo_pour.2.1 55 = .ok (.iconst 2, 1) := by decide +kernel
theorem d_Mo_pour_56 : decode M_Mo_pour.2.1 56 = .ok (.invokevirtual 118, 3) := by decide +kernel
theorem d_Mo_pour_59 : decode M_Mo_pour.2.1 59 = .ok (.ireturn, 1) := by decide +kernel
theorem d_Mo_pour_60 : decode M_Mo_pour.2.1 60 = .ok (.aload_n 0, 1) := by decide +kernel
theorem d_Mo_pour_61 : decode M_Mo_pour.2.1 61 = .ok (.getfield 21, 3) := by decide +kernel
theorem d_Mo_pour_64 : decode M_Mo_pour.2.1 64 = .ok (.iload_n 1, 1) := by decide +kernel
theorem d_Mo_pour_65 : decode M_Mo_pour.2.1 65 = .ok (.iaload, 1) := by decide +kernel
theorem d_Mo_pour_66 : decode M_Mo_pour.2.1 66 = .ok (.aload_n 0, 1) := by decide +kernel
theorem d_Mo_pour_67 : decode M_Mo_pour.2.1 67 = .ok (.getfield 21, 3) := by decide +kernel
theorem d_Mo_pour_70 : decode M_Mo_pour.2.1 70 = .ok (.iload_n 3, 1) := by decide +kernel
theorem d_Mo_pour_71 : decode M_Mo_pour.2.1 71 = .ok (.iaload, 1) := by decide +kernel
theorem d_Mo_pour_72 : decode M_Mo_pour.2.1 72 = .ok (.if_icmp .eq 10, 3) := by decide +kernel
theorem d_Mo_pour_75 : decode M_Mo_pour.2.1 75 = .ok (.aload_n 0, 1) := by decide +kernel
theorem d_Mo_pour_76 : decode M_Mo_pour.2.1 76 = .ok (.bipush 8, 2) := by decide +kernel
theorem d_Mo_pour_78 : decode M_Mo_pour.2.1 78 = .ok (.invokevirtual 118, 3) := by decide +kernel
theorem d_Mo_pour_81 : decode M_Mo_pour.2.1 81 = .ok (.ireturn, 1) := by decide +kernel
theorem d_Mo_pour_82 : decode M_Mo_pour.2.1 82 = .ok (.iload 5, 2) := by decide +kernel
theorem d_Mo_pour_84 : decode M_Mo_pour.2.1 84 = .ok (.aload_n 0, 1) := by decide +kernel
theorem d_Mo_pour_85 : decode M_Mo_pour.2.1 85 = .ok (.getfield 24, 3) := by decide +kernel
theorem d_Mo_pour_88 : decode M_Mo_pour.2.1 88 = .ok (.iload_n 1, 1) := by decide +kernel
theorem d_Mo_pour_89 : decode M_Mo_pour.2.1 89 = .ok (.iaload, 1) := by decide +kernel
theorem d_Mo_pour_90 : decode M_Mo_pour.2.1 90 = .ok (.iload_n 2, 1) := by decide +kernel
theorem d_Mo_pour_91 : decode M_Mo_pour.2.1 91 = .ok (.isub, 1) := by decide +kernel
theorem d_Mo_pour_92 : decode M_Mo_pour.2.1 92 = .ok (.if_icmp .gt 17, 3) := by decide +kernel
theorem d_Mo_pour_95 : decode M_Mo_pour.2.1 95 = .ok (.iload 5, 2) := by decide +kernel
theorem d_Mo_pour_97 : decode M_Mo_pour.2.1 97 = .ok (.aload_n 0, 1) := by decide +kernel
theorem d_Mo_pour_98 : decode M_Mo_pour.2.1 98 = .ok (.getfield 24, 3) := by decide +kernel
theorem d_Mo_pour_101 : decode M_Mo_pour.2.1 101 = .ok (.iload_n 3, 1) := by decide +kernel
theorem d_Mo_pour_102 : decode M_Mo_pour.2.1 102 = .ok (.iaload, 1) := by decide +kernel
theorem d_Mo_pour_103 : decode M_Mo_pour.2.1 103 = .ok (.iload 4, 2) := by decide +kernel
theorem d_Mo_pour_105 : decode M_Mo_pour.2.1 105 = .ok (.isub, 1) := by decide +kernel
theorem d_Mo_pour_106 : decode M_Mo_pour.2.1 106 = .ok (.if_icmp .le 9, 3) := by decide +kernel
theorem d_Mo_pour_109 : decode M_Mo_pour.2.1 109 = .ok (.aload_n 0, 1) := by decide +kernel
theorem d_Mo_pour_110 : decode M_Mo_pour.2.1 110 = .ok (.iconst 3, 1) := by decide +kernel
theorem d_Mo_pour_111 : decode M_Mo_pour.2.1 111 = .ok (.invokevirtual 118, 3) := by decide +kernel
theorem d_Mo_pour_114 : decode M_Mo_pour.2.1 114 = .ok (.ireturn, 1) := by decide +kernel
theorem d_Mo_pour_115 : decode M_Mo_pour.2.1 115 = .ok (.iconst 0, 1) := by decide +kernel
theorem d_Mo_pour_116 : decode M_Mo_pour.2.1 116 = .ok (.istore 6, 2) := by decide +kernel
theorem d_Mo_pour_118 : decode M_Mo_pour.2.1 118 = .ok (.iload 6, 2) := by decide +kernel
theorem d_Mo_pour_120 : decode M_Mo_pour.2.1 120 = .ok (.iload 5, 2) := by decide +kernel
theorem d_Mo_pour_122 : decode M_Mo_pour.2.1 122 = .ok (.if_icmp .ge 58, 3) := by decide +kernel
theorem d_Mo_pour_125 : decode M_Mo_pour.2.1 125 = .ok (.iload_n 2, 1) := by decide +kernel
theorem d_Mo_pour_126 : decode M_Mo_pour.2.1 126 = .ok (.iload 4, 2) := by decide +kernel
theorem d_Mo_pour_128 : decode M_Mo_pour.2.1 128 = .ok (.if_icmp .ge 13, 3) := by decide +kernel
theorem d_Mo_pour_131 : decode M_Mo_pour.2.1 131 = .ok (.iload 5, 2) := by decide +kernel
theorem d_Mo_pour_133 : decode M_Mo_pour.2.1 133 = .ok (.iconst 1, 1) := by decide +kernel
theorem d_Mo_pour_134 : decode M_Mo_pour.2.1 134 = .ok (.isub, 1) := by decide +kernel
theorem d_Mo_pour_135 : decode M_Mo_pour.2.1 135 = .ok (.iload 6, 2) := by decide +kernel
theorem d_Mo_pour_137 : decode M_Mo_pour.2.1 137 = .ok (.isub, 1) := by decide +kernel
theorem d_Mo_pour_138 : decode M_Mo_pour.2.1 138 = .ok (.goto 5, 3) := by decide +kernel
theorem d_Mo_pour_141 : decode M_Mo_pour.2.1 141 = .ok (.iload 6, 2) := by decide +kernel
theorem d_Mo_pour_143 : decode M_Mo_pour.2.1 143 = .ok (.istore 7, 2) := by decide +kernel
theorem d_Mo_pour_145 : decode M_Mo_pour.2.1 145 = .ok (.aload_n 0, 1) := by decide +kernel
theorem d_Mo_pour_146 : decode M_Mo_pour.2.1 146 = .ok (.getfield 27, 3) := by decide +kernel
theorem d_Mo_pour_149 : decode M_Mo_pour.2.1 149 = .ok (.bipush 60, 2) := by decide +kernel
theorem d_Mo_pour_151 : decode M_Mo_pour.2.1 151 = .ok (.iload_n 3, 1) := by decide +kernel
theorem d_Mo_pour_152 : decode M_Mo_pour.2.1 152 = .ok (.imul, 1) := by decide +kernel
theorem d_Mo_pour_153 : decode M_Mo_pour.2.1 153 = .ok (.iload 4, 2) := by decide +kernel
theorem d_Mo_pour_155 : decode M_Mo_pour.2.1 155 = .ok (.iadd, 1) := by decide +kernel
theorem d_Mo_pour_156 : decode M_Mo_pour.2.1 156 = .ok (.iload 7, 2) := by decide +kernel
theorem d_Mo_pour_158 : decode M_Mo_pour.2.1 158 = .ok (.iadd, 1) := by decide +kernel
theorem d_Mo_pour_159 : decode M_Mo_pour.2.1 159 = .ok (.aload_n 0, 1) := by decide +kernel
theorem d_Mo_pour_160 : decode M_Mo_pour.2.1 160 = .ok (.getfield 27, 3) := by decide +kernel
theorem d_Mo_pour_163 : decode M_Mo_pour.2.1 163 = .ok (.bipush 60, 2) := by decide +kernel
theorem d_Mo_pour_165 : decode M_Mo_pour.2.1 165 = .ok (.iload_n 1, 1) := by decide +kernel
theorem d_Mo_pour_166 : decode M_Mo_pour.2.1 166 = .ok (.imul, 1) := by decide +kernel
theorem d_Mo_pour_167 : decode M_Mo_pour.2.1 167 = .ok (.iload_n 2, 1) := by decide +kernel
theorem d_Mo_pour_168 : decode M_Mo_pour.2.1 168 = .ok (.iadd, 1) := by decide +kernel
theorem d_Mo_pour_169 : decode M_Mo_pour.2.1 169 = .ok (.iload 7, 2) := by decide +kernel
theorem d_Mo_pour_171 : decode M_Mo_pour.2.1 171 = .ok (.iadd, 1) := by decide +kernel
theorem d_Mo_pour_172 : decode M_Mo_pour.2.1 172 = .ok (.laload, 1) := by decide +kernel
theorem d_Mo_pour_173 : decode M_Mo_pour.2.1 173 = .ok (.lastore, 1) := by decide +kernel
theorem d_Mo_pour_174 : decode M_Mo_pour.2.1 174 = .ok (.iinc 6 1, 3) := by decide +kernel
theorem d_Mo_pour_177 : decode M_Mo_pour.2.1 177 = .ok (.goto (-59), 3) := by decide +kernel
theorem d_Mo_pour_180 : decode M_Mo_pour.2.1 180 = .ok (.aload_n 0, 1) := by decide +kernel
theorem d_Mo_pour_181 : decode M_Mo_pour.2.1 181 = .ok (.iconst 0, 1) := by decide +kernel
theorem d_Mo_pour_182 : decode M_Mo_pour.2.1 182 = .ok (.invokevirtual 118, 3) := by decide +kernel
theorem d_Mo_pour_185 : decode M_Mo_pour.2.1 185 = .ok (.ireturn, 1) := by decide +kernel
theorem d_Mo_isFrom_0 : decode M_Mo_isFrom.2.1 0 = .ok (.lload_n 0, 1) := by decide +kernel
theorem d_Mo_isFrom_1 : decode M_Mo_isFrom.2.1 1 = .ok (.lload_n 2, 1) := by decide +kernel
theorem d_Mo_isFrom_2 : decode M_Mo_isFrom.2.1 2 = .ok (.lcmp, 1) := by decide +kernel
theorem d_Mo_isFrom_3 : decode M_Mo_isFrom.2.1 3 = .ok (.ifCond .lt 14, 3) := by decide +kernel
theorem d_Mo_isFrom_6 : decode M_Mo_isFrom.2.1 6 = .ok (.lload_n 0, 1) := by decide +kernel
theorem d_Mo_isFrom_7 : decode M_Mo_isFrom.2.1 7 = .ok (.lload 4, 2) := by decide +kernel
theorem d_Mo_isFrom_9 : decode M_Mo_isFrom.2.1 9 = .ok (.lcmp, 1) := by decide +kernel
theorem d_Mo_isFrom_10 : decode M_Mo_isFrom.2.1 10 = .ok (.ifCond .gt 7, 3) := by decide +kernel
theorem d_Mo_isFrom_13 : decode M_Mo_isFrom.2.1 13 = .ok (.iconst 1, 1) := by decide +kernel
theorem d_Mo_isFrom_14 : decode M_Mo_isFrom.2.1 14 = .ok (.goto 4, 3) := by decide +kernel
theorem d_Mo_isFrom_17 : decode M_Mo_isFrom.2.1 17 = .ok (.iconst 0, 1) := by decide +kernel
theorem d_Mo_isFrom_18 : decode M_Mo_isFrom.2.1 18 = .ok (.ireturn, 1) := by decide +kernel
theorem d_Mo_feed_0 : decode M_Mo_feed.2.1 0 = .ok (.aload_n 0, 1) := by decide +kernel
theorem d_Mo_feed_1 : decode M_Mo_feed.2.1 1 = .ok (.getfield 135, 3) := by decide +kernel
theorem d_Mo_feed_4 : decode M_Mo_feed.2.1 4 = .ok (.bipush 20, 2) := by decide +kernel
theorem d_Mo_feed_6 : decode M_Mo_feed.2.1 6 = .ok (.iadd, 1) := by decide +kernel
theorem d_Mo_feed_7 : decode M_Mo_feed.2.1 7 = .ok (.sipush 900, 3) := by decide +kernel
theorem d_Mo_feed_10 : decode M_Mo_feed.2.1 10 = .ok (.if_icmp .le 5, 3) := by decide +kernel
theorem d_Mo_feed_13 : decode M_Mo_feed.2.1 13 = .ok (.iconst (-1), 1) := by decide +kernel
theorem d_Mo_feed_14 : decode M_Mo_feed.2.1 14 = .ok (.ireturn, 1) := by decide +kernel
theorem d_Mo_feed_15 : decode M_Mo_feed.2.1 15 = .ok (.aload_n 0, 1) := by decide +kernel
theorem d_Mo_feed_16 : decode M_Mo_feed.2.1 16 = .ok (.iload_n 1, 1) := by decide +kernel
theorem d_Mo_feed_17 : decode M_Mo_feed.2.1 17 = .ok (.invokevirtual 138, 3) := by decide +kernel
theorem d_Mo_feed_20 : decode M_Mo_feed.2.1 20 = .ok (.aload_n 0, 1) := by decide +kernel
theorem d_Mo_feed_21 : decode M_Mo_feed.2.1 21 = .ok (.iload_n 2, 1) := by decide +kernel
theorem d_Mo_feed_22 : decode M_Mo_feed.2.1 22 = .ok (.invokevirtual 138, 3) := by decide +kernel
theorem d_Mo_feed_25 : decode M_Mo_feed.2.1 25 = .ok (.aload_n 0, 1) := by decide +kernel
theorem d_Mo_feed_26 : decode M_Mo_feed.2.1 26 = .ok (.iload_n 3, 1) := by decide +kernel
theorem d_Mo_feed_27 : decode M_Mo_feed.2.1 27 = .ok (.invokevirtual 138, 3) := by decide +kernel
theorem d_Mo_feed_30 : decode M_Mo_feed.2.1 30 = .ok (.aload_n 0, 1) := by decide +kernel
theorem d_Mo_feed_31 : decode M_Mo_feed.2.1 31 = .ok (.iload 4, 2) := by decide +kernel
theorem d_Mo_feed_33 : decode M_Mo_feed.2.1 33 = .ok (.invokevirtual 138, 3) := by decide +kernel
theorem d_Mo_feed_36 : decode M_Mo_feed.2.1 36 = .ok (.aload_n 0, 1) := by decide +kernel
theorem d_Mo_feed_37 : decode M_Mo_feed.2.1 37 = .ok (.iload 5, 2) := by decide +kernel
theorem d_Mo_feed_39 : decode M_Mo_feed.2.1 39 = .ok (.invokevirtual 138, 3) := by decide +kernel
theorem d_Mo_feed_42 : decode M_Mo_feed.2.1 42 = .ok (.aload_n 0, 1) := by decide +kernel
theorem d_Mo_feed_43 : decode M_Mo_feed.2.1 43 = .ok (.getfield 135, 3) := by decide +kernel
theorem d_Mo_feed_46 : decode M_Mo_feed.2.1 46 = .ok (.ireturn, 1) := by decide +kernel
theorem d_Mo_four_0 : decode M_Mo_four.2.1 0 = .ok (.bipush 24, 2) := by decide +kernel
theorem d_Mo_four_2 : decode M_Mo_four.2.1 2 = .ok (.istore_n 2, 1) := by decide +kernel
theorem d_Mo_four_3 : decode M_Mo_four.2.1 3 = .ok (.iload_n 2, 1) := by decide +kernel
theorem d_Mo_four_4 : decode M_Mo_four.2.1 4 = .ok (.ifCond .lt 32, 3) := by decide +kernel
theorem d_Mo_four_7 : decode M_Mo_four.2.1 7 = .ok (.aload_n 0, 1) := by decide +kernel
theorem d_Mo_four_8 : decode M_Mo_four.2.1 8 = .ok (.getfield 30, 3) := by decide +kernel
theorem d_Mo_four_11 : decode M_Mo_four.2.1 11 = .ok (.aload_n 0, 1) := by decide +kernel
theorem d_Mo_four_12 : decode M_Mo_four.2.1 12 = .ok (.getfield 135, 3) := by decide +kernel
theorem d_Mo_four_15 : decode M_Mo_four.2.1 15 = .ok (.iload_n 1, 1) := by decide +kernel
theorem d_Mo_four_16 : decode M_Mo_four.2.1 16 = .ok (.iload_n 2, 1) := by decide +kernel
theorem d_Mo_four_17 : decode M_Mo_four.2.1 17 = .ok (.ishr, 1) := by decide +kernel
theorem d_Mo_four_18 : decode M_Mo_four.2.1 18 = .ok (.i2b, 1) := by decide +kernel
theorem d_Mo_four_19 : decode M_Mo_four.2.1 19 = .ok (.bastore, 1) := by decide +kernel
theorem d_Mo_four_20 : decode M_Mo_four.2.1 20 = .ok (.aload_n 0, 1) := by decide +kernel
theorem d_Mo_four_21 : decode M_Mo_four.2.1 21 = .ok (.dup, 1) := by decide +kernel
theorem d_Mo_four_22 : decode M_Mo_four.2.1 22 = .ok (.getfield 135, 3) := by decide +kernel
theorem d_Mo_four_25 : decode M_Mo_four.2.1 25 = .ok (.iconst 1, 1) := by decide +kernel
theorem d_Mo_four_26 : decode M_Mo_four.2.1 26 = .ok (.iadd, 1) := by decide +kernel
theorem d_Mo_four_27 : decode M_Mo_four.2.1 27 = .ok (.putfield 135, 3) := by decide +kernel
theorem d_Mo_four_30 : decode M_Mo_four.2.1 30 = .ok (.iinc 2 (-8), 3) := by decide +kernel
theorem d_Mo_four_33 : decode M_Mo_four.2.1 33 = .ok (.goto (-30), 3) := by decide +kernel
theorem d_Mo_four_36 : decode M_Mo_four.2.1 36 = .ok (.return_, 1) := by decide +kernel
theorem d_Mo_byteAt_0 : decode M_Mo_byteAt.2.1 0 = .ok (.iload_n 1, 1) := by decide +kernel
theorem d_Mo_byteAt_1 : decode M_Mo_byteAt.2.1 1 = .ok (.aload_n 0, 1) := by decide +kernel
theorem d_Mo_byteAt_2 : decode M_Mo_byteAt.2.1 2 = .ok (.getfield 141, 3) := by decide +kernel
theorem d_Mo_byteAt_5 : decode M_Mo_byteAt.2.1 5 = .ok (.if_icmp .ge 16, 3) := by decide +kernel
theorem d_Mo_byteAt_8 : decode M_Mo_byteAt.2.1 8 = .ok (.aload_n 0, 1) := by decide +kernel
theorem d_Mo_byteAt_9 : decode M_Mo_byteAt.2.1 9 = .ok (.getfield 34, 3) := by decide +kernel
theorem d_Mo_byteAt_12 : decode M_Mo_byteAt.2.1 12 = .ok (.iload_n 1, 1) := by decide +kernel
theorem d_Mo_byteAt_13 : decode M_Mo_byteAt.2.1 13 = .ok (.baload, 1) := by decide +kernel
theorem d_Mo_byteAt_14 : decode M_Mo_byteAt.2.1 14 = .ok (.sipush 255, 3) := by decide +kernel
theorem d_Mo_byteAt_17 : decode M_Mo_byteAt.2.1 17 = .ok (.iand, 1) := by decide +kernel
theorem d_Mo_byteAt_18 : decode M_Mo_byteAt.2.1 18 = .ok (.goto 4, 3) := by decide +kernel
theorem d_Mo_byteAt_21 : decode M_Mo_byteAt.2.1 21 = .ok (.iconst (-1), 1) := by decide +kernel
theorem d_Mo_byteAt_22 : decode M_Mo_byteAt.2.1 22 = .ok (.ireturn, 1) := by decide +kernel
theorem d_Mo_isSmall_0 : decode M_Mo_isSmall.2.1 0 = .ok (.iload_n 0, 1) := by decide +kernel
theorem d_Mo_isSmall_1 : decode M_Mo_isSmall.2.1 1 = .ok (.bipush 97, 2) := by decide +kernel
theorem d_Mo_isSmall_3 : decode M_Mo_isSmall.2.1 3 = .ok (.if_icmp .lt 13, 3) := by decide +kernel
theorem d_Mo_isSmall_6 : decode M_Mo_isSmall.2.1 6 = .ok (.iload_n 0, 1) := by decide +kernel
theorem d_Mo_isSmall_7 : decode M_Mo_isSmall.2.1 7 = .ok (.bipush 122, 2) := by decide +kernel
theorem d_Mo_isSmall_9 : decode M_Mo_isSmall.2.1 9 = .ok (.if_icmp .gt 7, 3) := by decide +kernel
theorem d_Mo_isSmall_12 : decode M_Mo_isSmall.2.1 12 = .ok (.iconst 1, 1) := by decide +kernel
theorem d_Mo_isSmall_13 : decode M_Mo_isSmall.2.1 13 = .ok (.goto 4, 3) := by decide +kernel
theorem d_Mo_isSmall_16 : decode M_Mo_isSmall.2.1 16 = .ok (.iconst 0, 1) := by decide +kernel
theorem d_Mo_isSmall_17 : decode M_Mo_isSmall.2.1 17 = .ok (.ireturn, 1) := by decide +kernel
theorem d_Mo_isDigit_0 : decode M_Mo_isDigit.2.1 0 = .ok (.iload_n 0, 1) := by decide +kernel
theorem d_Mo_isDigit_1 : decode M_Mo_isDigit.2.1 1 = .ok (.bipush 48, 2) := by decide +kernel
theorem d_Mo_isDigit_3 : decode M_Mo_isDigit.2.1 3 = .ok (.if_icmp .lt 13, 3) := by decide +kernel
theorem d_Mo_isDigit_6 : decode M_Mo_isDigit.2.1 6 = .ok (.iload_n 0, 1) := by decide +kernel
theorem d_Mo_isDigit_7 : decode M_Mo_isDigit.2.1 7 = .ok (.bipush 57, 2) := by decide +kernel
theorem d_Mo_isDigit_9 : decode M_Mo_isDigit.2.1 9 = .ok (.if_icmp .gt 7, 3) := by decide +kernel
theorem d_Mo_isDigit_12 : decode M_Mo_isDigit.2.1 12 = .ok (.iconst 1, 1) := by decide +kernel
theorem d_Mo_isDigit_13 : decode M_Mo_isDigit.2.1 13 = .ok (.goto 4, 3) := by decide +kernel
theorem d_Mo_isDigit_16 : decode M_Mo_isDigit.2.1 16 = .ok (.iconst 0, 1) := by decide +kernel
theorem d_Mo_isDigit_17 : decode M_Mo_isDigit.2.1 17 = .ok (.ireturn, 1) := by decide +kernel
theorem d_Mo_ahead_0 : decode M_Mo_ahead.2.1 0 = .ok (.aload_n 0, 1) := by decide +kernel
theorem d_Mo_ahead_1 : decode M_Mo_ahead.2.1 1 = .ok (.aload_n 0, 1) := by decide +kernel
theorem d_Mo_ahead_2 : decode M_Mo_ahead.2.1 2 = .ok (.getfield 144, 3) := by decide +kernel
theorem d_Mo_ahead_5 : decode M_Mo_ahead.2.1 5 = .ok (.invokevirtual 147, 3) := by decide +kernel
theorem d_Mo_ahead_8 : decode M_Mo_ahead.2.1 8 = .ok (.bipush 32, 2) := by decide +kernel
theorem d_Mo_ahead_10 : decode M_Mo_ahead.2.1 10 = .ok (.if_icmp .eq 16, 3) := by decide +kernel
theorem d_Mo_ahead_13 : decode M_Mo_ahead.2.1 13 = .ok (.aload_n 0, 1) := by decide +kernel
theorem d_Mo_ahead_14 : decode M_Mo_ahead.2.1 14 = .ok (.aload_n 0, 1) := by decide +kernel
theorem d_Mo_ahead_15 : decode M_Mo_ahead.2.1 15 = .ok (.getfield 144, 3) := by decide +kernel
theorem d_Mo_ahead_18 : decode M_Mo_ahead.2.1 18 = .ok (.invokevirtual 147, 3) := by decide +kernel
theorem d_Mo_ahead_21 : decode M_Mo_ahead.2.1 21 = .ok (.bipush 10, 2) := by decide +kernel
theorem d_Mo_ahead_23 : decode M_Mo_ahead.2.1 23 = .ok (.if_icmp .ne 16, 3) := by decide +kernel
theorem d_Mo_ahead_26 : decode M_Mo_ahead.2.1 26 = .ok (.aload_n 0, 1) := by decide +kernel
theorem d_Mo_ahead_27 : decode M_Mo_ahead.2.1 27 = .ok (.dup, 1) := by decide +kernel
