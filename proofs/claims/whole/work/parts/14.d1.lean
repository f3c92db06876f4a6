theorem d_Game_bestMove_10 : decode M_Game_bestMove.2.1 10 = .ok (.iconst 0, 1) := by decide +kernel
theorem d_Game_bestMove_11 : decode M_Game_bestMove.2.1 11 = .ok (.istore_n 3, 1) := by decide +kernel
theorem d_Game_bestMove_12 : decode M_Game_bestMove.2.1 12 = .ok (.aload_n 0, 1) := by decide +kernel
theorem d_Game_bestMove_13 : decode M_Game_bestMove.2.1 13 = .ok (.iload_n 1, 1) := by decide +kernel
theorem d_Game_bestMove_14 : decode M_Game_bestMove.2.1 14 = .ok (.iload_n 2, 1) := by decide +kernel
theorem d_Game_bestMove_15 : decode M_Game_bestMove.2.1 15 = .ok (.iconst 1, 1) := by decide +kernel
theorem d_Game_bestMove_16 : decode M_Game_bestMove.2.1 16 = .ok (.iadd, 1) := by decide +kernel
theorem d_Game_bestMove_17 : decode M_Game_bestMove.2.1 17 = .ok (.invokevirtual 54, 3) := by decide +kernel
theorem d_Game_bestMove_20 : decode M_Game_bestMove.2.1 20 = .ok (.istore 4, 2) := by decide +kernel
theorem d_Game_bestMove_22 : decode M_Game_bestMove.2.1 22 = .ok (.iconst 0, 1) := by decide +kernel
theorem d_Game_bestMove_23 : decode M_Game_bestMove.2.1 23 = .ok (.istore 5, 2) := by decide +kernel
theorem d_Game_bestMove_25 : decode M_Game_bestMove.2.1 25 = .ok (.iload 5, 2) := by decide +kernel
theorem d_Game_bestMove_27 : decode M_Game_bestMove.2.1 27 = .ok (.aload_n 0, 1) := by decide +kernel
theorem d_Game_bestMove_28 : decode M_Game_bestMove.2.1 28 = .ok (.getfield 18, 3) := by decide +kernel
theorem d_Game_bestMove_31 : decode M_Game_bestMove.2.1 31 = .ok (.if_icmp .ge 57, 3) := by decide +kernel
theorem d_Game_bestMove_34 : decode M_Game_bestMove.2.1 34 = .ok (.iload_n 1, 1) := by decide +kernel
theorem d_Game_bestMove_35 : decode M_Game_bestMove.2.1 35 = .ok (.iload 5, 2) := by decide +kernel
theorem d_Game_bestMove_37 : decode M_Game_bestMove.2.1 37 = .ok (.invokestatic 58, 3) := by decide +kernel
theorem d_Game_bestMove_40 : decode M_Game_bestMove.2.1 40 = .ok (.iload_n 3, 1) := by decide +kernel
theorem d_Game_bestMove_41 : decode M_Game_bestMove.2.1 41 = .ok (.if_icmp .ne 41, 3) := by decide +kernel
theorem d_Game_bestMove_44 : decode M_Game_bestMove.2.1 44 = .ok (.aload_n 0, 1) := by decide +kernel
theorem d_Game_bestMove_45 : decode M_Game_bestMove.2.1 45 = .ok (.iload_n 1, 1) := by decide +kernel
theorem d_Game_bestMove_46 : decode M_Game_bestMove.2.1 46 = .ok (.iconst 1, 1) := by decide +kernel
theorem d_Game_bestMove_47 : decode M_Game_bestMove.2.1 47 = .ok (.iload 5, 2) := by decide +kernel
theorem d_Game_bestMove_49 : decode M_Game_bestMove.2.1 49 = .ok (.ishl, 1) := by decide +kernel
theorem d_Game_bestMove_50 : decode M_Game_bestMove.2.1 50 = .ok (.ixor, 1) := by decide +kernel
theorem d_Game_bestMove_51 : decode M_Game_bestMove.2.1 51 = .ok (.iload_n 2, 1) := by decide +kernel
theorem d_Game_bestMove_52 : decode M_Game_bestMove.2.1 52 = .ok (.iconst 1, 1) := by decide +kernel
theorem d_Game_bestMove_53 : decode M_Game_bestMove.2.1 53 = .ok (.iadd, 1) := by decide +kernel
theorem d_Game_bestMove_54 : decode M_Game_bestMove.2.1 54 = .ok (.invokevirtual 54, 3) := by decide +kernel
theorem d_Game_bestMove_57 : decode M_Game_bestMove.2.1 57 = .ok (.istore 6, 2) := by decide +kernel
theorem d_Game_bestMove_59 : decode M_Game_bestMove.2.1 59 = .ok (.iload_n 3, 1) := by decide +kernel
theorem d_Game_bestMove_60 : decode M_Game_bestMove.2.1 60 = .ok (.ifCond .eq 13, 3) := by decide +kernel
theorem d_Game_bestMove_63 : decode M_Game_bestMove.2.1 63 = .ok (.iload 4, 2) := by decide +kernel
theorem d_Game_bestMove_65 : decode M_Game_bestMove.2.1 65 = .ok (.iload 6, 2) := by decide +kernel
theorem d_Game_bestMove_67 : decode M_Game_bestMove.2.1 67 = .ok (.invokestatic 69, 3) := by decide +kernel
theorem d_Game_bestMove_70 : decode M_Game_bestMove.2.1 70 = .ok (.goto 10, 3) := by decide +kernel
theorem d_Game_bestMove_73 : decode M_Game_bestMove.2.1 73 = .ok (.iload 4, 2) := by decide +kernel
theorem d_Game_bestMove_75 : decode M_Game_bestMove.2.1 75 = .ok (.iload 6, 2) := by decide +kernel
theorem d_Game_bestMove_77 : decode M_Game_bestMove.2.1 77 = .ok (.invokestatic 74, 3) := by decide +kernel
theorem d_Game_bestMove_80 : decode M_Game_bestMove.2.1 80 = .ok (.istore 4, 2) := by decide +kernel
theorem d_Game_bestMove_82 : decode M_Game_bestMove.2.1 82 = .ok (.iinc 5 1, 3) := by decide +kernel
theorem d_Game_bestMove_85 : decode M_Game_bestMove.2.1 85 = .ok (.goto (-60), 3) := by decide +kernel
theorem d_Game_bestMove_88 : decode M_Game_bestMove.2.1 88 = .ok (.iload 4, 2) := by decide +kernel
theorem d_Game_bestMove_90 : decode M_Game_bestMove.2.1 90 = .ok (.ireturn, 1) := by decide +kernel
theorem d_Game_reached_0 : decode M_Game_reached.2.1 0 = .ok (.aload_n 0, 1) := by decide +kernel
theorem d_Game_reached_1 : decode M_Game_reached.2.1 1 = .ok (.getfield 28, 3) := by decide +kernel
theorem d_Game_reached_4 : decode M_Game_reached.2.1 4 = .ok (.ifCond .eq 7, 3) := by decide +kernel
theorem d_Game_reached_7 : decode M_Game_reached.2.1 7 = .ok (.iconst 1, 1) := by decide +kernel
theorem d_Game_reached_8 : decode M_Game_reached.2.1 8 = .ok (.goto 4, 3) := by decide +kernel
theorem d_Game_reached_11 : decode M_Game_reached.2.1 11 = .ok (.iconst 0, 1) := by decide +kernel
theorem d_Game_reached_12 : decode M_Game_reached.2.1 12 = .ok (.istore_n 2, 1) := by decide +kernel
theorem d_Game_reached_13 : decode M_Game_reached.2.1 13 = .ok (.iconst 0, 1) := by decide +kernel
theorem d_Game_reached_14 : decode M_Game_reached.2.1 14 = .ok (.istore_n 3, 1) := by decide +kernel
theorem d_Game_reached_15 : decode M_Game_reached.2.1 15 = .ok (.iload_n 3, 1) := by decide +kernel
theorem d_Game_reached_16 : decode M_Game_reached.2.1 16 = .ok (.bipush 7, 2) := by decide +kernel
theorem d_Game_reached_18 : decode M_Game_reached.2.1 18 = .ok (.if_icmp .ge 70, 3) := by decide +kernel
theorem d_Game_reached_21 : decode M_Game_reached.2.1 21 = .ok (.iload_n 2, 1) := by decide +kernel
theorem d_Game_reached_22 : decode M_Game_reached.2.1 22 = .ok (.istore 4, 2) := by decide +kernel
theorem d_Game_reached_24 : decode M_Game_reached.2.1 24 = .ok (.iconst 0, 1) := by decide +kernel
theorem d_Game_reached_25 : decode M_Game_reached.2.1 25 = .ok (.istore 5, 2) := by decide +kernel
theorem d_Game_reached_27 : decode M_Game_reached.2.1 27 = .ok (.iload 5, 2) := by decide +kernel
theorem d_Game_reached_29 : decode M_Game_reached.2.1 29 = .ok (.aload_n 0, 1) := by decide +kernel
theorem d_Game_reached_30 : decode M_Game_reached.2.1 30 = .ok (.getfield 18, 3) := by decide +kernel
theorem d_Game_reached_33 : decode M_Game_reached.2.1 33 = .ok (.if_icmp .ge 40, 3) := by decide +kernel
theorem d_Game_reached_36 : decode M_Game_reached.2.1 36 = .ok (.iload_n 1, 1) := by decide +kernel
theorem d_Game_reached_37 : decode M_Game_reached.2.1 37 = .ok (.iload 5, 2) := by decide +kernel
theorem d_Game_reached_39 : decode M_Game_reached.2.1 39 = .ok (.invokestatic 58, 3) := by decide +kernel
theorem d_Game_reached_42 : decode M_Game_reached.2.1 42 = .ok (.ifCond .eq 25, 3) := by decide +kernel
theorem d_Game_reached_45 : decode M_Game_reached.2.1 45 = .ok (.iload_n 2, 1) := by decide +kernel
theorem d_Game_reached_46 : decode M_Game_reached.2.1 46 = .ok (.aload_n 0, 1) := by decide +kernel
theorem d_Game_reached_47 : decode M_Game_reached.2.1 47 = .ok (.getfield 15, 3) := by decide +kernel
theorem d_Game_reached_50 : decode M_Game_reached.2.1 50 = .ok (.iload 5, 2) := by decide +kernel
theorem d_Game_reached_52 : decode M_Game_reached.2.1 52 = .ok (.iaload, 1) := by decide +kernel
theorem d_Game_reached_53 : decode M_Game_reached.2.1 53 = .ok (.iand, 1) := by decide +kernel
theorem d_Game_reached_54 : decode M_Game_reached.2.1 54 = .ok (.ifCond .eq 13, 3) := by decide +kernel
theorem d_Game_reached_57 : decode M_Game_reached.2.1 57 = .ok (.iload_n 2, 1) := by decide +kernel
theorem d_Game_reached_58 : decode M_Game_reached.2.1 58 = .ok (.aload_n 0, 1) := by decide +kernel
theorem d_Game_reached_59 : decode M_Game_reached.2.1 59 = .ok (.getfield 15, 3) := by decide +kernel
theorem d_Game_reached_62 : decode M_Game_reached.2.1 62 = .ok (.iload 5, 2) := by decide +kernel
theorem d_Game_reached_64 : decode M_Game_reached.2.1 64 = .ok (.iaload, 1) := by decide +kernel
theorem d_Game_reached_65 : decode M_Game_reached.2.1 65 = .ok (.ior, 1) := by decide +kernel
theorem d_Game_reached_66 : decode M_Game_reached.2.1 66 = .ok (.istore_n 2, 1) := by decide +kernel
theorem d_Game_reached_67 : decode M_Game_reached.2.1 67 = .ok (.iinc 5 1, 3) := by decide +kernel
theorem d_Game_reached_70 : decode M_Game_reached.2.1 70 = .ok (.goto (-43), 3) := by decide +kernel
theorem d_Game_reached_73 : decode M_Game_reached.2.1 73 = .ok (.iload_n 2, 1) := by decide +kernel
theorem d_Game_reached_74 : decode M_Game_reached.2.1 74 = .ok (.iload 4, 2) := by decide +kernel
theorem d_Game_reached_76 : decode M_Game_reached.2.1 76 = .ok (.if_icmp .ne 6, 3) := by decide +kernel
theorem d_Game_reached_79 : decode M_Game_reached.2.1 79 = .ok (.goto 9, 3) := by decide +kernel
theorem d_Game_reached_82 : decode M_Game_reached.2.1 82 = .ok (.iinc 3 1, 3) := by decide +kernel
theorem d_Game_reached_85 : decode M_Game_reached.2.1 85 = .ok (.goto (-70), 3) := by decide +kernel
theorem d_Game_reached_88 : decode M_Game_reached.2.1 88 = .ok (.iload_n 2, 1) := by decide +kernel
theorem d_Game_reached_89 : decode M_Game_reached.2.1 89 = .ok (.invokestatic 77, 3) := by decide +kernel
theorem d_Game_reached_92 : decode M_Game_reached.2.1 92 = .ok (.ireturn, 1) := by decide +kernel
theorem d_Life_init_0 : decode M_Life_init.2.1 0 = .ok (.aload_n 0, 1) := by decide +kernel
theorem d_Life_init_1 : decode M_Life_init.2.1 1 = .ok (.invokespecial 3, 3) := by decide +kernel
theorem d_Life_init_4 : decode M_Life_init.2.1 4 = .ok (.aload_n 0, 1) := by decide +kernel
theorem d_Life_init_5 : decode M_Life_init.2.1 5 = .ok (.new 9, 3) := by decide +kernel
theorem d_Life_init_8 : decode M_Life_init.2.1 8 = .ok (.dup, 1) := by decide +kernel
theorem d_Life_init_9 : decode M_Life_init.2.1 9 = .ok (.invokespecial 11, 3) := by decide +kernel
theorem d_Life_init_12 : decode M_Life_init.2.1 12 = .ok (.putfield 12, 3) := by decide +kernel
theorem d_Life_init_15 : decode M_Life_init.2.1 15 = .ok (.aload_n 0, 1) := by decide +kernel
theorem d_Life_init_16 : decode M_Life_init.2.1 16 = .ok (.iconst 5, 1) := by decide +kernel
theorem d_Life_init_17 : decode M_Life_init.2.1 17 = .ok (.newarray .int, 2) := by decide +kernel
theorem d_Life_init_19 : decode M_Life_init.2.1 19 = .ok (.putfield 18, 3) := by decide +kernel
theorem d_Life_init_22 : decode M_Life_init.2.1 22 = .ok (.aload_n 0, 1) := by decide +kernel
theorem d_Life_init_23 : decode M_Life_init.2.1 23 = .ok (.bipush 60, 2) := by decide +kernel
theorem d_Life_init_25 : decode M_Life_init.2.1 25 = .ok (.newarray .int, 2) := by decide +kernel
theorem d_Life_init_27 : decode M_Life_init.2.1 27 = .ok (.putfield 24, 3) := by decide +kernel
theorem d_Life_init_30 : decode M_Life_init.2.1 30 = .ok (.aload_n 0, 1) := by decide +kernel
theorem d_Life_init_31 : decode M_Life_init.2.1 31 = .ok (.iconst 0, 1) := by decide +kernel
theorem d_Life_init_32 : decode M_Life_init.2.1 32 = .ok (.putfield 27, 3) := by decide +kernel
theorem d_Life_init_35 : decode M_Life_init.2.1 35 = .ok (.aload_n 0, 1) := by decide +kernel
theorem d_Life_init_36 : decode M_Life_init.2.1 36 = .ok (.iconst 0, 1) := by decide +kernel
theorem d_Life_init_37 : decode M_Life_init.2.1 37 = .ok (.putfield 31, 3) := by decide +kernel
theorem d_Life_init_40 : decode M_Life_init.2.1 40 = .ok (.return_, 1) := by decide +kernel
theorem d_Life_run_0 : decode M_Life_run.2.1 0 = .ok (.aload_n 0, 1) := by decide +kernel
theorem d_Life_run_1 : decode M_Life_run.2.1 1 = .ok (.getfield 18, 3) := by decide +kernel
theorem d_Life_run_4 : decode M_Life_run.2.1 4 = .ok (.iconst 0, 1) := by decide +kernel
theorem d_Life_run_5 : decode M_Life_run.2.1 5 = .ok (.invokestatic 34, 3) := by decide +kernel
theorem d_Life_run_8 : decode M_Life_run.2.1 8 = .ok (.aload_n 0, 1) := by decide +kernel
theorem d_Life_run_9 : decode M_Life_run.2.1 9 = .ok (.iconst 0, 1) := by decide +kernel
theorem d_Life_run_10 : decode M_Life_run.2.1 10 = .ok (.putfield 27, 3) := by decide +kernel
theorem d_Life_run_13 : decode M_Life_run.2.1 13 = .ok (.aload_n 0, 1) := by decide +kernel
theorem d_Life_run_14 : decode M_Life_run.2.1 14 = .ok (.iload_n 3, 1) := by decide +kernel
theorem d_Life_run_15 : decode M_Life_run.2.1 15 = .ok (.putfield 31, 3) := by decide +kernel
theorem d_Life_run_18 : decode M_Life_run.2.1 18 = .ok (.iconst 0, 1) := by decide +kernel
theorem d_Life_run_19 : decode M_Life_run.2.1 19 = .ok (.istore 4, 2) := by decide +kernel
theorem d_Life_run_21 : decode M_Life_run.2.1 21 = .ok (.iconst 0, 1) := by decide +kernel
theorem d_Life_run_22 : decode M_Life_run.2.1 22 = .ok (.istore 5, 2) := by decide +kernel
theorem d_Life_run_24 : decode M_Life_run.2.1 24 = .ok (.iload 5, 2) := by decide +kernel
theorem d_Life_run_26 : decode M_Life_run.2.1 26 = .ok (.ldc 40, 2) := by decide +kernel
theorem d_Life_run_28 : decode M_Life_run.2.1 28 = .ok (.if_icmp .ge 85, 3) := by decide +kernel
theorem d_Life_run_31 : decode M_Life_run.2.1 31 = .ok (.iload 4, 2) := by decide +kernel
theorem d_Life_run_33 : decode M_Life_run.2.1 33 = .ok (.ifCond .lt 80, 3) := by decide +kernel
theorem d_Life_run_36 : decode M_Life_run.2.1 36 = .ok (.iload 4, 2) := by decide +kernel
theorem d_Life_run_38 : decode M_Life_run.2.1 38 = .ok (.aload_n 2, 1) := by decide +kernel
theorem d_Life_run_39 : decode M_Life_run.2.1 39 = .ok (.getfield 41, 3) := by decide +kernel
theorem d_Life_run_42 : decode M_Life_run.2.1 42 = .ok (.if_icmp .ge 71, 3) := by decide +kernel
theorem d_Life_run_45 : decode M_Life_run.2.1 45 = .ok (.aload_n 2, 1) := by decide +kernel
theorem d_Life_run_46 : decode M_Life_run.2.1 46 = .ok (.getfield 44, 3) := by decide +kernel
theorem d_Life_run_49 : decode M_Life_run.2.1 49 = .ok (.iload 4, 2) := by decide +kernel
theorem d_Life_run_51 : decode M_Life_run.2.1 51 = .ok (.iaload, 1) := by decide +kernel
theorem d_Life_run_52 : decode M_Life_run.2.1 52 = .ok (.bipush 7, 2) := by decide +kernel
theorem d_Life_run_54 : decode M_Life_run.2.1 54 = .ok (.if_icmp .ne 15, 3) := by decide +kernel
theorem d_Life_run_57 : decode M_Life_run.2.1 57 = .ok (.aload_n 0, 1) := by decide +kernel
theorem d_Life_run_58 : decode M_Life_run.2.1 58 = .ok (.aload_n 2, 1) := by decide +kernel
theorem d_Life_run_59 : decode M_Life_run.2.1 59 = .ok (.iload 4, 2) := by decide +kernel
theorem d_Life_run_61 : decode M_Life_run.2.1 61 = .ok (.invokevirtual 47, 3) := by decide +kernel
theorem d_Life_run_64 : decode M_Life_run.2.1 64 = .ok (.istore 4, 2) := by decide +kernel
theorem d_Life_run_66 : decode M_Life_run.2.1 66 = .ok (.goto 41, 3) := by decide +kernel
theorem d_Life_run_69 : decode M_Life_run.2.1 69 = .ok (.aload_n 0, 1) := by decide +kernel
theorem d_Life_run_70 : decode M_Life_run.2.1 70 = .ok (.getfield 27, 3) := by decide +kernel
theorem d_Life_run_73 : decode M_Life_run.2.1 73 = .ok (.sipush 300, 3) := by decide +kernel
theorem d_Life_run_76 : decode M_Life_run.2.1 76 = .ok (.if_icmp .lt 11, 3) := by decide +kernel
theorem d_Life_run_79 : decode M_Life_run.2.1 79 = .ok (.aload_n 0, 1) := by decide +kernel
theorem d_Life_run_80 : decode M_Life_run.2.1 80 = .ok (.getfield 18, 3) := by decide +kernel
theorem d_Life_run_83 : decode M_Life_run.2.1 83 = .ok (.iconst 4, 1) := by decide +kernel
theorem d_Life_run_84 : decode M_Life_run.2.1 84 = .ok (.iconst 1, 1) := by decide +kernel
theorem d_Life_run_85 : decode M_Life_run.2.1 85 = .ok (.iastore, 1) := by decide +kernel
theorem d_Life_run_86 : decode M_Life_run.2.1 86 = .ok (.return_, 1) := by decide +kernel
theorem d_Life_run_87 : decode M_Life_run.2.1 87 = .ok (.aload_n 0, 1) := by decide +kernel
theorem d_Life_run_88 : decode M_Life_run.2.1 88 = .ok (.dup, 1) := by decide +kernel
theorem d_Life_run_89 : decode M_Life_run.2.1 89 = .ok (.getfield 27, 3) := by decide +kernel
theorem d_Life_run_92 : decode M_Life_run.2.1 92 = .ok (.iconst 1, 1) := by decide +kernel
theorem d_Life_run_93 : decode M_Life_run.2.1 93 = .ok (.iadd, 1) := by decide +kernel
theorem d_Life_run_94 : decode M_Life_run.2.1 94 = .ok (.putfield 27, 3) := by decide +kernel
theorem d_Life_run_97 : decode M_Life_run.2.1 97 = .ok (.aload_n 0, 1) := by decide +kernel
theorem d_Life_run_98 : decode M_Life_run.2.1 98 = .ok (.aload_n 1, 1) := by decide +kernel
theorem d_Life_run_99 : decode M_Life_run.2.1 99 = .ok (.aload_n 2, 1) := by decide +kernel
theorem d_Life_run_100 : decode M_Life_run.2.1 100 = .ok (.iload 4, 2) := by decide +kernel
theorem d_Life_run_102 : decode M_Life_run.2.1 102 = .ok (.invokevirtual 51, 3) := by decide +kernel
theorem d_Life_run_105 : decode M_Life_run.2.1 105 = .ok (.istore 4, 2) := by decide +kernel
theorem d_Life_run_107 : decode M_Life_run.2.1 107 = .ok (.iinc 5 1, 3) := by decide +kernel
theorem d_Life_run_110 : decode M_Life_run.2.1 110 = .ok (.goto (-86), 3) := by decide +kernel
theorem d_Life_run_113 : decode M_Life_run.2.1 113 = .ok (.return_, 1) := by decide +kernel
theorem d_Life_behindEnd_0 : decode M_Life_behindEnd.2.1 0 = .ok (.aload_n 1, 1) := by decide +kernel
theorem d_Life_behindEnd_1 : decode M_Life_behindEnd.2.1 1 = .ok (.getfield 55, 3) := by decide +kernel
theorem d_Life_behindEnd_4 : decode M_Life_behindEnd.2.1 4 = .ok (.iload_n 2, 1) := by decide +kernel
theorem d_Life_behindEnd_5 : decode M_Life_behindEnd.2.1 5 = .ok (.iaload, 1) := by decide +kernel
theorem d_Life_behindEnd_6 : decode M_Life_behindEnd.2.1 6 = .ok (.istore_n 3, 1) := by decide +kernel
theorem d_Life_behindEnd_7 : decode M_Life_behindEnd.2.1 7 = .ok (.aload_n 1, 1) := by decide +kernel
theorem d_Life_behindEnd_8 : decode M_Life_behindEnd.2.1 8 = .ok (.getfield 44, 3) := by decide +kernel
theorem d_Life_behindEnd_11 : decode M_Life_behindEnd.2.1 11 = .ok (.iload_n 3, 1) := by decide +kernel
theorem d_Life_behindEnd_12 : decode M_Life_behindEnd.2.1 12 = .ok (.iaload, 1) := by decide +kernel
theorem d_Life_behindEnd_13 : decode M_Life_behindEnd.2.1 13 = .ok (.bipush 6, 2) := by decide +kernel
theorem d_Life_behindEnd_15 : decode M_Life_behindEnd.2.1 15 = .ok (.if_icmp .eq 7, 3) := by decide +kernel
theorem d_Life_behindEnd_18 : decode M_Life_behindEnd.2.1 18 = .ok (.iload_n 2, 1) := by decide +kernel
theorem d_Life_behindEnd_19 : decode M_Life_behindEnd.2.1 19 = .ok (.iconst 1, 1) := by decide +kernel
theorem d_Life_behindEnd_20 : decode M_Life_behindEnd.2.1 20 = .ok (.iadd, 1) := by decide +kernel
theorem d_Life_behindEnd_21 : decode M_Life_behindEnd.2.1 21 = .ok (.ireturn, 1) := by decide +kernel
theorem d_Life_behindEnd_22 : decode M_Life_behindEnd.2.1 22 = .ok (.aload_n 0, 1) := by decide +kernel
theorem d_Life_behindEnd_23 : decode M_Life_behindEnd.2.1 23 = .ok (.getfield 24, 3) := by decide +kernel
theorem d_Life_behindEnd_26 : decode M_Life_behindEnd.2.1 26 = .ok (.iload_n 3, 1) := by decide +kernel
theorem d_Life_behindEnd_27 : decode M_Life_behindEnd.2.1 27 = .ok (.dup2, 1) := by decide +kernel
theorem d_Life_behindEnd_28 : decode M_Life_behindEnd.2.1 28 = .ok (.iaload, 1) := by decide +kernel
theorem d_Life_behindEnd_29 : decode M_Life_behindEnd.2.1 29 = .ok (.iconst 1, 1) := by decide +kernel
theorem d_Life_behindEnd_30 : decode M_Life_behindEnd.2.1 30 = .ok (.isub, 1) := by decide +kernel
theorem d_Life_behindEnd_31 : decode M_Life_behindEnd.2.1 31 = .ok (.iastore, 1) := by decide +kernel
theorem d_Life_behindEnd_32 : decode M_Life_behindEnd.2.1 32 = .ok (.aload_n 0, 1) := by decide +kernel
theorem d_Life_behindEnd_33 : decode M_Life_behindEnd.2.1 33 = .ok (.getfield 24, 3) := by decide +kernel
theorem d_Life_behindEnd_36 : decode M_Life_behindEnd.2.1 36 = .ok (.iload_n 3, 1) := by decide +kernel
theorem d_Life_behindEnd_37 : decode M_Life_behindEnd.2.1 37 = .ok (.iaload, 1) := by decide +kernel
theorem d_Life_behindEnd_38 : decode M_Life_behindEnd.2.1 38 = .ok (.ifCond .le 9, 3) := by decide +kernel
theorem d_Life_behindEnd_41 : decode M_Life_behindEnd.2.1 41 = .ok (.iload_n 3, 1) := by decide +kernel
theorem d_Life_behindEnd_42 : decode M_Life_behindEnd.2.1 42 = .ok (.iconst 1, 1) := by decide +kernel
theorem d_Life_behindEnd_43 : decode M_Life_behindEnd.2.1 43 = .ok (.iadd, 1) := by decide +kernel
theorem d_Life_behindEnd_44 : decode M_Life_behindEnd.2.1 44 = .ok (.goto 6, 3) := by decide +kernel
theorem d_Life_behindEnd_47 : decode M_Life_behindEnd.2.1 47 = .ok (.iload_n 2, 1) := by decide +kernel
theorem d_Life_behindEnd_48 : decode M_Life_behindEnd.2.1 48 = .ok (.iconst 1, 1) := by decide +kernel
theorem d_Life_behindEnd_49 : decode M_Life_behindEnd.2.1 49 = .ok (.iadd, 1) := by decide +kernel
theorem d_Life_behindEnd_50 : decode M_Life_behindEnd.2.1 50 = .ok (.ireturn, 1) := by decide +kernel
theorem d_Life_behindStep_0 : decode M_Life_behindStep.2.1 0 = .ok (.aload_n 2, 1) := by decide +kernel
theorem d_Life_behindStep_1 : decode M_Life_behindStep.2.1 1 = .ok (.getfield 58, 3) := by decide +kernel
theorem d_Life_behindStep_4 : decode M_Life_behindStep.2.1 4 = .ok (.iload_n 3, 1) := by decide +kernel
theorem d_Life_behindStep_5 : decode M_Life_behindStep.2.1 5 = .ok (.iaload, 1) := by decide +kernel
theorem d_Life_behindStep_6 : decode M_Life_behindStep.2.1 6 = .ok (.istore 4, 2) := by decide +kernel
theorem d_Life_behindStep_8 : decode M_Life_behindStep.2.1 8 = .ok (.aload_n 2, 1) := by decide +kernel
theorem d_Life_behindStep_9 : decode M_Life_behindStep.2.1 9 = .ok (.getfield 44, 3) := by decide +kernel
theorem d_Life_behindStep_12 : decode M_Life_behindStep.2.1 12 = .ok (.iload_n 3, 1) := by decide +kernel
theorem d_Life_behindStep_13 : decode M_Life_behindStep.2.1 13 = .ok (.iaload, 1) := by decide +kernel
theorem d_Life_behindStep_14 : decode M_Life_behindStep.2.1 14 = .ok (.tableswitch 130 0 6 #[42, 57, 72, 87, 104, 125, 113], 42) := by decide +kernel
theorem d_Life_behindStep_56 : decode M_Life_behindStep.2.1 56 = .ok (.aload_n 0, 1) := by decide +kernel
theorem d_Life_behindStep_57 : decode M_Life_behindStep.2.1 57 = .ok (.iconst 1, 1) := by decide +kernel
theorem d_Life_behindStep_58 : decode M_Life_behindStep.2.1 58 = .ok (.aload_n 1, 1) := by decide +kernel
theorem d_Life_behindStep_59 : decode M_Life_behindStep.2.1 59 = .ok (.iload 4, 2) := by decide +kernel
theorem d_Life_behindStep_61 : decode M_Life_behindStep.2.1 61 = .ok (.invokevirtual 61, 3) := by decide +kernel
theorem d_Life_behindStep_64 : decode M_Life_behindStep.2.1 64 = .ok (.invokevirtual 67, 3) := by decide +kernel
theorem d_Life_behindStep_67 : decode M_Life_behindStep.2.1 67 = .ok (.iload_n 3, 1) := by decide +kernel
theorem d_Life_behindStep_68 : decode M_Life_behindStep.2.1 68 = .ok (.iconst 1, 1) := by decide +kernel
theorem d_Life_behindStep_69 : decode M_Life_behindStep.2.1 69 = .ok (.iadd, 1) := by decide +kernel
theorem d_Life_behindStep_70 : decode M_Life_behindStep.2.1 70 = .ok (.ireturn, 1) := by decide +kernel
theorem d_Life_behindStep_71 : decode M_Life_behindStep.2.1 71 = .ok (.aload_n 0, 1) := by decide +kernel
theorem d_Life_behindStep_72 : decode M_Life_behindStep.2.1 72 = .ok (.iconst 2, 1) := by decide +kernel
theorem d_Life_behindStep_73 : decode M_Life_behindStep.2.1 73 = .ok (.aload_n 1, 1) := by decide +kernel
theorem d_Life_behindStep_74 : decode M_Life_behindStep.2.1 74 = .ok (.iload 4, 2) := by decide +kernel
theorem d_Life_behindStep_76 : decode M_Life_behindStep.2.1 76 = .ok (.invokevirtual 71, 3) := by decide +kernel
theorem d_Life_behindStep_79 : decode M_Life_behindStep.2.1 79 = .ok (.invokevirtual 67, 3) := by decide +kernel
theorem d_Life_behindStep_82 : decode M_Life_behindStep.2.1 82 = .ok (.iload_n 3, 1) := by decide +kernel
theorem d_Life_behindStep_83 : decode M_Life_behindStep.2.1 83 = .ok (.iconst 1, 1) := by decide +kernel
theorem d_Life_behindStep_84 : decode M_Life_behindStep.2.1 84 = .ok (.iadd, 1) := by decide +kernel
theorem d_Life_behindStep_85 : decode M_Life_behindStep.2.1 85 = .ok (.ireturn, 1) := by decide +kernel
theorem d_Life_behindStep_86 : decode M_Life_behindStep.2.1 86 = .ok (.aload_n 0, 1) := by decide +kernel
theorem d_Life_behindStep_87 : decode M_Life_behindStep.2.1 87 = .ok (.iconst 3, 1) := by decide +kernel
theorem d_Life_behindStep_88 : decode M_Life_behindStep.2.1 88 = .ok (.aload_n 1, 1) := by decide +kernel
theorem d_Life_behindStep_89 : decode M_Life_behindStep.2.1 89 = .ok (.iload 4, 2) := by decide +kernel
theorem d_Life_behindStep_91 : decode M_Life_behindStep.2.1 91 = .ok (.invokevirtual 74, 3) := by decide +kernel
theorem d_Life_behindStep_94 : decode M_Life_behindStep.2.1 94 = .ok (.invokevirtual 67, 3) := by decide +kernel
theorem d_Life_behindStep_97 : decode M_Life_behindStep.2.1 97 = .ok (.iload_n 3, 1) := by decide +kernel
theorem d_Life_behindStep_98 : decode M_Life_behindStep.2.1 98 = .ok (.iconst 1, 1) := by decide +kernel
theorem d_Life_behindStep_99 : decode M_Life_behindStep.2.1 99 = .ok (.iadd, 1) := by decide +kernel
theorem d_Life_behindStep_100 : decode M_Life_behindStep.2.1 100 = .ok (.ireturn, 1) := by decide +kernel
theorem d_Life_behindStep_101 : decode M_Life_behindStep.2.1 101 = .ok (.aload_n 0, 1) := by decide +kernel
theorem d_Life_behindStep_102 : decode M_Life_behindStep.2.1 102 = .ok (.aload_n 1, 1) := by decide +kernel
theorem d_Life_behindStep_103 : decode M_Life_behindStep.2.1 103 = .ok (.iload 4, 2) := by decide +kernel
theorem d_Life_behindStep_105 : decode M_Life_behindStep.2.1 105 = .ok (.aload_n 2, 1) := by decide +kernel
theorem d_Life_behindStep_106 : decode M_Life_behindStep.2.1 106 = .ok (.getfield 55, 3) := by decide +kernel
theorem d_Life_behindStep_109 : decode M_Life_behindStep.2.1 109 = .ok (.iload_n 3, 1) := by decide +kernel
theorem d_Life_behindStep_110 : decode M_Life_behindStep.2.1 110 = .ok (.iaload, 1) := by decide +kernel
theorem d_Life_behindStep_111 : decode M_Life_behindStep.2.1 111 = .ok (.invokevirtual 77, 3) := by decide +kernel
theorem d_Life_behindStep_114 : decode M_Life_behindStep.2.1 114 = .ok (.iload_n 3, 1) := by decide +kernel
theorem d_Life_behindStep_115 : decode M_Life_behindStep.2.1 115 = .ok (.iconst 1, 1) := by decide +kernel
theorem d_Life_behindStep_116 : decode M_Life_behindStep.2.1 116 = .ok (.iadd, 1) := by decide +kernel
theorem d_Life_behindStep_117 : decode M_Life_behindStep.2.1 117 = .ok (.ireturn, 1) := by decide +kernel
theorem d_Life_behindStep_118 : decode M_Life_behindStep.2.1 118 = .ok (.aload_n 0, 1) := by decide +kernel
theorem d_Life_behindStep_119 : decode M_Life_behindStep.2.1 119 = .ok (.aload_n 1, 1) := by decide +kernel
theorem d_Life_behindStep_120 : decode M_Life_behindStep.2.1 120 = .ok (.invokevirtual 81, 3) := by decide +kernel
theorem d_Life_behindStep_123 : decode M_Life_behindStep.2.1 123 = .ok (.iload_n 3, 1) := by decide +kernel
theorem d_Life_behindStep_124 : decode M_Life_behindStep.2.1 124 = .ok (.iconst 1, 1) := by decide +kernel
theorem d_Life_behindStep_125 : decode M_Life_behindStep.2.1 125 = .ok (.iadd, 1) := by decide +kernel
theorem d_Life_behindStep_126 : decode M_Life_behindStep.2.1 126 = .ok (.ireturn, 1) := by decide +kernel
theorem d_Life_behindStep_127 : decode M_Life_behindStep.2.1 127 = .ok (.aload_n 0, 1) := by decide +kernel
theorem d_Life_behindStep_128 : decode M_Life_behindStep.2.1 128 = .ok (.getfield 24, 3) := by decide +kernel
theorem d_Life_behindStep_131 : decode M_Life_behindStep.2.1 131 = .ok (.iload_n 3, 1) := by decide +kernel
theorem d_Life_behindStep_132 : decode M_Life_behindStep.2.1 132 = .ok (.iload 4, 2) := by decide +kernel
theorem d_Life_behindStep_134 : decode M_Life_behindStep.2.1 134 = .ok (.iastore, 1) := by decide +kernel
theorem d_Life_behindStep_135 : decode M_Life_behindStep.2.1 135 = .ok (.iload_n 3, 1) := by decide +kernel
theorem d_Life_behindStep_136 : decode M_Life_behindStep.2.1 136 = .ok (.iconst 1, 1) := by decide +kernel
theorem d_Life_behindStep_137 : decode M_Life_behindStep.2.1 137 = .ok (.iadd, 1) := by decide +kernel
theorem d_Life_behindStep_138 : decode M_Life_behindStep.2.1 138 = .ok (.ireturn, 1) := by decide +kernel
theorem d_Life_behindStep_139 : decode M_Life_behindStep.2.1 139 = .ok (.aload_n 2, 1) := by decide +kernel
theorem d_Life_behindStep_140 : decode M_Life_behindStep.2.1 140 = .ok (.getfield 41, 3) := by decide +kernel
theorem d_Life_behindStep_143 : decode M_Life_behindStep.2.1 143 = .ok (.ireturn, 1) := by decide +kernel
theorem d_Life_behindStep_144 : decode M_Life_behindStep.2.1 144 = .ok (.aload_n 0, 1) := by decide +kernel
theorem d_Life_behindStep_145 : decode M_Life_behindStep.2.1 145 = .ok (.aload_n 1, 1) := by decide +kernel
theorem d_Life_behindStep_146 : decode M_Life_behindStep.2.1 146 = .ok (.aload_n 2, 1) := by decide +kernel
theorem d_Life_behindStep_147 : decode M_Life_behindStep.2.1 147 = .ok (.getfield 44, 3) := by decide +kernel
theorem d_Life_behindStep_150 : decode M_Life_behindStep.2.1 150 = .ok (.iload_n 3, 1) := by decide +kernel
theorem d_Life_behindStep_151 : decode M_Life_behindStep.2.1 151 = .ok (.iaload, 1) := by decide +kernel
theorem d_Life_behindStep_152 : decode M_Life_behindStep.2.1 152 = .ok (.iload 4, 2) := by decide +kernel
theorem d_Life_behindStep_154 : decode M_Life_behindStep.2.1 154 = .ok (.invokevirtual 85, 3) := by decide +kernel
theorem d_Life_behindStep_157 : decode M_Life_behindStep.2.1 157 = .ok (.ifCond .eq 9, 3) := by decide +kernel
theorem d_Life_behindStep_160 : decode M_Life_behindStep.2.1 160 = .ok (.iload_n 3, 1) := by decide +kernel
theorem d_Life_behindStep_161 : decode M_Life_behindStep.2.1 161 = .ok (.iconst 1, 1) := by decide +kernel
theorem d_Life_behindStep_162 : decode M_Life_behindStep.2.1 162 = .ok (.iadd, 1) := by decide +kernel
theorem d_Life_behindStep_163 : decode M_Life_behindStep.2.1 163 = .ok (.goto 11, 3) := by decide +kernel
theorem d_Life_behindStep_166 : decode M_Life_behindStep.2.1 166 = .ok (.aload_n 2, 1) := by decide +kernel
theorem d_Life_behindStep_167 : decode M_Life_behindStep.2.1 167 = .ok (.getfield 55, 3) := by decide +kernel
theorem d_Life_behindStep_170 : decode M_Life_behindStep.2.1 170 = .ok (.iload_n 3, 1) := by decide +kernel
theorem d_Life_behindStep_171 : decode M_Life_behindStep.2.1 171 = .ok (.iaload, 1) := by decide +kernel
theorem d_Life_behindStep_172 : decode M_Life_behindStep.2.1 172 = .ok (.iconst 1, 1) := by decide +kernel
theorem d_Life_behindStep_173 : decode M_Life_behindStep.2.1 173 = .ok (.iadd, 1) := by decide +kernel
theorem d_Life_behindStep_174 : decode M_Life_behindStep.2.1 174 = .ok (.ireturn, 1) := by decide +kernel
theorem d_Life_count_0 : decode M_Life_count.2.1 0 = .ok (.aload_n 0, 1) := by decide +kernel
theorem d_Life_count_1 : decode M_Life_count.2.1 1 = .ok (.getfield 18, 3) := by decide +kernel
theorem d_Life_count_4 : decode M_Life_count.2.1 4 = .ok (.iload_n 2, 1) := by decide +kernel
theorem d_Life_count_5 : decode M_Life_count.2.1 5 = .ok (.ifCond .eq 7, 3) := by decide +kernel
theorem d_Life_count_8 : decode M_Life_count.2.1 8 = .ok (.iload_n 1, 1) := by decide +kernel
theorem d_Life_count_9 : decode M_Life_count.2.1 9 = .ok (.goto 4, 3) := by decide +kernel
theorem d_Life_count_12 : decode M_Life_count.2.1 12 = .ok (.iconst 0, 1) := by decide +kernel
theorem d_Life_count_13 : decode M_Life_count.2.1 13 = .ok (.dup2, 1) := by decide +kernel
theorem d_Life_count_14 : decode M_Life_count.2.1 14 = .ok (.iaload, 1) := by decide +kernel
theorem d_Life_count_15 : decode M_Life_count.2.1 15 = .ok (.iconst 1, 1) := by decide +kernel
theorem d_Life_count_16 : decode M_Life_count.2.1 16 = .ok (.iadd, 1) := by decide +kernel
theorem d_Life_count_17 : decode M_Life_count.2.1 17 = .ok (.iastore, 1) := by decide +kernel
theorem d_Life_count_18 : decode M_Life_count.2.1 18 = .ok (.return_, 1) := by decide +kernel
theorem d_Life_takeBelief_0 : decode M_Life_takeBelief.2.1 0 = .ok (.iload_n 2, 1) := by decide +kernel
theorem d_Life_takeBelief_1 : decode M_Life_takeBelief.2.1 1 = .ok (.aload_n 1, 1) := by decide +kernel
theorem d_Life_takeBelief_2 : decode M_Life_takeBelief.2.1 2 = .ok (.getfield 89, 3) := by decide +kernel
theorem d_Life_takeBelief_5 : decode M_Life_takeBelief.2.1 5 = .ok (.invokestatic 92, 3) := by decide +kernel
theorem d_Life_takeBelief_8 : decode M_Life_takeBelief.2.1 8 = .ok (.ifCond .eq 13, 3) := by decide +kernel
theorem d_Life_takeBelief_11 : decode M_Life_takeBelief.2.1 11 = .ok (.aload_n 1, 1) := by decide +kernel
theorem d_Life_takeBelief_12 : decode M_Life_takeBelief.2.1 12 = .ok (.getfield 96, 3) := by decide +kernel
theorem d_Life_takeBelief_15 : decode M_Life_takeBelief.2.1 15 = .ok (.iload_n 2, 1) := by decide +kernel
theorem d_Life_takeBelief_16 : decode M_Life_takeBelief.2.1 16 = .ok (.iaload, 1) := by decide +kernel
theorem d_Life_takeBelief_17 : decode M_Life_takeBelief.2.1 17 = .ok (.iload_n 3, 1) := by decide +kernel
theorem d_Life_takeBelief_18 : decode M_Life_takeBelief.2.1 18 = .ok (.if_icmp .ne 14, 3) := by decide +kernel
theorem d_Life_takeBelief_21 : decode M_Life_takeBelief.2.1 21 = .ok (.aload_n 0, 1) := by decide +kernel
theorem d_Life_takeBelief_22 : decode M_Life_takeBelief.2.1 22 = .ok (.getfield 18, 3) := by decide +kernel
theorem d_Life_takeBelief_25 : decode M_Life_takeBelief.2.1 25 = .ok (.iconst 0, 1) := by decide +kernel
theorem d_Life_takeBelief_26 : decode M_Life_takeBelief.2.1 26 = .ok (.dup2, 1) := by decide +kernel
theorem d_Life_takeBelief_27 : decode M_Life_takeBelief.2.1 27 = .ok (.iaload, 1) := by decide +kernel
theorem d_Life_takeBelief_28 : decode M_Life_takeBelief.2.1 28 = .ok (.iconst 1, 1) := by decide +kernel
theorem d_Life_takeBelief_29 : decode M_Life_takeBelief.2.1 29 = .ok (.iadd, 1) := by decide +kernel
theorem d_Life_takeBelief_30 : decode M_Life_takeBelief.2.1 30 = .ok (.iastore, 1) := by decide +kernel
theorem d_Life_takeBelief_31 : decode M_Life_takeBelief.2.1 31 = .ok (.return_, 1) := by decide +kernel
theorem d_Life_takeBelief_32 : decode M_Life_takeBelief.2.1 32 = .ok (.aload_n 1, 1) := by decide +kernel
theorem d_Life_takeBelief_33 : decode M_Life_takeBelief.2.1 33 = .ok (.getfield 96, 3) := by decide +kernel
theorem d_Life_takeBelief_36 : decode M_Life_takeBelief.2.1 36 = .ok (.iload_n 2, 1) := by decide +kernel
theorem d_Life_takeBelief_37 : decode M_Life_takeBelief.2.1 37 = .ok (.iload_n 3, 1) := by decide +kernel
theorem d_Life_takeBelief_38 : decode M_Life_takeBelief.2.1 38 = .ok (.iastore, 1) := by decide +kernel
theorem d_Life_takeBelief_39 : decode M_Life_takeBelief.2.1 39 = .ok (.return_, 1) := by decide +kernel
theorem d_Life_doAny_0 : decode M_Life_doAny.2.1 0 = .ok (.aload_n 1, 1) := by decide +kernel
theorem d_Life_doAny_1 : decode M_Life_doAny.2.1 1 = .ok (.getfield 99, 3) := by decide +kernel
theorem d_Life_doAny_4 : decode M_Life_doAny.2.1 4 = .ok (.ifCond .ne 14, 3) := by decide +kernel
theorem d_Life_doAny_7 : decode M_Life_doAny.2.1 7 = .ok (.aload_n 0, 1) := by decide +kernel
theorem d_Life_doAny_8 : decode M_Life_doAny.2.1 8 = .ok (.getfield 18, 3) := by decide +kernel
theorem d_Life_doAny_11 : decode M_Life_doAny.2.1 11 = .ok (.iconst 0, 1) := by decide +kernel
theorem d_Life_doAny_12 : decode M_Life_doAny.2.1 12 = .ok (.dup2, 1) := by decide +kernel
theorem d_Life_doAny_13 : decode M_Life_doAny.2.1 13 = .ok (.iaload, 1) := by decide +kernel
theorem d_Life_doAny_14 : decode M_Life_doAny.2.1 14 = .ok (.iconst 1, 1) := by decide +kernel
theorem d_Life_doAny_15 : decode M_Life_doAny.2.1 15 = .ok (.iadd, 1) := by decide +kernel
theorem d_Life_doAny_16 : decode M_Life_doAny.2.1 16 = .ok (.iastore, 1) := by decide +kernel
theorem d_Life_doAny_17 : decode M_Life_doAny.2.1 17 = .ok (.return_, 1) := by decide +kernel
theorem d_Life_doAny_18 : decode M_Life_doAny.2.1 18 = .ok (.aload_n 0, 1) := by decide +kernel
theorem d_Life_doAny_19 : decode M_Life_doAny.2.1 19 = .ok (.aload_n 1, 1) := by decide +kernel
theorem d_Life_doAny_20 : decode M_Life_doAny.2.1 20 = .ok (.getfield 99, 3) := by decide +kernel
theorem d_Life_doAny_23 : decode M_Life_doAny.2.1 23 = .ok (.invokevirtual 102, 3) := by decide +kernel
theorem d_Life_doAny_26 : decode M_Life_doAny.2.1 26 = .ok (.istore_n 2, 1) := by decide +kernel
theorem d_Life_doAny_27 : decode M_Life_doAny.2.1 27 = .ok (.aload_n 0, 1) := by decide +kernel
theorem d_Life_doAny_28 : decode M_Life_doAny.2.1 28 = .ok (.bipush 16, 2) := by decide +kernel
theorem d_Life_doAny_30 : decode M_Life_doAny.2.1 30 = .ok (.invokevirtual 102, 3) := by decide +kernel
theorem d_Life_doAny_33 : decode M_Life_doAny.2.1 33 = .ok (.aload_n 1, 1) := by decide +kernel
theorem d_Life_doAny_34 : decode M_Life_doAny.2.1 34 = .ok (.getfield 106, 3) := by decide +kernel
theorem d_Life_doAny_37 : decode M_Life_doAny.2.1 37 = .ok (.if_icmp .ge 7, 3) := by decide +kernel
theorem d_Life_doAny_40 : decode M_Life_doAny.2.1 40 = .ok (.iconst 1, 1) := by decide +kernel
theorem d_Life_doAny_41 : decode M_Life_doAny.2.1 41 = .ok (.goto 4, 3) := by decide +kernel
theorem d_Life_doAny_44 : decode M_Life_doAny.2.1 44 = .ok (.iconst 0, 1) := by decide +kernel
theorem d_Life_doAny_45 : decode M_Life_doAny.2.1 45 = .ok (.istore_n 3, 1) := by decide +kernel
theorem d_Life_doAny_46 : decode M_Life_doAny.2.1 46 = .ok (.iload_n 3, 1) := by decide +kernel
theorem d_Life_doAny_47 : decode M_Life_doAny.2.1 47 = .ok (.ifCond .ne 16, 3) := by decide +kernel
theorem d_Life_doAny_50 : decode M_Life_doAny.2.1 50 = .ok (.aload_n 0, 1) := by decide +kernel
theorem d_Life_doAny_51 : decode M_Life_doAny.2.1 51 = .ok (.iconst 1, 1) := by decide +kernel
theorem d_Life_doAny_52 : decode M_Life_doAny.2.1 52 = .ok (.aload_n 1, 1) := by decide +kernel
theorem d_Life_doAny_53 : decode M_Life_doAny.2.1 53 = .ok (.iload_n 2, 1) := by decide +kernel
theorem d_Life_doAny_54 : decode M_Life_doAny.2.1 54 = .ok (.invokevirtual 61, 3) := by decide +kernel
theorem d_Life_doAny_57 : decode M_Life_doAny.2.1 57 = .ok (.invokevirtual 67, 3) := by decide +kernel
theorem d_Life_doAny_60 : decode M_Life_doAny.2.1 60 = .ok (.goto 37, 3) := by decide +kernel
theorem d_Life_doAny_63 : decode M_Life_doAny.2.1 63 = .ok (.aload_n 1, 1) := by decide +kernel
theorem d_Life_doAny_64 : decode M_Life_doAny.2.1 64 = .ok (.getfield 109, 3) := by decide +kernel
theorem d_Life_doAny_67 : decode M_Life_doAny.2.1 67 = .ok (.iload_n 2, 1) := by decide +kernel
theorem d_Life_doAny_68 : decode M_Life_doAny.2.1 68 = .ok (.invokestatic 112, 3) := by decide +kernel
theorem d_Life_doAny_71 : decode M_Life_doAny.2.1 71 = .ok (.ifCond .eq 16, 3) := by decide +kernel
theorem d_Life_doAny_74 : decode M_Life_doAny.2.1 74 = .ok (.aload_n 0, 1) := by decide +kernel
theorem d_Life_doAny_75 : decode M_Life_doAny.2.1 75 = .ok (.iconst 3, 1) := by decide +kernel
theorem d_Life_doAny_76 : decode M_Life_doAny.2.1 76 = .ok (.aload_n 1, 1) := by decide +kernel
theorem d_Life_doAny_77 : decode M_Life_doAny.2.1 77 = .ok (.iload_n 2, 1) := by decide +kernel
theorem d_Life_doAny_78 : decode M_Life_doAny.2.1 78 = .ok (.invokevirtual 74, 3) := by decide +kernel
theorem d_Life_doAny_81 : decode M_Life_doAny.2.1 81 = .ok (.invokevirtual 67, 3) := by decide +kernel
theorem d_Life_doAny_84 : decode M_Life_doAny.2.1 84 = .ok (.goto 13, 3) := by decide +kernel
theorem d_Life_doAny_87 : decode M_Life_doAny.2.1 87 = .ok (.aload_n 0, 1) := by decide +kernel
theorem d_Life_doAny_88 : decode M_Life_doAny.2.1 88 = .ok (.iconst 2, 1) := by decide +kernel
theorem d_Life_doAny_89 : decode M_Life_doAny.2.1 89 = .ok (.aload_n 1, 1) := by decide +kernel
theorem d_Life_doAny_90 : decode M_Life_doAny.2.1 90 = .ok (.iload_n 2, 1) := by decide +kernel
theorem d_Life_doAny_91 : decode M_Life_doAny.2.1 91 = .ok (.invokevirtual 71, 3) := by decide +kernel
theorem d_Life_doAny_94 : decode M_Life_doAny.2.1 94 = .ok (.invokevirtual 67, 3) := by decide +kernel
theorem d_Life_doAny_97 : decode M_Life_doAny.2.1 97 = .ok (.return_, 1) := by decide +kernel
theorem d_Life_draw_0 : decode M_Life_draw.2.1 0 = .ok (.aload_n 0, 1) := by decide +kernel
theorem d_Life_draw_1 : decode M_Life_draw.2.1 1 = .ok (.aload_n 0, 1) := by decide +kernel
theorem d_Life_draw_2 : decode M_Life_draw.2.1 2 = .ok (.getfield 31, 3) := by decide +kernel
theorem d_Life_draw_5 : decode M_Life_draw.2.1 5 = .ok (.sipush 3277, 3) := by decide +kernel
theorem d_Life_draw_8 : decode M_Life_draw.2.1 8 = .ok (.imul, 1) := by decide +kernel
theorem d_Life_draw_9 : decode M_Life_draw.2.1 9 = .ok (.sipush 11505, 3) := by decide +kernel
theorem d_Life_draw_12 : decode M_Life_draw.2.1 12 = .ok (.iadd, 1) := by decide +kernel
theorem d_Life_draw_13 : decode M_Life_draw.2.1 13 = .ok (.ldc 115, 2) := by decide +kernel
theorem d_Life_draw_15 : decode M_Life_draw.2.1 15 = .ok (.irem, 1) := by decide +kernel
theorem d_Life_draw_16 : decode M_Life_draw.2.1 16 = .ok (.putfield 31, 3) := by decide +kernel
theorem d_Life_draw_19 : decode M_Life_draw.2.1 19 = .ok (.iload_n 1, 1) := by decide +kernel
theorem d_Life_draw_20 : decode M_Life_draw.2.1 20 = .ok (.ifCond .le 15, 3) := by decide +kernel
theorem d_Life_draw_23 : decode M_Life_draw.2.1 23 = .ok (.aload_n 0, 1) := by decide +kernel
theorem d_Life_draw_24 : decode M_Life_draw.2.1 24 = .ok (.getfield 31, 3) := by decide +kernel
theorem d_Life_draw_27 : decode M_Life_draw.2.1 27 = .ok (.bipush 8, 2) := by decide +kernel
theorem d_Life_draw_29 : decode M_Life_draw.2.1 29 = .ok (.idiv, 1) := by decide +kernel
theorem d_Life_draw_30 : decode M_Life_draw.2.1 30 = .ok (.iload_n 1, 1) := by decide +kernel
theorem d_Life_draw_31 : decode M_Life_draw.2.1 31 = .ok (.irem, 1) := by decide +kernel
theorem d_Life_draw_32 : decode M_Life_draw.2.1 32 = .ok (.goto 4, 3) := by decide +kernel
theorem d_Life_draw_35 : decode M_Life_draw.2.1 35 = .ok (.iconst 0, 1) := by decide +kernel
theorem d_Life_draw_36 : decode M_Life_draw.2.1 36 = .ok (.ireturn, 1) := by decide +kernel
theorem d_Life_holds_0 : decode M_Life_holds.2.1 0 = .ok (.iload_n 2, 1) := by decide +kernel
theorem d_Life_holds_1 : decode M_Life_holds.2.1 1 = .ok (.tableswitch 119 8 12 #[35, 49, 70, 91, 105], 35) := by decide +kernel
theorem d_Life_holds_36 : decode M_Life_holds.2.1 36 = .ok (.aload_n 1, 1) := by decide +kernel
theorem d_Life_holds_37 : decode M_Life_holds.2.1 37 = .ok (.getfield 116, 3) := by decide +kernel
theorem d_Life_holds_40 : decode M_Life_holds.2.1 40 = .ok (.iload_n 3, 1) := by decide +kernel
theorem d_Life_holds_41 : decode M_Life_holds.2.1 41 = .ok (.if_icmp .ne 7, 3) := by decide +kernel
theorem d_Life_holds_44 : decode M_Life_holds.2.1 44 = .ok (.iconst 1, 1) := by decide +kernel
theorem d_Life_holds_45 : decode M_Life_holds.2.1 45 = .ok (.goto 4, 3) := by decide +kernel
theorem d_Life_holds_48 : decode M_Life_holds.2.1 48 = .ok (.iconst 0, 1) := by decide +kernel
theorem d_Life_holds_49 : decode M_Life_holds.2.1 49 = .ok (.ireturn, 1) := by decide +kernel
theorem d_Life_holds_50 : decode M_Life_holds.2.1 50 = .ok (.aload_n 0, 1) := by decide +kernel
theorem d_Life_holds_51 : decode M_Life_holds.2.1 51 = .ok (.getfield 12, 3) := by decide +kernel
theorem d_Life_holds_54 : decode M_Life_holds.2.1 54 = .ok (.aload_n 1, 1) := by decide +kernel
theorem d_Life_holds_55 : decode M_Life_holds.2.1 55 = .ok (.invokevirtual 119, 3) := by decide +kernel
theorem d_Life_holds_58 : decode M_Life_holds.2.1 58 = .ok (.aload_n 0, 1) := by decide +kernel
theorem d_Life_holds_59 : decode M_Life_holds.2.1 59 = .ok (.getfield 12, 3) := by decide +kernel
theorem d_Life_holds_62 : decode M_Life_holds.2.1 62 = .ok (.aload_n 1, 1) := by decide +kernel
theorem d_Life_holds_63 : decode M_Life_holds.2.1 63 = .ok (.aload_n 1, 1) := by decide +kernel
theorem d_Life_holds_64 : decode M_Life_holds.2.1 64 = .ok (.invokevirtual 121, 3) := by decide +kernel
theorem d_Life_holds_67 : decode M_Life_holds.2.1 67 = .ok (.invokevirtual 125, 3) := by decide +kernel
theorem d_Life_holds_70 : decode M_Life_holds.2.1 70 = .ok (.ireturn, 1) := by decide +kernel
theorem d_Life_holds_71 : decode M_Life_holds.2.1 71 = .ok (.aload_n 0, 1) := by decide +kernel
theorem d_Life_holds_72 : decode M_Life_holds.2.1 72 = .ok (.getfield 12, 3) := by decide +kernel
theorem d_Life_holds_75 : decode M_Life_holds.2.1 75 = .ok (.aload_n 1, 1) := by decide +kernel
theorem d_Life_holds_76 : decode M_Life_holds.2.1 76 = .ok (.invokevirtual 119, 3) := by decide +kernel
theorem d_Life_holds_79 : decode M_Life_holds.2.1 79 = .ok (.aload_n 0, 1) := by decide +kernel
theorem d_Life_holds_80 : decode M_Life_holds.2.1 80 = .ok (.getfield 12, 3) := by decide +kernel
theorem d_Life_holds_83 : decode M_Life_holds.2.1 83 = .ok (.aload_n 1, 1) := by decide +kernel
theorem d_Life_holds_84 : decode M_Life_holds.2.1 84 = .ok (.invokevirtual 129, 3) := by decide +kernel
theorem d_Life_holds_87 : decode M_Life_holds.2.1 87 = .ok (.iload_n 3, 1) := by decide +kernel
theorem d_Life_holds_88 : decode M_Life_holds.2.1 88 = .ok (.invokestatic 112, 3) := by decide +kernel
theorem d_Life_holds_91 : decode M_Life_holds.2.1 91 = .ok (.ireturn, 1) := by decide +kernel
theorem d_Life_holds_92 : decode M_Life_holds.2.1 92 = .ok (.aload_n 1, 1) := by decide +kernel
theorem d_Life_holds_93 : decode M_Life_holds.2.1 93 = .ok (.getfield 133, 3) := by decide +kernel
theorem d_Life_holds_96 : decode M_Life_holds.2.1 96 = .ok (.iload_n 3, 1) := by decide +kernel
theorem d_Life_holds_97 : decode M_Life_holds.2.1 97 = .ok (.if_icmp .ge 7, 3) := by decide +kernel
theorem d_Life_holds_100 : decode M_Life_holds.2.1 100 = .ok (.iconst 1, 1) := by decide +kernel
theorem d_Life_holds_101 : decode M_Life_holds.2.1 101 = .ok (.goto 4, 3) := by decide +kernel
theorem d_Life_holds_104 : decode M_Life_holds.2.1 104 = .ok (.iconst 0, 1) := by decide +kernel
theorem d_Life_holds_105 : decode M_Life_holds.2.1 105 = .ok (.ireturn, 1) := by decide +kernel
theorem d_Life_holds_106 : decode M_Life_holds.2.1 106 = .ok (.aload_n 1, 1) := by decide +kernel
theorem d_Life_holds_107 : decode M_Life_holds.2.1 107 = .ok (.getfield 133, 3) := by decide +kernel
theorem d_Life_holds_110 : decode M_Life_holds.2.1 110 = .ok (.iload_n 3, 1) := by decide +kernel
theorem d_Life_holds_111 : decode M_Life_holds.2.1 111 = .ok (.if_icmp .le 7, 3) := by decide +kernel
theorem d_Life_holds_114 : decode M_Life_holds.2.1 114 = .ok (.iconst 1, 1) := by decide +kernel
theorem d_Life_holds_115 : decode M_Life_holds.2.1 115 = .ok (.goto 4, 3) := by decide +kernel
theorem d_Life_holds_118 : decode M_Life_holds.2.1 118 = .ok (.iconst 0, 1) := by decide +kernel
theorem d_Life_holds_119 : decode M_Life_holds.2.1 119 = .ok (.ireturn, 1) := by decide +kernel
theorem d_Life_holds_120 : decode M_Life_holds.2.1 120 = .ok (.aload_n 1, 1) := by decide +kernel
theorem d_Life_holds_121 : decode M_Life_holds.2.1 121 = .ok (.getfield 133, 3) := by decide +kernel
theorem d_Life_holds_124 : decode M_Life_holds.2.1 124 = .ok (.iload_n 3, 1) := by decide +kernel
theorem d_Life_holds_125 : decode M_Life_holds.2.1 125 = .ok (.if_icmp .ne 7, 3) := by decide +kernel
theorem d_Life_holds_128 : decode M_Life_holds.2.1 128 = .ok (.iconst 1, 1) := by decide +kernel
theorem d_Life_holds_129 : decode M_Life_holds.2.1 129 = .ok (.goto 4, 3) := by decide +kernel
theorem d_Life_holds_132 : decode M_Life_holds.2.1 132 = .ok (.iconst 0, 1) := by decide +kernel
theorem d_Life_holds_133 : decode M_Life_holds.2.1 133 = .ok (.ireturn, 1) := by decide +kernel
theorem d_Paths_init_0 : decode M_Paths_init.2.1 0 = .ok (.aload_n 0, 1) := by decide +kernel
theorem d_Paths_init_1 : decode M_Paths_init.2.1 1 = .ok (.invokespecial 3, 3) := by decide +kernel
theorem d_Paths_init_4 : decode M_Paths_init.2.1 4 = .ok (.aload_n 0, 1) := by decide +kernel
theorem d_Paths_init_5 : decode M_Paths_init.2.1 5 = .ok (.bipush 49, 2) := by decide +kernel
theorem d_Paths_init_7 : decode M_Paths_init.2.1 7 = .ok (.newarray .int, 2) := by decide +kernel
theorem d_Paths_init_9 : decode M_Paths_init.2.1 9 = .ok (.putfield 9, 3) := by decide +kernel
theorem d_Paths_init_12 : decode M_Paths_init.2.1 12 = .ok (.aload_n 0, 1) := by decide +kernel
theorem d_Paths_init_13 : decode M_Paths_init.2.1 13 = .ok (.bipush 7, 2) := by decide +kernel
theorem d_Paths_init_15 : decode M_Paths_init.2.1 15 = .ok (.newarray .int, 2) := by decide +kernel
theorem d_Paths_init_17 : decode M_Paths_init.2.1 17 = .ok (.putfield 15, 3) := by decide +kernel
theorem d_Paths_init_20 : decode M_Paths_init.2.1 20 = .ok (.aload_n 0, 1) := by decide +kernel
theorem d_Paths_init_21 : decode M_Paths_init.2.1 21 = .ok (.bipush 7, 2) := by decide +kernel
theorem d_Paths_init_23 : decode M_Paths_init.2.1 23 = .ok (.newarray .int, 2) := by decide +kernel
theorem d_Paths_init_25 : decode M_Paths_init.2.1 25 = .ok (.putfield 18, 3) := by decide +kernel
theorem d_Paths_init_28 : decode M_Paths_init.2.1 28 = .ok (.aload_n 0, 1) := by decide +kernel
theorem d_Paths_init_29 : decode M_Paths_init.2.1 29 = .ok (.iconst 0, 1) := by decide +kernel
theorem d_Paths_init_30 : decode M_Paths_init.2.1 30 = .ok (.putfield 21, 3) := by decide +kernel
theorem d_Paths_init_33 : decode M_Paths_init.2.1 33 = .ok (.aload_n 0, 1) := by decide +kernel
theorem d_Paths_init_34 : decode M_Paths_init.2.1 34 = .ok (.iconst 0, 1) := by decide +kernel
theorem d_Paths_init_35 : decode M_Paths_init.2.1 35 = .ok (.putfield 25, 3) := by decide +kernel
theorem d_Paths_init_38 : decode M_Paths_init.2.1 38 = .ok (.aload_n 0, 1) := by decide +kernel
theorem d_Paths_init_39 : decode M_Paths_init.2.1 39 = .ok (.iconst (-1), 1) := by decide +kernel
theorem d_Paths_init_40 : decode M_Paths_init.2.1 40 = .ok (.putfield 28, 3) := by decide +kernel
theorem d_Paths_init_43 : decode M_Paths_init.2.1 43 = .ok (.aload_n 0, 1) := by decide +kernel
theorem d_Paths_init_44 : decode M_Paths_init.2.1 44 = .ok (.iconst 0, 1) := by decide +kernel
theorem d_Paths_init_45 : decode M_Paths_init.2.1 45 = .ok (.putfield 31, 3) := by decide +kernel
theorem d_Paths_init_48 : decode M_Paths_init.2.1 48 = .ok (.return_, 1) := by decide +kernel
theorem d_Paths_find_0 : decode M_Paths_find.2.1 0 = .ok (.aload_n 0, 1) := by decide +kernel
theorem d_Paths_find_1 : decode M_Paths_find.2.1 1 = .ok (.aload_n 1, 1) := by decide +kernel
theorem d_Paths_find_2 : decode M_Paths_find.2.1 2 = .ok (.invokevirtual 34, 3) := by decide +kernel
theorem d_Paths_find_5 : decode M_Paths_find.2.1 5 = .ok (.aload_n 0, 1) := by decide +kernel
theorem d_Paths_find_6 : decode M_Paths_find.2.1 6 = .ok (.aload_n 1, 1) := by decide +kernel
theorem d_Paths_find_7 : decode M_Paths_find.2.1 7 = .ok (.getfield 38, 3) := by decide +kernel
theorem d_Paths_find_10 : decode M_Paths_find.2.1 10 = .ok (.putfield 21, 3) := by decide +kernel
theorem d_Paths_find_13 : decode M_Paths_find.2.1 13 = .ok (.aload_n 0, 1) := by decide +kernel
theorem d_Paths_find_14 : decode M_Paths_find.2.1 14 = .ok (.iload_n 3, 1) := by decide +kernel
theorem d_Paths_find_15 : decode M_Paths_find.2.1 15 = .ok (.putfield 25, 3) := by decide +kernel
theorem d_Paths_find_18 : decode M_Paths_find.2.1 18 = .ok (.aload_n 0, 1) := by decide +kernel
theorem d_Paths_find_19 : decode M_Paths_find.2.1 19 = .ok (.iconst (-1), 1) := by decide +kernel
theorem d_Paths_find_20 : decode M_Paths_find.2.1 20 = .ok (.putfield 28, 3) := by decide +kernel
theorem d_Paths_find_23 : decode M_Paths_find.2.1 23 = .ok (.aload_n 0, 1) := by decide +kernel
theorem d_Paths_find_24 : decode M_Paths_find.2.1 24 = .ok (.iconst 0, 1) := by decide +kernel
theorem d_Paths_find_25 : decode M_Paths_find.2.1 25 = .ok (.putfield 31, 3) := by decide +kernel
theorem d_Paths_find_28 : decode M_Paths_find.2.1 28 = .ok (.aload_n 0, 1) := by decide +kernel
theorem d_Paths_find_29 : decode M_Paths_find.2.1 29 = .ok (.getfield 15, 3) := by decide +kernel
theorem d_Paths_find_32 : decode M_Paths_find.2.1 32 = .ok (.iconst 0, 1) := by decide +kernel
theorem d_Paths_find_33 : decode M_Paths_find.2.1 33 = .ok (.iload_n 2, 1) := by decide +kernel
theorem d_Paths_find_34 : decode M_Paths_find.2.1 34 = .ok (.iastore, 1) := by decide +kernel
theorem d_Paths_find_35 : decode M_Paths_find.2.1 35 = .ok (.aload_n 0, 1) := by decide +kernel
theorem d_Paths_find_36 : decode M_Paths_find.2.1 36 = .ok (.iconst 0, 1) := by decide +kernel
theorem d_Paths_find_37 : decode M_Paths_find.2.1 37 = .ok (.iconst 0, 1) := by decide +kernel
theorem d_Paths_find_38 : decode M_Paths_find.2.1 38 = .ok (.iconst 1, 1) := by decide +kernel
theorem d_Paths_find_39 : decode M_Paths_find.2.1 39 = .ok (.iload_n 2, 1) := by decide +kernel
theorem d_Paths_find_40 : decode M_Paths_find.2.1 40 = .ok (.ishl, 1) := by decide +kernel
theorem d_Paths_find_41 : decode M_Paths_find.2.1 41 = .ok (.invokevirtual 41, 3) := by decide +kernel
theorem d_Paths_find_44 : decode M_Paths_find.2.1 44 = .ok (.return_, 1) := by decide +kernel
theorem d_Paths_measureAll_0 : decode M_Paths_measureAll.2.1 0 = .ok (.aload_n 0, 1) := by decide +kernel
theorem d_Paths_measureAll_1 : decode M_Paths_measureAll.2.1 1 = .ok (.getfield 9, 3) := by decide +kernel
theorem d_Paths_measureAll_4 : decode M_Paths_measureAll.2.1 4 = .ok (.iconst (-1), 1) := by decide +kernel
theorem d_Paths_measureAll_5 : decode M_Paths_measureAll.2.1 5 = .ok (.invokestatic 45, 3) := by decide +kernel
theorem d_Paths_measureAll_8 : decode M_Paths_measureAll.2.1 8 = .ok (.iconst 0, 1) := by decide +kernel
theorem d_Paths_measureAll_9 : decode M_Paths_measureAll.2.1 9 = .ok (.istore_n 2, 1) := by decide +kernel
theorem d_Paths_measureAll_10 : decode M_Paths_measureAll.2.1 10 = .ok (.iload_n 2, 1) := by decide +kernel
theorem d_Paths_measureAll_11 : decode M_Paths_measureAll.2.1 11 = .ok (.aload_n 1, 1) := by decide +kernel
theorem d_Paths_measureAll_12 : decode M_Paths_measureAll.2.1 12 = .ok (.getfield 51, 3) := by decide +kernel
theorem d_Paths_measureAll_15 : decode M_Paths_measureAll.2.1 15 = .ok (.if_icmp .ge 68, 3) := by decide +kernel
theorem d_Paths_measureAll_18 : decode M_Paths_measureAll.2.1 18 = .ok (.aload_n 1, 1) := by decide +kernel
theorem d_Paths_measureAll_19 : decode M_Paths_measureAll.2.1 19 = .ok (.invokevirtual 54, 3) := by decide +kernel
theorem d_Paths_measureAll_22 : decode M_Paths_measureAll.2.1 22 = .ok (.iload_n 2, 1) := by decide +kernel
theorem d_Paths_measureAll_23 : decode M_Paths_measureAll.2.1 23 = .ok (.invokestatic 58, 3) := by decide +kernel
theorem d_Paths_measureAll_26 : decode M_Paths_measureAll.2.1 26 = .ok (.ifCond .eq 51, 3) := by decide +kernel
theorem d_Paths_measureAll_29 : decode M_Paths_measureAll.2.1 29 = .ok (.aload_n 1, 1) := by decide +kernel
theorem d_Paths_measureAll_30 : decode M_Paths_measureAll.2.1 30 = .ok (.iload_n 2, 1) := by decide +kernel
theorem d_Paths_measureAll_31 : decode M_Paths_measureAll.2.1 31 = .ok (.invokevirtual 62, 3) := by decide +kernel
theorem d_Paths_measureAll_34 : decode M_Paths_measureAll.2.1 34 = .ok (.istore_n 3, 1) := by decide +kernel
theorem d_Paths_measureAll_35 : decode M_Paths_measureAll.2.1 35 = .ok (.aload_n 0, 1) := by decide +kernel
theorem d_Paths_measureAll_36 : decode M_Paths_measureAll.2.1 36 = .ok (.aload_n 1, 1) := by decide +kernel
theorem d_Paths_measureAll_37 : decode M_Paths_measureAll.2.1 37 = .ok (.getfield 66, 3) := by decide +kernel
theorem d_Paths_measureAll_40 : decode M_Paths_measureAll.2.1 40 = .ok (.iload_n 2, 1) := by decide +kernel
theorem d_Paths_measureAll_41 : decode M_Paths_measureAll.2.1 41 = .ok (.iaload, 1) := by decide +kernel
theorem d_Paths_measureAll_42 : decode M_Paths_measureAll.2.1 42 = .ok (.bipush 7, 2) := by decide +kernel
theorem d_Paths_measureAll_44 : decode M_Paths_measureAll.2.1 44 = .ok (.imul, 1) := by decide +kernel
theorem d_Paths_measureAll_45 : decode M_Paths_measureAll.2.1 45 = .ok (.aload_n 1, 1) := by decide +kernel
theorem d_Paths_measureAll_46 : decode M_Paths_measureAll.2.1 46 = .ok (.getfield 69, 3) := by decide +kernel
theorem d_Paths_measureAll_49 : decode M_Paths_measureAll.2.1 49 = .ok (.iload_n 2, 1) := by decide +kernel
theorem d_Paths_measureAll_50 : decode M_Paths_measureAll.2.1 50 = .ok (.iaload, 1) := by decide +kernel
theorem d_Paths_measureAll_51 : decode M_Paths_measureAll.2.1 51 = .ok (.iadd, 1) := by decide +kernel
theorem d_Paths_measureAll_52 : decode M_Paths_measureAll.2.1 52 = .ok (.iload_n 3, 1) := by decide +kernel
theorem d_Paths_measureAll_53 : decode M_Paths_measureAll.2.1 53 = .ok (.invokevirtual 72, 3) := by decide +kernel
theorem d_Paths_measureAll_56 : decode M_Paths_measureAll.2.1 56 = .ok (.aload_n 0, 1) := by decide +kernel
theorem d_Paths_measureAll_57 : decode M_Paths_measureAll.2.1 57 = .ok (.aload_n 1, 1) := by decide +kernel
theorem d_Paths_measureAll_58 : decode M_Paths_measureAll.2.1 58 = .ok (.getfield 69, 3) := by decide +kernel
theorem d_Paths_measureAll_61 : decode M_Paths_measureAll.2.1 61 = .ok (.iload_n 2, 1) := by decide +kernel
theorem d_Paths_measureAll_62 : decode M_Paths_measureAll.2.1 62 = .ok (.iaload, 1) := by decide +kernel
theorem d_Paths_measureAll_63 : decode M_Paths_measureAll.2.1 63 = .ok (.bipush 7, 2) := by decide +kernel
theorem d_Paths_measureAll_65 : decode M_Paths_measureAll.2.1 65 = .ok (.imul, 1) := by decide +kernel
theorem d_Paths_measureAll_66 : decode M_Paths_measureAll.2.1 66 = .ok (.aload_n 1, 1) := by decide +kernel
theorem d_Paths_measureAll_67 : decode M_Paths_measureAll.2.1 67 = .ok (.getfield 66, 3) := by decide +kernel
theorem d_Paths_measureAll_70 : decode M_Paths_measureAll.2.1 70 = .ok (.iload_n 2, 1) := by decide +kernel
theorem d_Paths_measureAll_71 : decode M_Paths_measureAll.2.1 71 = .ok (.iaload, 1) := by decide +kernel
theorem d_Paths_measureAll_72 : decode M_Paths_measureAll.2.1 72 = .ok (.iadd, 1) := by decide +kernel
theorem d_Paths_measureAll_73 : decode M_Paths_measureAll.2.1 73 = .ok (.iload_n 3, 1) := by decide +kernel
theorem d_Paths_measureAll_74 : decode M_Paths_measureAll.2.1 74 = .ok (.invokevirtual 72, 3) := by decide +kernel
theorem d_Paths_measureAll_77 : decode M_Paths_measureAll.2.1 77 = .ok (.iinc 2 1, 3) := by decide +kernel
theorem d_Paths_measureAll_80 : decode M_Paths_measureAll.2.1 80 = .ok (.goto (-70), 3) := by decide +kernel
theorem d_Paths_measureAll_83 : decode M_Paths_measureAll.2.1 83 = .ok (.return_, 1) := by decide +kernel
theorem d_Paths_shorten_0 : decode M_Paths_shorten.2.1 0 = .ok (.aload_n 0, 1) := by decide +kernel
theorem d_Paths_shorten_1 : decode M_Paths_shorten.2.1 1 = .ok (.getfield 9, 3) := by decide +kernel
theorem d_Paths_shorten_4 : decode M_Paths_shorten.2.1 4 = .ok (.iload_n 1, 1) := by decide +kernel
theorem d_Paths_shorten_5 : decode M_Paths_shorten.2.1 5 = .ok (.iaload, 1) := by decide +kernel
theorem d_Paths_shorten_6 : decode M_Paths_shorten.2.1 6 = .ok (.iconst (-1), 1) := by decide +kernel
theorem d_Paths_shorten_7 : decode M_Paths_shorten.2.1 7 = .ok (.if_icmp .eq 13, 3) := by decide +kernel
theorem d_Paths_shorten_10 : decode M_Paths_shorten.2.1 10 = .ok (.iload_n 2, 1) := by decide +kernel
theorem d_Paths_shorten_11 : decode M_Paths_shorten.2.1 11 = .ok (.aload_n 0, 1) := by decide +kernel
theorem d_Paths_shorten_12 : decode M_Paths_shorten.2.1 12 = .ok (.getfield 9, 3) := by decide +kernel
theorem d_Paths_shorten_15 : decode M_Paths_shorten.2.1 15 = .ok (.iload_n 1, 1) := by decide +kernel
theorem d_Paths_shorten_16 : decode M_Paths_shorten.2.1 16 = .ok (.iaload, 1) := by decide +kernel
theorem d_Paths_shorten_17 : decode M_Paths_shorten.2.1 17 = .ok (.if_icmp .ge 10, 3) := by decide +kernel
theorem d_Paths_shorten_20 : decode M_Paths_shorten.2.1 20 = .ok (.aload_n 0, 1) := by decide +kernel
theorem d_Paths_shorten_21 : decode M_Paths_shorten.2.1 21 = .ok (.getfield 9, 3) := by decide +kernel
theorem d_Paths_shorten_24 : decode M_Paths_shorten.2.1 24 = .ok (.iload_n 1, 1) := by decide +kernel
theorem d_Paths_shorten_25 : decode M_Paths_shorten.2.1 25 = .ok (.iload_n 2, 1) := by decide +kernel
theorem d_Paths_shorten_26 : decode M_Paths_shorten.2.1 26 = .ok (.iastore, 1) := by decide +kernel
theorem d_Paths_shorten_27 : decode M_Paths_shorten.2.1 27 = .ok (.return_, 1) := by decide +kernel
theorem d_Paths_walkOn_0 : decode M_Paths_walkOn.2.1 0 = .ok (.aload_n 0, 1) := by decide +kernel
theorem d_Paths_walkOn_1 : decode M_Paths_walkOn.2.1 1 = .ok (.getfield 28, 3) := by decide +kernel
theorem d_Paths_walkOn_4 : decode M_Paths_walkOn.2.1 4 = .ok (.iconst (-1), 1) := by decide +kernel
theorem d_Paths_walkOn_5 : decode M_Paths_walkOn.2.1 5 = .ok (.if_icmp .eq 12, 3) := by decide +kernel
theorem d_Paths_walkOn_8 : decode M_Paths_walkOn.2.1 8 = .ok (.iload_n 2, 1) := by decide +kernel
theorem d_Paths_walkOn_9 : decode M_Paths_walkOn.2.1 9 = .ok (.aload_n 0, 1) := by decide +kernel
theorem d_Paths_walkOn_10 : decode M_Paths_walkOn.2.1 10 = .ok (.getfield 28, 3) := by decide +kernel
theorem d_Paths_walkOn_13 : decode M_Paths_walkOn.2.1 13 = .ok (.if_icmp .lt 4, 3) := by decide +kernel
theorem d_Paths_walkOn_16 : decode M_Paths_walkOn.2.1 16 = .ok (.return_, 1) := by decide +kernel
theorem d_Paths_walkOn_17 : decode M_Paths_walkOn.2.1 17 = .ok (.aload_n 0, 1) := by decide +kernel
theorem d_Paths_walkOn_18 : decode M_Paths_walkOn.2.1 18 = .ok (.getfield 15, 3) := by decide +kernel
theorem d_Paths_walkOn_21 : decode M_Paths_walkOn.2.1 21 = .ok (.iload_n 1, 1) := by decide +kernel
theorem d_Paths_walkOn_22 : decode M_Paths_walkOn.2.1 22 = .ok (.iaload, 1) := by decide +kernel
theorem d_Paths_walkOn_23 : decode M_Paths_walkOn.2.1 23 = .ok (.aload_n 0, 1) := by decide +kernel
theorem d_Paths_walkOn_24 : decode M_Paths_walkOn.2.1 24 = .ok (.getfield 25, 3) := by decide +kernel
theorem d_Paths_walkOn_27 : decode M_Paths_walkOn.2.1 27 = .ok (.if_icmp .ne 33, 3) := by decide +kernel
theorem d_Paths_walkOn_30 : decode M_Paths_walkOn.2.1 30 = .ok (.aload_n 0, 1) := by decide +kernel
theorem d_Paths_walkOn_31 : decode M_Paths_walkOn.2.1 31 = .ok (.iload_n 2, 1) := by decide +kernel
theorem d_Paths_walkOn_32 : decode M_Paths_walkOn.2.1 32 = .ok (.putfield 28, 3) := by decide +kernel
theorem d_Paths_walkOn_35 : decode M_Paths_walkOn.2.1 35 = .ok (.aload_n 0, 1) := by decide +kernel
theorem d_Paths_walkOn_36 : decode M_Paths_walkOn.2.1 36 = .ok (.iload_n 1, 1) := by decide +kernel
theorem d_Paths_walkOn_37 : decode M_Paths_walkOn.2.1 37 = .ok (.iconst 1, 1) := by decide +kernel
theorem d_Paths_walkOn_38 : decode M_Paths_walkOn.2.1 38 = .ok (.iadd, 1) := by decide +kernel
theorem d_Paths_walkOn_39 : decode M_Paths_walkOn.2.1 39 = .ok (.putfield 31, 3) := by decide +kernel
theorem d_Paths_walkOn_42 : decode M_Paths_walkOn.2.1 42 = .ok (.aload_n 0, 1) := by decide +kernel
theorem d_Paths_walkOn_43 : decode M_Paths_walkOn.2.1 43 = .ok (.getfield 15, 3) := by decide +kernel
theorem d_Paths_walkOn_46 : decode M_Paths_walkOn.2.1 46 = .ok (.iconst 0, 1) := by decide +kernel
theorem d_Paths_walkOn_47 : decode M_Paths_walkOn.2.1 47 = .ok (.aload_n 0, 1) := by decide +kernel
theorem d_Paths_walkOn_48 : decode M_Paths_walkOn.2.1 48 = .ok (.getfield 18, 3) := by decide +kernel
theorem d_Paths_walkOn_51 : decode M_Paths_walkOn.2.1 51 = .ok (.iconst 0, 1) := by decide +kernel
theorem d_Paths_walkOn_52 : decode M_Paths_walkOn.2.1 52 = .ok (.aload_n 0, 1) := by decide +kernel
theorem d_Paths_walkOn_53 : decode M_Paths_walkOn.2.1 53 = .ok (.getfield 31, 3) := by decide +kernel
theorem d_Paths_walkOn_56 : decode M_Paths_walkOn.2.1 56 = .ok (.invokestatic 76, 3) := by decide +kernel
theorem d_Paths_walkOn_59 : decode M_Paths_walkOn.2.1 59 = .ok (.return_, 1) := by decide +kernel
theorem d_Paths_walkOn_60 : decode M_Paths_walkOn.2.1 60 = .ok (.iload_n 1, 1) := by decide +kernel
theorem d_Paths_walkOn_61 : decode M_Paths_walkOn.2.1 61 = .ok (.iconst 1, 1) := by decide +kernel
theorem d_Paths_walkOn_62 : decode M_Paths_walkOn.2.1 62 = .ok (.iadd, 1) := by decide +kernel
theorem d_Paths_walkOn_63 : decode M_Paths_walkOn.2.1 63 = .ok (.bipush 7, 2) := by decide +kernel
theorem d_Paths_walkOn_65 : decode M_Paths_walkOn.2.1 65 = .ok (.if_icmp .ge 10, 3) := by decide +kernel
theorem d_Paths_walkOn_68 : decode M_Paths_walkOn.2.1 68 = .ok (.aload_n 0, 1) := by decide +kernel
theorem d_Paths_walkOn_69 : decode M_Paths_walkOn.2.1 69 = .ok (.iload_n 1, 1) := by decide +kernel
theorem d_Paths_walkOn_70 : decode M_Paths_walkOn.2.1 70 = .ok (.iload_n 2, 1) := by decide +kernel
theorem d_Paths_walkOn_71 : decode M_Paths_walkOn.2.1 71 = .ok (.iload_n 3, 1) := by decide +kernel
theorem d_Paths_walkOn_72 : decode M_Paths_walkOn.2.1 72 = .ok (.invokevirtual 82, 3) := by decide +kernel
theorem d_Paths_walkOn_75 : decode M_Paths_walkOn.2.1 75 = .ok (.return_, 1) := by decide +kernel
theorem d_Paths_tryEachNext_0 : decode M_Paths_tryEachNext.2.1 0 = .ok (.iconst 0, 1) := by decide +kernel
theorem d_Paths_tryEachNext_1 : decode M_Paths_tryEachNext.2.1 1 = .ok (.istore 4, 2) := by decide +kernel
theorem d_Paths_tryEachNext_3 : decode M_Paths_tryEachNext.2.1 3 = .ok (.iload 4, 2) := by decide +kernel
theorem d_Paths_tryEachNext_5 : decode M_Paths_tryEachNext.2.1 5 = .ok (.aload_n 0, 1) := by decide +kernel
theorem d_Paths_tryEachNext_6 : decode M_Paths_tryEachNext.2.1 6 = .ok (.getfield 21, 3) := by decide +kernel
theorem d_Paths_tryEachNext_9 : decode M_Paths_tryEachNext.2.1 9 = .ok (.if_icmp .ge 70, 3) := by decide +kernel
theorem d_Paths_tryEachNext_12 : decode M_Paths_tryEachNext.2.1 12 = .ok (.aload_n 0, 1) := by decide +kernel
theorem d_Paths_tryEachNext_13 : decode M_Paths_tryEachNext.2.1 13 = .ok (.getfield 9, 3) := by decide +kernel
theorem d_Paths_tryEachNext_16 : decode M_Paths_tryEachNext.2.1 16 = .ok (.aload_n 0, 1) := by decide +kernel
theorem d_Paths_tryEachNext_17 : decode M_Paths_tryEachNext.2.1 17 = .ok (.getfield 15, 3) := by decide +kernel
theorem d_Paths_tryEachNext_20 : decode M_Paths_tryEachNext.2.1 20 = .ok (.iload_n 1, 1) := by decide +kernel
theorem d_Paths_tryEachNext_21 : decode M_Paths_tryEachNext.2.1 21 = .ok (.iaload, 1) := by decide +kernel
theorem d_Paths_tryEachNext_22 : decode M_Paths_tryEachNext.2.1 22 = .ok (.bipush 7, 2) := by decide +kernel
theorem d_Paths_tryEachNext_24 : decode M_Paths_tryEachNext.2.1 24 = .ok (.imul, 1) := by decide +kernel
theorem d_Paths_tryEachNext_25 : decode M_Paths_tryEachNext.2.1 25 = .ok (.iload 4, 2) := by decide +kernel
theorem d_Paths_tryEachNext_27 : decode M_Paths_tryEachNext.2.1 27 = .ok (.iadd, 1) := by decide +kernel
theorem d_Paths_tryEachNext_28 : decode M_Paths_tryEachNext.2.1 28 = .ok (.iaload, 1) := by decide +kernel
theorem d_Paths_tryEachNext_29 : decode M_Paths_tryEachNext.2.1 29 = .ok (.istore 5, 2) := by decide +kernel
theorem d_Paths_tryEachNext_31 : decode M_Paths_tryEachNext.2.1 31 = .ok (.iload 5, 2) := by decide +kernel
theorem d_Paths_tryEachNext_33 : decode M_Paths_tryEachNext.2.1 33 = .ok (.iconst (-1), 1) := by decide +kernel
theorem d_Paths_tryEachNext_34 : decode M_Paths_tryEachNext.2.1 34 = .ok (.if_icmp .eq 39, 3) := by decide +kernel
theorem d_Paths_tryEachNext_37 : decode M_Paths_tryEachNext.2.1 37 = .ok (.iload_n 3, 1) := by decide +kernel
theorem d_Paths_tryEachNext_38 : decode M_Paths_tryEachNext.2.1 38 = .ok (.iload 4, 2) := by decide +kernel
theorem d_Paths_tryEachNext_40 : decode M_Paths_tryEachNext.2.1 40 = .ok (.invokestatic 58, 3) := by decide +kernel
theorem d_Paths_tryEachNext_43 : decode M_Paths_tryEachNext.2.1 43 = .ok (.ifCond .ne 30, 3) := by decide +kernel
theorem d_Paths_tryEachNext_46 : decode M_Paths_tryEachNext.2.1 46 = .ok (.aload_n 0, 1) := by decide +kernel
theorem d_Paths_tryEachNext_47 : decode M_Paths_tryEachNext.2.1 47 = .ok (.getfield 15, 3) := by decide +kernel
theorem d_Paths_tryEachNext_50 : decode M_Paths_tryEachNext.2.1 50 = .ok (.iload_n 1, 1) := by decide +kernel
theorem d_Paths_tryEachNext_51 : decode M_Paths_tryEachNext.2.1 51 = .ok (.iconst 1, 1) := by decide +kernel
theorem d_Paths_tryEachNext_52 : decode M_Paths_tryEachNext.2.1 52 = .ok (.iadd, 1) := by decide +kernel
theorem d_Paths_tryEachNext_53 : decode M_Paths_tryEachNext.2.1 53 = .ok (.iload 4, 2) := by decide +kernel
theorem d_Paths_tryEachNext_55 : decode M_Paths_tryEachNext.2.1 55 = .ok (.iastore, 1) := by decide +kernel
theorem d_Paths_tryEachNext_56 : decode M_Paths_tryEachNext.2.1 56 = .ok (.aload_n 0, 1) := by decide +kernel
theorem d_Paths_tryEachNext_57 : decode M_Paths_tryEachNext.2.1 57 = .ok (.iload_n 1, 1) := by decide +kernel
theorem d_Paths_tryEachNext_58 : decode M_Paths_tryEachNext.2.1 58 = .ok (.iconst 1, 1) := by decide +kernel
theorem d_Paths_tryEachNext_59 : decode M_Paths_tryEachNext.2.1 59 = .ok (.iadd, 1) := by decide +kernel
theorem d_Paths_tryEachNext_60 : decode M_Paths_tryEachNext.2.1 60 = .ok (.iload_n 2, 1) := by decide +kernel
theorem d_Paths_tryEachNext_61 : decode M_Paths_tryEachNext.2.1 61 = .ok (.iload 5, 2) := by decide +kernel
theorem d_Paths_tryEachNext_63 : decode M_Paths_tryEachNext.2.1 63 = .ok (.iadd, 1) := by decide +kernel
theorem d_Paths_tryEachNext_64 : decode M_Paths_tryEachNext.2.1 64 = .ok (.iload_n 3, 1) := by decide +kernel
theorem d_Paths_tryEachNext_65 : decode M_Paths_tryEachNext.2.1 65 = .ok (.iconst 1, 1) := by decide +kernel
theorem d_Paths_tryEachNext_66 : decode M_Paths_tryEachNext.2.1 66 = .ok (.iload 4, 2) := by decide +kernel
theorem d_Paths_tryEachNext_68 : decode M_Paths_tryEachNext.2.1 68 = .ok (.ishl, 1) := by decide +kernel
theorem d_Paths_tryEachNext_69 : decode M_Paths_tryEachNext.2.1 69 = .ok (.ior, 1) := by decide +kernel
theorem d_Paths_tryEachNext_70 : decode M_Paths_tryEachNext.2.1 70 = .ok (.invokevirtual 41, 3) := by decide +kernel
theorem d_Paths_tryEachNext_73 : decode M_Paths_tryEachNext.2.1 73 = .ok (.iinc 4 1, 3) := by decide +kernel
theorem d_Paths_tryEachNext_76 : decode M_Paths_tryEachNext.2.1 76 = .ok (.goto (-73), 3) := by decide +kernel
theorem d_Paths_tryEachNext_79 : decode M_Paths_tryEachNext.2.1 79 = .ok (.return_, 1) := by decide +kernel
theorem d_Text_init_0 : decode M_Text_init.2.1 0 = .ok (.aload_n 0, 1) := by decide +kernel
theorem d_Text_init_1 : decode M_Text_init.2.1 1 = .ok (.invokespecial 3, 3) := by decide +kernel
theorem d_Text_init_4 : decode M_Text_init.2.1 4 = .ok (.aload_n 0, 1) := by decide +kernel
theorem d_Text_init_5 : decode M_Text_init.2.1 5 = .ok (.sipush 900, 3) := by decide +kernel
theorem d_Text_init_8 : decode M_Text_init.2.1 8 = .ok (.newarray .byte, 2) := by decide +kernel
theorem d_Text_init_10 : decode M_Text_init.2.1 10 = .ok (.putfield 9, 3) := by decide +kernel
theorem d_Text_init_13 : decode M_Text_init.2.1 13 = .ok (.aload_n 0, 1) := by decide +kernel
theorem d_Text_init_14 : decode M_Text_init.2.1 14 = .ok (.bipush 24, 2) := by decide +kernel
theorem d_Text_init_16 : decode M_Text_init.2.1 16 = .ok (.newarray .long, 2) := by decide +kernel
theorem d_Text_init_18 : decode M_Text_init.2.1 18 = .ok (.putfield 15, 3) := by decide +kernel
theorem d_Text_init_21 : decode M_Text_init.2.1 21 = .ok (.aload_n 0, 1) := by decide +kernel
theorem d_Text_init_22 : decode M_Text_init.2.1 22 = .ok (.sipush 901, 3) := by decide +kernel
theorem d_Text_init_25 : decode M_Text_init.2.1 25 = .ok (.newarray .int, 2) := by decide +kernel
theorem d_Text_init_27 : decode M_Text_init.2.1 27 = .ok (.putfield 19, 3) := by decide +kernel
theorem d_Text_init_30 : decode M_Text_init.2.1 30 = .ok (.aload_n 0, 1) := by decide +kernel
theorem d_Text_init_31 : decode M_Text_init.2.1 31 = .ok (.sipush 901, 3) := by decide +kernel
theorem d_Text_init_34 : decode M_Text_init.2.1 34 = .ok (.newarray .int, 2) := by decide +kernel
theorem d_Text_init_36 : decode M_Text_init.2.1 36 = .ok (.putfield 23, 3) := by decide +kernel
theorem d_Text_init_39 : decode M_Text_init.2.1 39 = .ok (.aload_n 0, 1) := by decide +kernel
theorem d_Text_init_40 : decode M_Text_init.2.1 40 = .ok (.sipush 901, 3) := by decide +kernel
theorem d_Text_init_43 : decode M_Text_init.2.1 43 = .ok (.newarray .long, 2) := by decide +kernel
theorem d_Text_init_45 : decode M_Text_init.2.1 45 = .ok (.putfield 26, 3) := by decide +kernel
theorem d_Text_init_48 : decode M_Text_init.2.1 48 = .ok (.aload_n 0, 1) := by decide +kernel
theorem d_Text_init_49 : decode M_Text_init.2.1 49 = .ok (.iconst 0, 1) := by decide +kernel
theorem d_Text_init_50 : decode M_Text_init.2.1 50 = .ok (.putfield 29, 3) := by decide +kernel
theorem d_Text_init_53 : decode M_Text_init.2.1 53 = .ok (.aload_n 0, 1) := by decide +kernel
theorem d_Text_init_54 : decode M_Text_init.2.1 54 = .ok (.iconst 0, 1) := by decide +kernel
theorem d_Text_init_55 : decode M_Text_init.2.1 55 = .ok (.putfield 33, 3) := by decide +kernel
theorem d_Text_init_58 : decode M_Text_init.2.1 58 = .ok (.aload_n 0, 1) := by decide +kernel
theorem d_Text_init_59 : decode M_Text_init.2.1 59 = .ok (.iconst 0, 1) := by decide +kernel
theorem d_Text_init_60 : decode M_Text_init.2.1 60 = .ok (.putfield 36, 3) := by decide +kernel
theorem d_Text_init_63 : decode M_Text_init.2.1 63 = .ok (.aload_n 0, 1) := by decide +kernel
theorem d_Text_init_64 : decode M_Text_init.2.1 64 = .ok (.iconst 0, 1) := by decide +kernel
theorem d_Text_init_65 : decode M_Text_init.2.1 65 = .ok (.putfield 39, 3) := by decide +kernel
theorem d_Text_init_68 : decode M_Text_init.2.1 68 = .ok (.aload_n 0, 1) := by decide +kernel
theorem d_Text_init_69 : decode M_Text_init.2.1 69 = .ok (.iconst 0, 1) := by decide +kernel
theorem d_Text_init_70 : decode M_Text_init.2.1 70 = .ok (.putfield 42, 3) := by decide +kernel
theorem d_Text_init_73 : decode M_Text_init.2.1 73 = .ok (.aload_n 0, 1) := by decide +kernel
theorem d_Text_init_74 : decode M_Text_init.2.1 74 = .ok (.iconst 0, 1) := by decide +kernel
theorem d_Text_init_75 : decode M_Text_init.2.1 75 = .ok (.putfield 45, 3) := by decide +kernel
theorem d_Text_init_78 : decode M_Text_init.2.1 78 = .ok (.aload_n 0, 1) := by decide +kernel
theorem d_Text_init_79 : decode M_Text_init.2.1 79 = .ok (.iconst (-1), 1) := by decide +kernel
theorem d_Text_init_80 : decode M_Text_init.2.1 80 = .ok (.putfield 48, 3) := by decide +kernel
theorem d_Text_init_83 : decode M_Text_init.2.1 83 = .ok (.aload_n 0, 1) := by decide +kernel
theorem d_Text_init_84 : decode M_Text_init.2.1 84 = .ok (.iconst 0, 1) := by decide +kernel
theorem d_Text_init_85 : decode M_Text_init.2.1 85 = .ok (.putfield 51, 3) := by decide +kernel
theorem d_Text_init_88 : decode M_Text_init.2.1 88 = .ok (.aload_n 0, 1) := by decide +kernel
theorem d_Text_init_89 : decode M_Text_init.2.1 89 = .ok (.lconst 0, 1) := by decide +kernel
theorem d_Text_init_90 : decode M_Text_init.2.1 90 = .ok (.putfield 54, 3) := by decide +kernel
theorem d_Text_init_93 : decode M_Text_init.2.1 93 = .ok (.aload_n 0, 1) := by decide +kernel
theorem d_Text_init_94 : decode M_Text_init.2.1 94 = .ok (.iconst (-1), 1) := by decide +kernel
theorem d_Text_init_95 : decode M_Text_init.2.1 95 = .ok (.putfield 58, 3) := by decide +kernel
theorem d_Text_init_98 : decode M_Text_init.2.1 98 = .ok (.aload_n 0, 1) := by decide +kernel
theorem d_Text_init_99 : decode M_Text_init.2.1 99 = .ok (.iconst (-1), 1) := by decide +kernel
theorem d_Text_init_100 : decode M_Text_init.2.1 100 = .ok (.putfield 61, 3) := by decide +kernel
theorem d_Text_init_103 : decode M_Text_init.2.1 103 = .ok (.iconst 0, 1) := by decide +kernel
theorem d_Text_init_104 : decode M_Text_init.2.1 104 = .ok (.istore_n 1, 1) := by decide +kernel
theorem d_Text_init_105 : decode M_Text_init.2.1 105 = .ok (.lconst 0, 1) := by decide +kernel
theorem d_Text_init_106 : decode M_Text_init.2.1 106 = .ok (.lstore_n 2, 1) := by decide +kernel
theorem d_Text_init_107 : decode M_Text_init.2.1 107 = .ok (.iconst 0, 1) := by decide +kernel
theorem d_Text_init_108 : decode M_Text_init.2.1 108 = .ok (.istore 4, 2) := by decide +kernel
theorem d_Text_init_110 : decode M_Text_init.2.1 110 = .ok (.iload 4, 2) := by decide +kernel
theorem d_Text_init_112 : decode M_Text_init.2.1 112 = .ok (.ldc 64, 2) := by decide +kernel
theorem d_Text_init_114 : decode M_Text_init.2.1 114 = .ok (.invokevirtual 66, 3) := by decide +kernel
theorem d_Text_init_117 : decode M_Text_init.2.1 117 = .ok (.if_icmp .ge 53, 3) := by decide +kernel
theorem d_Text_init_120 : decode M_Text_init.2.1 120 = .ok (.ldc 64, 2) := by decide +kernel
theorem d_Text_init_122 : decode M_Text_init.2.1 122 = .ok (.iload 4, 2) := by decide +kernel
theorem d_Text_init_124 : decode M_Text_init.2.1 124 = .ok (.invokevirtual 71, 3) := by decide +kernel
theorem d_Text_init_127 : decode M_Text_init.2.1 127 = .ok (.istore 5, 2) := by decide +kernel
theorem d_Text_init_129 : decode M_Text_init.2.1 129 = .ok (.iload 5, 2) := by decide +kernel
theorem d_Text_init_131 : decode M_Text_init.2.1 131 = .ok (.bipush 32, 2) := by decide +kernel
theorem d_Text_init_133 : decode M_Text_init.2.1 133 = .ok (.if_icmp .eq 13, 3) := by decide +kernel
theorem d_Text_init_136 : decode M_Text_init.2.1 136 = .ok (.lload_n 2, 1) := by decide +kernel
theorem d_Text_init_137 : decode M_Text_init.2.1 137 = .ok (.iload 5, 2) := by decide +kernel
theorem d_Text_init_139 : decode M_Text_init.2.1 139 = .ok (.invokestatic 75, 3) := by decide +kernel
theorem d_Text_init_142 : decode M_Text_init.2.1 142 = .ok (.lstore_n 2, 1) := by decide +kernel
theorem d_Text_init_143 : decode M_Text_init.2.1 143 = .ok (.goto 21, 3) := by decide +kernel
theorem d_Text_init_146 : decode M_Text_init.2.1 146 = .ok (.iload_n 1, 1) := by decide +kernel
theorem d_Text_init_147 : decode M_Text_init.2.1 147 = .ok (.bipush 24, 2) := by decide +kernel
theorem d_Text_init_149 : decode M_Text_init.2.1 149 = .ok (.if_icmp .ge 15, 3) := by decide +kernel
theorem d_Text_init_152 : decode M_Text_init.2.1 152 = .ok (.aload_n 0, 1) := by decide +kernel
theorem d_Text_init_153 : decode M_Text_init.2.1 153 = .ok (.getfield 15, 3) := by decide +kernel
theorem d_Text_init_156 : decode M_Text_init.2.1 156 = .ok (.iload_n 1, 1) := by decide +kernel
theorem d_Text_init_157 : decode M_Text_init.2.1 157 = .ok (.lload_n 2, 1) := by decide +kernel
theorem d_Text_init_158 : decode M_Text_init.2.1 158 = .ok (.lastore, 1) := by decide +kernel
theorem d_Text_init_159 : decode M_Text_init.2.1 159 = .ok (.iinc 1 1, 3) := by decide +kernel
theorem d_Text_init_162 : decode M_Text_init.2.1 162 = .ok (.lconst 0, 1) := by decide +kernel
theorem d_Text_init_163 : decode M_Text_init.2.1 163 = .ok (.lstore_n 2, 1) := by decide +kernel
theorem d_Text_init_164 : decode M_Text_init.2.1 164 = .ok (.iinc 4 1, 3) := by decide +kernel
theorem d_Text_init_167 : decode M_Text_init.2.1 167 = .ok (.goto (-57), 3) := by decide +kernel
theorem d_Text_init_170 : decode M_Text_init.2.1 170 = .ok (.return_, 1) := by decide +kernel
theorem d_Text_feedFour_0 : decode M_Text_feedFour.2.1 0 = .ok (.bipush 24, 2) := by decide +kernel
theorem d_Text_feedFour_2 : decode M_Text_feedFour.2.1 2 = .ok (.istore_n 2, 1) := by decide +kernel
theorem d_Text_feedFour_3 : decode M_Text_feedFour.2.1 3 = .ok (.iload_n 2, 1) := by decide +kernel
theorem d_Text_feedFour_4 : decode M_Text_feedFour.2.1 4 = .ok (.ifCond .lt 42, 3) := by decide +kernel
theorem d_Text_feedFour_7 : decode M_Text_feedFour.2.1 7 = .ok (.aload_n 0, 1) := by decide +kernel
theorem d_Text_feedFour_8 : decode M_Text_feedFour.2.1 8 = .ok (.getfield 29, 3) := by decide +kernel
theorem d_Text_feedFour_11 : decode M_Text_feedFour.2.1 11 = .ok (.sipush 900, 3) := by decide +kernel
theorem d_Text_feedFour_14 : decode M_Text_feedFour.2.1 14 = .ok (.if_icmp .ge 26, 3) := by decide +kernel
theorem d_Text_feedFour_17 : decode M_Text_feedFour.2.1 17 = .ok (.aload_n 0, 1) := by decide +kernel
theorem d_Text_feedFour_18 : decode M_Text_feedFour.2.1 18 = .ok (.getfield 9, 3) := by decide +kernel
theorem d_Text_feedFour_21 : decode M_Text_feedFour.2.1 21 = .ok (.aload_n 0, 1) := by decide +kernel
theorem d_Text_feedFour_22 : decode M_Text_feedFour.2.1 22 = .ok (.getfield 29, 3) := by decide +kernel
theorem d_Text_feedFour_25 : decode M_Text_feedFour.2.1 25 = .ok (.iload_n 1, 1) := by decide +kernel
theorem d_Text_feedFour_26 : decode M_Text_feedFour.2.1 26 = .ok (.iload_n 2, 1) := by decide +kernel
theorem d_Text_feedFour_27 : decode M_Text_feedFour.2.1 27 = .ok (.ishr, 1) := by decide +kernel
theorem d_Text_feedFour_28 : decode M_Text_feedFour.2.1 28 = .ok (.i2b, 1) := by decide +kernel
theorem d_Text_feedFour_29 : decode M_Text_feedFour.2.1 29 = .ok (.bastore, 1) := by decide +kernel
theorem d_Text_feedFour_30 : decode M_Text_feedFour.2.1 30 = .ok (.aload_n 0, 1) := by decide +kernel
theorem d_Text_feedFour_31 : decode M_Text_feedFour.2.1 31 = .ok (.dup, 1) := by decide +kernel
theorem d_Text_feedFour_32 : decode M_Text_feedFour.2.1 32 = .ok (.getfield 29, 3) := by decide +kernel
theorem d_Text_feedFour_35 : decode M_Text_feedFour.2.1 35 = .ok (.iconst 1, 1) := by decide +kernel
theorem d_Text_feedFour_36 : decode M_Text_feedFour.2.1 36 = .ok (.iadd, 1) := by decide +kernel
theorem d_Text_feedFour_37 : decode M_Text_feedFour.2.1 37 = .ok (.putfield 29, 3) := by decide +kernel
theorem d_Text_feedFour_40 : decode M_Text_feedFour.2.1 40 = .ok (.iinc 2 (-8), 3) := by decide +kernel
theorem d_Text_feedFour_43 : decode M_Text_feedFour.2.1 43 = .ok (.goto (-40), 3) := by decide +kernel
theorem d_Text_feedFour_46 : decode M_Text_feedFour.2.1 46 = .ok (.return_, 1) := by decide +kernel
theorem d_Text_begin_0 : decode M_Text_begin.2.1 0 = .ok (.aload_n 0, 1) := by decide +kernel
theorem d_Text_begin_1 : decode M_Text_begin.2.1 1 = .ok (.iload_n 1, 1) := by decide +kernel
theorem d_Text_begin_2 : decode M_Text_begin.2.1 2 = .ok (.aload_n 0, 1) := by decide +kernel
theorem d_Text_begin_3 : decode M_Text_begin.2.1 3 = .ok (.getfield 29, 3) := by decide +kernel
theorem d_Text_begin_6 : decode M_Text_begin.2.1 6 = .ok (.invokestatic 79, 3) := by decide +kernel
theorem d_Text_begin_9 : decode M_Text_begin.2.1 9 = .ok (.putfield 33, 3) := by decide +kernel
theorem d_Text_begin_12 : decode M_Text_begin.2.1 12 = .ok (.aload_n 0, 1) := by decide +kernel
theorem d_Text_begin_13 : decode M_Text_begin.2.1 13 = .ok (.iconst 0, 1) := by decide +kernel
theorem d_Text_begin_14 : decode M_Text_begin.2.1 14 = .ok (.putfield 29, 3) := by decide +kernel
theorem d_Text_begin_17 : decode M_Text_begin.2.1 17 = .ok (.aload_n 0, 1) := by decide +kernel
theorem d_Text_begin_18 : decode M_Text_begin.2.1 18 = .ok (.iconst 0, 1) := by decide +kernel
theorem d_Text_begin_19 : decode M_Text_begin.2.1 19 = .ok (.putfield 58, 3) := by decide +kernel
theorem d_Text_begin_22 : decode M_Text_begin.2.1 22 = .ok (.aload_n 0, 1) := by decide +kernel
theorem d_Text_begin_23 : decode M_Text_begin.2.1 23 = .ok (.iconst (-1), 1) := by decide +kernel
theorem d_Text_begin_24 : decode M_Text_begin.2.1 24 = .ok (.putfield 61, 3) := by decide +kernel
theorem d_Text_begin_27 : decode M_Text_begin.2.1 27 = .ok (.aload_n 0, 1) := by decide +kernel
theorem d_Text_begin_28 : decode M_Text_begin.2.1 28 = .ok (.iconst 0, 1) := by decide +kernel
theorem d_Text_begin_29 : decode M_Text_begin.2.1 29 = .ok (.putfield 36, 3) := by decide +kernel
theorem d_Text_begin_32 : decode M_Text_begin.2.1 32 = .ok (.iconst 0, 1) := by decide +kernel
theorem d_Text_begin_33 : decode M_Text_begin.2.1 33 = .ok (.istore_n 2, 1) := by decide +kernel
theorem d_Text_begin_34 : decode M_Text_begin.2.1 34 = .ok (.iconst 0, 1) := by decide +kernel
theorem d_Text_begin_35 : decode M_Text_begin.2.1 35 = .ok (.istore_n 3, 1) := by decide +kernel
theorem d_Text_begin_36 : decode M_Text_begin.2.1 36 = .ok (.iload_n 3, 1) := by decide +kernel
theorem d_Text_begin_37 : decode M_Text_begin.2.1 37 = .ok (.sipush 900, 3) := by decide +kernel
theorem d_Text_begin_40 : decode M_Text_begin.2.1 40 = .ok (.if_icmp .ge 41, 3) := by decide +kernel
theorem d_Text_begin_43 : decode M_Text_begin.2.1 43 = .ok (.iload_n 2, 1) := by decide +kernel
theorem d_Text_begin_44 : decode M_Text_begin.2.1 44 = .ok (.aload_n 0, 1) := by decide +kernel
theorem d_Text_begin_45 : decode M_Text_begin.2.1 45 = .ok (.getfield 33, 3) := by decide +kernel
theorem d_Text_begin_48 : decode M_Text_begin.2.1 48 = .ok (.if_icmp .ge 33, 3) := by decide +kernel
theorem d_Text_begin_51 : decode M_Text_begin.2.1 51 = .ok (.aload_n 0, 1) := by decide +kernel
theorem d_Text_begin_52 : decode M_Text_begin.2.1 52 = .ok (.getfield 9, 3) := by decide +kernel
theorem d_Text_begin_55 : decode M_Text_begin.2.1 55 = .ok (.iload_n 2, 1) := by decide +kernel
theorem d_Text_begin_56 : decode M_Text_begin.2.1 56 = .ok (.baload, 1) := by decide +kernel
theorem d_Text_begin_57 : decode M_Text_begin.2.1 57 = .ok (.invokestatic 85, 3) := by decide +kernel
theorem d_Text_begin_60 : decode M_Text_begin.2.1 60 = .ok (.ifCond .eq 9, 3) := by decide +kernel
theorem d_Text_begin_63 : decode M_Text_begin.2.1 63 = .ok (.iload_n 2, 1) := by decide +kernel
theorem d_Text_begin_64 : decode M_Text_begin.2.1 64 = .ok (.iconst 1, 1) := by decide +kernel
theorem d_Text_begin_65 : decode M_Text_begin.2.1 65 = .ok (.iadd, 1) := by decide +kernel
theorem d_Text_begin_66 : decode M_Text_begin.2.1 66 = .ok (.goto 8, 3) := by decide +kernel
theorem d_Text_begin_69 : decode M_Text_begin.2.1 69 = .ok (.aload_n 0, 1) := by decide +kernel
theorem d_Text_begin_70 : decode M_Text_begin.2.1 70 = .ok (.iload_n 2, 1) := by decide +kernel
theorem d_Text_begin_71 : decode M_Text_begin.2.1 71 = .ok (.invokevirtual 89, 3) := by decide +kernel
theorem d_Text_begin_74 : decode M_Text_begin.2.1 74 = .ok (.istore_n 2, 1) := by decide +kernel
theorem d_Text_begin_75 : decode M_Text_begin.2.1 75 = .ok (.iinc 3 1, 3) := by decide +kernel
theorem d_Text_begin_78 : decode M_Text_begin.2.1 78 = .ok (.goto (-42), 3) := by decide +kernel
theorem d_Text_begin_81 : decode M_Text_begin.2.1 81 = .ok (.aload_n 0, 1) := by decide +kernel
theorem d_Text_begin_82 : decode M_Text_begin.2.1 82 = .ok (.iconst 0, 1) := by decide +kernel
theorem d_Text_begin_83 : decode M_Text_begin.2.1 83 = .ok (.aload_n 0, 1) := by decide +kernel
theorem d_Text_begin_84 : decode M_Text_begin.2.1 84 = .ok (.getfield 33, 3) := by decide +kernel
theorem d_Text_begin_87 : decode M_Text_begin.2.1 87 = .ok (.lconst 0, 1) := by decide +kernel
theorem d_Text_begin_88 : decode M_Text_begin.2.1 88 = .ok (.invokevirtual 93, 3) := by decide +kernel
theorem d_Text_begin_91 : decode M_Text_begin.2.1 91 = .ok (.aload_n 0, 1) := by decide +kernel
theorem d_Text_begin_92 : decode M_Text_begin.2.1 92 = .ok (.iconst 0, 1) := by decide +kernel
theorem d_Text_begin_93 : decode M_Text_begin.2.1 93 = .ok (.putfield 39, 3) := by decide +kernel
theorem d_Text_begin_96 : decode M_Text_begin.2.1 96 = .ok (.aload_n 0, 1) := by decide +kernel
theorem d_Text_begin_97 : decode M_Text_begin.2.1 97 = .ok (.invokevirtual 97, 3) := by decide +kernel
theorem d_Text_begin_100 : decode M_Text_begin.2.1 100 = .ok (.return_, 1) := by decide +kernel
theorem d_Text_withLetter_0 : decode M_Text_withLetter.2.1 0 = .ok (.lload_n 0, 1) := by decide +kernel
theorem d_Text_withLetter_1 : decode M_Text_withLetter.2.1 1 = .ok (.ldc2_w 100, 3) := by decide +kernel
theorem d_Text_withLetter_4 : decode M_Text_withLetter.2.1 4 = .ok (.lmul, 1) := by decide +kernel
theorem d_Text_withLetter_5 : decode M_Text_withLetter.2.1 5 = .ok (.iload_n 2, 1) := by decide +kernel
theorem d_Text_withLetter_6 : decode M_Text_withLetter.2.1 6 = .ok (.bipush 97, 2) := by decide +kernel
theorem d_Text_withLetter_8 : decode M_Text_withLetter.2.1 8 = .ok (.isub, 1) := by decide +kernel
theorem d_Text_withLetter_9 : decode M_Text_withLetter.2.1 9 = .ok (.iconst 1, 1) := by decide +kernel
theorem d_Text_withLetter_10 : decode M_Text_withLetter.2.1 10 = .ok (.iadd, 1) := by decide +kernel
theorem d_Text_withLetter_11 : decode M_Text_withLetter.2.1 11 = .ok (.i2l, 1) := by decide +kernel
theorem d_Text_withLetter_12 : decode M_Text_withLetter.2.1 12 = .ok (.ladd, 1) := by decide +kernel
theorem d_Text_withLetter_13 : decode M_Text_withLetter.2.1 13 = .ok (.lreturn, 1) := by decide +kernel
theorem d_Text_isLetter_0 : decode M_Text_isLetter.2.1 0 = .ok (.iload_n 0, 1) := by decide +kernel
theorem d_Text_isLetter_1 : decode M_Text_isLetter.2.1 1 = .ok (.bipush 97, 2) := by decide +kernel
theorem d_Text_isLetter_3 : decode M_Text_isLetter.2.1 3 = .ok (.if_icmp .lt 13, 3) := by decide +kernel
theorem d_Text_isLetter_6 : decode M_Text_isLetter.2.1 6 = .ok (.iload_n 0, 1) := by decide +kernel
theorem d_Text_isLetter_7 : decode M_Text_isLetter.2.1 7 = .ok (.bipush 122, 2) := by decide +kernel
theorem d_Text_isLetter_9 : decode M_Text_isLetter.2.1 9 = .ok (.if_icmp .gt 7, 3) := by decide +kernel
theorem d_Text_isLetter_12 : decode M_Text_isLetter.2.1 12 = .ok (.iconst 1, 1) := by decide +kernel
theorem d_Text_isLetter_13 : decode M_Text_isLetter.2.1 13 = .ok (.goto 4, 3) := by decide +kernel
theorem d_Text_isLetter_16 : decode M_Text_isLetter.2.1 16 = .ok (.iconst 0, 1) := by decide +kernel
theorem d_Text_isLetter_17 : decode M_Text_isLetter.2.1 17 = .ok (.ireturn, 1) := by decide +kernel
theorem d_Text_isDigit_0 : decode M_Text_isDigit.2.1 0 = .ok (.iload_n 0, 1) := by decide +kernel
theorem d_Text_isDigit_1 : decode M_Text_isDigit.2.1 1 = .ok (.bipush 48, 2) := by decide +kernel
theorem d_Text_isDigit_3 : decode M_Text_isDigit.2.1 3 = .ok (.if_icmp .lt 13, 3) := by decide +kernel
theorem d_Text_isDigit_6 : decode M_Text_isDigit.2.1 6 = .ok (.iload_n 0, 1) := by decide +kernel
theorem d_Text_isDigit_7 : decode M_Text_isDigit.2.1 7 = .ok (.bipush 57, 2) := by decide +kernel
theorem d_Text_isDigit_9 : decode M_Text_isDigit.2.1 9 = .ok (.if_icmp .gt 7, 3) := by decide +kernel
theorem d_Text_isDigit_12 : decode M_Text_isDigit.2.1 12 = .ok (.iconst 1, 1) := by decide +kernel
theorem d_Text_isDigit_13 : decode M_Text_isDigit.2.1 13 = .ok (.goto 4, 3) := by decide +kernel
theorem d_Text_isDigit_16 : decode M_Text_isDigit.2.1 16 = .ok (.iconst 0, 1) := by decide +kernel
theorem d_Text_isDigit_17 : decode M_Text_isDigit.2.1 17 = .ok (.ireturn, 1) := by decide +kernel
theorem d_Text_isBlank_0 : decode M_Text_isBlank.2.1 0 = .ok (.iload_n 0, 1) := by decide +kernel
theorem d_Text_isBlank_1 : decode M_Text_isBlank.2.1 1 = .ok (.bipush 10, 2) := by decide +kernel
theorem d_Text_isBlank_3 : decode M_Text_isBlank.2.1 3 = .ok (.if_icmp .eq 9, 3) := by decide +kernel
theorem d_Text_isBlank_6 : decode M_Text_isBlank.2.1 6 = .ok (.iload_n 0, 1) := by decide +kernel
theorem d_Text_isBlank_7 : decode M_Text_isBlank.2.1 7 = .ok (.bipush 32, 2) := by decide +kernel
theorem d_Text_isBlank_9 : decode M_Text_isBlank.2.1 9 = .ok (.if_icmp .ne 7, 3) := by decide +kernel
theorem d_Text_isBlank_12 : decode M_Text_isBlank.2.1 12 = .ok (.iconst 1, 1) := by decide +kernel
theorem d_Text_isBlank_13 : decode M_Text_isBlank.2.1 13 = .ok (.goto 4, 3) := by decide +kernel
theorem d_Text_isBlank_16 : decode M_Text_isBlank.2.1 16 = .ok (.iconst 0, 1) := by decide +kernel
theorem d_Text_isBlank_17 : decode M_Text_isBlank.2.1 17 = .ok (.ireturn, 1) := by decide +kernel
theorem d_Text_isSign_0 : decode M_Text_isSign.2.1 0 = .ok (.iload_n 0, 1) := by decide +kernel
theorem d_Text_isSign_1 : decode M_Text_isSign.2.1 1 = .ok (.bipush 59, 2) := by decide +kernel
theorem d_Text_isSign_3 : decode M_Text_isSign.2.1 3 = .ok (.if_icmp .eq 21, 3) := by decide +kernel
theorem d_Text_isSign_6 : decode M_Text_isSign.2.1 6 = .ok (.iload_n 0, 1) := by decide +kernel
theorem d_Text_isSign_7 : decode M_Text_isSign.2.1 7 = .ok (.bipush 60, 2) := by decide +kernel
theorem d_Text_isSign_9 : decode M_Text_isSign.2.1 9 = .ok (.if_icmp .eq 15, 3) := by decide +kernel
theorem d_Text_isSign_12 : decode M_Text_isSign.2.1 12 = .ok (.iload_n 0, 1) := by decide +kernel
theorem d_Text_isSign_13 : decode M_Text_isSign.2.1 13 = .ok (.bipush 62, 2) := by decide +kernel
theorem d_Text_isSign_15 : decode M_Text_isSign.2.1 15 = .ok (.if_icmp .eq 9, 3) := by decide +kernel
theorem d_Text_isSign_18 : decode M_Text_isSign.2.1 18 = .ok (.iload_n 0, 1) := by decide +kernel
theorem d_Text_isSign_19 : decode M_Text_isSign.2.1 19 = .ok (.bipush 61, 2) := by decide +kernel
theorem d_Text_isSign_21 : decode M_Text_isSign.2.1 21 = .ok (.if_icmp .ne 7, 3) := by decide +kernel
theorem d_Text_isSign_24 : decode M_Text_isSign.2.1 24 = .ok (.iconst 1, 1) := by decide +kernel
theorem d_Text_isSign_25 : decode M_Text_isSign.2.1 25 = .ok (.goto 4, 3) := by decide +kernel
theorem d_Text_isSign_28 : decode M_Text_isSign.2.1 28 = .ok (.iconst 0, 1) := by decide +kernel
theorem d_Text_isSign_29 : decode M_Text_isSign.2.1 29 = .ok (.ireturn, 1) := by decide +kernel
theorem d_Text_addToken_0 : decode M_Text_addToken.2.1 0 = .ok (.aload_n 0, 1) := by decide +kernel
theorem d_Text_addToken_1 : decode M_Text_addToken.2.1 1 = .ok (.getfield 36, 3) := by decide +kernel
theorem d_Text_addToken_4 : decode M_Text_addToken.2.1 4 = .ok (.sipush 901, 3) := by decide +kernel
theorem d_Text_addToken_7 : decode M_Text_addToken.2.1 7 = .ok (.if_icmp .ge 43, 3) := by decide +kernel
theorem d_Text_addToken_10 : decode M_Text_addToken.2.1 10 = .ok (.aload_n 0, 1) := by decide +kernel
theorem d_Text_addToken_11 : decode M_Text_addToken.2.1 11 = .ok (.getfield 19, 3) := by decide +kernel
theorem d_Text_addToken_14 : decode M_Text_addToken.2.1 14 = .ok (.aload_n 0, 1) := by decide +kernel
theorem d_Text_addToken_15 : decode M_Text_addToken.2.1 15 = .ok (.getfield 36, 3) := by decide +kernel
theorem d_Text_addToken_18 : decode M_Text_addToken.2.1 18 = .ok (.iload_n 1, 1) := by decide +kernel
theorem d_Text_addToken_19 : decode M_Text_addToken.2.1 19 = .ok (.iastore, 1) := by decide +kernel
theorem d_Text_addToken_20 : decode M_Text_addToken.2.1 20 = .ok (.aload_n 0, 1) := by decide +kernel
theorem d_Text_addToken_21 : decode M_Text_addToken.2.1 21 = .ok (.getfield 23, 3) := by decide +kernel
theorem d_Text_addToken_24 : decode M_Text_addToken.2.1 24 = .ok (.aload_n 0, 1) := by decide +kernel
theorem d_Text_addToken_25 : decode M_Text_addToken.2.1 25 = .ok (.getfield 36, 3) := by decide +kernel
theorem d_Text_addToken_28 : decode M_Text_addToken.2.1 28 = .ok (.iload_n 2, 1) := by decide +kernel
theorem d_Text_addToken_29 : decode M_Text_addToken.2.1 29 = .ok (.iastore, 1) := by decide +kernel
theorem d_Text_addToken_30 : decode M_Text_addToken.2.1 30 = .ok (.aload_n 0, 1) := by decide +kernel
theorem d_Text_addToken_31 : decode M_Text_addToken.2.1 31 = .ok (.getfield 26, 3) := by decide +kernel
theorem d_Text_addToken_34 : decode M_Text_addToken.2.1 34 = .ok (.aload_n 0, 1) := by decide +kernel
theorem d_Text_addToken_35 : decode M_Text_addToken.2.1 35 = .ok (.getfield 36, 3) := by decide +kernel
theorem d_Text_addToken_38 : decode M_Text_addToken.2.1 38 = .ok (.lload_n 3, 1) := by decide +kernel
theorem d_Text_addToken_39 : decode M_Text_addToken.2.1 39 = .ok (.lastore, 1) := by decide +kernel
theorem d_Text_addToken_40 : decode M_Text_addToken.2.1 40 = .ok (.aload_n 0, 1) := by decide +kernel
theorem d_Text_addToken_41 : decode M_Text_addToken.2.1 41 = .ok (.dup, 1) := by decide +kernel
theorem d_Text_addToken_42 : decode M_Text_addToken.2.1 42 = .ok (.getfield 36, 3) := by decide +kernel
theorem d_Text_addToken_45 : decode M_Text_addToken.2.1 45 = .ok (.iconst 1, 1) := by decide +kernel
theorem d_Text_addToken_46 : decode M_Text_addToken.2.1 46 = .ok (.iadd, 1) := by decide +kernel
theorem d_Text_addToken_47 : decode M_Text_addToken.2.1 47 = .ok (.putfield 36, 3) := by decide +kernel
theorem d_Text_addToken_50 : decode M_Text_addToken.2.1 50 = .ok (.return_, 1) := by decide +kernel
theorem d_Text_scan_0 : decode M_Text_scan.2.1 0 = .ok (.aload_n 0, 1) := by decide +kernel
theorem d_Text_scan_1 : decode M_Text_scan.2.1 1 = .ok (.getfield 9, 3) := by decide +kernel
theorem d_Text_scan_4 : decode M_Text_scan.2.1 4 = .ok (.iload_n 1, 1) := by decide +kernel
theorem d_Text_scan_5 : decode M_Text_scan.2.1 5 = .ok (.baload, 1) := by decide +kernel
theorem d_Text_scan_6 : decode M_Text_scan.2.1 6 = .ok (.istore_n 2, 1) := by decide +kernel
theorem d_Text_scan_7 : decode M_Text_scan.2.1 7 = .ok (.iload_n 2, 1) := by decide +kernel
theorem d_Text_scan_8 : decode M_Text_scan.2.1 8 = .ok (.invokestatic 102, 3) := by decide +kernel
theorem d_Text_scan_11 : decode M_Text_scan.2.1 11 = .ok (.ifCond .eq 9, 3) := by decide +kernel
theorem d_Text_scan_14 : decode M_Text_scan.2.1 14 = .ok (.aload_n 0, 1) := by decide +kernel
theorem d_Text_scan_15 : decode M_Text_scan.2.1 15 = .ok (.iload_n 1, 1) := by decide +kernel
theorem d_Text_scan_16 : decode M_Text_scan.2.1 16 = .ok (.invokevirtual 105, 3) := by decide +kernel
theorem d_Text_scan_19 : decode M_Text_scan.2.1 19 = .ok (.ireturn, 1) := by decide +kernel
theorem d_Text_scan_20 : decode M_Text_scan.2.1 20 = .ok (.iload_n 2, 1) := by decide +kernel
theorem d_Text_scan_21 : decode M_Text_scan.2.1 21 = .ok (.invokestatic 108, 3) := by decide +kernel
theorem d_Text_scan_24 : decode M_Text_scan.2.1 24 = .ok (.ifCond .eq 9, 3) := by decide +kernel
theorem d_Text_scan_27 : decode M_Text_scan.2.1 27 = .ok (.aload_n 0, 1) := by decide +kernel
theorem d_Text_scan_28 : decode M_Text_scan.2.1 28 = .ok (.iload_n 1, 1) := by decide +kernel
theorem d_Text_scan_29 : decode M_Text_scan.2.1 29 = .ok (.invokevirtual 111, 3) := by decide +kernel
theorem d_Text_scan_32 : decode M_Text_scan.2.1 32 = .ok (.ireturn, 1) := by decide +kernel
theorem d_Text_scan_33 : decode M_Text_scan.2.1 33 = .ok (.aload_n 0, 1) := by decide +kernel
theorem d_Text_scan_34 : decode M_Text_scan.2.1 34 = .ok (.iload_n 2, 1) := by decide +kernel
theorem d_Text_scan_35 : decode M_Text_scan.2.1 35 = .ok (.invokestatic 114, 3) := by decide +kernel
theorem d_Text_scan_38 : decode M_Text_scan.2.1 38 = .ok (.ifCond .eq 7, 3) := by decide +kernel
theorem d_Text_scan_41 : decode M_Text_scan.2.1 41 = .ok (.iconst 5, 1) := by decide +kernel
theorem d_Text_scan_42 : decode M_Text_scan.2.1 42 = .ok (.goto 5, 3) := by decide +kernel
theorem d_Text_scan_45 : decode M_Text_scan.2.1 45 = .ok (.bipush 6, 2) := by decide +kernel
theorem d_Text_scan_47 : decode M_Text_scan.2.1 47 = .ok (.iload_n 1, 1) := by decide +kernel
theorem d_Text_scan_48 : decode M_Text_scan.2.1 48 = .ok (.iload_n 2, 1) := by decide +kernel
theorem d_Text_scan_49 : decode M_Text_scan.2.1 49 = .ok (.i2l, 1) := by decide +kernel
theorem d_Text_scan_50 : decode M_Text_scan.2.1 50 = .ok (.invokevirtual 93, 3) := by decide +kernel
theorem d_Text_scan_53 : decode M_Text_scan.2.1 53 = .ok (.iload_n 1, 1) := by decide +kernel
theorem d_Text_scan_54 : decode M_Text_scan.2.1 54 = .ok (.iconst 1, 1) := by decide +kernel
theorem d_Text_scan_55 : decode M_Text_scan.2.1 55 = .ok (.iadd, 1) := by decide +kernel
theorem d_Text_scan_56 : decode M_Text_scan.2.1 56 = .ok (.ireturn, 1) := by decide +kernel
theorem d_Text_scanWord_0 : decode M_Text_scanWord.2.1 0 = .ok (.lconst 0, 1) := by decide +kernel
theorem d_Text_scanWord_1 : decode M_Text_scanWord.2.1 1 = .ok (.lstore_n 2, 1) := by decide +kernel
theorem d_Text_scanWord_2 : decode M_Text_scanWord.2.1 2 = .ok (.iload_n 1, 1) := by decide +kernel
theorem d_Text_scanWord_3 : decode M_Text_scanWord.2.1 3 = .ok (.istore 4, 2) := by decide +kernel
theorem d_Text_scanWord_5 : decode M_Text_scanWord.2.1 5 = .ok (.iload 4, 2) := by decide +kernel
theorem d_Text_scanWord_7 : decode M_Text_scanWord.2.1 7 = .ok (.aload_n 0, 1) := by decide +kernel
theorem d_Text_scanWord_8 : decode M_Text_scanWord.2.1 8 = .ok (.getfield 33, 3) := by decide +kernel
theorem d_Text_scanWord_11 : decode M_Text_scanWord.2.1 11 = .ok (.if_icmp .ge 43, 3) := by decide +kernel
theorem d_Text_scanWord_14 : decode M_Text_scanWord.2.1 14 = .ok (.aload_n 0, 1) := by decide +kernel
theorem d_Text_scanWord_15 : decode M_Text_scanWord.2.1 15 = .ok (.getfield 9, 3) := by decide +kernel
theorem d_Text_scanWord_18 : decode M_Text_scanWord.2.1 18 = .ok (.iload 4, 2) := by decide +kernel
theorem d_Text_scanWord_20 : decode M_Text_scanWord.2.1 20 = .ok (.baload, 1) := by decide +kernel
theorem d_Text_scanWord_21 : decode M_Text_scanWord.2.1 21 = .ok (.invokestatic 102, 3) := by decide +kernel
theorem d_Text_scanWord_24 : decode M_Text_scanWord.2.1 24 = .ok (.ifCond .eq 30, 3) := by decide +kernel
theorem d_Text_scanWord_27 : decode M_Text_scanWord.2.1 27 = .ok (.iload 4, 2) := by decide +kernel
theorem d_Text_scanWord_29 : decode M_Text_scanWord.2.1 29 = .ok (.iload_n 1, 1) := by decide +kernel
theorem d_Text_scanWord_30 : decode M_Text_scanWord.2.1 30 = .ok (.isub, 1) := by decide +kernel
theorem d_Text_scanWord_31 : decode M_Text_scanWord.2.1 31 = .ok (.bipush 8, 2) := by decide +kernel
theorem d_Text_scanWord_33 : decode M_Text_scanWord.2.1 33 = .ok (.if_icmp .ge 15, 3) := by decide +kernel
theorem d_Text_scanWord_36 : decode M_Text_scanWord.2.1 36 = .ok (.lload_n 2, 1) := by decide +kernel
theorem d_Text_scanWord_37 : decode M_Text_scanWord.2.1 37 = .ok (.aload_n 0, 1) := by decide +kernel
theorem d_Text_scanWord_38 : decode M_Text_scanWord.2.1 38 = .ok (.getfield 9, 3) := by decide +kernel
theorem d_Text_scanWord_41 : decode M_Text_scanWord.2.1 41 = .ok (.iload 4, 2) := by decide +kernel
theorem d_Text_scanWord_43 : decode M_Text_scanWord.2.1 43 = .ok (.baload, 1) := by decide +kernel
theorem d_Text_scanWord_44 : decode M_Text_scanWord.2.1 44 = .ok (.invokestatic 75, 3) := by decide +kernel
theorem d_Text_scanWord_47 : decode M_Text_scanWord.2.1 47 = .ok (.lstore_n 2, 1) := by decide +kernel
theorem d_Text_scanWord_48 : decode M_Text_scanWord.2.1 48 = .ok (.iinc 4 1, 3) := by decide +kernel
theorem d_Text_scanWord_51 : decode M_Text_scanWord.2.1 51 = .ok (.goto (-46), 3) := by decide +kernel
theorem d_Text_scanWord_54 : decode M_Text_scanWord.2.1 54 = .ok (.aload_n 0, 1) := by decide +kernel
theorem d_Text_scanWord_55 : decode M_Text_scanWord.2.1 55 = .ok (.lload_n 2, 1) := by decide +kernel
theorem d_Text_scanWord_56 : decode M_Text_scanWord.2.1 56 = .ok (.invokevirtual 117, 3) := by decide +kernel
theorem d_Text_scanWord_59 : decode M_Text_scanWord.2.1 59 = .ok (.istore 5, 2) := by decide +kernel
theorem d_Text_scanWord_61 : decode M_Text_scanWord.2.1 61 = .ok (.iload 4, 2) := by decide +kernel
theorem d_Text_scanWord_63 : decode M_Text_scanWord.2.1 63 = .ok (.iload_n 1, 1) := by decide +kernel
theorem d_Text_scanWord_64 : decode M_Text_scanWord.2.1 64 = .ok (.isub, 1) := by decide +kernel
theorem d_Text_scanWord_65 : decode M_Text_scanWord.2.1 65 = .ok (.bipush 8, 2) := by decide +kernel
theorem d_Text_scanWord_67 : decode M_Text_scanWord.2.1 67 = .ok (.if_icmp .le 13, 3) := by decide +kernel
theorem d_Text_scanWord_70 : decode M_Text_scanWord.2.1 70 = .ok (.aload_n 0, 1) := by decide +kernel
theorem d_Text_scanWord_71 : decode M_Text_scanWord.2.1 71 = .ok (.iconst 3, 1) := by decide +kernel
theorem d_Text_scanWord_72 : decode M_Text_scanWord.2.1 72 = .ok (.iload_n 1, 1) := by decide +kernel
theorem d_Text_scanWord_73 : decode M_Text_scanWord.2.1 73 = .ok (.lconst 0, 1) := by decide +kernel
theorem d_Text_scanWord_74 : decode M_Text_scanWord.2.1 74 = .ok (.invokevirtual 93, 3) := by decide +kernel
theorem d_Text_scanWord_77 : decode M_Text_scanWord.2.1 77 = .ok (.goto 28, 3) := by decide +kernel
theorem d_Text_scanWord_80 : decode M_Text_scanWord.2.1 80 = .ok (.iload 5, 2) := by decide +kernel
theorem d_Text_scanWord_82 : decode M_Text_scanWord.2.1 82 = .ok (.iconst (-1), 1) := by decide +kernel
theorem d_Text_scanWord_83 : decode M_Text_scanWord.2.1 83 = .ok (.if_icmp .eq 15, 3) := by decide +kernel
theorem d_Text_scanWord_86 : decode M_Text_scanWord.2.1 86 = .ok (.aload_n 0, 1) := by decide +kernel
theorem d_Text_scanWord_87 : decode M_Text_scanWord.2.1 87 = .ok (.iconst 1, 1) := by decide +kernel
theorem d_Text_scanWord_88 : decode M_Text_scanWord.2.1 88 = .ok (.iload_n 1, 1) := by decide +kernel
theorem d_Text_scanWord_89 : decode M_Text_scanWord.2.1 89 = .ok (.iload 5, 2) := by decide +kernel
theorem d_Text_scanWord_91 : decode M_Text_scanWord.2.1 91 = .ok (.i2l, 1) := by decide +kernel
theorem d_Text_scanWord_92 : decode M_Text_scanWord.2.1 92 = .ok (.invokevirtual 93, 3) := by decide +kernel
theorem d_Text_scanWord_95 : decode M_Text_scanWord.2.1 95 = .ok (.goto 10, 3) := by decide +kernel
theorem d_Text_scanWord_98 : decode M_Text_scanWord.2.1 98 = .ok (.aload_n 0, 1) := by decide +kernel
theorem d_Text_scanWord_99 : decode M_Text_scanWord.2.1 99 = .ok (.iconst 2, 1) := by decide +kernel
theorem d_Text_scanWord_100 : decode M_Text_scanWord.2.1 100 = .ok (.iload_n 1, 1) := by decide +kernel
theorem d_Text_scanWord_101 : decode M_Text_scanWord.2.1 101 = .ok (.lload_n 2, 1) := by decide +kernel
theorem d_Text_scanWord_102 : decode M_Text_scanWord.2.1 102 = .ok (.invokevirtual 93, 3) := by decide +kernel
theorem d_Text_scanWord_105 : decode M_Text_scanWord.2.1 105 = .ok (.iload 4, 2) := by decide +kernel
theorem d_Text_scanWord_107 : decode M_Text_scanWord.2.1 107 = .ok (.ireturn, 1) := by decide +kernel
theorem d_Text_wordOf_0 : decode M_Text_wordOf.2.1 0 = .ok (.iconst 0, 1) := by decide +kernel
theorem d_Text_wordOf_1 : decode M_Text_wordOf.2.1 1 = .ok (.istore_n 3, 1) := by decide +kernel
theorem d_Text_wordOf_2 : decode M_Text_wordOf.2.1 2 = .ok (.iload_n 3, 1) := by decide +kernel
theorem d_Text_wordOf_3 : decode M_Text_wordOf.2.1 3 = .ok (.bipush 24, 2) := by decide +kernel
theorem d_Text_wordOf_5 : decode M_Text_wordOf.2.1 5 = .ok (.if_icmp .ge 22, 3) := by decide +kernel
theorem d_Text_wordOf_8 : decode M_Text_wordOf.2.1 8 = .ok (.aload_n 0, 1) := by decide +kernel
theorem d_Text_wordOf_9 : decode M_Text_wordOf.2.1 9 = .ok (.getfield 15, 3) := by decide +kernel
theorem d_Text_wordOf_12 : decode M_Text_wordOf.2.1 12 = .ok (.iload_n 3, 1) := by decide +kernel
theorem d_Text_wordOf_13 : decode M_Text_wordOf.2.1 13 = .ok (.laload, 1) := by decide +kernel
theorem d_Text_wordOf_14 : decode M_Text_wordOf.2.1 14 = .ok (.lload_n 1, 1) := by decide +kernel
theorem d_Text_wordOf_15 : decode M_Text_wordOf.2.1 15 = .ok (.lcmp, 1) := by decide +kernel
theorem d_Text_wordOf_16 : decode M_Text_wordOf.2.1 16 = .ok (.ifCond .ne 5, 3) := by decide +kernel
theorem d_Text_wordOf_19 : decode M_Text_wordOf.2.1 19 = .ok (.iload_n 3, 1) := by decide +kernel
theorem d_Text_wordOf_20 : decode M_Text_wordOf.2.1 20 = .ok (.ireturn, 1) := by decide +kernel
theorem d_Text_wordOf_21 : decode M_Text_wordOf.2.1 21 = .ok (.iinc 3 1, 3) := by decide +kernel
theorem d_Text_wordOf_24 : decode M_Text_wordOf.2.1 24 = .ok (.goto (-22), 3) := by decide +kernel
theorem d_Text_wordOf_27 : decode M_Text_wordOf.2.1 27 = .ok (.iconst (-1), 1) := by decide +kernel
theorem d_Text_wordOf_28 : decode M_Text_wordOf.2.1 28 = .ok (.ireturn, 1) := by decide +kernel
theorem d_Text_scanNumber_0 : decode M_Text_scanNumber.2.1 0 = .ok (.iconst 0, 1) := by decide +kernel
theorem d_Text_scanNumber_1 : decode M_Text_scanNumber.2.1 1 = .ok (.istore_n 2, 1) := by decide +kernel
theorem d_Text_scanNumber_2 : decode M_Text_scanNumber.2.1 2 = .ok (.iload_n 1, 1) := by decide +kernel
theorem d_Text_scanNumber_3 : decode M_Text_scanNumber.2.1 3 = .ok (.istore_n 3, 1) := by decide +kernel
theorem d_Text_scanNumber_4 : decode M_Text_scanNumber.2.1 4 = .ok (.iload_n 3, 1) := by decide +kernel
theorem d_Text_scanNumber_5 : decode M_Text_scanNumber.2.1 5 = .ok (.aload_n 0, 1) := by decide +kernel
theorem d_Text_scanNumber_6 : decode M_Text_scanNumber.2.1 6 = .ok (.getfield 33, 3) := by decide +kernel
theorem d_Text_scanNumber_9 : decode M_Text_scanNumber.2.1 9 = .ok (.if_icmp .ge 43, 3) := by decide +kernel
theorem d_Text_scanNumber_12 : decode M_Text_scanNumber.2.1 12 = .ok (.aload_n 0, 1) := by decide +kernel
theorem d_Text_scanNumber_13 : decode M_Text_scanNumber.2.1 13 = .ok (.getfield 9, 3) := by decide +kernel
theorem d_Text_scanNumber_16 : decode M_Text_scanNumber.2.1 16 = .ok (.iload_n 3, 1) := by decide +kernel
theorem d_Text_scanNumber_17 : decode M_Text_scanNumber.2.1 17 = .ok (.baload, 1) := by decide +kernel
theorem d_Text_scanNumber_18 : decode M_Text_scanNumber.2.1 18 = .ok (.invokestatic 108, 3) := by decide +kernel
theorem d_Text_scanNumber_21 : decode M_Text_scanNumber.2.1 21 = .ok (.ifCond .eq 31, 3) := by decide +kernel
theorem d_Text_scanNumber_24 : decode M_Text_scanNumber.2.1 24 = .ok (.iload_n 3, 1) := by decide +kernel
theorem d_Text_scanNumber_25 : decode M_Text_scanNumber.2.1 25 = .ok (.iload_n 1, 1) := by decide +kernel
theorem d_Text_scanNumber_26 : decode M_Text_scanNumber.2.1 26 = .ok (.isub, 1) := by decide +kernel
theorem d_Text_scanNumber_27 : decode M_Text_scanNumber.2.1 27 = .ok (.iconst 4, 1) := by decide +kernel
theorem d_Text_scanNumber_28 : decode M_Text_scanNumber.2.1 28 = .ok (.if_icmp .ge 18, 3) := by decide +kernel
theorem d_Text_scanNumber_31 : decode M_Text_scanNumber.2.1 31 = .ok (.iload_n 2, 1) := by decide +kernel
theorem d_Text_scanNumber_32 : decode M_Text_scanNumber.2.1 32 = .ok (.bipush 10, 2) := by decide +kernel
theorem d_Text_scanNumber_34 : decode M_Text_scanNumber.2.1 34 = .ok (.imul, 1) := by decide +kernel
theorem d_Text_scanNumber_35 : decode M_Text_scanNumber.2.1 35 = .ok (.aload_n 0, 1) := by decide +kernel
theorem d_Text_scanNumber_36 : decode M_Text_scanNumber.2.1 36 = .ok (.getfield 9, 3) := by decide +kernel
theorem d_Text_scanNumber_39 : decode M_Text_scanNumber.2.1 39 = .ok (.iload_n 3, 1) := by decide +kernel
theorem d_Text_scanNumber_40 : decode M_Text_scanNumber.2.1 40 = .ok (.baload, 1) := by decide +kernel
theorem d_Text_scanNumber_41 : decode M_Text_scanNumber.2.1 41 = .ok (.bipush 48, 2) := by decide +kernel
theorem d_Text_scanNumber_43 : decode M_Text_scanNumber.2.1 43 = .ok (.isub, 1) := by decide +kernel
theorem d_Text_scanNumber_44 : decode M_Text_scanNumber.2.1 44 = .ok (.iadd, 1) := by decide +kernel
theorem d_Text_scanNumber_45 : decode M_Text_scanNumber.2.1 45 = .ok (.istore_n 2, 1) := by decide +kernel
theorem d_Text_scanNumber_46 : decode M_Text_scanNumber.2.1 46 = .ok (.iinc 3 1, 3) := by decide +kernel
theorem d_Text_scanNumber_49 : decode M_Text_scanNumber.2.1 49 = .ok (.goto (-45), 3) := by decide +kernel
theorem d_Text_scanNumber_52 : decode M_Text_scanNumber.2.1 52 = .ok (.aload_n 0, 1) := by decide +kernel
theorem d_Text_scanNumber_53 : decode M_Text_scanNumber.2.1 53 = .ok (.iload_n 3, 1) := by decide +kernel
theorem d_Text_scanNumber_54 : decode M_Text_scanNumber.2.1 54 = .ok (.iload_n 1, 1) := by decide +kernel
theorem d_Text_scanNumber_55 : decode M_Text_scanNumber.2.1 55 = .ok (.isub, 1) := by decide +kernel
theorem d_Text_scanNumber_56 : decode M_Text_scanNumber.2.1 56 = .ok (.iconst 4, 1) := by decide +kernel
theorem d_Text_scanNumber_57 : decode M_Text_scanNumber.2.1 57 = .ok (.if_icmp .gt 7, 3) := by decide +kernel
theorem d_Text_scanNumber_60 : decode M_Text_scanNumber.2.1 60 = .ok (.iconst 4, 1) := by decide +kernel
theorem d_Text_scanNumber_61 : decode M_Text_scanNumber.2.1 61 = .ok (.goto 5, 3) := by decide +kernel
theorem d_Text_scanNumber_64 : decode M_Text_scanNumber.2.1 64 = .ok (.bipush 6, 2) := by decide +kernel
theorem d_Text_scanNumber_66 : decode M_Text_scanNumber.2.1 66 = .ok (.iload_n 1, 1) := by decide +kernel
theorem d_Text_scanNumber_67 : decode M_Text_scanNumber.2.1 67 = .ok (.iload_n 2, 1) := by decide +kernel
theorem d_Text_scanNumber_68 : decode M_Text_scanNumber.2.1 68 = .ok (.i2l, 1) := by decide +kernel
theorem d_Text_scanNumber_69 : decode M_Text_scanNumber.2.1 69 = .ok (.invokevirtual 93, 3) := by decide +kernel
theorem d_Text_scanNumber_72 : decode M_Text_scanNumber.2.1 72 = .ok (.iload_n 3, 1) := by decide +kernel
theorem d_Text_scanNumber_73 : decode M_Text_scanNumber.2.1 73 = .ok (.ireturn, 1) := by decide +kernel
theorem d_Text_look_0 : decode M_Text_look.2.1 0 = .ok (.aload_n 0, 1) := by decide +kernel
theorem d_Text_look_1 : decode M_Text_look.2.1 1 = .ok (.aload_n 0, 1) := by decide +kernel
theorem d_Text_look_2 : decode M_Text_look.2.1 2 = .ok (.getfield 19, 3) := by decide +kernel
theorem d_Text_look_5 : decode M_Text_look.2.1 5 = .ok (.aload_n 0, 1) := by decide +kernel
theorem d_Text_look_6 : decode M_Text_look.2.1 6 = .ok (.getfield 39, 3) := by decide +kernel
theorem d_Text_look_9 : decode M_Text_look.2.1 9 = .ok (.iaload, 1) := by decide +kernel
theorem d_Text_look_10 : decode M_Text_look.2.1 10 = .ok (.putfield 42, 3) := by decide +kernel
theorem d_Text_look_13 : decode M_Text_look.2.1 13 = .ok (.aload_n 0, 1) := by decide +kernel
theorem d_Text_look_14 : decode M_Text_look.2.1 14 = .ok (.aload_n 0, 1) := by decide +kernel
theorem d_Text_look_15 : decode M_Text_look.2.1 15 = .ok (.getfield 42, 3) := by decide +kernel
theorem d_Text_look_18 : decode M_Text_look.2.1 18 = .ok (.iconst 4, 1) := by decide +kernel
theorem d_Text_look_19 : decode M_Text_look.2.1 19 = .ok (.if_icmp .eq 11, 3) := by decide +kernel
theorem d_Text_look_22 : decode M_Text_look.2.1 22 = .ok (.aload_n 0, 1) := by decide +kernel
theorem d_Text_look_23 : decode M_Text_look.2.1 23 = .ok (.getfield 42, 3) := by decide +kernel
theorem d_Text_look_26 : decode M_Text_look.2.1 26 = .ok (.iconst 5, 1) := by decide +kernel
theorem d_Text_look_27 : decode M_Text_look.2.1 27 = .ok (.if_icmp .ne 16, 3) := by decide +kernel
theorem d_Text_look_30 : decode M_Text_look.2.1 30 = .ok (.aload_n 0, 1) := by decide +kernel
theorem d_Text_look_31 : decode M_Text_look.2.1 31 = .ok (.getfield 26, 3) := by decide +kernel
theorem d_Text_look_34 : decode M_Text_look.2.1 34 = .ok (.aload_n 0, 1) := by decide +kernel
theorem d_Text_look_35 : decode M_Text_look.2.1 35 = .ok (.getfield 39, 3) := by decide +kernel
theorem d_Text_look_38 : decode M_Text_look.2.1 38 = .ok (.laload, 1) := by decide +kernel
theorem d_Text_look_39 : decode M_Text_look.2.1 39 = .ok (.l2i, 1) := by decide +kernel
theorem d_Text_look_40 : decode M_Text_look.2.1 40 = .ok (.goto 4, 3) := by decide +kernel
theorem d_Text_look_43 : decode M_Text_look.2.1 43 = .ok (.iconst 0, 1) := by decide +kernel
theorem d_Text_look_44 : decode M_Text_look.2.1 44 = .ok (.putfield 45, 3) := by decide +kernel
theorem d_Text_look_47 : decode M_Text_look.2.1 47 = .ok (.aload_n 0, 1) := by decide +kernel
theorem d_Text_look_48 : decode M_Text_look.2.1 48 = .ok (.aload_n 0, 1) := by decide +kernel
theorem d_Text_look_49 : decode M_Text_look.2.1 49 = .ok (.getfield 42, 3) := by decide +kernel
theorem d_Text_look_52 : decode M_Text_look.2.1 52 = .ok (.iconst 1, 1) := by decide +kernel
theorem d_Text_look_53 : decode M_Text_look.2.1 53 = .ok (.if_icmp .ne 16, 3) := by decide +kernel
theorem d_Text_look_56 : decode M_Text_look.2.1 56 = .ok (.aload_n 0, 1) := by decide +kernel
theorem d_Text_look_57 : decode M_Text_look.2.1 57 = .ok (.getfield 26, 3) := by decide +kernel
theorem d_Text_look_60 : decode M_Text_look.2.1 60 = .ok (.aload_n 0, 1) := by decide +kernel
theorem d_Text_look_61 : decode M_Text_look.2.1 61 = .ok (.getfield 39, 3) := by decide +kernel
theorem d_Text_look_64 : decode M_Text_look.2.1 64 = .ok (.laload, 1) := by decide +kernel
theorem d_Text_look_65 : decode M_Text_look.2.1 65 = .ok (.l2i, 1) := by decide +kernel
theorem d_Text_look_66 : decode M_Text_look.2.1 66 = .ok (.goto 4, 3) := by decide +kernel
theorem d_Text_look_69 : decode M_Text_look.2.1 69 = .ok (.iconst (-1), 1) := by decide +kernel
theorem d_Text_look_70 : decode M_Text_look.2.1 70 = .ok (.putfield 48, 3) := by decide +kernel
theorem d_Text_look_73 : decode M_Text_look.2.1 73 = .ok (.return_, 1) := by decide +kernel
theorem d_Text_next_0 : decode M_Text_next.2.1 0 = .ok (.aload_n 0, 1) := by decide +kernel
theorem d_Text_next_1 : decode M_Text_next.2.1 1 = .ok (.getfield 39, 3) := by decide +kernel
theorem d_Text_next_4 : decode M_Text_next.2.1 4 = .ok (.iconst 1, 1) := by decide +kernel
theorem d_Text_next_5 : decode M_Text_next.2.1 5 = .ok (.iadd, 1) := by decide +kernel
theorem d_Text_next_6 : decode M_Text_next.2.1 6 = .ok (.aload_n 0, 1) := by decide +kernel
theorem d_Text_next_7 : decode M_Text_next.2.1 7 = .ok (.getfield 36, 3) := by decide +kernel
theorem d_Text_next_10 : decode M_Text_next.2.1 10 = .ok (.if_icmp .ge 17, 3) := by decide +kernel
theorem d_Text_next_13 : decode M_Text_next.2.1 13 = .ok (.aload_n 0, 1) := by decide +kernel
theorem d_Text_next_14 : decode M_Text_next.2.1 14 = .ok (.dup, 1) := by decide +kernel
theorem d_Text_next_15 : decode M_Text_next.2.1 15 = .ok (.getfield 39, 3) := by decide +kernel
theorem d_Text_next_18 : decode M_Text_next.2.1 18 = .ok (.iconst 1, 1) := by decide +kernel
theorem d_Text_next_19 : decode M_Text_next.2.1 19 = .ok (.iadd, 1) := by decide +kernel
theorem d_Text_next_20 : decode M_Text_next.2.1 20 = .ok (.putfield 39, 3) := by decide +kernel
theorem d_Text_next_23 : decode M_Text_next.2.1 23 = .ok (.aload_n 0, 1) := by decide +kernel
theorem d_Text_next_24 : decode M_Text_next.2.1 24 = .ok (.invokevirtual 97, 3) := by decide +kernel
theorem d_Text_next_27 : decode M_Text_next.2.1 27 = .ok (.return_, 1) := by decide +kernel
theorem d_Text_atEnd_0 : decode M_Text_atEnd.2.1 0 = .ok (.aload_n 0, 1) := by decide +kernel
theorem d_Text_atEnd_1 : decode M_Text_atEnd.2.1 1 = .ok (.getfield 42, 3) := by decide +kernel
theorem d_Text_atEnd_4 : decode M_Text_atEnd.2.1 4 = .ok (.ifCond .ne 7, 3) := by decide +kernel
theorem d_Text_atEnd_7 : decode M_Text_atEnd.2.1 7 = .ok (.iconst 1, 1) := by decide +kernel
theorem d_Text_atEnd_8 : decode M_Text_atEnd.2.1 8 = .ok (.goto 4, 3) := by decide +kernel
theorem d_Text_atEnd_11 : decode M_Text_atEnd.2.1 11 = .ok (.iconst 0, 1) := by decide +kernel
theorem d_Text_atEnd_12 : decode M_Text_atEnd.2.1 12 = .ok (.ireturn, 1) := by decide +kernel
theorem d_Text_faultHere_0 : decode M_Text_faultHere.2.1 0 = .ok (.aload_n 0, 1) := by decide +kernel
theorem d_Text_faultHere_1 : decode M_Text_faultHere.2.1 1 = .ok (.iload_n 1, 1) := by decide +kernel
theorem d_Text_faultHere_2 : decode M_Text_faultHere.2.1 2 = .ok (.putfield 58, 3) := by decide +kernel
theorem d_Text_faultHere_5 : decode M_Text_faultHere.2.1 5 = .ok (.aload_n 0, 1) := by decide +kernel
theorem d_Text_faultHere_6 : decode M_Text_faultHere.2.1 6 = .ok (.aload_n 0, 1) := by decide +kernel
theorem d_Text_faultHere_7 : decode M_Text_faultHere.2.1 7 = .ok (.getfield 23, 3) := by decide +kernel
theorem d_Text_faultHere_10 : decode M_Text_faultHere.2.1 10 = .ok (.aload_n 0, 1) := by decide +kernel
theorem d_Text_faultHere_11 : decode M_Text_faultHere.2.1 11 = .ok (.getfield 39, 3) := by decide +kernel
theorem d_Text_faultHere_14 : decode M_Text_faultHere.2.1 14 = .ok (.iaload, 1) := by decide +kernel
theorem d_Text_faultHere_15 : decode M_Text_faultHere.2.1 15 = .ok (.putfield 61, 3) := by decide +kernel
theorem d_Text_faultHere_18 : decode M_Text_faultHere.2.1 18 = .ok (.iconst 0, 1) := by decide +kernel
theorem d_Text_faultHere_19 : decode M_Text_faultHere.2.1 19 = .ok (.ireturn, 1) := by decide +kernel
theorem d_Text_cannotStand_0 : decode M_Text_cannotStand.2.1 0 = .ok (.aload_n 0, 1) := by decide +kernel
theorem d_Text_cannotStand_1 : decode M_Text_cannotStand.2.1 1 = .ok (.aload_n 0, 1) := by decide +kernel
theorem d_Text_cannotStand_2 : decode M_Text_cannotStand.2.1 2 = .ok (.getfield 42, 3) := by decide +kernel
theorem d_Text_cannotStand_5 : decode M_Text_cannotStand.2.1 5 = .ok (.bipush 6, 2) := by decide +kernel
theorem d_Text_cannotStand_7 : decode M_Text_cannotStand.2.1 7 = .ok (.if_icmp .ne 7, 3) := by decide +kernel
theorem d_Text_cannotStand_10 : decode M_Text_cannotStand.2.1 10 = .ok (.iconst 1, 1) := by decide +kernel
theorem d_Text_cannotStand_11 : decode M_Text_cannotStand.2.1 11 = .ok (.goto 4, 3) := by decide +kernel
theorem d_Text_cannotStand_14 : decode M_Text_cannotStand.2.1 14 = .ok (.iconst 2, 1) := by decide +kernel
theorem d_Text_cannotStand_15 : decode M_Text_cannotStand.2.1 15 = .ok (.invokevirtual 121, 3) := by decide +kernel
theorem d_Text_cannotStand_18 : decode M_Text_cannotStand.2.1 18 = .ok (.ireturn, 1) := by decide +kernel
theorem d_Text_takeSign_0 : decode M_Text_takeSign.2.1 0 = .ok (.aload_n 0, 1) := by decide +kernel
theorem d_Text_takeSign_1 : decode M_Text_takeSign.2.1 1 = .ok (.getfield 42, 3) := by decide +kernel
theorem d_Text_takeSign_4 : decode M_Text_takeSign.2.1 4 = .ok (.iconst 5, 1) := by decide +kernel
theorem d_Text_takeSign_5 : decode M_Text_takeSign.2.1 5 = .ok (.if_icmp .ne 11, 3) := by decide +kernel
theorem d_Text_takeSign_8 : decode M_Text_takeSign.2.1 8 = .ok (.aload_n 0, 1) := by decide +kernel
theorem d_Text_takeSign_9 : decode M_Text_takeSign.2.1 9 = .ok (.getfield 45, 3) := by decide +kernel
theorem d_Text_takeSign_12 : decode M_Text_takeSign.2.1 12 = .ok (.iload_n 1, 1) := by decide +kernel
theorem d_Text_takeSign_13 : decode M_Text_takeSign.2.1 13 = .ok (.if_icmp .eq 8, 3) := by decide +kernel
theorem d_Text_takeSign_16 : decode M_Text_takeSign.2.1 16 = .ok (.aload_n 0, 1) := by decide +kernel
theorem d_Text_takeSign_17 : decode M_Text_takeSign.2.1 17 = .ok (.invokevirtual 124, 3) := by decide +kernel
theorem d_Text_takeSign_20 : decode M_Text_takeSign.2.1 20 = .ok (.ireturn, 1) := by decide +kernel
theorem d_Text_takeSign_21 : decode M_Text_takeSign.2.1 21 = .ok (.aload_n 0, 1) := by decide +kernel
theorem d_Text_takeSign_22 : decode M_Text_takeSign.2.1 22 = .ok (.invokevirtual 128, 3) := by decide +kernel
theorem d_Text_takeSign_25 : decode M_Text_takeSign.2.1 25 = .ok (.iconst 1, 1) := by decide +kernel
theorem d_Text_takeSign_26 : decode M_Text_takeSign.2.1 26 = .ok (.ireturn, 1) := by decide +kernel
theorem d_Text_takeNumber_0 : decode M_Text_takeNumber.2.1 0 = .ok (.aload_n 0, 1) := by decide +kernel
theorem d_Text_takeNumber_1 : decode M_Text_takeNumber.2.1 1 = .ok (.getfield 42, 3) := by decide +kernel
theorem d_Text_takeNumber_4 : decode M_Text_takeNumber.2.1 4 = .ok (.iconst 4, 1) := by decide +kernel
theorem d_Text_takeNumber_5 : decode M_Text_takeNumber.2.1 5 = .ok (.if_icmp .eq 8, 3) := by decide +kernel
theorem d_Text_takeNumber_8 : decode M_Text_takeNumber.2.1 8 = .ok (.aload_n 0, 1) := by decide +kernel
theorem d_Text_takeNumber_9 : decode M_Text_takeNumber.2.1 9 = .ok (.invokevirtual 124, 3) := by decide +kernel
theorem d_Text_takeNumber_12 : decode M_Text_takeNumber.2.1 12 = .ok (.ireturn, 1) := by decide +kernel
theorem d_Text_takeNumber_13 : decode M_Text_takeNumber.2.1 13 = .ok (.aload_n 0, 1) := by decide +kernel
theorem d_Text_takeNumber_14 : decode M_Text_takeNumber.2.1 14 = .ok (.getfield 45, 3) := by decide +kernel
theorem d_Text_takeNumber_17 : decode M_Text_takeNumber.2.1 17 = .ok (.iload_n 1, 1) := by decide +kernel
theorem d_Text_takeNumber_18 : decode M_Text_takeNumber.2.1 18 = .ok (.if_icmp .lt 11, 3) := by decide +kernel
theorem d_Text_takeNumber_21 : decode M_Text_takeNumber.2.1 21 = .ok (.aload_n 0, 1) := by decide +kernel
theorem d_Text_takeNumber_22 : decode M_Text_takeNumber.2.1 22 = .ok (.getfield 45, 3) := by decide +kernel
theorem d_Text_takeNumber_25 : decode M_Text_takeNumber.2.1 25 = .ok (.iload_n 2, 1) := by decide +kernel
theorem d_Text_takeNumber_26 : decode M_Text_takeNumber.2.1 26 = .ok (.if_icmp .le 9, 3) := by decide +kernel
theorem d_Text_takeNumber_29 : decode M_Text_takeNumber.2.1 29 = .ok (.aload_n 0, 1) := by decide +kernel
theorem d_Text_takeNumber_30 : decode M_Text_takeNumber.2.1 30 = .ok (.iconst 4, 1) := by decide +kernel
theorem d_Text_takeNumber_31 : decode M_Text_takeNumber.2.1 31 = .ok (.invokevirtual 121, 3) := by decide +kernel
theorem d_Text_takeNumber_34 : decode M_Text_takeNumber.2.1 34 = .ok (.ireturn, 1) := by decide +kernel
theorem d_Text_takeNumber_35 : decode M_Text_takeNumber.2.1 35 = .ok (.aload_n 0, 1) := by decide +kernel
theorem d_Text_takeNumber_36 : decode M_Text_takeNumber.2.1 36 = .ok (.aload_n 0, 1) := by decide +kernel
theorem d_Text_takeNumber_37 : decode M_Text_takeNumber.2.1 37 = .ok (.getfield 45, 3) := by decide +kernel
theorem d_Text_takeNumber_40 : decode M_Text_takeNumber.2.1 40 = .ok (.putfield 51, 3) := by decide +kernel
theorem d_Text_takeNumber_43 : decode M_Text_takeNumber.2.1 43 = .ok (.aload_n 0, 1) := by decide +kernel
theorem d_Text_takeNumber_44 : decode M_Text_takeNumber.2.1 44 = .ok (.invokevirtual 128, 3) := by decide +kernel
theorem d_Text_takeNumber_47 : decode M_Text_takeNumber.2.1 47 = .ok (.iconst 1, 1) := by decide +kernel
theorem d_Text_takeNumber_48 : decode M_Text_takeNumber.2.1 48 = .ok (.ireturn, 1) := by decide +kernel
theorem d_Text_nameHere_0 : decode M_Text_nameHere.2.1 0 = .ok (.aload_n 0, 1) := by decide +kernel
theorem d_Text_nameHere_1 : decode M_Text_nameHere.2.1 1 = .ok (.getfield 42, 3) := by decide +kernel
theorem d_Text_nameHere_4 : decode M_Text_nameHere.2.1 4 = .ok (.iconst 2, 1) := by decide +kernel
theorem d_Text_nameHere_5 : decode M_Text_nameHere.2.1 5 = .ok (.if_icmp .eq 8, 3) := by decide +kernel
theorem d_Text_nameHere_8 : decode M_Text_nameHere.2.1 8 = .ok (.aload_n 0, 1) := by decide +kernel
theorem d_Text_nameHere_9 : decode M_Text_nameHere.2.1 9 = .ok (.invokevirtual 124, 3) := by decide +kernel
theorem d_Text_nameHere_12 : decode M_Text_nameHere.2.1 12 = .ok (.ireturn, 1) := by decide +kernel
theorem d_Text_nameHere_13 : decode M_Text_nameHere.2.1 13 = .ok (.aload_n 0, 1) := by decide +kernel
theorem d_Text_nameHere_14 : decode M_Text_nameHere.2.1 14 = .ok (.aload_n 0, 1) := by decide +kernel
theorem d_Text_nameHere_15 : decode M_Text_nameHere.2.1 15 = .ok (.getfield 26, 3) := by decide +kernel
theorem d_Text_nameHere_18 : decode M_Text_nameHere.2.1 18 = .ok (.aload_n 0, 1) := by decide +kernel
theorem d_Text_nameHere_19 : decode M_Text_nameHere.2.1 19 = .ok (.getfield 39, 3) := by decide +kernel
theorem d_Text_nameHere_22 : decode M_Text_nameHere.2.1 22 = .ok (.laload, 1) := by decide +kernel
theorem d_Text_nameHere_23 : decode M_Text_nameHere.2.1 23 = .ok (.putfield 54, 3) := by decide +kernel
theorem d_Text_nameHere_26 : decode M_Text_nameHere.2.1 26 = .ok (.iconst 1, 1) := by decide +kernel
theorem d_Text_nameHere_27 : decode M_Text_nameHere.2.1 27 = .ok (.ireturn, 1) := by decide +kernel
theorem d_Town_init_0 : decode M_Town_init.2.1 0 = .ok (.aload_n 0, 1) := by decide +kernel
theorem d_Town_init_1 : decode M_Town_init.2.1 1 = .ok (.invokespecial 3, 3) := by decide +kernel
theorem d_Town_init_4 : decode M_Town_init.2.1 4 = .ok (.aload_n 0, 1) := by decide +kernel
theorem d_Town_init_5 : decode M_Town_init.2.1 5 = .ok (.bipush 7, 2) := by decide +kernel
theorem d_Town_init_7 : decode M_Town_init.2.1 7 = .ok (.newarray .long, 2) := by decide +kernel
theorem d_Town_init_9 : decode M_Town_init.2.1 9 = .ok (.putfield 9, 3) := by decide +kernel
theorem d_Town_init_12 : decode M_Town_init.2.1 12 = .ok (.aload_n 0, 1) := by decide +kernel
theorem d_Town_init_13 : decode M_Town_init.2.1 13 = .ok (.iconst 4, 1) := by decide +kernel
theorem d_Town_init_14 : decode M_Town_init.2.1 14 = .ok (.newarray .long, 2) := by decide +kernel
theorem d_Town_init_16 : decode M_Town_init.2.1 16 = .ok (.putfield 15, 3) := by decide +kernel
theorem d_Town_init_19 : decode M_Town_init.2.1 19 = .ok (.aload_n 0, 1) := by decide +kernel
theorem d_Town_init_20 : decode M_Town_init.2.1 20 = .ok (.iconst 4, 1) := by decide +kernel
theorem d_Town_init_21 : decode M_Town_init.2.1 21 = .ok (.newarray .int, 2) := by decide +kernel
theorem d_Town_init_23 : decode M_Town_init.2.1 23 = .ok (.putfield 18, 3) := by decide +kernel
theorem d_Town_init_26 : decode M_Town_init.2.1 26 = .ok (.aload_n 0, 1) := by decide +kernel
theorem d_Town_init_27 : decode M_Town_init.2.1 27 = .ok (.bipush 12, 2) := by decide +kernel
theorem d_Town_init_29 : decode M_Town_init.2.1 29 = .ok (.newarray .int, 2) := by decide +kernel
theorem d_Town_init_31 : decode M_Town_init.2.1 31 = .ok (.putfield 22, 3) := by decide +kernel
theorem d_Town_init_34 : decode M_Town_init.2.1 34 = .ok (.aload_n 0, 1) := by decide +kernel
theorem d_Town_init_35 : decode M_Town_init.2.1 35 = .ok (.bipush 12, 2) := by decide +kernel
theorem d_Town_init_37 : decode M_Town_init.2.1 37 = .ok (.newarray .int, 2) := by decide +kernel
theorem d_Town_init_39 : decode M_Town_init.2.1 39 = .ok (.putfield 25, 3) := by decide +kernel
theorem d_Town_init_42 : decode M_Town_init.2.1 42 = .ok (.aload_n 0, 1) := by decide +kernel
theorem d_Town_init_43 : decode M_Town_init.2.1 43 = .ok (.bipush 12, 2) := by decide +kernel
theorem d_Town_init_45 : decode M_Town_init.2.1 45 = .ok (.newarray .int, 2) := by decide +kernel
theorem d_Town_init_47 : decode M_Town_init.2.1 47 = .ok (.putfield 28, 3) := by decide +kernel
theorem d_Town_init_50 : decode M_Town_init.2.1 50 = .ok (.aload_n 0, 1) := by decide +kernel
theorem d_Town_init_51 : decode M_Town_init.2.1 51 = .ok (.bipush 12, 2) := by decide +kernel
theorem d_Town_init_53 : decode M_Town_init.2.1 53 = .ok (.newarray .int, 2) := by decide +kernel
theorem d_Town_init_55 : decode M_Town_init.2.1 55 = .ok (.putfield 31, 3) := by decide +kernel
theorem d_Town_init_58 : decode M_Town_init.2.1 58 = .ok (.aload_n 0, 1) := by decide +kernel
theorem d_Town_init_59 : decode M_Town_init.2.1 59 = .ok (.bipush 12, 2) := by decide +kernel
theorem d_Town_init_61 : decode M_Town_init.2.1 61 = .ok (.newarray .int, 2) := by decide +kernel
theorem d_Town_init_63 : decode M_Town_init.2.1 63 = .ok (.putfield 34, 3) := by decide +kernel
theorem d_Town_init_66 : decode M_Town_init.2.1 66 = .ok (.aload_n 0, 1) := by decide +kernel
theorem d_Town_init_67 : decode M_Town_init.2.1 67 = .ok (.iconst 0, 1) := by decide +kernel
theorem d_Town_init_68 : decode M_Town_init.2.1 68 = .ok (.putfield 37, 3) := by decide +kernel
theorem d_Town_init_71 : decode M_Town_init.2.1 71 = .ok (.aload_n 0, 1) := by decide +kernel
theorem d_Town_init_72 : decode M_Town_init.2.1 72 = .ok (.iconst 0, 1) := by decide +kernel
theorem d_Town_init_73 : decode M_Town_init.2.1 73 = .ok (.putfield 41, 3) := by decide +kernel
theorem d_Town_init_76 : decode M_Town_init.2.1 76 = .ok (.aload_n 0, 1) := by decide +kernel
theorem d_Town_init_77 : decode M_Town_init.2.1 77 = .ok (.iconst 0, 1) := by decide +kernel
theorem d_Town_init_78 : decode M_Town_init.2.1 78 = .ok (.putfield 44, 3) := by decide +kernel
theorem d_Town_init_81 : decode M_Town_init.2.1 81 = .ok (.aload_n 0, 1) := by decide +kernel
theorem d_Town_init_82 : decode M_Town_init.2.1 82 = .ok (.iconst 2, 1) := by decide +kernel
theorem d_Town_init_83 : decode M_Town_init.2.1 83 = .ok (.putfield 47, 3) := by decide +kernel
theorem d_Town_init_86 : decode M_Town_init.2.1 86 = .ok (.aload_n 0, 1) := by decide +kernel
theorem d_Town_init_87 : decode M_Town_init.2.1 87 = .ok (.iconst 0, 1) := by decide +kernel
theorem d_Town_init_88 : decode M_Town_init.2.1 88 = .ok (.putfield 50, 3) := by decide +kernel
theorem d_Town_init_91 : decode M_Town_init.2.1 91 = .ok (.aload_n 0, 1) := by decide +kernel
theorem d_Town_init_92 : decode M_Town_init.2.1 92 = .ok (.iconst (-1), 1) := by decide +kernel
theorem d_Town_init_93 : decode M_Town_init.2.1 93 = .ok (.putfield 53, 3) := by decide +kernel
theorem d_Town_init_96 : decode M_Town_init.2.1 96 = .ok (.aload_n 0, 1) := by decide +kernel
theorem d_Town_init_97 : decode M_Town_init.2.1 97 = .ok (.iconst 0, 1) := by decide +kernel
theorem d_Town_init_98 : decode M_Town_init.2.1 98 = .ok (.putfield 56, 3) := by decide +kernel
theorem d_Town_init_101 : decode M_Town_init.2.1 101 = .ok (.return_, 1) := by decide +kernel
theorem d_Town_clear_0 : decode M_Town_clear.2.1 0 = .ok (.aload_n 0, 1) := by decide +kernel
theorem d_Town_clear_1 : decode M_Town_clear.2.1 1 = .ok (.iconst 0, 1) := by decide +kernel
theorem d_Town_clear_2 : decode M_Town_clear.2.1 2 = .ok (.putfield 37, 3) := by decide +kernel
theorem d_Town_clear_5 : decode M_Town_clear.2.1 5 = .ok (.aload_n 0, 1) := by decide +kernel
theorem d_Town_clear_6 : decode M_Town_clear.2.1 6 = .ok (.iconst 0, 1) := by decide +kernel
theorem d_Town_clear_7 : decode M_Town_clear.2.1 7 = .ok (.putfield 41, 3) := by decide +kernel
theorem d_Town_clear_10 : decode M_Town_clear.2.1 10 = .ok (.aload_n 0, 1) := by decide +kernel
theorem d_Town_clear_11 : decode M_Town_clear.2.1 11 = .ok (.iconst 0, 1) := by decide +kernel
theorem d_Town_clear_12 : decode M_Town_clear.2.1 12 = .ok (.putfield 44, 3) := by decide +kernel
theorem d_Town_clear_15 : decode M_Town_clear.2.1 15 = .ok (.aload_n 0, 1) := by decide +kernel
theorem d_Town_clear_16 : decode M_Town_clear.2.1 16 = .ok (.iconst 2, 1) := by decide +kernel
theorem d_Town_clear_17 : decode M_Town_clear.2.1 17 = .ok (.putfield 47, 3) := by decide +kernel
theorem d_Town_clear_20 : decode M_Town_clear.2.1 20 = .ok (.aload_n 0, 1) := by decide +kernel
theorem d_Town_clear_21 : decode M_Town_clear.2.1 21 = .ok (.iconst 0, 1) := by decide +kernel
theorem d_Town_clear_22 : decode M_Town_clear.2.1 22 = .ok (.putfield 50, 3) := by decide +kernel
theorem d_Town_clear_25 : decode M_Town_clear.2.1 25 = .ok (.aload_n 0, 1) := by decide +kernel
theorem d_Town_clear_26 : decode M_Town_clear.2.1 26 = .ok (.iconst (-1), 1) := by decide +kernel
theorem d_Town_clear_27 : decode M_Town_clear.2.1 27 = .ok (.putfield 53, 3) := by decide +kernel
theorem d_Town_clear_30 : decode M_Town_clear.2.1 30 = .ok (.aload_n 0, 1) := by decide +kernel
theorem d_Town_clear_31 : decode M_Town_clear.2.1 31 = .ok (.iconst 0, 1) := by decide +kernel
theorem d_Town_clear_32 : decode M_Town_clear.2.1 32 = .ok (.putfield 56, 3) := by decide +kernel
theorem d_Town_clear_35 : decode M_Town_clear.2.1 35 = .ok (.return_, 1) := by decide +kernel
theorem d_Town_copyFrom_0 : decode M_Town_copyFrom.2.1 0 = .ok (.aload_n 1, 1) := by decide +kernel
theorem d_Town_copyFrom_1 : decode M_Town_copyFrom.2.1 1 = .ok (.getfield 9, 3) := by decide +kernel
theorem d_Town_copyFrom_4 : decode M_Town_copyFrom.2.1 4 = .ok (.iconst 0, 1) := by decide +kernel
theorem d_Town_copyFrom_5 : decode M_Town_copyFrom.2.1 5 = .ok (.aload_n 0, 1) := by decide +kernel
theorem d_Town_copyFrom_6 : decode M_Town_copyFrom.2.1 6 = .ok (.getfield 9, 3) := by decide +kernel
theorem d_Town_copyFrom_9 : decode M_Town_copyFrom.2.1 9 = .ok (.iconst 0, 1) := by decide +kernel
theorem d_Town_copyFrom_10 : decode M_Town_copyFrom.2.1 10 = .ok (.bipush 7, 2) := by decide +kernel
theorem d_Town_copyFrom_12 : decode M_Town_copyFrom.2.1 12 = .ok (.invokestatic 59, 3) := by decide +kernel
theorem d_Town_copyFrom_15 : decode M_Town_copyFrom.2.1 15 = .ok (.aload_n 1, 1) := by decide +kernel
theorem d_Town_copyFrom_16 : decode M_Town_copyFrom.2.1 16 = .ok (.getfield 15, 3) := by decide +kernel
theorem d_Town_copyFrom_19 : decode M_Town_copyFrom.2.1 19 = .ok (.iconst 0, 1) := by decide +kernel
theorem d_Town_copyFrom_20 : decode M_Town_copyFrom.2.1 20 = .ok (.aload_n 0, 1) := by decide +kernel
theorem d_Town_copyFrom_21 : decode M_Town_copyFrom.2.1 21 = .ok (.getfield 15, 3) := by decide +kernel
theorem d_Town_copyFrom_24 : decode M_Town_copyFrom.2.1 24 = .ok (.iconst 0, 1) := by decide +kernel
theorem d_Town_copyFrom_25 : decode M_Town_copyFrom.2.1 25 = .ok (.iconst 4, 1) := by decide +kernel
theorem d_Town_copyFrom_26 : decode M_Town_copyFrom.2.1 26 = .ok (.invokestatic 59, 3) := by decide +kernel
theorem d_Town_copyFrom_29 : decode M_Town_copyFrom.2.1 29 = .ok (.aload_n 1, 1) := by decide +kernel
theorem d_Town_copyFrom_30 : decode M_Town_copyFrom.2.1 30 = .ok (.getfield 18, 3) := by decide +kernel
theorem d_Town_copyFrom_33 : decode M_Town_copyFrom.2.1 33 = .ok (.iconst 0, 1) := by decide +kernel
theorem d_Town_copyFrom_34 : decode M_Town_copyFrom.2.1 34 = .ok (.aload_n 0, 1) := by decide +kernel
theorem d_Town_copyFrom_35 : decode M_Town_copyFrom.2.1 35 = .ok (.getfield 18, 3) := by decide +kernel
theorem d_Town_copyFrom_38 : decode M_Town_copyFrom.2.1 38 = .ok (.iconst 0, 1) := by decide +kernel
theorem d_Town_copyFrom_39 : decode M_Town_copyFrom.2.1 39 = .ok (.iconst 4, 1) := by decide +kernel
theorem d_Town_copyFrom_40 : decode M_Town_copyFrom.2.1 40 = .ok (.invokestatic 59, 3) := by decide +kernel
theorem d_Town_copyFrom_43 : decode M_Town_copyFrom.2.1 43 = .ok (.aload_n 1, 1) := by decide +kernel
theorem d_Town_copyFrom_44 : decode M_Town_copyFrom.2.1 44 = .ok (.getfield 22, 3) := by decide +kernel
theorem d_Town_copyFrom_47 : decode M_Town_copyFrom.2.1 47 = .ok (.iconst 0, 1) := by decide +kernel
theorem d_Town_copyFrom_48 : decode M_Town_copyFrom.2.1 48 = .ok (.aload_n 0, 1) := by decide +kernel
theorem d_Town_copyFrom_49 : decode M_Town_copyFrom.2.1 49 = .ok (.getfield 22, 3) := by decide +kernel
theorem d_Town_copyFrom_52 : decode M_Town_copyFrom.2.1 52 = .ok (.iconst 0, 1) := by decide +kernel
theorem d_Town_copyFrom_53 : decode M_Town_copyFrom.2.1 53 = .ok (.bipush 12, 2) := by decide +kernel
theorem d_Town_copyFrom_55 : decode M_Town_copyFrom.2.1 55 = .ok (.invokestatic 59, 3) := by decide +kernel
theorem d_Town_copyFrom_58 : decode M_Town_copyFrom.2.1 58 = .ok (.aload_n 1, 1) := by decide +kernel
theorem d_Town_copyFrom_59 : decode M_Town_copyFrom.2.1 59 = .ok (.getfield 25, 3) := by decide +kernel
theorem d_Town_copyFrom_62 : decode M_Town_copyFrom.2.1 62 = .ok (.iconst 0, 1) := by decide +kernel
theorem d_Town_copyFrom_63 : decode M_Town_copyFrom.2.1 63 = .ok (.aload_n 0, 1) := by decide +kernel
theorem d_Town_copyFrom_64 : decode M_Town_copyFrom.2.1 64 = .ok (.getfield 25, 3) := by decide +kernel
theorem d_Town_copyFrom_67 : decode M_Town_copyFrom.2.1 67 = .ok (.iconst 0, 1) := by decide +kernel
theorem d_Town_copyFrom_68 : decode M_Town_copyFrom.2.1 68 = .ok (.bipush 12, 2) := by decide +kernel
theorem d_Town_copyFrom_70 : decode M_Town_copyFrom.2.1 70 = .ok (.invokestatic 59, 3) := by decide +kernel
theorem d_Town_copyFrom_73 : decode M_Town_copyFrom.2.1 73 = .ok (.aload_n 1, 1) := by decide +kernel
theorem d_Town_copyFrom_74 : decode M_Town_copyFrom.2.1 74 = .ok (.getfield 28, 3) := by decide +kernel
theorem d_Town_copyFrom_77 : decode M_Town_copyFrom.2.1 77 = .ok (.iconst 0, 1) := by decide +kernel
theorem d_Town_copyFrom_78 : decode M_Town_copyFrom.2.1 78 = .ok (.aload_n 0, 1) := by decide +kernel
theorem d_Town_copyFrom_79 : decode M_Town_copyFrom.2.1 79 = .ok (.getfield 28, 3) := by decide +kernel
theorem d_Town_copyFrom_82 : decode M_Town_copyFrom.2.1 82 = .ok (.iconst 0, 1) := by decide +kernel
theorem d_Town_copyFrom_83 : decode M_Town_copyFrom.2.1 83 = .ok (.bipush 12, 2) := by decide +kernel
theorem d_Town_copyFrom_85 : decode M_Town_copyFrom.2.1 85 = .ok (.invokestatic 59, 3) := by decide +kernel
theorem d_Town_copyFrom_88 : decode M_Town_copyFrom.2.1 88 = .ok (.aload_n 1, 1) := by decide +kernel
theorem d_Town_copyFrom_89 : decode M_Town_copyFrom.2.1 89 = .ok (.getfield 31, 3) := by decide +kernel
theorem d_Town_copyFrom_92 : decode M_Town_copyFrom.2.1 92 = .ok (.iconst 0, 1) := by decide +kernel
theorem d_Town_copyFrom_93 : decode M_Town_copyFrom.2.1 93 = .ok (.aload_n 0, 1) := by decide +kernel
theorem d_Town_copyFrom_94 : decode M_Town_copyFrom.2.1 94 = .ok (.getfield 31, 3) := by decide +kernel
theorem d_Town_copyFrom_97 : decode M_Town_copyFrom.2.1 97 = .ok (.iconst 0, 1) := by decide +kernel
theorem d_Town_copyFrom_98 : decode M_Town_copyFrom.2.1 98 = .ok (.bipush 12, 2) := by decide +kernel
theorem d_Town_copyFrom_100 : decode M_Town_copyFrom.2.1 100 = .ok (.invokestatic 59, 3) := by decide +kernel
theorem d_Town_copyFrom_103 : decode M_Town_copyFrom.2.1 103 = .ok (.aload_n 1, 1) := by decide +kernel
theorem d_Town_copyFrom_104 : decode M_Town_copyFrom.2.1 104 = .ok (.getfield 34, 3) := by decide +kernel
theorem d_Town_copyFrom_107 : decode M_Town_copyFrom.2.1 107 = .ok (.iconst 0, 1) := by decide +kernel
theorem d_Town_copyFrom_108 : decode M_Town_copyFrom.2.1 108 = .ok (.aload_n 0, 1) := by decide +kernel
theorem d_Town_copyFrom_109 : decode M_Town_copyFrom.2.1 109 = .ok (.getfield 34, 3) := by decide +kernel
theorem d_Town_copyFrom_112 : decode M_Town_copyFrom.2.1 112 = .ok (.iconst 0, 1) := by decide +kernel
theorem d_Town_copyFrom_113 : decode M_Town_copyFrom.2.1 113 = .ok (.bipush 12, 2) := by decide +kernel
theorem d_Town_copyFrom_115 : decode M_Town_copyFrom.2.1 115 = .ok (.invokestatic 59, 3) := by decide +kernel
theorem d_Town_copyFrom_118 : decode M_Town_copyFrom.2.1 118 = .ok (.aload_n 0, 1) := by decide +kernel
theorem d_Town_copyFrom_119 : decode M_Town_copyFrom.2.1 119 = .ok (.aload_n 1, 1) := by decide +kernel
theorem d_Town_copyFrom_120 : decode M_Town_copyFrom.2.1 120 = .ok (.getfield 37, 3) := by decide +kernel
theorem d_Town_copyFrom_123 : decode M_Town_copyFrom.2.1 123 = .ok (.putfield 37, 3) := by decide +kernel
theorem d_Town_copyFrom_126 : decode M_Town_copyFrom.2.1 126 = .ok (.aload_n 0, 1) := by decide +kernel
theorem d_Town_copyFrom_127 : decode M_Town_copyFrom.2.1 127 = .ok (.aload_n 1, 1) := by decide +kernel
theorem d_Town_copyFrom_128 : decode M_Town_copyFrom.2.1 128 = .ok (.getfield 41, 3) := by decide +kernel
theorem d_Town_copyFrom_131 : decode M_Town_copyFrom.2.1 131 = .ok (.putfield 41, 3) := by decide +kernel
theorem d_Town_copyFrom_134 : decode M_Town_copyFrom.2.1 134 = .ok (.aload_n 0, 1) := by decide +kernel
theorem d_Town_copyFrom_135 : decode M_Town_copyFrom.2.1 135 = .ok (.aload_n 1, 1) := by decide +kernel
theorem d_Town_copyFrom_136 : decode M_Town_copyFrom.2.1 136 = .ok (.getfield 44, 3) := by decide +kernel
theorem d_Town_copyFrom_139 : decode M_Town_copyFrom.2.1 139 = .ok (.putfield 44, 3) := by decide +kernel
theorem d_Town_copyFrom_142 : decode M_Town_copyFrom.2.1 142 = .ok (.aload_n 0, 1) := by decide +kernel
theorem d_Town_copyFrom_143 : decode M_Town_copyFrom.2.1 143 = .ok (.aload_n 1, 1) := by decide +kernel
theorem d_Town_copyFrom_144 : decode M_Town_copyFrom.2.1 144 = .ok (.getfield 47, 3) := by decide +kernel
theorem d_Town_copyFrom_147 : decode M_Town_copyFrom.2.1 147 = .ok (.putfield 47, 3) := by decide +kernel
theorem d_Town_copyFrom_150 : decode M_Town_copyFrom.2.1 150 = .ok (.aload_n 0, 1) := by decide +kernel
theorem d_Town_copyFrom_151 : decode M_Town_copyFrom.2.1 151 = .ok (.aload_n 1, 1) := by decide +kernel
theorem d_Town_copyFrom_152 : decode M_Town_copyFrom.2.1 152 = .ok (.getfield 50, 3) := by decide +kernel
theorem d_Town_copyFrom_155 : decode M_Town_copyFrom.2.1 155 = .ok (.putfield 50, 3) := by decide +kernel
theorem d_Town_copyFrom_158 : decode M_Town_copyFrom.2.1 158 = .ok (.aload_n 0, 1) := by decide +kernel
theorem d_Town_copyFrom_159 : decode M_Town_copyFrom.2.1 159 = .ok (.aload_n 1, 1) := by decide +kernel
theorem d_Town_copyFrom_160 : decode M_Town_copyFrom.2.1 160 = .ok (.getfield 53, 3) := by decide +kernel
theorem d_Town_copyFrom_163 : decode M_Town_copyFrom.2.1 163 = .ok (.putfield 53, 3) := by decide +kernel
theorem d_Town_copyFrom_166 : decode M_Town_copyFrom.2.1 166 = .ok (.aload_n 0, 1) := by decide +kernel
theorem d_Town_copyFrom_167 : decode M_Town_copyFrom.2.1 167 = .ok (.aload_n 1, 1) := by decide +kernel
theorem d_Town_copyFrom_168 : decode M_Town_copyFrom.2.1 168 = .ok (.getfield 56, 3) := by decide +kernel
theorem d_Town_copyFrom_171 : decode M_Town_copyFrom.2.1 171 = .ok (.putfield 56, 3) := by decide +kernel
theorem d_Town_copyFrom_174 : decode M_Town_copyFrom.2.1 174 = .ok (.return_, 1) := by decide +kernel
theorem d_Town_addPlace_0 : decode M_Town_addPlace.2.1 0 = .ok (.aload_n 0, 1) := by decide +kernel
theorem d_Town_addPlace_1 : decode M_Town_addPlace.2.1 1 = .ok (.getfield 37, 3) := by decide +kernel
theorem d_Town_addPlace_4 : decode M_Town_addPlace.2.1 4 = .ok (.bipush 7, 2) := by decide +kernel
theorem d_Town_addPlace_6 : decode M_Town_addPlace.2.1 6 = .ok (.if_icmp .lt 5, 3) := by decide +kernel
theorem d_Town_addPlace_9 : decode M_Town_addPlace.2.1 9 = .ok (.iconst (-1), 1) := by decide +kernel
theorem d_Town_addPlace_10 : decode M_Town_addPlace.2.1 10 = .ok (.ireturn, 1) := by decide +kernel
theorem d_Town_addPlace_11 : decode M_Town_addPlace.2.1 11 = .ok (.aload_n 0, 1) := by decide +kernel
theorem d_Town_addPlace_12 : decode M_Town_addPlace.2.1 12 = .ok (.getfield 9, 3) := by decide +kernel
theorem d_Town_addPlace_15 : decode M_Town_addPlace.2.1 15 = .ok (.aload_n 0, 1) := by decide +kernel
theorem d_Town_addPlace_16 : decode M_Town_addPlace.2.1 16 = .ok (.getfield 37, 3) := by decide +kernel
theorem d_Town_addPlace_19 : decode M_Town_addPlace.2.1 19 = .ok (.lload_n 1, 1) := by decide +kernel
theorem d_Town_addPlace_20 : decode M_Town_addPlace.2.1 20 = .ok (.lastore, 1) := by decide +kernel
theorem d_Town_addPlace_21 : decode M_Town_addPlace.2.1 21 = .ok (.aload_n 0, 1) := by decide +kernel
theorem d_Town_addPlace_22 : decode M_Town_addPlace.2.1 22 = .ok (.getfield 37, 3) := by decide +kernel
theorem d_Town_addPlace_25 : decode M_Town_addPlace.2.1 25 = .ok (.ifCond .ne 8, 3) := by decide +kernel
theorem d_Town_addPlace_28 : decode M_Town_addPlace.2.1 28 = .ok (.aload_n 0, 1) := by decide +kernel
theorem d_Town_addPlace_29 : decode M_Town_addPlace.2.1 29 = .ok (.iconst 0, 1) := by decide +kernel
theorem d_Town_addPlace_30 : decode M_Town_addPlace.2.1 30 = .ok (.putfield 53, 3) := by decide +kernel
theorem d_Town_addPlace_33 : decode M_Town_addPlace.2.1 33 = .ok (.aload_n 0, 1) := by decide +kernel
theorem d_Town_addPlace_34 : decode M_Town_addPlace.2.1 34 = .ok (.dup, 1) := by decide +kernel
theorem d_Town_addPlace_35 : decode M_Town_addPlace.2.1 35 = .ok (.getfield 37, 3) := by decide +kernel
theorem d_Town_addPlace_38 : decode M_Town_addPlace.2.1 38 = .ok (.iconst 1, 1) := by decide +kernel
theorem d_Town_addPlace_39 : decode M_Town_addPlace.2.1 39 = .ok (.iadd, 1) := by decide +kernel
theorem d_Town_addPlace_40 : decode M_Town_addPlace.2.1 40 = .ok (.putfield 37, 3) := by decide +kernel
theorem d_Town_addPlace_43 : decode M_Town_addPlace.2.1 43 = .ok (.aload_n 0, 1) := by decide +kernel
theorem d_Town_addPlace_44 : decode M_Town_addPlace.2.1 44 = .ok (.getfield 37, 3) := by decide +kernel
theorem d_Town_addPlace_47 : decode M_Town_addPlace.2.1 47 = .ok (.iconst 1, 1) := by decide +kernel
theorem d_Town_addPlace_48 : decode M_Town_addPlace.2.1 48 = .ok (.isub, 1) := by decide +kernel
theorem d_Town_addPlace_49 : decode M_Town_addPlace.2.1 49 = .ok (.ireturn, 1) := by decide +kernel
theorem d_Town_addWalker_0 : decode M_Town_addWalker.2.1 0 = .ok (.aload_n 0, 1) := by decide +kernel
theorem d_Town_addWalker_1 : decode M_Town_addWalker.2.1 1 = .ok (.getfield 41, 3) := by decide +kernel
theorem d_Town_addWalker_4 : decode M_Town_addWalker.2.1 4 = .ok (.iconst 4, 1) := by decide +kernel
theorem d_Town_addWalker_5 : decode M_Town_addWalker.2.1 5 = .ok (.if_icmp .lt 5, 3) := by decide +kernel
theorem d_Town_addWalker_8 : decode M_Town_addWalker.2.1 8 = .ok (.iconst (-1), 1) := by decide +kernel
theorem d_Town_addWalker_9 : decode M_Town_addWalker.2.1 9 = .ok (.ireturn, 1) := by decide +kernel
theorem d_Town_addWalker_10 : decode M_Town_addWalker.2.1 10 = .ok (.aload_n 0, 1) := by decide +kernel
theorem d_Town_addWalker_11 : decode M_Town_addWalker.2.1 11 = .ok (.getfield 15, 3) := by decide +kernel
theorem d_Town_addWalker_14 : decode M_Town_addWalker.2.1 14 = .ok (.aload_n 0, 1) := by decide +kernel
theorem d_Town_addWalker_15 : decode M_Town_addWalker.2.1 15 = .ok (.getfield 41, 3) := by decide +kernel
theorem d_Town_addWalker_18 : decode M_Town_addWalker.2.1 18 = .ok (.lload_n 1, 1) := by decide +kernel
theorem d_Town_addWalker_19 : decode M_Town_addWalker.2.1 19 = .ok (.lastore, 1) := by decide +kernel
theorem d_Town_addWalker_20 : decode M_Town_addWalker.2.1 20 = .ok (.aload_n 0, 1) := by decide +kernel
theorem d_Town_addWalker_21 : decode M_Town_addWalker.2.1 21 = .ok (.getfield 18, 3) := by decide +kernel
theorem d_Town_addWalker_24 : decode M_Town_addWalker.2.1 24 = .ok (.aload_n 0, 1) := by decide +kernel
theorem d_Town_addWalker_25 : decode M_Town_addWalker.2.1 25 = .ok (.getfield 41, 3) := by decide +kernel
theorem d_Town_addWalker_28 : decode M_Town_addWalker.2.1 28 = .ok (.iload_n 3, 1) := by decide +kernel
theorem d_Town_addWalker_29 : decode M_Town_addWalker.2.1 29 = .ok (.iastore, 1) := by decide +kernel
theorem d_Town_addWalker_30 : decode M_Town_addWalker.2.1 30 = .ok (.aload_n 0, 1) := by decide +kernel
theorem d_Town_addWalker_31 : decode M_Town_addWalker.2.1 31 = .ok (.dup, 1) := by decide +kernel
theorem d_Town_addWalker_32 : decode M_Town_addWalker.2.1 32 = .ok (.getfield 41, 3) := by decide +kernel
theorem d_Town_addWalker_35 : decode M_Town_addWalker.2.1 35 = .ok (.iconst 1, 1) := by decide +kernel
theorem d_Town_addWalker_36 : decode M_Town_addWalker.2.1 36 = .ok (.iadd, 1) := by decide +kernel
theorem d_Town_addWalker_37 : decode M_Town_addWalker.2.1 37 = .ok (.putfield 41, 3) := by decide +kernel
theorem d_Town_addWalker_40 : decode M_Town_addWalker.2.1 40 = .ok (.aload_n 0, 1) := by decide +kernel
theorem d_Town_addWalker_41 : decode M_Town_addWalker.2.1 41 = .ok (.getfield 41, 3) := by decide +kernel
theorem d_Town_addWalker_44 : decode M_Town_addWalker.2.1 44 = .ok (.iconst 1, 1) := by decide +kernel
theorem d_Town_addWalker_45 : decode M_Town_addWalker.2.1 45 = .ok (.isub, 1) := by decide +kernel
theorem d_Town_addWalker_46 : decode M_Town_addWalker.2.1 46 = .ok (.ireturn, 1) := by decide +kernel
theorem d_Town_addLeg_0 : decode M_Town_addLeg.2.1 0 = .ok (.aload_n 0, 1) := by decide +kernel
theorem d_Town_addLeg_1 : decode M_Town_addLeg.2.1 1 = .ok (.getfield 44, 3) := by decide +kernel
theorem d_Town_addLeg_4 : decode M_Town_addLeg.2.1 4 = .ok (.bipush 12, 2) := by decide +kernel
theorem d_Town_addLeg_6 : decode M_Town_addLeg.2.1 6 = .ok (.if_icmp .lt 5, 3) := by decide +kernel
theorem d_Town_addLeg_9 : decode M_Town_addLeg.2.1 9 = .ok (.iconst (-1), 1) := by decide +kernel
theorem d_Town_addLeg_10 : decode M_Town_addLeg.2.1 10 = .ok (.ireturn, 1) := by decide +kernel
theorem d_Town_addLeg_11 : decode M_Town_addLeg.2.1 11 = .ok (.aload_n 0, 1) := by decide +kernel
theorem d_Town_addLeg_12 : decode M_Town_addLeg.2.1 12 = .ok (.getfield 22, 3) := by decide +kernel
theorem d_Town_addLeg_15 : decode M_Town_addLeg.2.1 15 = .ok (.aload_n 0, 1) := by decide +kernel
theorem d_Town_addLeg_16 : decode M_Town_addLeg.2.1 16 = .ok (.getfield 44, 3) := by decide +kernel
theorem d_Town_addLeg_19 : decode M_Town_addLeg.2.1 19 = .ok (.iload_n 1, 1) := by decide +kernel
theorem d_Town_addLeg_20 : decode M_Town_addLeg.2.1 20 = .ok (.iastore, 1) := by decide +kernel
theorem d_Town_addLeg_21 : decode M_Town_addLeg.2.1 21 = .ok (.aload_n 0, 1) := by decide +kernel
theorem d_Town_addLeg_22 : decode M_Town_addLeg.2.1 22 = .ok (.getfield 25, 3) := by decide +kernel
theorem d_Town_addLeg_25 : decode M_Town_addLeg.2.1 25 = .ok (.aload_n 0, 1) := by decide +kernel
theorem d_Town_addLeg_26 : decode M_Town_addLeg.2.1 26 = .ok (.getfield 44, 3) := by decide +kernel
theorem d_Town_addLeg_29 : decode M_Town_addLeg.2.1 29 = .ok (.iload_n 2, 1) := by decide +kernel
theorem d_Town_addLeg_30 : decode M_Town_addLeg.2.1 30 = .ok (.iastore, 1) := by decide +kernel
theorem d_Town_addLeg_31 : decode M_Town_addLeg.2.1 31 = .ok (.aload_n 0, 1) := by decide +kernel
theorem d_Town_addLeg_32 : decode M_Town_addLeg.2.1 32 = .ok (.getfield 28, 3) := by decide +kernel
theorem d_Town_addLeg_35 : decode M_Town_addLeg.2.1 35 = .ok (.aload_n 0, 1) := by decide +kernel
theorem d_Town_addLeg_36 : decode M_Town_addLeg.2.1 36 = .ok (.getfield 44, 3) := by decide +kernel
theorem d_Town_addLeg_39 : decode M_Town_addLeg.2.1 39 = .ok (.iload_n 3, 1) := by decide +kernel
theorem d_Town_addLeg_40 : decode M_Town_addLeg.2.1 40 = .ok (.iastore, 1) := by decide +kernel
theorem d_Town_addLeg_41 : decode M_Town_addLeg.2.1 41 = .ok (.aload_n 0, 1) := by decide +kernel
theorem d_Town_addLeg_42 : decode M_Town_addLeg.2.1 42 = .ok (.getfield 31, 3) := by decide +kernel
theorem d_Town_addLeg_45 : decode M_Town_addLeg.2.1 45 = .ok (.aload_n 0, 1) := by decide +kernel
theorem d_Town_addLeg_46 : decode M_Town_addLeg.2.1 46 = .ok (.getfield 44, 3) := by decide +kernel
theorem d_Town_addLeg_49 : decode M_Town_addLeg.2.1 49 = .ok (.iconst 0, 1) := by decide +kernel
theorem d_Town_addLeg_50 : decode M_Town_addLeg.2.1 50 = .ok (.iastore, 1) := by decide +kernel
theorem d_Town_addLeg_51 : decode M_Town_addLeg.2.1 51 = .ok (.aload_n 0, 1) := by decide +kernel
theorem d_Town_addLeg_52 : decode M_Town_addLeg.2.1 52 = .ok (.getfield 34, 3) := by decide +kernel
theorem d_Town_addLeg_55 : decode M_Town_addLeg.2.1 55 = .ok (.aload_n 0, 1) := by decide +kernel
theorem d_Town_addLeg_56 : decode M_Town_addLeg.2.1 56 = .ok (.getfield 44, 3) := by decide +kernel
theorem d_Town_addLeg_59 : decode M_Town_addLeg.2.1 59 = .ok (.iconst 0, 1) := by decide +kernel
theorem d_Town_addLeg_60 : decode M_Town_addLeg.2.1 60 = .ok (.iastore, 1) := by decide +kernel
theorem d_Town_addLeg_61 : decode M_Town_addLeg.2.1 61 = .ok (.aload_n 0, 1) := by decide +kernel
theorem d_Town_addLeg_62 : decode M_Town_addLeg.2.1 62 = .ok (.dup, 1) := by decide +kernel
theorem d_Town_addLeg_63 : decode M_Town_addLeg.2.1 63 = .ok (.getfield 44, 3) := by decide +kernel
theorem d_Town_addLeg_66 : decode M_Town_addLeg.2.1 66 = .ok (.iconst 1, 1) := by decide +kernel
theorem d_Town_addLeg_67 : decode M_Town_addLeg.2.1 67 = .ok (.iadd, 1) := by decide +kernel
theorem d_Town_addLeg_68 : decode M_Town_addLeg.2.1 68 = .ok (.putfield 44, 3) := by decide +kernel
theorem d_Town_addLeg_71 : decode M_Town_addLeg.2.1 71 = .ok (.aload_n 0, 1) := by decide +kernel
theorem d_Town_addLeg_72 : decode M_Town_addLeg.2.1 72 = .ok (.getfield 44, 3) := by decide +kernel
theorem d_Town_addLeg_75 : decode M_Town_addLeg.2.1 75 = .ok (.iconst 1, 1) := by decide +kernel
theorem d_Town_addLeg_76 : decode M_Town_addLeg.2.1 76 = .ok (.isub, 1) := by decide +kernel
theorem d_Town_addLeg_77 : decode M_Town_addLeg.2.1 77 = .ok (.ireturn, 1) := by decide +kernel
theorem d_Town_placeNamed_0 : decode M_Town_placeNamed.2.1 0 = .ok (.iconst 0, 1) := by decide +kernel
theorem d_Town_placeNamed_1 : decode M_Town_placeNamed.2.1 1 = .ok (.istore_n 3, 1) := by decide +kernel
theorem d_Town_placeNamed_2 : decode M_Town_placeNamed.2.1 2 = .ok (.iload_n 3, 1) := by decide +kernel
theorem d_Town_placeNamed_3 : decode M_Town_placeNamed.2.1 3 = .ok (.aload_n 0, 1) := by decide +kernel
theorem d_Town_placeNamed_4 : decode M_Town_placeNamed.2.1 4 = .ok (.getfield 37, 3) := by decide +kernel
theorem d_Town_placeNamed_7 : decode M_Town_placeNamed.2.1 7 = .ok (.if_icmp .ge 22, 3) := by decide +kernel
theorem d_Town_placeNamed_10 : decode M_Town_placeNamed.2.1 10 = .ok (.aload_n 0, 1) := by decide +kernel
theorem d_Town_placeNamed_11 : decode M_Town_placeNamed.2.1 11 = .ok (.getfield 9, 3) := by decide +kernel
theorem d_Town_placeNamed_14 : decode M_Town_placeNamed.2.1 14 = .ok (.iload_n 3, 1) := by decide +kernel
theorem d_Town_placeNamed_15 : decode M_Town_placeNamed.2.1 15 = .ok (.laload, 1) := by decide +kernel
theorem d_Town_placeNamed_16 : decode M_Town_placeNamed.2.1 16 = .ok (.lload_n 1, 1) := by decide +kernel
theorem d_Town_placeNamed_17 : decode M_Town_placeNamed.2.1 17 = .ok (.lcmp, 1) := by decide +kernel
theorem d_Town_placeNamed_18 : decode M_Town_placeNamed.2.1 18 = .ok (.ifCond .ne 5, 3) := by decide +kernel
theorem d_Town_placeNamed_21 : decode M_Town_placeNamed.2.1 21 = .ok (.iload_n 3, 1) := by decide +kernel
theorem d_Town_placeNamed_22 : decode M_Town_placeNamed.2.1 22 = .ok (.ireturn, 1) := by decide +kernel
theorem d_Town_placeNamed_23 : decode M_Town_placeNamed.2.1 23 = .ok (.iinc 3 1, 3) := by decide +kernel
theorem d_Town_placeNamed_26 : decode M_Town_placeNamed.2.1 26 = .ok (.goto (-24), 3) := by decide +kernel
theorem d_Town_placeNamed_29 : decode M_Town_placeNamed.2.1 29 = .ok (.iconst (-1), 1) := by decide +kernel
theorem d_Town_placeNamed_30 : decode M_Town_placeNamed.2.1 30 = .ok (.ireturn, 1) := by decide +kernel
theorem d_Town_walkerNamed_0 : decode M_Town_walkerNamed.2.1 0 = .ok (.iconst 0, 1) := by decide +kernel
theorem d_Town_walkerNamed_1 : decode M_Town_walkerNamed.2.1 1 = .ok (.istore_n 3, 1) := by decide +kernel
theorem d_Town_walkerNamed_2 : decode M_Town_walkerNamed.2.1 2 = .ok (.iload_n 3, 1) := by decide +kernel
theorem d_Town_walkerNamed_3 : decode M_Town_walkerNamed.2.1 3 = .ok (.aload_n 0, 1) := by decide +kernel
theorem d_Town_walkerNamed_4 : decode M_Town_walkerNamed.2.1 4 = .ok (.getfield 41, 3) := by decide +kernel
theorem d_Town_walkerNamed_7 : decode M_Town_walkerNamed.2.1 7 = .ok (.if_icmp .ge 22, 3) := by decide +kernel
theorem d_Town_walkerNamed_10 : decode M_Town_walkerNamed.2.1 10 = .ok (.aload_n 0, 1) := by decide +kernel
theorem d_Town_walkerNamed_11 : decode M_Town_walkerNamed.2.1 11 = .ok (.getfield 15, 3) := by decide +kernel
theorem d_Town_walkerNamed_14 : decode M_Town_walkerNamed.2.1 14 = .ok (.iload_n 3, 1) := by decide +kernel
theorem d_Town_walkerNamed_15 : decode M_Town_walkerNamed.2.1 15 = .ok (.laload, 1) := by decide +kernel
theorem d_Town_walkerNamed_16 : decode M_Town_walkerNamed.2.1 16 = .ok (.lload_n 1, 1) := by decide +kernel
theorem d_Town_walkerNamed_17 : decode M_Town_walkerNamed.2.1 17 = .ok (.lcmp, 1) := by decide +kernel
theorem d_Town_walkerNamed_18 : decode M_Town_walkerNamed.2.1 18 = .ok (.ifCond .ne 5, 3) := by decide +kernel
theorem d_Town_walkerNamed_21 : decode M_Town_walkerNamed.2.1 21 = .ok (.iload_n 3, 1) := by decide +kernel
theorem d_Town_walkerNamed_22 : decode M_Town_walkerNamed.2.1 22 = .ok (.ireturn, 1) := by decide +kernel
theorem d_Town_walkerNamed_23 : decode M_Town_walkerNamed.2.1 23 = .ok (.iinc 3 1, 3) := by decide +kernel
theorem d_Town_walkerNamed_26 : decode M_Town_walkerNamed.2.1 26 = .ok (.goto (-24), 3) := by decide +kernel
theorem d_Town_walkerNamed_29 : decode M_Town_walkerNamed.2.1 29 = .ok (.iconst (-1), 1) := by decide +kernel
theorem d_Town_walkerNamed_30 : decode M_Town_walkerNamed.2.1 30 = .ok (.ireturn, 1) := by decide +kernel
theorem d_Town_legsThere_0 : decode M_Town_legsThere.2.1 0 = .ok (.iconst 1, 1) := by decide +kernel
theorem d_Town_legsThere_1 : decode M_Town_legsThere.2.1 1 = .ok (.aload_n 0, 1) := by decide +kernel
theorem d_Town_legsThere_2 : decode M_Town_legsThere.2.1 2 = .ok (.getfield 44, 3) := by decide +kernel
theorem d_Town_legsThere_5 : decode M_Town_legsThere.2.1 5 = .ok (.ishl, 1) := by decide +kernel
theorem d_Town_legsThere_6 : decode M_Town_legsThere.2.1 6 = .ok (.iconst 1, 1) := by decide +kernel
theorem d_Town_legsThere_7 : decode M_Town_legsThere.2.1 7 = .ok (.isub, 1) := by decide +kernel
theorem d_Town_legsThere_8 : decode M_Town_legsThere.2.1 8 = .ok (.aload_n 0, 1) := by decide +kernel
theorem d_Town_legsThere_9 : decode M_Town_legsThere.2.1 9 = .ok (.getfield 50, 3) := by decide +kernel
theorem d_Town_legsThere_12 : decode M_Town_legsThere.2.1 12 = .ok (.iconst (-1), 1) := by decide +kernel
theorem d_Town_legsThere_13 : decode M_Town_legsThere.2.1 13 = .ok (.ixor, 1) := by decide +kernel
theorem d_Town_legsThere_14 : decode M_Town_legsThere.2.1 14 = .ok (.iand, 1) := by decide +kernel
theorem d_Town_legsThere_15 : decode M_Town_legsThere.2.1 15 = .ok (.ireturn, 1) := by decide +kernel
theorem d_Town_legsToldBy_0 : decode M_Town_legsToldBy.2.1 0 = .ok (.iconst 0, 1) := by decide +kernel
theorem d_Town_legsToldBy_1 : decode M_Town_legsToldBy.2.1 1 = .ok (.istore_n 2, 1) := by decide +kernel
theorem d_Town_legsToldBy_2 : decode M_Town_legsToldBy.2.1 2 = .ok (.iconst 0, 1) := by decide +kernel
theorem d_Town_legsToldBy_3 : decode M_Town_legsToldBy.2.1 3 = .ok (.istore_n 3, 1) := by decide +kernel
theorem d_Town_legsToldBy_4 : decode M_Town_legsToldBy.2.1 4 = .ok (.iload_n 3, 1) := by decide +kernel
theorem d_Town_legsToldBy_5 : decode M_Town_legsToldBy.2.1 5 = .ok (.aload_n 0, 1) := by decide +kernel
theorem d_Town_legsToldBy_6 : decode M_Town_legsToldBy.2.1 6 = .ok (.getfield 44, 3) := by decide +kernel
theorem d_Town_legsToldBy_9 : decode M_Town_legsToldBy.2.1 9 = .ok (.if_icmp .ge 25, 3) := by decide +kernel
theorem d_Town_legsToldBy_12 : decode M_Town_legsToldBy.2.1 12 = .ok (.aload_n 0, 1) := by decide +kernel
theorem d_Town_legsToldBy_13 : decode M_Town_legsToldBy.2.1 13 = .ok (.getfield 22, 3) := by decide +kernel
theorem d_Town_legsToldBy_16 : decode M_Town_legsToldBy.2.1 16 = .ok (.iload_n 3, 1) := by decide +kernel
theorem d_Town_legsToldBy_17 : decode M_Town_legsToldBy.2.1 17 = .ok (.iaload, 1) := by decide +kernel
theorem d_Town_legsToldBy_18 : decode M_Town_legsToldBy.2.1 18 = .ok (.iload_n 1, 1) := by decide +kernel
theorem d_Town_legsToldBy_19 : decode M_Town_legsToldBy.2.1 19 = .ok (.if_icmp .ne 9, 3) := by decide +kernel
theorem d_Town_legsToldBy_22 : decode M_Town_legsToldBy.2.1 22 = .ok (.iload_n 2, 1) := by decide +kernel
theorem d_Town_legsToldBy_23 : decode M_Town_legsToldBy.2.1 23 = .ok (.iconst 1, 1) := by decide +kernel
theorem d_Town_legsToldBy_24 : decode M_Town_legsToldBy.2.1 24 = .ok (.iload_n 3, 1) := by decide +kernel
theorem d_Town_legsToldBy_25 : decode M_Town_legsToldBy.2.1 25 = .ok (.ishl, 1) := by decide +kernel
theorem d_Town_legsToldBy_26 : decode M_Town_legsToldBy.2.1 26 = .ok (.ior, 1) := by decide +kernel
theorem d_Town_legsToldBy_27 : decode M_Town_legsToldBy.2.1 27 = .ok (.istore_n 2, 1) := by decide +kernel
theorem d_Town_legsToldBy_28 : decode M_Town_legsToldBy.2.1 28 = .ok (.iinc 3 1, 3) := by decide +kernel
theorem d_Town_legsToldBy_31 : decode M_Town_legsToldBy.2.1 31 = .ok (.goto (-27), 3) := by decide +kernel
theorem d_Town_legsToldBy_34 : decode M_Town_legsToldBy.2.1 34 = .ok (.iload_n 2, 1) := by decide +kernel
theorem d_Town_legsToldBy_35 : decode M_Town_legsToldBy.2.1 35 = .ok (.ireturn, 1) := by decide +kernel
theorem d_Town_faultOf_0 : decode M_Town_faultOf.2.1 0 = .ok (.iload_n 0, 1) := by decide +kernel
theorem d_Town_faultOf_1 : decode M_Town_faultOf.2.1 1 = .ok (.iload_n 1, 1) := by decide +kernel
theorem d_Town_faultOf_2 : decode M_Town_faultOf.2.1 2 = .ok (.ifCond .eq 7, 3) := by decide +kernel
theorem d_Town_faultOf_5 : decode M_Town_faultOf.2.1 5 = .ok (.iconst 4, 1) := by decide +kernel
theorem d_Town_faultOf_6 : decode M_Town_faultOf.2.1 6 = .ok (.goto 4, 3) := by decide +kernel
theorem d_Town_faultOf_9 : decode M_Town_faultOf.2.1 9 = .ok (.iconst 0, 1) := by decide +kernel
theorem d_Town_faultOf_10 : decode M_Town_faultOf.2.1 10 = .ok (.iadd, 1) := by decide +kernel
theorem d_Town_faultOf_11 : decode M_Town_faultOf.2.1 11 = .ok (.bipush 8, 2) := by decide +kernel
theorem d_Town_faultOf_13 : decode M_Town_faultOf.2.1 13 = .ok (.iload_n 2, 1) := by decide +kernel
theorem d_Town_faultOf_14 : decode M_Town_faultOf.2.1 14 = .ok (.iconst 1, 1) := by decide +kernel
theorem d_Town_faultOf_15 : decode M_Town_faultOf.2.1 15 = .ok (.isub, 1) := by decide +kernel
theorem d_Town_faultOf_16 : decode M_Town_faultOf.2.1 16 = .ok (.imul, 1) := by decide +kernel
theorem d_Town_faultOf_17 : decode M_Town_faultOf.2.1 17 = .ok (.iadd, 1) := by decide +kernel
theorem d_Town_faultOf_18 : decode M_Town_faultOf.2.1 18 = .ok (.ireturn, 1) := by decide +kernel
theorem d_Town_turnedBy_0 : decode M_Town_turnedBy.2.1 0 = .ok (.iload_n 0, 1) := by decide +kernel
theorem d_Town_turnedBy_1 : decode M_Town_turnedBy.2.1 1 = .ok (.iconst 4, 1) := by decide +kernel
theorem d_Town_turnedBy_2 : decode M_Town_turnedBy.2.1 2 = .ok (.irem, 1) := by decide +kernel
theorem d_Town_turnedBy_3 : decode M_Town_turnedBy.2.1 3 = .ok (.ireturn, 1) := by decide +kernel
theorem d_Town_isLeft_0 : decode M_Town_isLeft.2.1 0 = .ok (.iload_n 0, 1) := by decide +kernel
theorem d_Town_isLeft_1 : decode M_Town_isLeft.2.1 1 = .ok (.iconst 4, 1) := by decide +kernel
theorem d_Town_isLeft_2 : decode M_Town_isLeft.2.1 2 = .ok (.idiv, 1) := by decide +kernel
theorem d_Town_isLeft_3 : decode M_Town_isLeft.2.1 3 = .ok (.iconst 2, 1) := by decide +kernel
theorem d_Town_isLeft_4 : decode M_Town_isLeft.2.1 4 = .ok (.irem, 1) := by decide +kernel
theorem d_Town_isLeft_5 : decode M_Town_isLeft.2.1 5 = .ok (.iconst 1, 1) := by decide +kernel
theorem d_Town_isLeft_6 : decode M_Town_isLeft.2.1 6 = .ok (.if_icmp .ne 7, 3) := by decide +kernel
theorem d_Town_isLeft_9 : decode M_Town_isLeft.2.1 9 = .ok (.iconst 1, 1) := by decide +kernel
theorem d_Town_isLeft_10 : decode M_Town_isLeft.2.1 10 = .ok (.goto 4, 3) := by decide +kernel
theorem d_Town_isLeft_13 : decode M_Town_isLeft.2.1 13 = .ok (.iconst 0, 1) := by decide +kernel
theorem d_Town_isLeft_14 : decode M_Town_isLeft.2.1 14 = .ok (.ireturn, 1) := by decide +kernel
theorem d_Town_strideBy_0 : decode M_Town_strideBy.2.1 0 = .ok (.iconst 1, 1) := by decide +kernel
theorem d_Town_strideBy_1 : decode M_Town_strideBy.2.1 1 = .ok (.iload_n 0, 1) := by decide +kernel
theorem d_Town_strideBy_2 : decode M_Town_strideBy.2.1 2 = .ok (.bipush 8, 2) := by decide +kernel
theorem d_Town_strideBy_4 : decode M_Town_strideBy.2.1 4 = .ok (.idiv, 1) := by decide +kernel
theorem d_Town_strideBy_5 : decode M_Town_strideBy.2.1 5 = .ok (.iadd, 1) := by decide +kernel
theorem d_Town_strideBy_6 : decode M_Town_strideBy.2.1 6 = .ok (.ireturn, 1) := by decide +kernel
theorem d_Town_rightEast_0 : decode M_Town_rightEast.2.1 0 = .ok (.iload_n 2, 1) := by decide +kernel
theorem d_Town_rightEast_1 : decode M_Town_rightEast.2.1 1 = .ok (.invokestatic 65, 3) := by decide +kernel
theorem d_Town_rightEast_4 : decode M_Town_rightEast.2.1 4 = .ok (.ifCond .eq 13, 3) := by decide +kernel
theorem d_Town_rightEast_7 : decode M_Town_rightEast.2.1 7 = .ok (.aload_n 0, 1) := by decide +kernel
theorem d_Town_rightEast_8 : decode M_Town_rightEast.2.1 8 = .ok (.getfield 31, 3) := by decide +kernel
theorem d_Town_rightEast_11 : decode M_Town_rightEast.2.1 11 = .ok (.iload_n 1, 1) := by decide +kernel
theorem d_Town_rightEast_12 : decode M_Town_rightEast.2.1 12 = .ok (.iaload, 1) := by decide +kernel
theorem d_Town_rightEast_13 : decode M_Town_rightEast.2.1 13 = .ok (.ineg, 1) := by decide +kernel
theorem d_Town_rightEast_14 : decode M_Town_rightEast.2.1 14 = .ok (.goto 9, 3) := by decide +kernel
theorem d_Town_rightEast_17 : decode M_Town_rightEast.2.1 17 = .ok (.aload_n 0, 1) := by decide +kernel
theorem d_Town_rightEast_18 : decode M_Town_rightEast.2.1 18 = .ok (.getfield 31, 3) := by decide +kernel
theorem d_Town_rightEast_21 : decode M_Town_rightEast.2.1 21 = .ok (.iload_n 1, 1) := by decide +kernel
theorem d_Town_rightEast_22 : decode M_Town_rightEast.2.1 22 = .ok (.iaload, 1) := by decide +kernel
theorem d_Town_rightEast_23 : decode M_Town_rightEast.2.1 23 = .ok (.istore_n 3, 1) := by decide +kernel
theorem d_Town_rightEast_24 : decode M_Town_rightEast.2.1 24 = .ok (.iload_n 2, 1) := by decide +kernel
theorem d_Town_rightEast_25 : decode M_Town_rightEast.2.1 25 = .ok (.invokestatic 69, 3) := by decide +kernel
theorem d_Town_rightEast_28 : decode M_Town_rightEast.2.1 28 = .ok (.istore 4, 2) := by decide +kernel
theorem d_Town_rightEast_30 : decode M_Town_rightEast.2.1 30 = .ok (.iload_n 2, 1) := by decide +kernel
theorem d_Town_rightEast_31 : decode M_Town_rightEast.2.1 31 = .ok (.invokestatic 73, 3) := by decide +kernel
theorem d_Town_rightEast_34 : decode M_Town_rightEast.2.1 34 = .ok (.tableswitch 47 0 2 #[26, 31, 41], 26) := by decide +kernel
theorem d_Town_rightEast_60 : decode M_Town_rightEast.2.1 60 = .ok (.iload 4, 2) := by decide +kernel
theorem d_Town_rightEast_62 : decode M_Town_rightEast.2.1 62 = .ok (.iload_n 3, 1) := by decide +kernel
theorem d_Town_rightEast_63 : decode M_Town_rightEast.2.1 63 = .ok (.imul, 1) := by decide +kernel
theorem d_Town_rightEast_64 : decode M_Town_rightEast.2.1 64 = .ok (.ireturn, 1) := by decide +kernel
theorem d_Town_rightEast_65 : decode M_Town_rightEast.2.1 65 = .ok (.iload 4, 2) := by decide +kernel
theorem d_Town_rightEast_67 : decode M_Town_rightEast.2.1 67 = .ok (.aload_n 0, 1) := by decide +kernel
theorem d_Town_rightEast_68 : decode M_Town_rightEast.2.1 68 = .ok (.getfield 34, 3) := by decide +kernel
theorem d_Town_rightEast_71 : decode M_Town_rightEast.2.1 71 = .ok (.iload_n 1, 1) := by decide +kernel
theorem d_Town_rightEast_72 : decode M_Town_rightEast.2.1 72 = .ok (.iaload, 1) := by decide +kernel
theorem d_Town_rightEast_73 : decode M_Town_rightEast.2.1 73 = .ok (.imul, 1) := by decide +kernel
theorem d_Town_rightEast_74 : decode M_Town_rightEast.2.1 74 = .ok (.ireturn, 1) := by decide +kernel
theorem d_Town_rightEast_75 : decode M_Town_rightEast.2.1 75 = .ok (.iload 4, 2) := by decide +kernel
theorem d_Town_rightEast_77 : decode M_Town_rightEast.2.1 77 = .ok (.iload_n 3, 1) := by decide +kernel
theorem d_Town_rightEast_78 : decode M_Town_rightEast.2.1 78 = .ok (.ineg, 1) := by decide +kernel
theorem d_Town_rightEast_79 : decode M_Town_rightEast.2.1 79 = .ok (.imul, 1) := by decide +kernel
theorem d_Town_rightEast_80 : decode M_Town_rightEast.2.1 80 = .ok (.ireturn, 1) := by decide +kernel
theorem d_Town_rightEast_81 : decode M_Town_rightEast.2.1 81 = .ok (.iload 4, 2) := by decide +kernel
theorem d_Town_rightEast_83 : decode M_Town_rightEast.2.1 83 = .ok (.aload_n 0, 1) := by decide +kernel
theorem d_Town_rightEast_84 : decode M_Town_rightEast.2.1 84 = .ok (.getfield 34, 3) := by decide +kernel
theorem d_Town_rightEast_87 : decode M_Town_rightEast.2.1 87 = .ok (.iload_n 1, 1) := by decide +kernel
theorem d_Town_rightEast_88 : decode M_Town_rightEast.2.1 88 = .ok (.iaload, 1) := by decide +kernel
theorem d_Town_rightEast_89 : decode M_Town_rightEast.2.1 89 = .ok (.ineg, 1) := by decide +kernel
theorem d_Town_rightEast_90 : decode M_Town_rightEast.2.1 90 = .ok (.imul, 1) := by decide +kernel
theorem d_Town_rightEast_91 : decode M_Town_rightEast.2.1 91 = .ok (.ireturn, 1) := by decide +kernel
theorem d_Town_rightNorth_0 : decode M_Town_rightNorth.2.1 0 = .ok (.iload_n 2, 1) := by decide +kernel
theorem d_Town_rightNorth_1 : decode M_Town_rightNorth.2.1 1 = .ok (.invokestatic 65, 3) := by decide +kernel
theorem d_Town_rightNorth_4 : decode M_Town_rightNorth.2.1 4 = .ok (.ifCond .eq 13, 3) := by decide +kernel
theorem d_Town_rightNorth_7 : decode M_Town_rightNorth.2.1 7 = .ok (.aload_n 0, 1) := by decide +kernel
theorem d_Town_rightNorth_8 : decode M_Town_rightNorth.2.1 8 = .ok (.getfield 31, 3) := by decide +kernel
theorem d_Town_rightNorth_11 : decode M_Town_rightNorth.2.1 11 = .ok (.iload_n 1, 1) := by decide +kernel
theorem d_Town_rightNorth_12 : decode M_Town_rightNorth.2.1 12 = .ok (.iaload, 1) := by decide +kernel
theorem d_Town_rightNorth_13 : decode M_Town_rightNorth.2.1 13 = .ok (.ineg, 1) := by decide +kernel
theorem d_Town_rightNorth_14 : decode M_Town_rightNorth.2.1 14 = .ok (.goto 9, 3) := by decide +kernel
theorem d_Town_rightNorth_17 : decode M_Town_rightNorth.2.1 17 = .ok (.aload_n 0, 1) := by decide +kernel
theorem d_Town_rightNorth_18 : decode M_Town_rightNorth.2.1 18 = .ok (.getfield 31, 3) := by decide +kernel
theorem d_Town_rightNorth_21 : decode M_Town_rightNorth.2.1 21 = .ok (.iload_n 1, 1) := by decide +kernel
theorem d_Town_rightNorth_22 : decode M_Town_rightNorth.2.1 22 = .ok (.iaload, 1) := by decide +kernel
theorem d_Town_rightNorth_23 : decode M_Town_rightNorth.2.1 23 = .ok (.istore_n 3, 1) := by decide +kernel
theorem d_Town_rightNorth_24 : decode M_Town_rightNorth.2.1 24 = .ok (.iload_n 2, 1) := by decide +kernel
theorem d_Town_rightNorth_25 : decode M_Town_rightNorth.2.1 25 = .ok (.invokestatic 69, 3) := by decide +kernel
theorem d_Town_rightNorth_28 : decode M_Town_rightNorth.2.1 28 = .ok (.istore 4, 2) := by decide +kernel
theorem d_Town_rightNorth_30 : decode M_Town_rightNorth.2.1 30 = .ok (.iload_n 2, 1) := by decide +kernel
