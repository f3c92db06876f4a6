theorem d_Town_rightNorth_31 : decode M_Town_rightNorth.2.1 31 = .ok (.invokestatic 73, 3) := by decide +kernel
theorem d_Town_rightNorth_34 : decode M_Town_rightNorth.2.1 34 = .ok (.tableswitch 53 0 2 #[26, 36, 42], 26) := by decide +kernel
theorem d_Town_rightNorth_60 : decode M_Town_rightNorth.2.1 60 = .ok (.iload 4, 2) := by decide +kernel
theorem d_Town_rightNorth_62 : decode M_Town_rightNorth.2.1 62 = .ok (.aload_n 0, 1) := by decide +kernel
theorem d_Town_rightNorth_63 : decode M_Town_rightNorth.2.1 63 = .ok (.getfield 34, 3) := by decide +kernel
theorem d_Town_rightNorth_66 : decode M_Town_rightNorth.2.1 66 = .ok (.iload_n 1, 1) := by decide +kernel
theorem d_Town_rightNorth_67 : decode M_Town_rightNorth.2.1 67 = .ok (.iaload, 1) := by decide +kernel
theorem d_Town_rightNorth_68 : decode M_Town_rightNorth.2.1 68 = .ok (.imul, 1) := by decide +kernel
theorem d_Town_rightNorth_69 : decode M_Town_rightNorth.2.1 69 = .ok (.ireturn, 1) := by decide +kernel
theorem d_Town_rightNorth_70 : decode M_Town_rightNorth.2.1 70 = .ok (.iload 4, 2) := by decide +kernel
theorem d_Town_rightNorth_72 : decode M_Town_rightNorth.2.1 72 = .ok (.iload_n 3, 1) := by decide +kernel
theorem d_Town_rightNorth_73 : decode M_Town_rightNorth.2.1 73 = .ok (.ineg, 1) := by decide +kernel
theorem d_Town_rightNorth_74 : decode M_Town_rightNorth.2.1 74 = .ok (.imul, 1) := by decide +kernel
theorem d_Town_rightNorth_75 : decode M_Town_rightNorth.2.1 75 = .ok (.ireturn, 1) := by decide +kernel
theorem d_Town_rightNorth_76 : decode M_Town_rightNorth.2.1 76 = .ok (.iload 4, 2) := by decide +kernel
theorem d_Town_rightNorth_78 : decode M_Town_rightNorth.2.1 78 = .ok (.aload_n 0, 1) := by decide +kernel
theorem d_Town_rightNorth_79 : decode M_Town_rightNorth.2.1 79 = .ok (.getfield 34, 3) := by decide +kernel
theorem d_Town_rightNorth_82 : decode M_Town_rightNorth.2.1 82 = .ok (.iload_n 1, 1) := by decide +kernel
theorem d_Town_rightNorth_83 : decode M_Town_rightNorth.2.1 83 = .ok (.iaload, 1) := by decide +kernel
theorem d_Town_rightNorth_84 : decode M_Town_rightNorth.2.1 84 = .ok (.ineg, 1) := by decide +kernel
theorem d_Town_rightNorth_85 : decode M_Town_rightNorth.2.1 85 = .ok (.imul, 1) := by decide +kernel
theorem d_Town_rightNorth_86 : decode M_Town_rightNorth.2.1 86 = .ok (.ireturn, 1) := by decide +kernel
theorem d_Town_rightNorth_87 : decode M_Town_rightNorth.2.1 87 = .ok (.iload 4, 2) := by decide +kernel
theorem d_Town_rightNorth_89 : decode M_Town_rightNorth.2.1 89 = .ok (.iload_n 3, 1) := by decide +kernel
theorem d_Town_rightNorth_90 : decode M_Town_rightNorth.2.1 90 = .ok (.imul, 1) := by decide +kernel
theorem d_Town_rightNorth_91 : decode M_Town_rightNorth.2.1 91 = .ok (.ireturn, 1) := by decide +kernel
theorem d_Town_yardsEast_0 : decode M_Town_yardsEast.2.1 0 = .ok (.aload_n 0, 1) := by decide +kernel
theorem d_Town_yardsEast_1 : decode M_Town_yardsEast.2.1 1 = .ok (.iload_n 1, 1) := by decide +kernel
theorem d_Town_yardsEast_2 : decode M_Town_yardsEast.2.1 2 = .ok (.aload_n 0, 1) := by decide +kernel
theorem d_Town_yardsEast_3 : decode M_Town_yardsEast.2.1 3 = .ok (.getfield 18, 3) := by decide +kernel
theorem d_Town_yardsEast_6 : decode M_Town_yardsEast.2.1 6 = .ok (.aload_n 0, 1) := by decide +kernel
theorem d_Town_yardsEast_7 : decode M_Town_yardsEast.2.1 7 = .ok (.getfield 22, 3) := by decide +kernel
theorem d_Town_yardsEast_10 : decode M_Town_yardsEast.2.1 10 = .ok (.iload_n 1, 1) := by decide +kernel
theorem d_Town_yardsEast_11 : decode M_Town_yardsEast.2.1 11 = .ok (.iaload, 1) := by decide +kernel
theorem d_Town_yardsEast_12 : decode M_Town_yardsEast.2.1 12 = .ok (.iaload, 1) := by decide +kernel
theorem d_Town_yardsEast_13 : decode M_Town_yardsEast.2.1 13 = .ok (.invokevirtual 76, 3) := by decide +kernel
theorem d_Town_yardsEast_16 : decode M_Town_yardsEast.2.1 16 = .ok (.ireturn, 1) := by decide +kernel
theorem d_Town_yardsNorth_0 : decode M_Town_yardsNorth.2.1 0 = .ok (.aload_n 0, 1) := by decide +kernel
theorem d_Town_yardsNorth_1 : decode M_Town_yardsNorth.2.1 1 = .ok (.iload_n 1, 1) := by decide +kernel
theorem d_Town_yardsNorth_2 : decode M_Town_yardsNorth.2.1 2 = .ok (.aload_n 0, 1) := by decide +kernel
theorem d_Town_yardsNorth_3 : decode M_Town_yardsNorth.2.1 3 = .ok (.getfield 18, 3) := by decide +kernel
theorem d_Town_yardsNorth_6 : decode M_Town_yardsNorth.2.1 6 = .ok (.aload_n 0, 1) := by decide +kernel
theorem d_Town_yardsNorth_7 : decode M_Town_yardsNorth.2.1 7 = .ok (.getfield 22, 3) := by decide +kernel
theorem d_Town_yardsNorth_10 : decode M_Town_yardsNorth.2.1 10 = .ok (.iload_n 1, 1) := by decide +kernel
theorem d_Town_yardsNorth_11 : decode M_Town_yardsNorth.2.1 11 = .ok (.iaload, 1) := by decide +kernel
theorem d_Town_yardsNorth_12 : decode M_Town_yardsNorth.2.1 12 = .ok (.iaload, 1) := by decide +kernel
theorem d_Town_yardsNorth_13 : decode M_Town_yardsNorth.2.1 13 = .ok (.invokevirtual 80, 3) := by decide +kernel
theorem d_Town_yardsNorth_16 : decode M_Town_yardsNorth.2.1 16 = .ok (.ireturn, 1) := by decide +kernel
theorem d_Town_yardsAlong_0 : decode M_Town_yardsAlong.2.1 0 = .ok (.aload_n 0, 1) := by decide +kernel
theorem d_Town_yardsAlong_1 : decode M_Town_yardsAlong.2.1 1 = .ok (.getfield 18, 3) := by decide +kernel
theorem d_Town_yardsAlong_4 : decode M_Town_yardsAlong.2.1 4 = .ok (.aload_n 0, 1) := by decide +kernel
theorem d_Town_yardsAlong_5 : decode M_Town_yardsAlong.2.1 5 = .ok (.getfield 22, 3) := by decide +kernel
theorem d_Town_yardsAlong_8 : decode M_Town_yardsAlong.2.1 8 = .ok (.iload_n 1, 1) := by decide +kernel
theorem d_Town_yardsAlong_9 : decode M_Town_yardsAlong.2.1 9 = .ok (.iaload, 1) := by decide +kernel
theorem d_Town_yardsAlong_10 : decode M_Town_yardsAlong.2.1 10 = .ok (.iaload, 1) := by decide +kernel
theorem d_Town_yardsAlong_11 : decode M_Town_yardsAlong.2.1 11 = .ok (.invokestatic 69, 3) := by decide +kernel
theorem d_Town_yardsAlong_14 : decode M_Town_yardsAlong.2.1 14 = .ok (.aload_n 0, 1) := by decide +kernel
theorem d_Town_yardsAlong_15 : decode M_Town_yardsAlong.2.1 15 = .ok (.getfield 31, 3) := by decide +kernel
theorem d_Town_yardsAlong_18 : decode M_Town_yardsAlong.2.1 18 = .ok (.iload_n 1, 1) := by decide +kernel
theorem d_Town_yardsAlong_19 : decode M_Town_yardsAlong.2.1 19 = .ok (.iaload, 1) := by decide +kernel
theorem d_Town_yardsAlong_20 : decode M_Town_yardsAlong.2.1 20 = .ok (.invokestatic 83, 3) := by decide +kernel
theorem d_Town_yardsAlong_23 : decode M_Town_yardsAlong.2.1 23 = .ok (.aload_n 0, 1) := by decide +kernel
theorem d_Town_yardsAlong_24 : decode M_Town_yardsAlong.2.1 24 = .ok (.getfield 34, 3) := by decide +kernel
theorem d_Town_yardsAlong_27 : decode M_Town_yardsAlong.2.1 27 = .ok (.iload_n 1, 1) := by decide +kernel
theorem d_Town_yardsAlong_28 : decode M_Town_yardsAlong.2.1 28 = .ok (.iaload, 1) := by decide +kernel
theorem d_Town_yardsAlong_29 : decode M_Town_yardsAlong.2.1 29 = .ok (.invokestatic 83, 3) := by decide +kernel
theorem d_Town_yardsAlong_32 : decode M_Town_yardsAlong.2.1 32 = .ok (.iadd, 1) := by decide +kernel
theorem d_Town_yardsAlong_33 : decode M_Town_yardsAlong.2.1 33 = .ok (.imul, 1) := by decide +kernel
theorem d_Town_yardsAlong_34 : decode M_Town_yardsAlong.2.1 34 = .ok (.ireturn, 1) := by decide +kernel
theorem d_Town_yardsOf_0 : decode M_Town_yardsOf.2.1 0 = .ok (.iconst 0, 1) := by decide +kernel
theorem d_Town_yardsOf_1 : decode M_Town_yardsOf.2.1 1 = .ok (.istore_n 2, 1) := by decide +kernel
theorem d_Town_yardsOf_2 : decode M_Town_yardsOf.2.1 2 = .ok (.iconst 0, 1) := by decide +kernel
theorem d_Town_yardsOf_3 : decode M_Town_yardsOf.2.1 3 = .ok (.istore_n 3, 1) := by decide +kernel
theorem d_Town_yardsOf_4 : decode M_Town_yardsOf.2.1 4 = .ok (.iload_n 3, 1) := by decide +kernel
theorem d_Town_yardsOf_5 : decode M_Town_yardsOf.2.1 5 = .ok (.aload_n 0, 1) := by decide +kernel
theorem d_Town_yardsOf_6 : decode M_Town_yardsOf.2.1 6 = .ok (.getfield 44, 3) := by decide +kernel
theorem d_Town_yardsOf_9 : decode M_Town_yardsOf.2.1 9 = .ok (.if_icmp .ge 25, 3) := by decide +kernel
theorem d_Town_yardsOf_12 : decode M_Town_yardsOf.2.1 12 = .ok (.iload_n 1, 1) := by decide +kernel
theorem d_Town_yardsOf_13 : decode M_Town_yardsOf.2.1 13 = .ok (.iload_n 3, 1) := by decide +kernel
theorem d_Town_yardsOf_14 : decode M_Town_yardsOf.2.1 14 = .ok (.invokestatic 88, 3) := by decide +kernel
theorem d_Town_yardsOf_17 : decode M_Town_yardsOf.2.1 17 = .ok (.ifCond .eq 11, 3) := by decide +kernel
theorem d_Town_yardsOf_20 : decode M_Town_yardsOf.2.1 20 = .ok (.iload_n 2, 1) := by decide +kernel
theorem d_Town_yardsOf_21 : decode M_Town_yardsOf.2.1 21 = .ok (.aload_n 0, 1) := by decide +kernel
theorem d_Town_yardsOf_22 : decode M_Town_yardsOf.2.1 22 = .ok (.iload_n 3, 1) := by decide +kernel
theorem d_Town_yardsOf_23 : decode M_Town_yardsOf.2.1 23 = .ok (.invokevirtual 92, 3) := by decide +kernel
theorem d_Town_yardsOf_26 : decode M_Town_yardsOf.2.1 26 = .ok (.iadd, 1) := by decide +kernel
theorem d_Town_yardsOf_27 : decode M_Town_yardsOf.2.1 27 = .ok (.istore_n 2, 1) := by decide +kernel
theorem d_Town_yardsOf_28 : decode M_Town_yardsOf.2.1 28 = .ok (.iinc 3 1, 3) := by decide +kernel
theorem d_Town_yardsOf_31 : decode M_Town_yardsOf.2.1 31 = .ok (.goto (-27), 3) := by decide +kernel
theorem d_Town_yardsOf_34 : decode M_Town_yardsOf.2.1 34 = .ok (.iload_n 2, 1) := by decide +kernel
theorem d_Town_yardsOf_35 : decode M_Town_yardsOf.2.1 35 = .ok (.ireturn, 1) := by decide +kernel
theorem d_Town_strikeLeg_0 : decode M_Town_strikeLeg.2.1 0 = .ok (.iload_n 1, 1) := by decide +kernel
theorem d_Town_strikeLeg_1 : decode M_Town_strikeLeg.2.1 1 = .ok (.aload_n 0, 1) := by decide +kernel
theorem d_Town_strikeLeg_2 : decode M_Town_strikeLeg.2.1 2 = .ok (.getfield 44, 3) := by decide +kernel
theorem d_Town_strikeLeg_5 : decode M_Town_strikeLeg.2.1 5 = .ok (.invokestatic 95, 3) := by decide +kernel
theorem d_Town_strikeLeg_8 : decode M_Town_strikeLeg.2.1 8 = .ok (.ifCond .eq 14, 3) := by decide +kernel
theorem d_Town_strikeLeg_11 : decode M_Town_strikeLeg.2.1 11 = .ok (.aload_n 0, 1) := by decide +kernel
theorem d_Town_strikeLeg_12 : decode M_Town_strikeLeg.2.1 12 = .ok (.getfield 50, 3) := by decide +kernel
theorem d_Town_strikeLeg_15 : decode M_Town_strikeLeg.2.1 15 = .ok (.iload_n 1, 1) := by decide +kernel
theorem d_Town_strikeLeg_16 : decode M_Town_strikeLeg.2.1 16 = .ok (.invokestatic 88, 3) := by decide +kernel
theorem d_Town_strikeLeg_19 : decode M_Town_strikeLeg.2.1 19 = .ok (.ifCond .eq 5, 3) := by decide +kernel
theorem d_Town_strikeLeg_22 : decode M_Town_strikeLeg.2.1 22 = .ok (.iconst 0, 1) := by decide +kernel
theorem d_Town_strikeLeg_23 : decode M_Town_strikeLeg.2.1 23 = .ok (.ireturn, 1) := by decide +kernel
theorem d_Town_strikeLeg_24 : decode M_Town_strikeLeg.2.1 24 = .ok (.aload_n 0, 1) := by decide +kernel
theorem d_Town_strikeLeg_25 : decode M_Town_strikeLeg.2.1 25 = .ok (.dup, 1) := by decide +kernel
theorem d_Town_strikeLeg_26 : decode M_Town_strikeLeg.2.1 26 = .ok (.getfield 50, 3) := by decide +kernel
theorem d_Town_strikeLeg_29 : decode M_Town_strikeLeg.2.1 29 = .ok (.iconst 1, 1) := by decide +kernel
theorem d_Town_strikeLeg_30 : decode M_Town_strikeLeg.2.1 30 = .ok (.iload_n 1, 1) := by decide +kernel
theorem d_Town_strikeLeg_31 : decode M_Town_strikeLeg.2.1 31 = .ok (.ishl, 1) := by decide +kernel
theorem d_Town_strikeLeg_32 : decode M_Town_strikeLeg.2.1 32 = .ok (.ior, 1) := by decide +kernel
theorem d_Town_strikeLeg_33 : decode M_Town_strikeLeg.2.1 33 = .ok (.putfield 50, 3) := by decide +kernel
theorem d_Town_strikeLeg_36 : decode M_Town_strikeLeg.2.1 36 = .ok (.iconst 1, 1) := by decide +kernel
theorem d_Town_strikeLeg_37 : decode M_Town_strikeLeg.2.1 37 = .ok (.ireturn, 1) := by decide +kernel
theorem d_Town_restoreLeg_0 : decode M_Town_restoreLeg.2.1 0 = .ok (.iload_n 1, 1) := by decide +kernel
theorem d_Town_restoreLeg_1 : decode M_Town_restoreLeg.2.1 1 = .ok (.aload_n 0, 1) := by decide +kernel
theorem d_Town_restoreLeg_2 : decode M_Town_restoreLeg.2.1 2 = .ok (.getfield 44, 3) := by decide +kernel
theorem d_Town_restoreLeg_5 : decode M_Town_restoreLeg.2.1 5 = .ok (.invokestatic 95, 3) := by decide +kernel
theorem d_Town_restoreLeg_8 : decode M_Town_restoreLeg.2.1 8 = .ok (.ifCond .eq 14, 3) := by decide +kernel
theorem d_Town_restoreLeg_11 : decode M_Town_restoreLeg.2.1 11 = .ok (.aload_n 0, 1) := by decide +kernel
theorem d_Town_restoreLeg_12 : decode M_Town_restoreLeg.2.1 12 = .ok (.getfield 50, 3) := by decide +kernel
theorem d_Town_restoreLeg_15 : decode M_Town_restoreLeg.2.1 15 = .ok (.iload_n 1, 1) := by decide +kernel
theorem d_Town_restoreLeg_16 : decode M_Town_restoreLeg.2.1 16 = .ok (.invokestatic 88, 3) := by decide +kernel
theorem d_Town_restoreLeg_19 : decode M_Town_restoreLeg.2.1 19 = .ok (.ifCond .ne 5, 3) := by decide +kernel
theorem d_Town_restoreLeg_22 : decode M_Town_restoreLeg.2.1 22 = .ok (.iconst 0, 1) := by decide +kernel
theorem d_Town_restoreLeg_23 : decode M_Town_restoreLeg.2.1 23 = .ok (.ireturn, 1) := by decide +kernel
theorem d_Town_restoreLeg_24 : decode M_Town_restoreLeg.2.1 24 = .ok (.aload_n 0, 1) := by decide +kernel
theorem d_Town_restoreLeg_25 : decode M_Town_restoreLeg.2.1 25 = .ok (.dup, 1) := by decide +kernel
theorem d_Town_restoreLeg_26 : decode M_Town_restoreLeg.2.1 26 = .ok (.getfield 50, 3) := by decide +kernel
theorem d_Town_restoreLeg_29 : decode M_Town_restoreLeg.2.1 29 = .ok (.iconst 1, 1) := by decide +kernel
theorem d_Town_restoreLeg_30 : decode M_Town_restoreLeg.2.1 30 = .ok (.iload_n 1, 1) := by decide +kernel
theorem d_Town_restoreLeg_31 : decode M_Town_restoreLeg.2.1 31 = .ok (.ishl, 1) := by decide +kernel
theorem d_Town_restoreLeg_32 : decode M_Town_restoreLeg.2.1 32 = .ok (.iconst (-1), 1) := by decide +kernel
theorem d_Town_restoreLeg_33 : decode M_Town_restoreLeg.2.1 33 = .ok (.ixor, 1) := by decide +kernel
theorem d_Town_restoreLeg_34 : decode M_Town_restoreLeg.2.1 34 = .ok (.iand, 1) := by decide +kernel
theorem d_Town_restoreLeg_35 : decode M_Town_restoreLeg.2.1 35 = .ok (.putfield 50, 3) := by decide +kernel
theorem d_Town_restoreLeg_38 : decode M_Town_restoreLeg.2.1 38 = .ok (.iconst 1, 1) := by decide +kernel
theorem d_Town_restoreLeg_39 : decode M_Town_restoreLeg.2.1 39 = .ok (.ireturn, 1) := by decide +kernel
theorem d_Town_walkAlong_0 : decode M_Town_walkAlong.2.1 0 = .ok (.iload_n 1, 1) := by decide +kernel
theorem d_Town_walkAlong_1 : decode M_Town_walkAlong.2.1 1 = .ok (.aload_n 0, 1) := by decide +kernel
theorem d_Town_walkAlong_2 : decode M_Town_walkAlong.2.1 2 = .ok (.getfield 44, 3) := by decide +kernel
theorem d_Town_walkAlong_5 : decode M_Town_walkAlong.2.1 5 = .ok (.invokestatic 95, 3) := by decide +kernel
theorem d_Town_walkAlong_8 : decode M_Town_walkAlong.2.1 8 = .ok (.ifCond .eq 14, 3) := by decide +kernel
theorem d_Town_walkAlong_11 : decode M_Town_walkAlong.2.1 11 = .ok (.aload_n 0, 1) := by decide +kernel
theorem d_Town_walkAlong_12 : decode M_Town_walkAlong.2.1 12 = .ok (.getfield 50, 3) := by decide +kernel
theorem d_Town_walkAlong_15 : decode M_Town_walkAlong.2.1 15 = .ok (.iload_n 1, 1) := by decide +kernel
theorem d_Town_walkAlong_16 : decode M_Town_walkAlong.2.1 16 = .ok (.invokestatic 88, 3) := by decide +kernel
theorem d_Town_walkAlong_19 : decode M_Town_walkAlong.2.1 19 = .ok (.ifCond .eq 5, 3) := by decide +kernel
theorem d_Town_walkAlong_22 : decode M_Town_walkAlong.2.1 22 = .ok (.iconst 0, 1) := by decide +kernel
theorem d_Town_walkAlong_23 : decode M_Town_walkAlong.2.1 23 = .ok (.ireturn, 1) := by decide +kernel
theorem d_Town_walkAlong_24 : decode M_Town_walkAlong.2.1 24 = .ok (.aload_n 0, 1) := by decide +kernel
theorem d_Town_walkAlong_25 : decode M_Town_walkAlong.2.1 25 = .ok (.getfield 53, 3) := by decide +kernel
theorem d_Town_walkAlong_28 : decode M_Town_walkAlong.2.1 28 = .ok (.aload_n 0, 1) := by decide +kernel
theorem d_Town_walkAlong_29 : decode M_Town_walkAlong.2.1 29 = .ok (.getfield 25, 3) := by decide +kernel
theorem d_Town_walkAlong_32 : decode M_Town_walkAlong.2.1 32 = .ok (.iload_n 1, 1) := by decide +kernel
theorem d_Town_walkAlong_33 : decode M_Town_walkAlong.2.1 33 = .ok (.iaload, 1) := by decide +kernel
theorem d_Town_walkAlong_34 : decode M_Town_walkAlong.2.1 34 = .ok (.if_icmp .eq 18, 3) := by decide +kernel
theorem d_Town_walkAlong_37 : decode M_Town_walkAlong.2.1 37 = .ok (.aload_n 0, 1) := by decide +kernel
theorem d_Town_walkAlong_38 : decode M_Town_walkAlong.2.1 38 = .ok (.getfield 53, 3) := by decide +kernel
theorem d_Town_walkAlong_41 : decode M_Town_walkAlong.2.1 41 = .ok (.aload_n 0, 1) := by decide +kernel
theorem d_Town_walkAlong_42 : decode M_Town_walkAlong.2.1 42 = .ok (.getfield 28, 3) := by decide +kernel
theorem d_Town_walkAlong_45 : decode M_Town_walkAlong.2.1 45 = .ok (.iload_n 1, 1) := by decide +kernel
theorem d_Town_walkAlong_46 : decode M_Town_walkAlong.2.1 46 = .ok (.iaload, 1) := by decide +kernel
theorem d_Town_walkAlong_47 : decode M_Town_walkAlong.2.1 47 = .ok (.if_icmp .eq 5, 3) := by decide +kernel
theorem d_Town_walkAlong_50 : decode M_Town_walkAlong.2.1 50 = .ok (.iconst 0, 1) := by decide +kernel
theorem d_Town_walkAlong_51 : decode M_Town_walkAlong.2.1 51 = .ok (.ireturn, 1) := by decide +kernel
theorem d_Town_walkAlong_52 : decode M_Town_walkAlong.2.1 52 = .ok (.aload_n 0, 1) := by decide +kernel
theorem d_Town_walkAlong_53 : decode M_Town_walkAlong.2.1 53 = .ok (.aload_n 0, 1) := by decide +kernel
theorem d_Town_walkAlong_54 : decode M_Town_walkAlong.2.1 54 = .ok (.getfield 53, 3) := by decide +kernel
theorem d_Town_walkAlong_57 : decode M_Town_walkAlong.2.1 57 = .ok (.aload_n 0, 1) := by decide +kernel
theorem d_Town_walkAlong_58 : decode M_Town_walkAlong.2.1 58 = .ok (.getfield 25, 3) := by decide +kernel
theorem d_Town_walkAlong_61 : decode M_Town_walkAlong.2.1 61 = .ok (.iload_n 1, 1) := by decide +kernel
theorem d_Town_walkAlong_62 : decode M_Town_walkAlong.2.1 62 = .ok (.iaload, 1) := by decide +kernel
theorem d_Town_walkAlong_63 : decode M_Town_walkAlong.2.1 63 = .ok (.if_icmp .ne 12, 3) := by decide +kernel
theorem d_Town_walkAlong_66 : decode M_Town_walkAlong.2.1 66 = .ok (.aload_n 0, 1) := by decide +kernel
theorem d_Town_walkAlong_67 : decode M_Town_walkAlong.2.1 67 = .ok (.getfield 28, 3) := by decide +kernel
theorem d_Town_walkAlong_70 : decode M_Town_walkAlong.2.1 70 = .ok (.iload_n 1, 1) := by decide +kernel
theorem d_Town_walkAlong_71 : decode M_Town_walkAlong.2.1 71 = .ok (.iaload, 1) := by decide +kernel
theorem d_Town_walkAlong_72 : decode M_Town_walkAlong.2.1 72 = .ok (.goto 9, 3) := by decide +kernel
theorem d_Town_walkAlong_75 : decode M_Town_walkAlong.2.1 75 = .ok (.aload_n 0, 1) := by decide +kernel
theorem d_Town_walkAlong_76 : decode M_Town_walkAlong.2.1 76 = .ok (.getfield 25, 3) := by decide +kernel
theorem d_Town_walkAlong_79 : decode M_Town_walkAlong.2.1 79 = .ok (.iload_n 1, 1) := by decide +kernel
theorem d_Town_walkAlong_80 : decode M_Town_walkAlong.2.1 80 = .ok (.iaload, 1) := by decide +kernel
theorem d_Town_walkAlong_81 : decode M_Town_walkAlong.2.1 81 = .ok (.putfield 53, 3) := by decide +kernel
theorem d_Town_walkAlong_84 : decode M_Town_walkAlong.2.1 84 = .ok (.aload_n 0, 1) := by decide +kernel
theorem d_Town_walkAlong_85 : decode M_Town_walkAlong.2.1 85 = .ok (.dup, 1) := by decide +kernel
theorem d_Town_walkAlong_86 : decode M_Town_walkAlong.2.1 86 = .ok (.getfield 56, 3) := by decide +kernel
theorem d_Town_walkAlong_89 : decode M_Town_walkAlong.2.1 89 = .ok (.aload_n 0, 1) := by decide +kernel
theorem d_Town_walkAlong_90 : decode M_Town_walkAlong.2.1 90 = .ok (.iload_n 1, 1) := by decide +kernel
theorem d_Town_walkAlong_91 : decode M_Town_walkAlong.2.1 91 = .ok (.invokevirtual 92, 3) := by decide +kernel
theorem d_Town_walkAlong_94 : decode M_Town_walkAlong.2.1 94 = .ok (.iadd, 1) := by decide +kernel
theorem d_Town_walkAlong_95 : decode M_Town_walkAlong.2.1 95 = .ok (.putfield 56, 3) := by decide +kernel
theorem d_Town_walkAlong_98 : decode M_Town_walkAlong.2.1 98 = .ok (.iconst 1, 1) := by decide +kernel
theorem d_Town_walkAlong_99 : decode M_Town_walkAlong.2.1 99 = .ok (.ireturn, 1) := by decide +kernel
theorem d_TownText_init_0 : decode M_TownText_init.2.1 0 = .ok (.aload_n 0, 1) := by decide +kernel
theorem d_TownText_init_1 : decode M_TownText_init.2.1 1 = .ok (.invokespecial 3, 3) := by decide +kernel
theorem d_TownText_init_4 : decode M_TownText_init.2.1 4 = .ok (.aload_n 0, 1) := by decide +kernel
theorem d_TownText_init_5 : decode M_TownText_init.2.1 5 = .ok (.iconst 0, 1) := by decide +kernel
theorem d_TownText_init_6 : decode M_TownText_init.2.1 6 = .ok (.putfield 9, 3) := by decide +kernel
theorem d_TownText_init_9 : decode M_TownText_init.2.1 9 = .ok (.aload_n 0, 1) := by decide +kernel
theorem d_TownText_init_10 : decode M_TownText_init.2.1 10 = .ok (.aload_n 1, 1) := by decide +kernel
theorem d_TownText_init_11 : decode M_TownText_init.2.1 11 = .ok (.putfield 15, 3) := by decide +kernel
theorem d_TownText_init_14 : decode M_TownText_init.2.1 14 = .ok (.aload_n 0, 1) := by decide +kernel
theorem d_TownText_init_15 : decode M_TownText_init.2.1 15 = .ok (.aload_n 2, 1) := by decide +kernel
theorem d_TownText_init_16 : decode M_TownText_init.2.1 16 = .ok (.putfield 19, 3) := by decide +kernel
theorem d_TownText_init_19 : decode M_TownText_init.2.1 19 = .ok (.return_, 1) := by decide +kernel
theorem d_TownText_parse_0 : decode M_TownText_parse.2.1 0 = .ok (.aload_n 0, 1) := by decide +kernel
theorem d_TownText_parse_1 : decode M_TownText_parse.2.1 1 = .ok (.getfield 19, 3) := by decide +kernel
theorem d_TownText_parse_4 : decode M_TownText_parse.2.1 4 = .ok (.invokevirtual 23, 3) := by decide +kernel
theorem d_TownText_parse_7 : decode M_TownText_parse.2.1 7 = .ok (.iconst 0, 1) := by decide +kernel
theorem d_TownText_parse_8 : decode M_TownText_parse.2.1 8 = .ok (.istore_n 1, 1) := by decide +kernel
theorem d_TownText_parse_9 : decode M_TownText_parse.2.1 9 = .ok (.iload_n 1, 1) := by decide +kernel
theorem d_TownText_parse_10 : decode M_TownText_parse.2.1 10 = .ok (.sipush 900, 3) := by decide +kernel
theorem d_TownText_parse_13 : decode M_TownText_parse.2.1 13 = .ok (.if_icmp .gt 42, 3) := by decide +kernel
theorem d_TownText_parse_16 : decode M_TownText_parse.2.1 16 = .ok (.aload_n 0, 1) := by decide +kernel
theorem d_TownText_parse_17 : decode M_TownText_parse.2.1 17 = .ok (.getfield 15, 3) := by decide +kernel
theorem d_TownText_parse_20 : decode M_TownText_parse.2.1 20 = .ok (.invokevirtual 28, 3) := by decide +kernel
theorem d_TownText_parse_23 : decode M_TownText_parse.2.1 23 = .ok (.ifCond .eq 5, 3) := by decide +kernel
theorem d_TownText_parse_26 : decode M_TownText_parse.2.1 26 = .ok (.iconst 1, 1) := by decide +kernel
theorem d_TownText_parse_27 : decode M_TownText_parse.2.1 27 = .ok (.ireturn, 1) := by decide +kernel
theorem d_TownText_parse_28 : decode M_TownText_parse.2.1 28 = .ok (.aload_n 0, 1) := by decide +kernel
theorem d_TownText_parse_29 : decode M_TownText_parse.2.1 29 = .ok (.invokevirtual 34, 3) := by decide +kernel
theorem d_TownText_parse_32 : decode M_TownText_parse.2.1 32 = .ok (.ifCond .eq 15, 3) := by decide +kernel
theorem d_TownText_parse_35 : decode M_TownText_parse.2.1 35 = .ok (.aload_n 0, 1) := by decide +kernel
theorem d_TownText_parse_36 : decode M_TownText_parse.2.1 36 = .ok (.getfield 15, 3) := by decide +kernel
theorem d_TownText_parse_39 : decode M_TownText_parse.2.1 39 = .ok (.bipush 59, 2) := by decide +kernel
theorem d_TownText_parse_41 : decode M_TownText_parse.2.1 41 = .ok (.invokevirtual 37, 3) := by decide +kernel
theorem d_TownText_parse_44 : decode M_TownText_parse.2.1 44 = .ok (.ifCond .ne 5, 3) := by decide +kernel
theorem d_TownText_parse_47 : decode M_TownText_parse.2.1 47 = .ok (.iconst 0, 1) := by decide +kernel
theorem d_TownText_parse_48 : decode M_TownText_parse.2.1 48 = .ok (.ireturn, 1) := by decide +kernel
theorem d_TownText_parse_49 : decode M_TownText_parse.2.1 49 = .ok (.iinc 1 1, 3) := by decide +kernel
theorem d_TownText_parse_52 : decode M_TownText_parse.2.1 52 = .ok (.goto (-43), 3) := by decide +kernel
theorem d_TownText_parse_55 : decode M_TownText_parse.2.1 55 = .ok (.aload_n 0, 1) := by decide +kernel
theorem d_TownText_parse_56 : decode M_TownText_parse.2.1 56 = .ok (.getfield 15, 3) := by decide +kernel
theorem d_TownText_parse_59 : decode M_TownText_parse.2.1 59 = .ok (.invokevirtual 41, 3) := by decide +kernel
theorem d_TownText_parse_62 : decode M_TownText_parse.2.1 62 = .ok (.ireturn, 1) := by decide +kernel
theorem d_TownText_takePart_0 : decode M_TownText_takePart.2.1 0 = .ok (.aload_n 0, 1) := by decide +kernel
theorem d_TownText_takePart_1 : decode M_TownText_takePart.2.1 1 = .ok (.getfield 15, 3) := by decide +kernel
theorem d_TownText_takePart_4 : decode M_TownText_takePart.2.1 4 = .ok (.getfield 44, 3) := by decide +kernel
theorem d_TownText_takePart_7 : decode M_TownText_takePart.2.1 7 = .ok (.tableswitch 61 0 6 #[41, 46, 51, 61, 61, 61, 56], 41) := by decide +kernel
theorem d_TownText_takePart_48 : decode M_TownText_takePart.2.1 48 = .ok (.aload_n 0, 1) := by decide +kernel
theorem d_TownText_takePart_49 : decode M_TownText_takePart.2.1 49 = .ok (.invokevirtual 48, 3) := by decide +kernel
theorem d_TownText_takePart_52 : decode M_TownText_takePart.2.1 52 = .ok (.ireturn, 1) := by decide +kernel
theorem d_TownText_takePart_53 : decode M_TownText_takePart.2.1 53 = .ok (.aload_n 0, 1) := by decide +kernel
theorem d_TownText_takePart_54 : decode M_TownText_takePart.2.1 54 = .ok (.invokevirtual 51, 3) := by decide +kernel
theorem d_TownText_takePart_57 : decode M_TownText_takePart.2.1 57 = .ok (.ireturn, 1) := by decide +kernel
theorem d_TownText_takePart_58 : decode M_TownText_takePart.2.1 58 = .ok (.aload_n 0, 1) := by decide +kernel
theorem d_TownText_takePart_59 : decode M_TownText_takePart.2.1 59 = .ok (.invokevirtual 54, 3) := by decide +kernel
theorem d_TownText_takePart_62 : decode M_TownText_takePart.2.1 62 = .ok (.ireturn, 1) := by decide +kernel
theorem d_TownText_takePart_63 : decode M_TownText_takePart.2.1 63 = .ok (.aload_n 0, 1) := by decide +kernel
theorem d_TownText_takePart_64 : decode M_TownText_takePart.2.1 64 = .ok (.invokevirtual 57, 3) := by decide +kernel
theorem d_TownText_takePart_67 : decode M_TownText_takePart.2.1 67 = .ok (.ireturn, 1) := by decide +kernel
theorem d_TownText_takePart_68 : decode M_TownText_takePart.2.1 68 = .ok (.aload_n 0, 1) := by decide +kernel
theorem d_TownText_takePart_69 : decode M_TownText_takePart.2.1 69 = .ok (.getfield 15, 3) := by decide +kernel
theorem d_TownText_takePart_72 : decode M_TownText_takePart.2.1 72 = .ok (.invokevirtual 41, 3) := by decide +kernel
theorem d_TownText_takePart_75 : decode M_TownText_takePart.2.1 75 = .ok (.ireturn, 1) := by decide +kernel
theorem d_TownText_takeOdds_0 : decode M_TownText_takeOdds.2.1 0 = .ok (.aload_n 0, 1) := by decide +kernel
theorem d_TownText_takeOdds_1 : decode M_TownText_takeOdds.2.1 1 = .ok (.getfield 9, 3) := by decide +kernel
theorem d_TownText_takeOdds_4 : decode M_TownText_takeOdds.2.1 4 = .ok (.ifCond .eq 12, 3) := by decide +kernel
theorem d_TownText_takeOdds_7 : decode M_TownText_takeOdds.2.1 7 = .ok (.aload_n 0, 1) := by decide +kernel
theorem d_TownText_takeOdds_8 : decode M_TownText_takeOdds.2.1 8 = .ok (.getfield 15, 3) := by decide +kernel
theorem d_TownText_takeOdds_11 : decode M_TownText_takeOdds.2.1 11 = .ok (.iconst 5, 1) := by decide +kernel
theorem d_TownText_takeOdds_12 : decode M_TownText_takeOdds.2.1 12 = .ok (.invokevirtual 60, 3) := by decide +kernel
theorem d_TownText_takeOdds_15 : decode M_TownText_takeOdds.2.1 15 = .ok (.ireturn, 1) := by decide +kernel
theorem d_TownText_takeOdds_16 : decode M_TownText_takeOdds.2.1 16 = .ok (.aload_n 0, 1) := by decide +kernel
theorem d_TownText_takeOdds_17 : decode M_TownText_takeOdds.2.1 17 = .ok (.iconst 1, 1) := by decide +kernel
theorem d_TownText_takeOdds_18 : decode M_TownText_takeOdds.2.1 18 = .ok (.putfield 9, 3) := by decide +kernel
theorem d_TownText_takeOdds_21 : decode M_TownText_takeOdds.2.1 21 = .ok (.aload_n 0, 1) := by decide +kernel
theorem d_TownText_takeOdds_22 : decode M_TownText_takeOdds.2.1 22 = .ok (.getfield 15, 3) := by decide +kernel
theorem d_TownText_takeOdds_25 : decode M_TownText_takeOdds.2.1 25 = .ok (.invokevirtual 63, 3) := by decide +kernel
theorem d_TownText_takeOdds_28 : decode M_TownText_takeOdds.2.1 28 = .ok (.aload_n 0, 1) := by decide +kernel
theorem d_TownText_takeOdds_29 : decode M_TownText_takeOdds.2.1 29 = .ok (.getfield 15, 3) := by decide +kernel
theorem d_TownText_takeOdds_32 : decode M_TownText_takeOdds.2.1 32 = .ok (.iconst 0, 1) := by decide +kernel
theorem d_TownText_takeOdds_33 : decode M_TownText_takeOdds.2.1 33 = .ok (.bipush 16, 2) := by decide +kernel
theorem d_TownText_takeOdds_35 : decode M_TownText_takeOdds.2.1 35 = .ok (.invokevirtual 66, 3) := by decide +kernel
theorem d_TownText_takeOdds_38 : decode M_TownText_takeOdds.2.1 38 = .ok (.ifCond .ne 5, 3) := by decide +kernel
theorem d_TownText_takeOdds_41 : decode M_TownText_takeOdds.2.1 41 = .ok (.iconst 0, 1) := by decide +kernel
theorem d_TownText_takeOdds_42 : decode M_TownText_takeOdds.2.1 42 = .ok (.ireturn, 1) := by decide +kernel
theorem d_TownText_takeOdds_43 : decode M_TownText_takeOdds.2.1 43 = .ok (.aload_n 0, 1) := by decide +kernel
theorem d_TownText_takeOdds_44 : decode M_TownText_takeOdds.2.1 44 = .ok (.getfield 19, 3) := by decide +kernel
theorem d_TownText_takeOdds_47 : decode M_TownText_takeOdds.2.1 47 = .ok (.aload_n 0, 1) := by decide +kernel
theorem d_TownText_takeOdds_48 : decode M_TownText_takeOdds.2.1 48 = .ok (.getfield 15, 3) := by decide +kernel
theorem d_TownText_takeOdds_51 : decode M_TownText_takeOdds.2.1 51 = .ok (.getfield 70, 3) := by decide +kernel
theorem d_TownText_takeOdds_54 : decode M_TownText_takeOdds.2.1 54 = .ok (.putfield 73, 3) := by decide +kernel
theorem d_TownText_takeOdds_57 : decode M_TownText_takeOdds.2.1 57 = .ok (.iconst 1, 1) := by decide +kernel
theorem d_TownText_takeOdds_58 : decode M_TownText_takeOdds.2.1 58 = .ok (.ireturn, 1) := by decide +kernel
theorem d_TownText_takePlace_0 : decode M_TownText_takePlace.2.1 0 = .ok (.aload_n 0, 1) := by decide +kernel
theorem d_TownText_takePlace_1 : decode M_TownText_takePlace.2.1 1 = .ok (.getfield 19, 3) := by decide +kernel
theorem d_TownText_takePlace_4 : decode M_TownText_takePlace.2.1 4 = .ok (.getfield 76, 3) := by decide +kernel
theorem d_TownText_takePlace_7 : decode M_TownText_takePlace.2.1 7 = .ok (.bipush 7, 2) := by decide +kernel
theorem d_TownText_takePlace_9 : decode M_TownText_takePlace.2.1 9 = .ok (.if_icmp .lt 13, 3) := by decide +kernel
theorem d_TownText_takePlace_12 : decode M_TownText_takePlace.2.1 12 = .ok (.aload_n 0, 1) := by decide +kernel
theorem d_TownText_takePlace_13 : decode M_TownText_takePlace.2.1 13 = .ok (.getfield 15, 3) := by decide +kernel
theorem d_TownText_takePlace_16 : decode M_TownText_takePlace.2.1 16 = .ok (.bipush 6, 2) := by decide +kernel
theorem d_TownText_takePlace_18 : decode M_TownText_takePlace.2.1 18 = .ok (.invokevirtual 60, 3) := by decide +kernel
theorem d_TownText_takePlace_21 : decode M_TownText_takePlace.2.1 21 = .ok (.ireturn, 1) := by decide +kernel
theorem d_TownText_takePlace_22 : decode M_TownText_takePlace.2.1 22 = .ok (.aload_n 0, 1) := by decide +kernel
theorem d_TownText_takePlace_23 : decode M_TownText_takePlace.2.1 23 = .ok (.getfield 15, 3) := by decide +kernel
theorem d_TownText_takePlace_26 : decode M_TownText_takePlace.2.1 26 = .ok (.invokevirtual 63, 3) := by decide +kernel
theorem d_TownText_takePlace_29 : decode M_TownText_takePlace.2.1 29 = .ok (.aload_n 0, 1) := by decide +kernel
theorem d_TownText_takePlace_30 : decode M_TownText_takePlace.2.1 30 = .ok (.invokevirtual 79, 3) := by decide +kernel
theorem d_TownText_takePlace_33 : decode M_TownText_takePlace.2.1 33 = .ok (.ifCond .ne 5, 3) := by decide +kernel
theorem d_TownText_takePlace_36 : decode M_TownText_takePlace.2.1 36 = .ok (.iconst 0, 1) := by decide +kernel
theorem d_TownText_takePlace_37 : decode M_TownText_takePlace.2.1 37 = .ok (.ireturn, 1) := by decide +kernel
theorem d_TownText_takePlace_38 : decode M_TownText_takePlace.2.1 38 = .ok (.aload_n 0, 1) := by decide +kernel
theorem d_TownText_takePlace_39 : decode M_TownText_takePlace.2.1 39 = .ok (.getfield 19, 3) := by decide +kernel
theorem d_TownText_takePlace_42 : decode M_TownText_takePlace.2.1 42 = .ok (.aload_n 0, 1) := by decide +kernel
theorem d_TownText_takePlace_43 : decode M_TownText_takePlace.2.1 43 = .ok (.getfield 15, 3) := by decide +kernel
theorem d_TownText_takePlace_46 : decode M_TownText_takePlace.2.1 46 = .ok (.getfield 82, 3) := by decide +kernel
theorem d_TownText_takePlace_49 : decode M_TownText_takePlace.2.1 49 = .ok (.invokevirtual 86, 3) := by decide +kernel
theorem d_TownText_takePlace_52 : decode M_TownText_takePlace.2.1 52 = .ok (.pop, 1) := by decide +kernel
theorem d_TownText_takePlace_53 : decode M_TownText_takePlace.2.1 53 = .ok (.iconst 1, 1) := by decide +kernel
theorem d_TownText_takePlace_54 : decode M_TownText_takePlace.2.1 54 = .ok (.ireturn, 1) := by decide +kernel
theorem d_TownText_takeWalker_0 : decode M_TownText_takeWalker.2.1 0 = .ok (.aload_n 0, 1) := by decide +kernel
theorem d_TownText_takeWalker_1 : decode M_TownText_takeWalker.2.1 1 = .ok (.getfield 19, 3) := by decide +kernel
theorem d_TownText_takeWalker_4 : decode M_TownText_takeWalker.2.1 4 = .ok (.getfield 90, 3) := by decide +kernel
theorem d_TownText_takeWalker_7 : decode M_TownText_takeWalker.2.1 7 = .ok (.iconst 4, 1) := by decide +kernel
theorem d_TownText_takeWalker_8 : decode M_TownText_takeWalker.2.1 8 = .ok (.if_icmp .lt 13, 3) := by decide +kernel
theorem d_TownText_takeWalker_11 : decode M_TownText_takeWalker.2.1 11 = .ok (.aload_n 0, 1) := by decide +kernel
theorem d_TownText_takeWalker_12 : decode M_TownText_takeWalker.2.1 12 = .ok (.getfield 15, 3) := by decide +kernel
theorem d_TownText_takeWalker_15 : decode M_TownText_takeWalker.2.1 15 = .ok (.bipush 6, 2) := by decide +kernel
theorem d_TownText_takeWalker_17 : decode M_TownText_takeWalker.2.1 17 = .ok (.invokevirtual 60, 3) := by decide +kernel
theorem d_TownText_takeWalker_20 : decode M_TownText_takeWalker.2.1 20 = .ok (.ireturn, 1) := by decide +kernel
theorem d_TownText_takeWalker_21 : decode M_TownText_takeWalker.2.1 21 = .ok (.aload_n 0, 1) := by decide +kernel
theorem d_TownText_takeWalker_22 : decode M_TownText_takeWalker.2.1 22 = .ok (.getfield 15, 3) := by decide +kernel
theorem d_TownText_takeWalker_25 : decode M_TownText_takeWalker.2.1 25 = .ok (.invokevirtual 63, 3) := by decide +kernel
theorem d_TownText_takeWalker_28 : decode M_TownText_takeWalker.2.1 28 = .ok (.aload_n 0, 1) := by decide +kernel
theorem d_TownText_takeWalker_29 : decode M_TownText_takeWalker.2.1 29 = .ok (.invokevirtual 79, 3) := by decide +kernel
theorem d_TownText_takeWalker_32 : decode M_TownText_takeWalker.2.1 32 = .ok (.ifCond .ne 5, 3) := by decide +kernel
theorem d_TownText_takeWalker_35 : decode M_TownText_takeWalker.2.1 35 = .ok (.iconst 0, 1) := by decide +kernel
theorem d_TownText_takeWalker_36 : decode M_TownText_takeWalker.2.1 36 = .ok (.ireturn, 1) := by decide +kernel
theorem d_TownText_takeWalker_37 : decode M_TownText_takeWalker.2.1 37 = .ok (.aload_n 0, 1) := by decide +kernel
theorem d_TownText_takeWalker_38 : decode M_TownText_takeWalker.2.1 38 = .ok (.getfield 15, 3) := by decide +kernel
theorem d_TownText_takeWalker_41 : decode M_TownText_takeWalker.2.1 41 = .ok (.getfield 82, 3) := by decide +kernel
theorem d_TownText_takeWalker_44 : decode M_TownText_takeWalker.2.1 44 = .ok (.lstore_n 1, 1) := by decide +kernel
theorem d_TownText_takeWalker_45 : decode M_TownText_takeWalker.2.1 45 = .ok (.aload_n 0, 1) := by decide +kernel
theorem d_TownText_takeWalker_46 : decode M_TownText_takeWalker.2.1 46 = .ok (.iconst 3, 1) := by decide +kernel
theorem d_TownText_takeWalker_47 : decode M_TownText_takeWalker.2.1 47 = .ok (.iconst 0, 1) := by decide +kernel
theorem d_TownText_takeWalker_48 : decode M_TownText_takeWalker.2.1 48 = .ok (.iconst 3, 1) := by decide +kernel
theorem d_TownText_takeWalker_49 : decode M_TownText_takeWalker.2.1 49 = .ok (.iconst 0, 1) := by decide +kernel
theorem d_TownText_takeWalker_50 : decode M_TownText_takeWalker.2.1 50 = .ok (.invokevirtual 93, 3) := by decide +kernel
theorem d_TownText_takeWalker_53 : decode M_TownText_takeWalker.2.1 53 = .ok (.istore_n 3, 1) := by decide +kernel
theorem d_TownText_takeWalker_54 : decode M_TownText_takeWalker.2.1 54 = .ok (.iload_n 3, 1) := by decide +kernel
theorem d_TownText_takeWalker_55 : decode M_TownText_takeWalker.2.1 55 = .ok (.iconst (-1), 1) := by decide +kernel
theorem d_TownText_takeWalker_56 : decode M_TownText_takeWalker.2.1 56 = .ok (.if_icmp .ne 5, 3) := by decide +kernel
theorem d_TownText_takeWalker_59 : decode M_TownText_takeWalker.2.1 59 = .ok (.iconst 0, 1) := by decide +kernel
theorem d_TownText_takeWalker_60 : decode M_TownText_takeWalker.2.1 60 = .ok (.ireturn, 1) := by decide +kernel
theorem d_TownText_takeWalker_61 : decode M_TownText_takeWalker.2.1 61 = .ok (.aload_n 0, 1) := by decide +kernel
theorem d_TownText_takeWalker_62 : decode M_TownText_takeWalker.2.1 62 = .ok (.getfield 15, 3) := by decide +kernel
theorem d_TownText_takeWalker_65 : decode M_TownText_takeWalker.2.1 65 = .ok (.getfield 44, 3) := by decide +kernel
theorem d_TownText_takeWalker_68 : decode M_TownText_takeWalker.2.1 68 = .ok (.iconst 4, 1) := by decide +kernel
theorem d_TownText_takeWalker_69 : decode M_TownText_takeWalker.2.1 69 = .ok (.if_icmp .ne 7, 3) := by decide +kernel
theorem d_TownText_takeWalker_72 : decode M_TownText_takeWalker.2.1 72 = .ok (.iconst 1, 1) := by decide +kernel
theorem d_TownText_takeWalker_73 : decode M_TownText_takeWalker.2.1 73 = .ok (.goto 4, 3) := by decide +kernel
theorem d_TownText_takeWalker_76 : decode M_TownText_takeWalker.2.1 76 = .ok (.iconst 0, 1) := by decide +kernel
theorem d_TownText_takeWalker_77 : decode M_TownText_takeWalker.2.1 77 = .ok (.istore 4, 2) := by decide +kernel
theorem d_TownText_takeWalker_79 : decode M_TownText_takeWalker.2.1 79 = .ok (.iload 4, 2) := by decide +kernel
theorem d_TownText_takeWalker_81 : decode M_TownText_takeWalker.2.1 81 = .ok (.ifCond .eq 10, 3) := by decide +kernel
theorem d_TownText_takeWalker_84 : decode M_TownText_takeWalker.2.1 84 = .ok (.aload_n 0, 1) := by decide +kernel
theorem d_TownText_takeWalker_85 : decode M_TownText_takeWalker.2.1 85 = .ok (.getfield 15, 3) := by decide +kernel
theorem d_TownText_takeWalker_88 : decode M_TownText_takeWalker.2.1 88 = .ok (.invokevirtual 63, 3) := by decide +kernel
theorem d_TownText_takeWalker_91 : decode M_TownText_takeWalker.2.1 91 = .ok (.aload_n 0, 1) := by decide +kernel
theorem d_TownText_takeWalker_92 : decode M_TownText_takeWalker.2.1 92 = .ok (.iconst 5, 1) := by decide +kernel
theorem d_TownText_takeWalker_93 : decode M_TownText_takeWalker.2.1 93 = .ok (.iconst 1, 1) := by decide +kernel
theorem d_TownText_takeWalker_94 : decode M_TownText_takeWalker.2.1 94 = .ok (.iconst 3, 1) := by decide +kernel
theorem d_TownText_takeWalker_95 : decode M_TownText_takeWalker.2.1 95 = .ok (.iconst 1, 1) := by decide +kernel
theorem d_TownText_takeWalker_96 : decode M_TownText_takeWalker.2.1 96 = .ok (.invokevirtual 93, 3) := by decide +kernel
theorem d_TownText_takeWalker_99 : decode M_TownText_takeWalker.2.1 99 = .ok (.istore 5, 2) := by decide +kernel
theorem d_TownText_takeWalker_101 : decode M_TownText_takeWalker.2.1 101 = .ok (.iload 5, 2) := by decide +kernel
theorem d_TownText_takeWalker_103 : decode M_TownText_takeWalker.2.1 103 = .ok (.iconst (-1), 1) := by decide +kernel
theorem d_TownText_takeWalker_104 : decode M_TownText_takeWalker.2.1 104 = .ok (.if_icmp .ne 5, 3) := by decide +kernel
theorem d_TownText_takeWalker_107 : decode M_TownText_takeWalker.2.1 107 = .ok (.iconst 0, 1) := by decide +kernel
theorem d_TownText_takeWalker_108 : decode M_TownText_takeWalker.2.1 108 = .ok (.ireturn, 1) := by decide +kernel
theorem d_TownText_takeWalker_109 : decode M_TownText_takeWalker.2.1 109 = .ok (.aload_n 0, 1) := by decide +kernel
theorem d_TownText_takeWalker_110 : decode M_TownText_takeWalker.2.1 110 = .ok (.getfield 19, 3) := by decide +kernel
theorem d_TownText_takeWalker_113 : decode M_TownText_takeWalker.2.1 113 = .ok (.lload_n 1, 1) := by decide +kernel
theorem d_TownText_takeWalker_114 : decode M_TownText_takeWalker.2.1 114 = .ok (.iload_n 3, 1) := by decide +kernel
theorem d_TownText_takeWalker_115 : decode M_TownText_takeWalker.2.1 115 = .ok (.iload 4, 2) := by decide +kernel
theorem d_TownText_takeWalker_117 : decode M_TownText_takeWalker.2.1 117 = .ok (.iload 5, 2) := by decide +kernel
theorem d_TownText_takeWalker_119 : decode M_TownText_takeWalker.2.1 119 = .ok (.invokestatic 97, 3) := by decide +kernel
theorem d_TownText_takeWalker_122 : decode M_TownText_takeWalker.2.1 122 = .ok (.invokevirtual 101, 3) := by decide +kernel
theorem d_TownText_takeWalker_125 : decode M_TownText_takeWalker.2.1 125 = .ok (.pop, 1) := by decide +kernel
theorem d_TownText_takeWalker_126 : decode M_TownText_takeWalker.2.1 126 = .ok (.iconst 1, 1) := by decide +kernel
theorem d_TownText_takeWalker_127 : decode M_TownText_takeWalker.2.1 127 = .ok (.ireturn, 1) := by decide +kernel
theorem d_TownText_takeNumberBehind_0 : decode M_TownText_takeNumberBehind.2.1 0 = .ok (.aload_n 0, 1) := by decide +kernel
theorem d_TownText_takeNumberBehind_1 : decode M_TownText_takeNumberBehind.2.1 1 = .ok (.getfield 15, 3) := by decide +kernel
theorem d_TownText_takeNumberBehind_4 : decode M_TownText_takeNumberBehind.2.1 4 = .ok (.getfield 44, 3) := by decide +kernel
theorem d_TownText_takeNumberBehind_7 : decode M_TownText_takeNumberBehind.2.1 7 = .ok (.iload_n 1, 1) := by decide +kernel
theorem d_TownText_takeNumberBehind_8 : decode M_TownText_takeNumberBehind.2.1 8 = .ok (.if_icmp .eq 6, 3) := by decide +kernel
theorem d_TownText_takeNumberBehind_11 : decode M_TownText_takeNumberBehind.2.1 11 = .ok (.iload 4, 2) := by decide +kernel
theorem d_TownText_takeNumberBehind_13 : decode M_TownText_takeNumberBehind.2.1 13 = .ok (.ireturn, 1) := by decide +kernel
theorem d_TownText_takeNumberBehind_14 : decode M_TownText_takeNumberBehind.2.1 14 = .ok (.aload_n 0, 1) := by decide +kernel
theorem d_TownText_takeNumberBehind_15 : decode M_TownText_takeNumberBehind.2.1 15 = .ok (.getfield 15, 3) := by decide +kernel
theorem d_TownText_takeNumberBehind_18 : decode M_TownText_takeNumberBehind.2.1 18 = .ok (.invokevirtual 63, 3) := by decide +kernel
theorem d_TownText_takeNumberBehind_21 : decode M_TownText_takeNumberBehind.2.1 21 = .ok (.aload_n 0, 1) := by decide +kernel
theorem d_TownText_takeNumberBehind_22 : decode M_TownText_takeNumberBehind.2.1 22 = .ok (.getfield 15, 3) := by decide +kernel
theorem d_TownText_takeNumberBehind_25 : decode M_TownText_takeNumberBehind.2.1 25 = .ok (.iload_n 2, 1) := by decide +kernel
theorem d_TownText_takeNumberBehind_26 : decode M_TownText_takeNumberBehind.2.1 26 = .ok (.iload_n 3, 1) := by decide +kernel
theorem d_TownText_takeNumberBehind_27 : decode M_TownText_takeNumberBehind.2.1 27 = .ok (.invokevirtual 66, 3) := by decide +kernel
theorem d_TownText_takeNumberBehind_30 : decode M_TownText_takeNumberBehind.2.1 30 = .ok (.ifCond .eq 13, 3) := by decide +kernel
theorem d_TownText_takeNumberBehind_33 : decode M_TownText_takeNumberBehind.2.1 33 = .ok (.aload_n 0, 1) := by decide +kernel
theorem d_TownText_takeNumberBehind_34 : decode M_TownText_takeNumberBehind.2.1 34 = .ok (.getfield 15, 3) := by decide +kernel
theorem d_TownText_takeNumberBehind_37 : decode M_TownText_takeNumberBehind.2.1 37 = .ok (.getfield 70, 3) := by decide +kernel
theorem d_TownText_takeNumberBehind_40 : decode M_TownText_takeNumberBehind.2.1 40 = .ok (.goto 4, 3) := by decide +kernel
theorem d_TownText_takeNumberBehind_43 : decode M_TownText_takeNumberBehind.2.1 43 = .ok (.iconst (-1), 1) := by decide +kernel
theorem d_TownText_takeNumberBehind_44 : decode M_TownText_takeNumberBehind.2.1 44 = .ok (.ireturn, 1) := by decide +kernel
theorem d_TownText_takeLeg_0 : decode M_TownText_takeLeg.2.1 0 = .ok (.aload_n 0, 1) := by decide +kernel
theorem d_TownText_takeLeg_1 : decode M_TownText_takeLeg.2.1 1 = .ok (.getfield 19, 3) := by decide +kernel
theorem d_TownText_takeLeg_4 : decode M_TownText_takeLeg.2.1 4 = .ok (.getfield 105, 3) := by decide +kernel
theorem d_TownText_takeLeg_7 : decode M_TownText_takeLeg.2.1 7 = .ok (.bipush 12, 2) := by decide +kernel
theorem d_TownText_takeLeg_9 : decode M_TownText_takeLeg.2.1 9 = .ok (.if_icmp .lt 13, 3) := by decide +kernel
theorem d_TownText_takeLeg_12 : decode M_TownText_takeLeg.2.1 12 = .ok (.aload_n 0, 1) := by decide +kernel
theorem d_TownText_takeLeg_13 : decode M_TownText_takeLeg.2.1 13 = .ok (.getfield 15, 3) := by decide +kernel
theorem d_TownText_takeLeg_16 : decode M_TownText_takeLeg.2.1 16 = .ok (.bipush 6, 2) := by decide +kernel
theorem d_TownText_takeLeg_18 : decode M_TownText_takeLeg.2.1 18 = .ok (.invokevirtual 60, 3) := by decide +kernel
theorem d_TownText_takeLeg_21 : decode M_TownText_takeLeg.2.1 21 = .ok (.ireturn, 1) := by decide +kernel
theorem d_TownText_takeLeg_22 : decode M_TownText_takeLeg.2.1 22 = .ok (.aload_n 0, 1) := by decide +kernel
theorem d_TownText_takeLeg_23 : decode M_TownText_takeLeg.2.1 23 = .ok (.getfield 15, 3) := by decide +kernel
theorem d_TownText_takeLeg_26 : decode M_TownText_takeLeg.2.1 26 = .ok (.invokevirtual 63, 3) := by decide +kernel
theorem d_TownText_takeLeg_29 : decode M_TownText_takeLeg.2.1 29 = .ok (.aload_n 0, 1) := by decide +kernel
theorem d_TownText_takeLeg_30 : decode M_TownText_takeLeg.2.1 30 = .ok (.invokevirtual 108, 3) := by decide +kernel
theorem d_TownText_takeLeg_33 : decode M_TownText_takeLeg.2.1 33 = .ok (.istore_n 1, 1) := by decide +kernel
theorem d_TownText_takeLeg_34 : decode M_TownText_takeLeg.2.1 34 = .ok (.iload_n 1, 1) := by decide +kernel
theorem d_TownText_takeLeg_35 : decode M_TownText_takeLeg.2.1 35 = .ok (.iconst (-1), 1) := by decide +kernel
theorem d_TownText_takeLeg_36 : decode M_TownText_takeLeg.2.1 36 = .ok (.if_icmp .ne 5, 3) := by decide +kernel
theorem d_TownText_takeLeg_39 : decode M_TownText_takeLeg.2.1 39 = .ok (.iconst 0, 1) := by decide +kernel
theorem d_TownText_takeLeg_40 : decode M_TownText_takeLeg.2.1 40 = .ok (.ireturn, 1) := by decide +kernel
theorem d_TownText_takeLeg_41 : decode M_TownText_takeLeg.2.1 41 = .ok (.aload_n 0, 1) := by decide +kernel
theorem d_TownText_takeLeg_42 : decode M_TownText_takeLeg.2.1 42 = .ok (.iconst (-1), 1) := by decide +kernel
theorem d_TownText_takeLeg_43 : decode M_TownText_takeLeg.2.1 43 = .ok (.invokevirtual 112, 3) := by decide +kernel
theorem d_TownText_takeLeg_46 : decode M_TownText_takeLeg.2.1 46 = .ok (.istore_n 2, 1) := by decide +kernel
theorem d_TownText_takeLeg_47 : decode M_TownText_takeLeg.2.1 47 = .ok (.iload_n 2, 1) := by decide +kernel
theorem d_TownText_takeLeg_48 : decode M_TownText_takeLeg.2.1 48 = .ok (.iconst (-1), 1) := by decide +kernel
theorem d_TownText_takeLeg_49 : decode M_TownText_takeLeg.2.1 49 = .ok (.if_icmp .ne 5, 3) := by decide +kernel
theorem d_TownText_takeLeg_52 : decode M_TownText_takeLeg.2.1 52 = .ok (.iconst 0, 1) := by decide +kernel
theorem d_TownText_takeLeg_53 : decode M_TownText_takeLeg.2.1 53 = .ok (.ireturn, 1) := by decide +kernel
theorem d_TownText_takeLeg_54 : decode M_TownText_takeLeg.2.1 54 = .ok (.aload_n 0, 1) := by decide +kernel
theorem d_TownText_takeLeg_55 : decode M_TownText_takeLeg.2.1 55 = .ok (.iload_n 2, 1) := by decide +kernel
theorem d_TownText_takeLeg_56 : decode M_TownText_takeLeg.2.1 56 = .ok (.invokevirtual 112, 3) := by decide +kernel
theorem d_TownText_takeLeg_59 : decode M_TownText_takeLeg.2.1 59 = .ok (.istore_n 3, 1) := by decide +kernel
theorem d_TownText_takeLeg_60 : decode M_TownText_takeLeg.2.1 60 = .ok (.iload_n 3, 1) := by decide +kernel
theorem d_TownText_takeLeg_61 : decode M_TownText_takeLeg.2.1 61 = .ok (.iconst (-1), 1) := by decide +kernel
theorem d_TownText_takeLeg_62 : decode M_TownText_takeLeg.2.1 62 = .ok (.if_icmp .ne 5, 3) := by decide +kernel
theorem d_TownText_takeLeg_65 : decode M_TownText_takeLeg.2.1 65 = .ok (.iconst 0, 1) := by decide +kernel
theorem d_TownText_takeLeg_66 : decode M_TownText_takeLeg.2.1 66 = .ok (.ireturn, 1) := by decide +kernel
theorem d_TownText_takeLeg_67 : decode M_TownText_takeLeg.2.1 67 = .ok (.aload_n 0, 1) := by decide +kernel
theorem d_TownText_takeLeg_68 : decode M_TownText_takeLeg.2.1 68 = .ok (.getfield 19, 3) := by decide +kernel
theorem d_TownText_takeLeg_71 : decode M_TownText_takeLeg.2.1 71 = .ok (.iload_n 1, 1) := by decide +kernel
theorem d_TownText_takeLeg_72 : decode M_TownText_takeLeg.2.1 72 = .ok (.iload_n 2, 1) := by decide +kernel
theorem d_TownText_takeLeg_73 : decode M_TownText_takeLeg.2.1 73 = .ok (.iload_n 3, 1) := by decide +kernel
theorem d_TownText_takeLeg_74 : decode M_TownText_takeLeg.2.1 74 = .ok (.invokevirtual 116, 3) := by decide +kernel
theorem d_TownText_takeLeg_77 : decode M_TownText_takeLeg.2.1 77 = .ok (.istore 4, 2) := by decide +kernel
theorem d_TownText_takeLeg_79 : decode M_TownText_takeLeg.2.1 79 = .ok (.aload_n 0, 1) := by decide +kernel
theorem d_TownText_takeLeg_80 : decode M_TownText_takeLeg.2.1 80 = .ok (.aload_n 0, 1) := by decide +kernel
theorem d_TownText_takeLeg_81 : decode M_TownText_takeLeg.2.1 81 = .ok (.getfield 19, 3) := by decide +kernel
theorem d_TownText_takeLeg_84 : decode M_TownText_takeLeg.2.1 84 = .ok (.getfield 120, 3) := by decide +kernel
theorem d_TownText_takeLeg_87 : decode M_TownText_takeLeg.2.1 87 = .ok (.iload 4, 2) := by decide +kernel
theorem d_TownText_takeLeg_89 : decode M_TownText_takeLeg.2.1 89 = .ok (.bipush 7, 2) := by decide +kernel
theorem d_TownText_takeLeg_91 : decode M_TownText_takeLeg.2.1 91 = .ok (.bipush 8, 2) := by decide +kernel
theorem d_TownText_takeLeg_93 : decode M_TownText_takeLeg.2.1 93 = .ok (.invokevirtual 124, 3) := by decide +kernel
theorem d_TownText_takeLeg_96 : decode M_TownText_takeLeg.2.1 96 = .ok (.ifCond .eq 27, 3) := by decide +kernel
theorem d_TownText_takeLeg_99 : decode M_TownText_takeLeg.2.1 99 = .ok (.aload_n 0, 1) := by decide +kernel
theorem d_TownText_takeLeg_100 : decode M_TownText_takeLeg.2.1 100 = .ok (.aload_n 0, 1) := by decide +kernel
theorem d_TownText_takeLeg_101 : decode M_TownText_takeLeg.2.1 101 = .ok (.getfield 19, 3) := by decide +kernel
theorem d_TownText_takeLeg_104 : decode M_TownText_takeLeg.2.1 104 = .ok (.getfield 128, 3) := by decide +kernel
theorem d_TownText_takeLeg_107 : decode M_TownText_takeLeg.2.1 107 = .ok (.iload 4, 2) := by decide +kernel
theorem d_TownText_takeLeg_109 : decode M_TownText_takeLeg.2.1 109 = .ok (.bipush 9, 2) := by decide +kernel
theorem d_TownText_takeLeg_111 : decode M_TownText_takeLeg.2.1 111 = .ok (.bipush 10, 2) := by decide +kernel
theorem d_TownText_takeLeg_113 : decode M_TownText_takeLeg.2.1 113 = .ok (.invokevirtual 124, 3) := by decide +kernel
theorem d_TownText_takeLeg_116 : decode M_TownText_takeLeg.2.1 116 = .ok (.ifCond .eq 7, 3) := by decide +kernel
theorem d_TownText_takeLeg_119 : decode M_TownText_takeLeg.2.1 119 = .ok (.iconst 1, 1) := by decide +kernel
theorem d_TownText_takeLeg_120 : decode M_TownText_takeLeg.2.1 120 = .ok (.goto 4, 3) := by decide +kernel
theorem d_TownText_takeLeg_123 : decode M_TownText_takeLeg.2.1 123 = .ok (.iconst 0, 1) := by decide +kernel
theorem d_TownText_takeLeg_124 : decode M_TownText_takeLeg.2.1 124 = .ok (.ireturn, 1) := by decide +kernel
theorem d_TownText_takePaces_0 : decode M_TownText_takePaces.2.1 0 = .ok (.aload_n 0, 1) := by decide +kernel
theorem d_TownText_takePaces_1 : decode M_TownText_takePaces.2.1 1 = .ok (.getfield 15, 3) := by decide +kernel
theorem d_TownText_takePaces_4 : decode M_TownText_takePaces.2.1 4 = .ok (.getfield 44, 3) := by decide +kernel
theorem d_TownText_takePaces_7 : decode M_TownText_takePaces.2.1 7 = .ok (.iload_n 3, 1) := by decide +kernel
theorem d_TownText_takePaces_8 : decode M_TownText_takePaces.2.1 8 = .ok (.if_icmp .eq 23, 3) := by decide +kernel
theorem d_TownText_takePaces_11 : decode M_TownText_takePaces.2.1 11 = .ok (.aload_n 0, 1) := by decide +kernel
theorem d_TownText_takePaces_12 : decode M_TownText_takePaces.2.1 12 = .ok (.getfield 15, 3) := by decide +kernel
theorem d_TownText_takePaces_15 : decode M_TownText_takePaces.2.1 15 = .ok (.getfield 44, 3) := by decide +kernel
theorem d_TownText_takePaces_18 : decode M_TownText_takePaces.2.1 18 = .ok (.iload 4, 2) := by decide +kernel
theorem d_TownText_takePaces_20 : decode M_TownText_takePaces.2.1 20 = .ok (.if_icmp .eq 11, 3) := by decide +kernel
theorem d_TownText_takePaces_23 : decode M_TownText_takePaces.2.1 23 = .ok (.aload_n 0, 1) := by decide +kernel
theorem d_TownText_takePaces_24 : decode M_TownText_takePaces.2.1 24 = .ok (.getfield 15, 3) := by decide +kernel
theorem d_TownText_takePaces_27 : decode M_TownText_takePaces.2.1 27 = .ok (.invokevirtual 41, 3) := by decide +kernel
theorem d_TownText_takePaces_30 : decode M_TownText_takePaces.2.1 30 = .ok (.ireturn, 1) := by decide +kernel
theorem d_TownText_takePaces_31 : decode M_TownText_takePaces.2.1 31 = .ok (.aload_n 0, 1) := by decide +kernel
theorem d_TownText_takePaces_32 : decode M_TownText_takePaces.2.1 32 = .ok (.getfield 15, 3) := by decide +kernel
theorem d_TownText_takePaces_35 : decode M_TownText_takePaces.2.1 35 = .ok (.getfield 44, 3) := by decide +kernel
theorem d_TownText_takePaces_38 : decode M_TownText_takePaces.2.1 38 = .ok (.iload 4, 2) := by decide +kernel
theorem d_TownText_takePaces_40 : decode M_TownText_takePaces.2.1 40 = .ok (.if_icmp .ne 7, 3) := by decide +kernel
theorem d_TownText_takePaces_43 : decode M_TownText_takePaces.2.1 43 = .ok (.iconst 1, 1) := by decide +kernel
theorem d_TownText_takePaces_44 : decode M_TownText_takePaces.2.1 44 = .ok (.goto 4, 3) := by decide +kernel
theorem d_TownText_takePaces_47 : decode M_TownText_takePaces.2.1 47 = .ok (.iconst 0, 1) := by decide +kernel
theorem d_TownText_takePaces_48 : decode M_TownText_takePaces.2.1 48 = .ok (.istore 5, 2) := by decide +kernel
theorem d_TownText_takePaces_50 : decode M_TownText_takePaces.2.1 50 = .ok (.aload_n 0, 1) := by decide +kernel
theorem d_TownText_takePaces_51 : decode M_TownText_takePaces.2.1 51 = .ok (.getfield 15, 3) := by decide +kernel
theorem d_TownText_takePaces_54 : decode M_TownText_takePaces.2.1 54 = .ok (.invokevirtual 63, 3) := by decide +kernel
theorem d_TownText_takePaces_57 : decode M_TownText_takePaces.2.1 57 = .ok (.aload_n 0, 1) := by decide +kernel
theorem d_TownText_takePaces_58 : decode M_TownText_takePaces.2.1 58 = .ok (.getfield 15, 3) := by decide +kernel
theorem d_TownText_takePaces_61 : decode M_TownText_takePaces.2.1 61 = .ok (.iconst 0, 1) := by decide +kernel
theorem d_TownText_takePaces_62 : decode M_TownText_takePaces.2.1 62 = .ok (.bipush 99, 2) := by decide +kernel
theorem d_TownText_takePaces_64 : decode M_TownText_takePaces.2.1 64 = .ok (.invokevirtual 66, 3) := by decide +kernel
theorem d_TownText_takePaces_67 : decode M_TownText_takePaces.2.1 67 = .ok (.ifCond .ne 5, 3) := by decide +kernel
theorem d_TownText_takePaces_70 : decode M_TownText_takePaces.2.1 70 = .ok (.iconst 0, 1) := by decide +kernel
theorem d_TownText_takePaces_71 : decode M_TownText_takePaces.2.1 71 = .ok (.ireturn, 1) := by decide +kernel
theorem d_TownText_takePaces_72 : decode M_TownText_takePaces.2.1 72 = .ok (.iload_n 2, 1) := by decide +kernel
theorem d_TownText_takePaces_73 : decode M_TownText_takePaces.2.1 73 = .ok (.aload_n 1, 1) := by decide +kernel
theorem d_TownText_takePaces_74 : decode M_TownText_takePaces.2.1 74 = .ok (.arraylength, 1) := by decide +kernel
theorem d_TownText_takePaces_75 : decode M_TownText_takePaces.2.1 75 = .ok (.invokestatic 131, 3) := by decide +kernel
theorem d_TownText_takePaces_78 : decode M_TownText_takePaces.2.1 78 = .ok (.ifCond .eq 29, 3) := by decide +kernel
theorem d_TownText_takePaces_81 : decode M_TownText_takePaces.2.1 81 = .ok (.aload_n 1, 1) := by decide +kernel
theorem d_TownText_takePaces_82 : decode M_TownText_takePaces.2.1 82 = .ok (.iload_n 2, 1) := by decide +kernel
theorem d_TownText_takePaces_83 : decode M_TownText_takePaces.2.1 83 = .ok (.iload 5, 2) := by decide +kernel
theorem d_TownText_takePaces_85 : decode M_TownText_takePaces.2.1 85 = .ok (.ifCond .eq 14, 3) := by decide +kernel
theorem d_TownText_takePaces_88 : decode M_TownText_takePaces.2.1 88 = .ok (.aload_n 0, 1) := by decide +kernel
theorem d_TownText_takePaces_89 : decode M_TownText_takePaces.2.1 89 = .ok (.getfield 15, 3) := by decide +kernel
theorem d_TownText_takePaces_92 : decode M_TownText_takePaces.2.1 92 = .ok (.getfield 70, 3) := by decide +kernel
theorem d_TownText_takePaces_95 : decode M_TownText_takePaces.2.1 95 = .ok (.ineg, 1) := by decide +kernel
theorem d_TownText_takePaces_96 : decode M_TownText_takePaces.2.1 96 = .ok (.goto 10, 3) := by decide +kernel
theorem d_TownText_takePaces_99 : decode M_TownText_takePaces.2.1 99 = .ok (.aload_n 0, 1) := by decide +kernel
theorem d_TownText_takePaces_100 : decode M_TownText_takePaces.2.1 100 = .ok (.getfield 15, 3) := by decide +kernel
theorem d_TownText_takePaces_103 : decode M_TownText_takePaces.2.1 103 = .ok (.getfield 70, 3) := by decide +kernel
theorem d_TownText_takePaces_106 : decode M_TownText_takePaces.2.1 106 = .ok (.iastore, 1) := by decide +kernel
theorem d_TownText_takePaces_107 : decode M_TownText_takePaces.2.1 107 = .ok (.iconst 1, 1) := by decide +kernel
theorem d_TownText_takePaces_108 : decode M_TownText_takePaces.2.1 108 = .ok (.ireturn, 1) := by decide +kernel
theorem d_TownText_takeNewName_0 : decode M_TownText_takeNewName.2.1 0 = .ok (.aload_n 0, 1) := by decide +kernel
theorem d_TownText_takeNewName_1 : decode M_TownText_takeNewName.2.1 1 = .ok (.getfield 15, 3) := by decide +kernel
theorem d_TownText_takeNewName_4 : decode M_TownText_takeNewName.2.1 4 = .ok (.invokevirtual 134, 3) := by decide +kernel
theorem d_TownText_takeNewName_7 : decode M_TownText_takeNewName.2.1 7 = .ok (.ifCond .ne 5, 3) := by decide +kernel
theorem d_TownText_takeNewName_10 : decode M_TownText_takeNewName.2.1 10 = .ok (.iconst 0, 1) := by decide +kernel
theorem d_TownText_takeNewName_11 : decode M_TownText_takeNewName.2.1 11 = .ok (.ireturn, 1) := by decide +kernel
theorem d_TownText_takeNewName_12 : decode M_TownText_takeNewName.2.1 12 = .ok (.aload_n 0, 1) := by decide +kernel
theorem d_TownText_takeNewName_13 : decode M_TownText_takeNewName.2.1 13 = .ok (.getfield 19, 3) := by decide +kernel
theorem d_TownText_takeNewName_16 : decode M_TownText_takeNewName.2.1 16 = .ok (.aload_n 0, 1) := by decide +kernel
theorem d_TownText_takeNewName_17 : decode M_TownText_takeNewName.2.1 17 = .ok (.getfield 15, 3) := by decide +kernel
theorem d_TownText_takeNewName_20 : decode M_TownText_takeNewName.2.1 20 = .ok (.getfield 82, 3) := by decide +kernel
theorem d_TownText_takeNewName_23 : decode M_TownText_takeNewName.2.1 23 = .ok (.invokevirtual 137, 3) := by decide +kernel
theorem d_TownText_takeNewName_26 : decode M_TownText_takeNewName.2.1 26 = .ok (.iconst (-1), 1) := by decide +kernel
theorem d_TownText_takeNewName_27 : decode M_TownText_takeNewName.2.1 27 = .ok (.if_icmp .ne 21, 3) := by decide +kernel
theorem d_TownText_takeNewName_30 : decode M_TownText_takeNewName.2.1 30 = .ok (.aload_n 0, 1) := by decide +kernel
theorem d_TownText_takeNewName_31 : decode M_TownText_takeNewName.2.1 31 = .ok (.getfield 19, 3) := by decide +kernel
theorem d_TownText_takeNewName_34 : decode M_TownText_takeNewName.2.1 34 = .ok (.aload_n 0, 1) := by decide +kernel
theorem d_TownText_takeNewName_35 : decode M_TownText_takeNewName.2.1 35 = .ok (.getfield 15, 3) := by decide +kernel
theorem d_TownText_takeNewName_38 : decode M_TownText_takeNewName.2.1 38 = .ok (.getfield 82, 3) := by decide +kernel
theorem d_TownText_takeNewName_41 : decode M_TownText_takeNewName.2.1 41 = .ok (.invokevirtual 140, 3) := by decide +kernel
theorem d_TownText_takeNewName_44 : decode M_TownText_takeNewName.2.1 44 = .ok (.iconst (-1), 1) := by decide +kernel
theorem d_TownText_takeNewName_45 : decode M_TownText_takeNewName.2.1 45 = .ok (.if_icmp .eq 12, 3) := by decide +kernel
theorem d_TownText_takeNewName_48 : decode M_TownText_takeNewName.2.1 48 = .ok (.aload_n 0, 1) := by decide +kernel
theorem d_TownText_takeNewName_49 : decode M_TownText_takeNewName.2.1 49 = .ok (.getfield 15, 3) := by decide +kernel
theorem d_TownText_takeNewName_52 : decode M_TownText_takeNewName.2.1 52 = .ok (.iconst 3, 1) := by decide +kernel
theorem d_TownText_takeNewName_53 : decode M_TownText_takeNewName.2.1 53 = .ok (.invokevirtual 60, 3) := by decide +kernel
theorem d_TownText_takeNewName_56 : decode M_TownText_takeNewName.2.1 56 = .ok (.ireturn, 1) := by decide +kernel
theorem d_TownText_takeNewName_57 : decode M_TownText_takeNewName.2.1 57 = .ok (.aload_n 0, 1) := by decide +kernel
theorem d_TownText_takeNewName_58 : decode M_TownText_takeNewName.2.1 58 = .ok (.getfield 15, 3) := by decide +kernel
theorem d_TownText_takeNewName_61 : decode M_TownText_takeNewName.2.1 61 = .ok (.invokevirtual 63, 3) := by decide +kernel
theorem d_TownText_takeNewName_64 : decode M_TownText_takeNewName.2.1 64 = .ok (.iconst 1, 1) := by decide +kernel
theorem d_TownText_takeNewName_65 : decode M_TownText_takeNewName.2.1 65 = .ok (.ireturn, 1) := by decide +kernel
theorem d_TownText_takeKnownWalker_0 : decode M_TownText_takeKnownWalker.2.1 0 = .ok (.aload_n 0, 1) := by decide +kernel
theorem d_TownText_takeKnownWalker_1 : decode M_TownText_takeKnownWalker.2.1 1 = .ok (.getfield 15, 3) := by decide +kernel
theorem d_TownText_takeKnownWalker_4 : decode M_TownText_takeKnownWalker.2.1 4 = .ok (.invokevirtual 134, 3) := by decide +kernel
theorem d_TownText_takeKnownWalker_7 : decode M_TownText_takeKnownWalker.2.1 7 = .ok (.ifCond .ne 5, 3) := by decide +kernel
theorem d_TownText_takeKnownWalker_10 : decode M_TownText_takeKnownWalker.2.1 10 = .ok (.iconst (-1), 1) := by decide +kernel
theorem d_TownText_takeKnownWalker_11 : decode M_TownText_takeKnownWalker.2.1 11 = .ok (.ireturn, 1) := by decide +kernel
theorem d_TownText_takeKnownWalker_12 : decode M_TownText_takeKnownWalker.2.1 12 = .ok (.aload_n 0, 1) := by decide +kernel
theorem d_TownText_takeKnownWalker_13 : decode M_TownText_takeKnownWalker.2.1 13 = .ok (.getfield 19, 3) := by decide +kernel
theorem d_TownText_takeKnownWalker_16 : decode M_TownText_takeKnownWalker.2.1 16 = .ok (.aload_n 0, 1) := by decide +kernel
theorem d_TownText_takeKnownWalker_17 : decode M_TownText_takeKnownWalker.2.1 17 = .ok (.getfield 15, 3) := by decide +kernel
theorem d_TownText_takeKnownWalker_20 : decode M_TownText_takeKnownWalker.2.1 20 = .ok (.getfield 82, 3) := by decide +kernel
theorem d_TownText_takeKnownWalker_23 : decode M_TownText_takeKnownWalker.2.1 23 = .ok (.invokevirtual 140, 3) := by decide +kernel
theorem d_TownText_takeKnownWalker_26 : decode M_TownText_takeKnownWalker.2.1 26 = .ok (.istore_n 1, 1) := by decide +kernel
theorem d_TownText_takeKnownWalker_27 : decode M_TownText_takeKnownWalker.2.1 27 = .ok (.iload_n 1, 1) := by decide +kernel
theorem d_TownText_takeKnownWalker_28 : decode M_TownText_takeKnownWalker.2.1 28 = .ok (.iconst (-1), 1) := by decide +kernel
theorem d_TownText_takeKnownWalker_29 : decode M_TownText_takeKnownWalker.2.1 29 = .ok (.if_icmp .ne 14, 3) := by decide +kernel
theorem d_TownText_takeKnownWalker_32 : decode M_TownText_takeKnownWalker.2.1 32 = .ok (.aload_n 0, 1) := by decide +kernel
theorem d_TownText_takeKnownWalker_33 : decode M_TownText_takeKnownWalker.2.1 33 = .ok (.getfield 15, 3) := by decide +kernel
theorem d_TownText_takeKnownWalker_36 : decode M_TownText_takeKnownWalker.2.1 36 = .ok (.iconst 3, 1) := by decide +kernel
theorem d_TownText_takeKnownWalker_37 : decode M_TownText_takeKnownWalker.2.1 37 = .ok (.invokevirtual 60, 3) := by decide +kernel
theorem d_TownText_takeKnownWalker_40 : decode M_TownText_takeKnownWalker.2.1 40 = .ok (.pop, 1) := by decide +kernel
theorem d_TownText_takeKnownWalker_41 : decode M_TownText_takeKnownWalker.2.1 41 = .ok (.iconst (-1), 1) := by decide +kernel
theorem d_TownText_takeKnownWalker_42 : decode M_TownText_takeKnownWalker.2.1 42 = .ok (.ireturn, 1) := by decide +kernel
theorem d_TownText_takeKnownWalker_43 : decode M_TownText_takeKnownWalker.2.1 43 = .ok (.aload_n 0, 1) := by decide +kernel
theorem d_TownText_takeKnownWalker_44 : decode M_TownText_takeKnownWalker.2.1 44 = .ok (.getfield 15, 3) := by decide +kernel
theorem d_TownText_takeKnownWalker_47 : decode M_TownText_takeKnownWalker.2.1 47 = .ok (.invokevirtual 63, 3) := by decide +kernel
theorem d_TownText_takeKnownWalker_50 : decode M_TownText_takeKnownWalker.2.1 50 = .ok (.iload_n 1, 1) := by decide +kernel
theorem d_TownText_takeKnownWalker_51 : decode M_TownText_takeKnownWalker.2.1 51 = .ok (.ireturn, 1) := by decide +kernel
theorem d_TownText_takeKnownPlace_0 : decode M_TownText_takeKnownPlace.2.1 0 = .ok (.aload_n 0, 1) := by decide +kernel
theorem d_TownText_takeKnownPlace_1 : decode M_TownText_takeKnownPlace.2.1 1 = .ok (.getfield 15, 3) := by decide +kernel
theorem d_TownText_takeKnownPlace_4 : decode M_TownText_takeKnownPlace.2.1 4 = .ok (.invokevirtual 134, 3) := by decide +kernel
theorem d_TownText_takeKnownPlace_7 : decode M_TownText_takeKnownPlace.2.1 7 = .ok (.ifCond .ne 5, 3) := by decide +kernel
theorem d_TownText_takeKnownPlace_10 : decode M_TownText_takeKnownPlace.2.1 10 = .ok (.iconst (-1), 1) := by decide +kernel
theorem d_TownText_takeKnownPlace_11 : decode M_TownText_takeKnownPlace.2.1 11 = .ok (.ireturn, 1) := by decide +kernel
theorem d_TownText_takeKnownPlace_12 : decode M_TownText_takeKnownPlace.2.1 12 = .ok (.aload_n 0, 1) := by decide +kernel
theorem d_TownText_takeKnownPlace_13 : decode M_TownText_takeKnownPlace.2.1 13 = .ok (.getfield 19, 3) := by decide +kernel
theorem d_TownText_takeKnownPlace_16 : decode M_TownText_takeKnownPlace.2.1 16 = .ok (.aload_n 0, 1) := by decide +kernel
theorem d_TownText_takeKnownPlace_17 : decode M_TownText_takeKnownPlace.2.1 17 = .ok (.getfield 15, 3) := by decide +kernel
theorem d_TownText_takeKnownPlace_20 : decode M_TownText_takeKnownPlace.2.1 20 = .ok (.getfield 82, 3) := by decide +kernel
theorem d_TownText_takeKnownPlace_23 : decode M_TownText_takeKnownPlace.2.1 23 = .ok (.invokevirtual 137, 3) := by decide +kernel
theorem d_TownText_takeKnownPlace_26 : decode M_TownText_takeKnownPlace.2.1 26 = .ok (.istore_n 2, 1) := by decide +kernel
theorem d_TownText_takeKnownPlace_27 : decode M_TownText_takeKnownPlace.2.1 27 = .ok (.iload_n 2, 1) := by decide +kernel
theorem d_TownText_takeKnownPlace_28 : decode M_TownText_takeKnownPlace.2.1 28 = .ok (.iconst (-1), 1) := by decide +kernel
theorem d_TownText_takeKnownPlace_29 : decode M_TownText_takeKnownPlace.2.1 29 = .ok (.if_icmp .eq 8, 3) := by decide +kernel
theorem d_TownText_takeKnownPlace_32 : decode M_TownText_takeKnownPlace.2.1 32 = .ok (.iload_n 2, 1) := by decide +kernel
theorem d_TownText_takeKnownPlace_33 : decode M_TownText_takeKnownPlace.2.1 33 = .ok (.iload_n 1, 1) := by decide +kernel
theorem d_TownText_takeKnownPlace_34 : decode M_TownText_takeKnownPlace.2.1 34 = .ok (.if_icmp .ne 23, 3) := by decide +kernel
theorem d_TownText_takeKnownPlace_37 : decode M_TownText_takeKnownPlace.2.1 37 = .ok (.aload_n 0, 1) := by decide +kernel
theorem d_TownText_takeKnownPlace_38 : decode M_TownText_takeKnownPlace.2.1 38 = .ok (.getfield 15, 3) := by decide +kernel
theorem d_TownText_takeKnownPlace_41 : decode M_TownText_takeKnownPlace.2.1 41 = .ok (.iload_n 2, 1) := by decide +kernel
theorem d_TownText_takeKnownPlace_42 : decode M_TownText_takeKnownPlace.2.1 42 = .ok (.iconst (-1), 1) := by decide +kernel
theorem d_TownText_takeKnownPlace_43 : decode M_TownText_takeKnownPlace.2.1 43 = .ok (.if_icmp .ne 7, 3) := by decide +kernel
theorem d_TownText_takeKnownPlace_46 : decode M_TownText_takeKnownPlace.2.1 46 = .ok (.iconst 3, 1) := by decide +kernel
theorem d_TownText_takeKnownPlace_47 : decode M_TownText_takeKnownPlace.2.1 47 = .ok (.goto 4, 3) := by decide +kernel
theorem d_TownText_takeKnownPlace_50 : decode M_TownText_takeKnownPlace.2.1 50 = .ok (.iconst 5, 1) := by decide +kernel
theorem d_TownText_takeKnownPlace_51 : decode M_TownText_takeKnownPlace.2.1 51 = .ok (.invokevirtual 60, 3) := by decide +kernel
theorem d_TownText_takeKnownPlace_54 : decode M_TownText_takeKnownPlace.2.1 54 = .ok (.pop, 1) := by decide +kernel
theorem d_TownText_takeKnownPlace_55 : decode M_TownText_takeKnownPlace.2.1 55 = .ok (.iconst (-1), 1) := by decide +kernel
theorem d_TownText_takeKnownPlace_56 : decode M_TownText_takeKnownPlace.2.1 56 = .ok (.ireturn, 1) := by decide +kernel
theorem d_TownText_takeKnownPlace_57 : decode M_TownText_takeKnownPlace.2.1 57 = .ok (.aload_n 0, 1) := by decide +kernel
theorem d_TownText_takeKnownPlace_58 : decode M_TownText_takeKnownPlace.2.1 58 = .ok (.getfield 15, 3) := by decide +kernel
theorem d_TownText_takeKnownPlace_61 : decode M_TownText_takeKnownPlace.2.1 61 = .ok (.invokevirtual 63, 3) := by decide +kernel
theorem d_TownText_takeKnownPlace_64 : decode M_TownText_takeKnownPlace.2.1 64 = .ok (.iload_n 2, 1) := by decide +kernel
theorem d_TownText_takeKnownPlace_65 : decode M_TownText_takeKnownPlace.2.1 65 = .ok (.ireturn, 1) := by decide +kernel
theorem d_Tray_init_0 : decode M_Tray_init.2.1 0 = .ok (.aload_n 0, 1) := by decide +kernel
theorem d_Tray_init_1 : decode M_Tray_init.2.1 1 = .ok (.invokespecial 3, 3) := by decide +kernel
theorem d_Tray_init_4 : decode M_Tray_init.2.1 4 = .ok (.aload_n 0, 1) := by decide +kernel
theorem d_Tray_init_5 : decode M_Tray_init.2.1 5 = .ok (.bipush 60, 2) := by decide +kernel
theorem d_Tray_init_7 : decode M_Tray_init.2.1 7 = .ok (.newarray .long, 2) := by decide +kernel
theorem d_Tray_init_9 : decode M_Tray_init.2.1 9 = .ok (.putfield 9, 3) := by decide +kernel
theorem d_Tray_init_12 : decode M_Tray_init.2.1 12 = .ok (.aload_n 0, 1) := by decide +kernel
theorem d_Tray_init_13 : decode M_Tray_init.2.1 13 = .ok (.iconst 0, 1) := by decide +kernel
theorem d_Tray_init_14 : decode M_Tray_init.2.1 14 = .ok (.putfield 15, 3) := by decide +kernel
theorem d_Tray_init_17 : decode M_Tray_init.2.1 17 = .ok (.aload_n 0, 1) := by decide +kernel
theorem d_Tray_init_18 : decode M_Tray_init.2.1 18 = .ok (.iconst 0, 1) := by decide +kernel
theorem d_Tray_init_19 : decode M_Tray_init.2.1 19 = .ok (.putfield 19, 3) := by decide +kernel
theorem d_Tray_init_22 : decode M_Tray_init.2.1 22 = .ok (.aload_n 0, 1) := by decide +kernel
theorem d_Tray_init_23 : decode M_Tray_init.2.1 23 = .ok (.iconst 0, 1) := by decide +kernel
theorem d_Tray_init_24 : decode M_Tray_init.2.1 24 = .ok (.putfield 23, 3) := by decide +kernel
theorem d_Tray_init_27 : decode M_Tray_init.2.1 27 = .ok (.return_, 1) := by decide +kernel
theorem d_Tray_begin_0 : decode M_Tray_begin.2.1 0 = .ok (.aload_n 0, 1) := by decide +kernel
theorem d_Tray_begin_1 : decode M_Tray_begin.2.1 1 = .ok (.getfield 9, 3) := by decide +kernel
theorem d_Tray_begin_4 : decode M_Tray_begin.2.1 4 = .ok (.lconst 0, 1) := by decide +kernel
theorem d_Tray_begin_5 : decode M_Tray_begin.2.1 5 = .ok (.invokestatic 26, 3) := by decide +kernel
theorem d_Tray_begin_8 : decode M_Tray_begin.2.1 8 = .ok (.aload_n 0, 1) := by decide +kernel
theorem d_Tray_begin_9 : decode M_Tray_begin.2.1 9 = .ok (.iconst 1, 1) := by decide +kernel
theorem d_Tray_begin_10 : decode M_Tray_begin.2.1 10 = .ok (.putfield 15, 3) := by decide +kernel
theorem d_Tray_begin_13 : decode M_Tray_begin.2.1 13 = .ok (.aload_n 0, 1) := by decide +kernel
theorem d_Tray_begin_14 : decode M_Tray_begin.2.1 14 = .ok (.iload_n 1, 1) := by decide +kernel
theorem d_Tray_begin_15 : decode M_Tray_begin.2.1 15 = .ok (.putfield 19, 3) := by decide +kernel
theorem d_Tray_begin_18 : decode M_Tray_begin.2.1 18 = .ok (.aload_n 0, 1) := by decide +kernel
theorem d_Tray_begin_19 : decode M_Tray_begin.2.1 19 = .ok (.iload_n 2, 1) := by decide +kernel
theorem d_Tray_begin_20 : decode M_Tray_begin.2.1 20 = .ok (.putfield 23, 3) := by decide +kernel
theorem d_Tray_begin_23 : decode M_Tray_begin.2.1 23 = .ok (.return_, 1) := by decide +kernel
theorem d_Tray_holds_0 : decode M_Tray_holds.2.1 0 = .ok (.iload_n 1, 1) := by decide +kernel
theorem d_Tray_holds_1 : decode M_Tray_holds.2.1 1 = .ok (.i2l, 1) := by decide +kernel
theorem d_Tray_holds_2 : decode M_Tray_holds.2.1 2 = .ok (.iload_n 2, 1) := by decide +kernel
theorem d_Tray_holds_3 : decode M_Tray_holds.2.1 3 = .ok (.i2l, 1) := by decide +kernel
theorem d_Tray_holds_4 : decode M_Tray_holds.2.1 4 = .ok (.ladd, 1) := by decide +kernel
theorem d_Tray_holds_5 : decode M_Tray_holds.2.1 5 = .ok (.aload_n 0, 1) := by decide +kernel
theorem d_Tray_holds_6 : decode M_Tray_holds.2.1 6 = .ok (.getfield 23, 3) := by decide +kernel
theorem d_Tray_holds_9 : decode M_Tray_holds.2.1 9 = .ok (.i2l, 1) := by decide +kernel
theorem d_Tray_holds_10 : decode M_Tray_holds.2.1 10 = .ok (.lcmp, 1) := by decide +kernel
theorem d_Tray_holds_11 : decode M_Tray_holds.2.1 11 = .ok (.ifCond .gt 7, 3) := by decide +kernel
theorem d_Tray_holds_14 : decode M_Tray_holds.2.1 14 = .ok (.iconst 1, 1) := by decide +kernel
theorem d_Tray_holds_15 : decode M_Tray_holds.2.1 15 = .ok (.goto 4, 3) := by decide +kernel
theorem d_Tray_holds_18 : decode M_Tray_holds.2.1 18 = .ok (.iconst 0, 1) := by decide +kernel
theorem d_Tray_holds_19 : decode M_Tray_holds.2.1 19 = .ok (.ireturn, 1) := by decide +kernel
theorem d_Tray_put_0 : decode M_Tray_put.2.1 0 = .ok (.iload_n 1, 1) := by decide +kernel
theorem d_Tray_put_1 : decode M_Tray_put.2.1 1 = .ok (.aload_n 0, 1) := by decide +kernel
theorem d_Tray_put_2 : decode M_Tray_put.2.1 2 = .ok (.getfield 23, 3) := by decide +kernel
theorem d_Tray_put_5 : decode M_Tray_put.2.1 5 = .ok (.invokestatic 32, 3) := by decide +kernel
theorem d_Tray_put_8 : decode M_Tray_put.2.1 8 = .ok (.ifCond .eq 14, 3) := by decide +kernel
theorem d_Tray_put_11 : decode M_Tray_put.2.1 11 = .ok (.aload_n 0, 1) := by decide +kernel
theorem d_Tray_put_12 : decode M_Tray_put.2.1 12 = .ok (.getfield 9, 3) := by decide +kernel
theorem d_Tray_put_15 : decode M_Tray_put.2.1 15 = .ok (.iload_n 1, 1) := by decide +kernel
theorem d_Tray_put_16 : decode M_Tray_put.2.1 16 = .ok (.aload_n 0, 1) := by decide +kernel
theorem d_Tray_put_17 : decode M_Tray_put.2.1 17 = .ok (.lload_n 2, 1) := by decide +kernel
theorem d_Tray_put_18 : decode M_Tray_put.2.1 18 = .ok (.invokevirtual 36, 3) := by decide +kernel
theorem d_Tray_put_21 : decode M_Tray_put.2.1 21 = .ok (.lastore, 1) := by decide +kernel
theorem d_Tray_put_22 : decode M_Tray_put.2.1 22 = .ok (.return_, 1) := by decide +kernel
theorem d_Tray_cut_0 : decode M_Tray_cut.2.1 0 = .ok (.aload_n 0, 1) := by decide +kernel
theorem d_Tray_cut_1 : decode M_Tray_cut.2.1 1 = .ok (.getfield 19, 3) := by decide +kernel
theorem d_Tray_cut_4 : decode M_Tray_cut.2.1 4 = .ok (.tableswitch 42 0 2 #[28, 33, 38], 28) := by decide +kernel
theorem d_Tray_cut_32 : decode M_Tray_cut.2.1 32 = .ok (.lload_n 1, 1) := by decide +kernel
theorem d_Tray_cut_33 : decode M_Tray_cut.2.1 33 = .ok (.l2i, 1) := by decide +kernel
theorem d_Tray_cut_34 : decode M_Tray_cut.2.1 34 = .ok (.i2b, 1) := by decide +kernel
theorem d_Tray_cut_35 : decode M_Tray_cut.2.1 35 = .ok (.i2l, 1) := by decide +kernel
theorem d_Tray_cut_36 : decode M_Tray_cut.2.1 36 = .ok (.lreturn, 1) := by decide +kernel
theorem d_Tray_cut_37 : decode M_Tray_cut.2.1 37 = .ok (.lload_n 1, 1) := by decide +kernel
theorem d_Tray_cut_38 : decode M_Tray_cut.2.1 38 = .ok (.l2i, 1) := by decide +kernel
theorem d_Tray_cut_39 : decode M_Tray_cut.2.1 39 = .ok (.i2s, 1) := by decide +kernel
theorem d_Tray_cut_40 : decode M_Tray_cut.2.1 40 = .ok (.i2l, 1) := by decide +kernel
theorem d_Tray_cut_41 : decode M_Tray_cut.2.1 41 = .ok (.lreturn, 1) := by decide +kernel
theorem d_Tray_cut_42 : decode M_Tray_cut.2.1 42 = .ok (.lload_n 1, 1) := by decide +kernel
theorem d_Tray_cut_43 : decode M_Tray_cut.2.1 43 = .ok (.l2i, 1) := by decide +kernel
theorem d_Tray_cut_44 : decode M_Tray_cut.2.1 44 = .ok (.i2l, 1) := by decide +kernel
theorem d_Tray_cut_45 : decode M_Tray_cut.2.1 45 = .ok (.lreturn, 1) := by decide +kernel
theorem d_Tray_cut_46 : decode M_Tray_cut.2.1 46 = .ok (.lload_n 1, 1) := by decide +kernel
theorem d_Tray_cut_47 : decode M_Tray_cut.2.1 47 = .ok (.lreturn, 1) := by decide +kernel
theorem d_PM_init_0 : decode M_PM_init.2.1 0 = .ok (.aload_n 0, 1) := by decide +kernel
theorem d_PM_init_1 : decode M_PM_init.2.1 1 = .ok (.invokespecial 1, 3) := by decide +kernel
theorem d_PM_init_4 : decode M_PM_init.2.1 4 = .ok (.aload_n 0, 1) := by decide +kernel
theorem d_PM_init_5 : decode M_PM_init.2.1 5 = .ok (.iconst 4, 1) := by decide +kernel
theorem d_PM_init_6 : decode M_PM_init.2.1 6 = .ok (.anewarray 9, 3) := by decide +kernel
theorem d_PM_init_9 : decode M_PM_init.2.1 9 = .ok (.putfield 11, 3) := by decide +kernel
theorem d_PM_init_12 : decode M_PM_init.2.1 12 = .ok (.aload_n 0, 1) := by decide +kernel
theorem d_PM_init_13 : decode M_PM_init.2.1 13 = .ok (.new 15, 3) := by decide +kernel
theorem d_PM_init_16 : decode M_PM_init.2.1 16 = .ok (.dup, 1) := by decide +kernel
theorem d_PM_init_17 : decode M_PM_init.2.1 17 = .ok (.invokespecial 17, 3) := by decide +kernel
theorem d_PM_init_20 : decode M_PM_init.2.1 20 = .ok (.putfield 18, 3) := by decide +kernel
theorem d_PM_init_23 : decode M_PM_init.2.1 23 = .ok (.aload_n 0, 1) := by decide +kernel
theorem d_PM_init_24 : decode M_PM_init.2.1 24 = .ok (.new 22, 3) := by decide +kernel
theorem d_PM_init_27 : decode M_PM_init.2.1 27 = .ok (.dup, 1) := by decide +kernel
theorem d_PM_init_28 : decode M_PM_init.2.1 28 = .ok (.invokespecial 24, 3) := by decide +kernel
theorem d_PM_init_31 : decode M_PM_init.2.1 31 = .ok (.putfield 25, 3) := by decide +kernel
theorem d_PM_init_34 : decode M_PM_init.2.1 34 = .ok (.aload_n 0, 1) := by decide +kernel
theorem d_PM_init_35 : decode M_PM_init.2.1 35 = .ok (.new 22, 3) := by decide +kernel
theorem d_PM_init_38 : decode M_PM_init.2.1 38 = .ok (.dup, 1) := by decide +kernel
theorem d_PM_init_39 : decode M_PM_init.2.1 39 = .ok (.invokespecial 24, 3) := by decide +kernel
theorem d_PM_init_42 : decode M_PM_init.2.1 42 = .ok (.putfield 29, 3) := by decide +kernel
theorem d_PM_init_45 : decode M_PM_init.2.1 45 = .ok (.aload_n 0, 1) := by decide +kernel
theorem d_PM_init_46 : decode M_PM_init.2.1 46 = .ok (.new 32, 3) := by decide +kernel
theorem d_PM_init_49 : decode M_PM_init.2.1 49 = .ok (.dup, 1) := by decide +kernel
theorem d_PM_init_50 : decode M_PM_init.2.1 50 = .ok (.invokespecial 34, 3) := by decide +kernel
theorem d_PM_init_53 : decode M_PM_init.2.1 53 = .ok (.putfield 35, 3) := by decide +kernel
theorem d_PM_init_56 : decode M_PM_init.2.1 56 = .ok (.aload_n 0, 1) := by decide +kernel
theorem d_PM_init_57 : decode M_PM_init.2.1 57 = .ok (.new 32, 3) := by decide +kernel
theorem d_PM_init_60 : decode M_PM_init.2.1 60 = .ok (.dup, 1) := by decide +kernel
theorem d_PM_init_61 : decode M_PM_init.2.1 61 = .ok (.invokespecial 34, 3) := by decide +kernel
theorem d_PM_init_64 : decode M_PM_init.2.1 64 = .ok (.putfield 39, 3) := by decide +kernel
theorem d_PM_init_67 : decode M_PM_init.2.1 67 = .ok (.aload_n 0, 1) := by decide +kernel
theorem d_PM_init_68 : decode M_PM_init.2.1 68 = .ok (.iconst 3, 1) := by decide +kernel
theorem d_PM_init_69 : decode M_PM_init.2.1 69 = .ok (.anewarray 22, 3) := by decide +kernel
theorem d_PM_init_72 : decode M_PM_init.2.1 72 = .ok (.putfield 42, 3) := by decide +kernel
theorem d_PM_init_75 : decode M_PM_init.2.1 75 = .ok (.aload_n 0, 1) := by decide +kernel
theorem d_PM_init_76 : decode M_PM_init.2.1 76 = .ok (.iconst 3, 1) := by decide +kernel
theorem d_PM_init_77 : decode M_PM_init.2.1 77 = .ok (.anewarray 32, 3) := by decide +kernel
theorem d_PM_init_80 : decode M_PM_init.2.1 80 = .ok (.putfield 46, 3) := by decide +kernel
theorem d_PM_init_83 : decode M_PM_init.2.1 83 = .ok (.aload_n 0, 1) := by decide +kernel
theorem d_PM_init_84 : decode M_PM_init.2.1 84 = .ok (.new 50, 3) := by decide +kernel
theorem d_PM_init_87 : decode M_PM_init.2.1 87 = .ok (.dup, 1) := by decide +kernel
theorem d_PM_init_88 : decode M_PM_init.2.1 88 = .ok (.invokespecial 52, 3) := by decide +kernel
theorem d_PM_init_91 : decode M_PM_init.2.1 91 = .ok (.putfield 53, 3) := by decide +kernel
theorem d_PM_init_94 : decode M_PM_init.2.1 94 = .ok (.aload_n 0, 1) := by decide +kernel
theorem d_PM_init_95 : decode M_PM_init.2.1 95 = .ok (.new 57, 3) := by decide +kernel
theorem d_PM_init_98 : decode M_PM_init.2.1 98 = .ok (.dup, 1) := by decide +kernel
theorem d_PM_init_99 : decode M_PM_init.2.1 99 = .ok (.invokespecial 59, 3) := by decide +kernel
theorem d_PM_init_102 : decode M_PM_init.2.1 102 = .ok (.putfield 60, 3) := by decide +kernel
theorem d_PM_init_105 : decode M_PM_init.2.1 105 = .ok (.aload_n 0, 1) := by decide +kernel
theorem d_PM_init_106 : decode M_PM_init.2.1 106 = .ok (.new 64, 3) := by decide +kernel
theorem d_PM_init_109 : decode M_PM_init.2.1 109 = .ok (.dup, 1) := by decide +kernel
theorem d_PM_init_110 : decode M_PM_init.2.1 110 = .ok (.invokespecial 66, 3) := by decide +kernel
theorem d_PM_init_113 : decode M_PM_init.2.1 113 = .ok (.putfield 67, 3) := by decide +kernel
theorem d_PM_init_116 : decode M_PM_init.2.1 116 = .ok (.aload_n 0, 1) := by decide +kernel
theorem d_PM_init_117 : decode M_PM_init.2.1 117 = .ok (.new 71, 3) := by decide +kernel
theorem d_PM_init_120 : decode M_PM_init.2.1 120 = .ok (.dup, 1) := by decide +kernel
theorem d_PM_init_121 : decode M_PM_init.2.1 121 = .ok (.invokespecial 73, 3) := by decide +kernel
theorem d_PM_init_124 : decode M_PM_init.2.1 124 = .ok (.putfield 74, 3) := by decide +kernel
theorem d_PM_init_127 : decode M_PM_init.2.1 127 = .ok (.aload_n 0, 1) := by decide +kernel
theorem d_PM_init_128 : decode M_PM_init.2.1 128 = .ok (.new 78, 3) := by decide +kernel
theorem d_PM_init_131 : decode M_PM_init.2.1 131 = .ok (.dup, 1) := by decide +kernel
theorem d_PM_init_132 : decode M_PM_init.2.1 132 = .ok (.invokespecial 80, 3) := by decide +kernel
theorem d_PM_init_135 : decode M_PM_init.2.1 135 = .ok (.putfield 81, 3) := by decide +kernel
theorem d_PM_init_138 : decode M_PM_init.2.1 138 = .ok (.aload_n 0, 1) := by decide +kernel
theorem d_PM_init_139 : decode M_PM_init.2.1 139 = .ok (.iconst 5, 1) := by decide +kernel
theorem d_PM_init_140 : decode M_PM_init.2.1 140 = .ok (.newarray .int, 2) := by decide +kernel
theorem d_PM_init_142 : decode M_PM_init.2.1 142 = .ok (.putfield 85, 3) := by decide +kernel
theorem d_PM_init_145 : decode M_PM_init.2.1 145 = .ok (.aload_n 0, 1) := by decide +kernel
theorem d_PM_init_146 : decode M_PM_init.2.1 146 = .ok (.iconst 0, 1) := by decide +kernel
theorem d_PM_init_147 : decode M_PM_init.2.1 147 = .ok (.putfield 89, 3) := by decide +kernel
theorem d_PM_init_150 : decode M_PM_init.2.1 150 = .ok (.aload_n 0, 1) := by decide +kernel
theorem d_PM_init_151 : decode M_PM_init.2.1 151 = .ok (.iconst 0, 1) := by decide +kernel
theorem d_PM_init_152 : decode M_PM_init.2.1 152 = .ok (.putfield 93, 3) := by decide +kernel
theorem d_PM_init_155 : decode M_PM_init.2.1 155 = .ok (.aload_n 0, 1) := by decide +kernel
theorem d_PM_init_156 : decode M_PM_init.2.1 156 = .ok (.iconst 0, 1) := by decide +kernel
theorem d_PM_init_157 : decode M_PM_init.2.1 157 = .ok (.putfield 97, 3) := by decide +kernel
theorem d_PM_init_160 : decode M_PM_init.2.1 160 = .ok (.aload_n 0, 1) := by decide +kernel
theorem d_PM_init_161 : decode M_PM_init.2.1 161 = .ok (.lconst 0, 1) := by decide +kernel
theorem d_PM_init_162 : decode M_PM_init.2.1 162 = .ok (.putfield 100, 3) := by decide +kernel
theorem d_PM_init_165 : decode M_PM_init.2.1 165 = .ok (.aload_n 0, 1) := by decide +kernel
theorem d_PM_init_166 : decode M_PM_init.2.1 166 = .ok (.lconst 1, 1) := by decide +kernel
theorem d_PM_init_167 : decode M_PM_init.2.1 167 = .ok (.putfield 104, 3) := by decide +kernel
theorem d_PM_init_170 : decode M_PM_init.2.1 170 = .ok (.iconst 0, 1) := by decide +kernel
theorem d_PM_init_171 : decode M_PM_init.2.1 171 = .ok (.istore_n 1, 1) := by decide +kernel
theorem d_PM_init_172 : decode M_PM_init.2.1 172 = .ok (.iload_n 1, 1) := by decide +kernel
theorem d_PM_init_173 : decode M_PM_init.2.1 173 = .ok (.iconst 4, 1) := by decide +kernel
theorem d_PM_init_174 : decode M_PM_init.2.1 174 = .ok (.if_icmp .ge 22, 3) := by decide +kernel
theorem d_PM_init_177 : decode M_PM_init.2.1 177 = .ok (.aload_n 0, 1) := by decide +kernel
theorem d_PM_init_178 : decode M_PM_init.2.1 178 = .ok (.getfield 11, 3) := by decide +kernel
theorem d_PM_init_181 : decode M_PM_init.2.1 181 = .ok (.iload_n 1, 1) := by decide +kernel
theorem d_PM_init_182 : decode M_PM_init.2.1 182 = .ok (.new 9, 3) := by decide +kernel
theorem d_PM_init_185 : decode M_PM_init.2.1 185 = .ok (.dup, 1) := by decide +kernel
theorem d_PM_init_186 : decode M_PM_init.2.1 186 = .ok (.invokespecial 107, 3) := by decide +kernel
theorem d_PM_init_189 : decode M_PM_init.2.1 189 = .ok (.aastore, 1) := by decide +kernel
theorem d_PM_init_190 : decode M_PM_init.2.1 190 = .ok (.iinc 1 1, 3) := by decide +kernel
theorem d_PM_init_193 : decode M_PM_init.2.1 193 = .ok (.goto (-21), 3) := by decide +kernel
theorem d_PM_init_196 : decode M_PM_init.2.1 196 = .ok (.iconst 0, 1) := by decide +kernel
theorem d_PM_init_197 : decode M_PM_init.2.1 197 = .ok (.istore_n 1, 1) := by decide +kernel
theorem d_PM_init_198 : decode M_PM_init.2.1 198 = .ok (.iload_n 1, 1) := by decide +kernel
theorem d_PM_init_199 : decode M_PM_init.2.1 199 = .ok (.iconst 3, 1) := by decide +kernel
theorem d_PM_init_200 : decode M_PM_init.2.1 200 = .ok (.if_icmp .ge 35, 3) := by decide +kernel
theorem d_PM_init_203 : decode M_PM_init.2.1 203 = .ok (.aload_n 0, 1) := by decide +kernel
theorem d_PM_init_204 : decode M_PM_init.2.1 204 = .ok (.getfield 42, 3) := by decide +kernel
theorem d_PM_init_207 : decode M_PM_init.2.1 207 = .ok (.iload_n 1, 1) := by decide +kernel
theorem d_PM_init_208 : decode M_PM_init.2.1 208 = .ok (.new 22, 3) := by decide +kernel
theorem d_PM_init_211 : decode M_PM_init.2.1 211 = .ok (.dup, 1) := by decide +kernel
theorem d_PM_init_212 : decode M_PM_init.2.1 212 = .ok (.invokespecial 24, 3) := by decide +kernel
theorem d_PM_init_215 : decode M_PM_init.2.1 215 = .ok (.aastore, 1) := by decide +kernel
theorem d_PM_init_216 : decode M_PM_init.2.1 216 = .ok (.aload_n 0, 1) := by decide +kernel
theorem d_PM_init_217 : decode M_PM_init.2.1 217 = .ok (.getfield 46, 3) := by decide +kernel
theorem d_PM_init_220 : decode M_PM_init.2.1 220 = .ok (.iload_n 1, 1) := by decide +kernel
theorem d_PM_init_221 : decode M_PM_init.2.1 221 = .ok (.new 32, 3) := by decide +kernel
theorem d_PM_init_224 : decode M_PM_init.2.1 224 = .ok (.dup, 1) := by decide +kernel
theorem d_PM_init_225 : decode M_PM_init.2.1 225 = .ok (.invokespecial 34, 3) := by decide +kernel
theorem d_PM_init_228 : decode M_PM_init.2.1 228 = .ok (.aastore, 1) := by decide +kernel
theorem d_PM_init_229 : decode M_PM_init.2.1 229 = .ok (.iinc 1 1, 3) := by decide +kernel
theorem d_PM_init_232 : decode M_PM_init.2.1 232 = .ok (.goto (-34), 3) := by decide +kernel
theorem d_PM_init_235 : decode M_PM_init.2.1 235 = .ok (.return_, 1) := by decide +kernel
theorem d_PM_status_0 : decode M_PM_status.2.1 0 = .ok (.aload_n 0, 1) := by decide +kernel
theorem d_PM_status_1 : decode M_PM_status.2.1 1 = .ok (.getfield 97, 3) := by decide +kernel
theorem d_PM_status_4 : decode M_PM_status.2.1 4 = .ok (.ireturn, 1) := by decide +kernel
theorem d_PM_top_0 : decode M_PM_top.2.1 0 = .ok (.aload_n 0, 1) := by decide +kernel
theorem d_PM_top_1 : decode M_PM_top.2.1 1 = .ok (.getfield 100, 3) := by decide +kernel
theorem d_PM_top_4 : decode M_PM_top.2.1 4 = .ok (.lreturn, 1) := by decide +kernel
theorem d_PM_bottom_0 : decode M_PM_bottom.2.1 0 = .ok (.aload_n 0, 1) := by decide +kernel
theorem d_PM_bottom_1 : decode M_PM_bottom.2.1 1 = .ok (.getfield 104, 3) := by decide +kernel
theorem d_PM_bottom_4 : decode M_PM_bottom.2.1 4 = .ok (.lreturn, 1) := by decide +kernel
theorem d_PM_tray_0 : decode M_PM_tray.2.1 0 = .ok (.iload_n 1, 1) := by decide +kernel
theorem d_PM_tray_1 : decode M_PM_tray.2.1 1 = .ok (.iconst 4, 1) := by decide +kernel
theorem d_PM_tray_2 : decode M_PM_tray.2.1 2 = .ok (.invokestatic 108, 3) := by decide +kernel
theorem d_PM_tray_5 : decode M_PM_tray.2.1 5 = .ok (.ifCond .eq 20, 3) := by decide +kernel
theorem d_PM_tray_8 : decode M_PM_tray.2.1 8 = .ok (.iload_n 2, 1) := by decide +kernel
theorem d_PM_tray_9 : decode M_PM_tray.2.1 9 = .ok (.iconst 4, 1) := by decide +kernel
theorem d_PM_tray_10 : decode M_PM_tray.2.1 10 = .ok (.invokestatic 108, 3) := by decide +kernel
theorem d_PM_tray_13 : decode M_PM_tray.2.1 13 = .ok (.ifCond .eq 12, 3) := by decide +kernel
theorem d_PM_tray_16 : decode M_PM_tray.2.1 16 = .ok (.iload_n 3, 1) := by decide +kernel
theorem d_PM_tray_17 : decode M_PM_tray.2.1 17 = .ok (.bipush 61, 2) := by decide +kernel
theorem d_PM_tray_19 : decode M_PM_tray.2.1 19 = .ok (.invokestatic 108, 3) := by decide +kernel
theorem d_PM_tray_22 : decode M_PM_tray.2.1 22 = .ok (.ifCond .ne 9, 3) := by decide +kernel
theorem d_PM_tray_25 : decode M_PM_tray.2.1 25 = .ok (.aload_n 0, 1) := by decide +kernel
theorem d_PM_tray_26 : decode M_PM_tray.2.1 26 = .ok (.iconst 1, 1) := by decide +kernel
theorem d_PM_tray_27 : decode M_PM_tray.2.1 27 = .ok (.invokevirtual 112, 3) := by decide +kernel
theorem d_PM_tray_30 : decode M_PM_tray.2.1 30 = .ok (.ireturn, 1) := by decide +kernel
theorem d_PM_tray_31 : decode M_PM_tray.2.1 31 = .ok (.aload_n 0, 1) := by decide +kernel
theorem d_PM_tray_32 : decode M_PM_tray.2.1 32 = .ok (.getfield 11, 3) := by decide +kernel
theorem d_PM_tray_35 : decode M_PM_tray.2.1 35 = .ok (.iload_n 1, 1) := by decide +kernel
theorem d_PM_tray_36 : decode M_PM_tray.2.1 36 = .ok (.aaload, 1) := by decide +kernel
theorem d_PM_tray_37 : decode M_PM_tray.2.1 37 = .ok (.iload_n 2, 1) := by decide +kernel
theorem d_PM_tray_38 : decode M_PM_tray.2.1 38 = .ok (.iload_n 3, 1) := by decide +kernel
theorem d_PM_tray_39 : decode M_PM_tray.2.1 39 = .ok (.invokevirtual 116, 3) := by decide +kernel
theorem d_PM_tray_42 : decode M_PM_tray.2.1 42 = .ok (.aload_n 0, 1) := by decide +kernel
theorem d_PM_tray_43 : decode M_PM_tray.2.1 43 = .ok (.invokevirtual 120, 3) := by decide +kernel
theorem d_PM_tray_46 : decode M_PM_tray.2.1 46 = .ok (.ireturn, 1) := by decide +kernel
theorem d_PM_write_0 : decode M_PM_write.2.1 0 = .ok (.aload_n 0, 1) := by decide +kernel
theorem d_PM_write_1 : decode M_PM_write.2.1 1 = .ok (.iload_n 1, 1) := by decide +kernel
theorem d_PM_write_2 : decode M_PM_write.2.1 2 = .ok (.iload_n 2, 1) := by decide +kernel
theorem d_PM_write_3 : decode M_PM_write.2.1 3 = .ok (.invokevirtual 124, 3) := by decide +kernel
theorem d_PM_write_6 : decode M_PM_write.2.1 6 = .ok (.istore 5, 2) := by decide +kernel
theorem d_PM_write_8 : decode M_PM_write.2.1 8 = .ok (.iload 5, 2) := by decide +kernel
theorem d_PM_write_10 : decode M_PM_write.2.1 10 = .ok (.ifCond .eq 10, 3) := by decide +kernel
theorem d_PM_write_13 : decode M_PM_write.2.1 13 = .ok (.aload_n 0, 1) := by decide +kernel
theorem d_PM_write_14 : decode M_PM_write.2.1 14 = .ok (.iload 5, 2) := by decide +kernel
theorem d_PM_write_16 : decode M_PM_write.2.1 16 = .ok (.invokevirtual 112, 3) := by decide +kernel
theorem d_PM_write_19 : decode M_PM_write.2.1 19 = .ok (.ireturn, 1) := by decide +kernel
theorem d_PM_write_20 : decode M_PM_write.2.1 20 = .ok (.aload_n 0, 1) := by decide +kernel
theorem d_PM_write_21 : decode M_PM_write.2.1 21 = .ok (.getfield 11, 3) := by decide +kernel
theorem d_PM_write_24 : decode M_PM_write.2.1 24 = .ok (.iload_n 1, 1) := by decide +kernel
theorem d_PM_write_25 : decode M_PM_write.2.1 25 = .ok (.aaload, 1) := by decide +kernel
theorem d_PM_write_26 : decode M_PM_write.2.1 26 = .ok (.iload_n 2, 1) := by decide +kernel
theorem d_PM_write_27 : decode M_PM_write.2.1 27 = .ok (.lload_n 3, 1) := by decide +kernel
theorem d_PM_write_28 : decode M_PM_write.2.1 28 = .ok (.invokevirtual 128, 3) := by decide +kernel
theorem d_PM_write_31 : decode M_PM_write.2.1 31 = .ok (.aload_n 0, 1) := by decide +kernel
theorem d_PM_write_32 : decode M_PM_write.2.1 32 = .ok (.invokevirtual 120, 3) := by decide +kernel
theorem d_PM_write_35 : decode M_PM_write.2.1 35 = .ok (.ireturn, 1) := by decide +kernel
theorem d_PM_read_0 : decode M_PM_read.2.1 0 = .ok (.aload_n 0, 1) := by decide +kernel
theorem d_PM_read_1 : decode M_PM_read.2.1 1 = .ok (.iload_n 1, 1) := by decide +kernel
theorem d_PM_read_2 : decode M_PM_read.2.1 2 = .ok (.iload_n 2, 1) := by decide +kernel
theorem d_PM_read_3 : decode M_PM_read.2.1 3 = .ok (.invokevirtual 124, 3) := by decide +kernel
theorem d_PM_read_6 : decode M_PM_read.2.1 6 = .ok (.istore_n 3, 1) := by decide +kernel
theorem d_PM_read_7 : decode M_PM_read.2.1 7 = .ok (.iload_n 3, 1) := by decide +kernel
theorem d_PM_read_8 : decode M_PM_read.2.1 8 = .ok (.ifCond .eq 10, 3) := by decide +kernel
theorem d_PM_read_11 : decode M_PM_read.2.1 11 = .ok (.aload_n 0, 1) := by decide +kernel
theorem d_PM_read_12 : decode M_PM_read.2.1 12 = .ok (.iload_n 3, 1) := by decide +kernel
theorem d_PM_read_13 : decode M_PM_read.2.1 13 = .ok (.invokevirtual 132, 3) := by decide +kernel
theorem d_PM_read_16 : decode M_PM_read.2.1 16 = .ok (.i2l, 1) := by decide +kernel
theorem d_PM_read_17 : decode M_PM_read.2.1 17 = .ok (.lreturn, 1) := by decide +kernel
theorem d_PM_read_18 : decode M_PM_read.2.1 18 = .ok (.aload_n 0, 1) := by decide +kernel
theorem d_PM_read_19 : decode M_PM_read.2.1 19 = .ok (.iconst 0, 1) := by decide +kernel
theorem d_PM_read_20 : decode M_PM_read.2.1 20 = .ok (.putfield 97, 3) := by decide +kernel
theorem d_PM_read_23 : decode M_PM_read.2.1 23 = .ok (.aload_n 0, 1) := by decide +kernel
theorem d_PM_read_24 : decode M_PM_read.2.1 24 = .ok (.getfield 11, 3) := by decide +kernel
theorem d_PM_read_27 : decode M_PM_read.2.1 27 = .ok (.iload_n 1, 1) := by decide +kernel
theorem d_PM_read_28 : decode M_PM_read.2.1 28 = .ok (.aaload, 1) := by decide +kernel
theorem d_PM_read_29 : decode M_PM_read.2.1 29 = .ok (.getfield 136, 3) := by decide +kernel
theorem d_PM_read_32 : decode M_PM_read.2.1 32 = .ok (.iload_n 2, 1) := by decide +kernel
theorem d_PM_read_33 : decode M_PM_read.2.1 33 = .ok (.laload, 1) := by decide +kernel
theorem d_PM_read_34 : decode M_PM_read.2.1 34 = .ok (.lreturn, 1) := by decide +kernel
theorem d_PM_pour_0 : decode M_PM_pour.2.1 0 = .ok (.iload_n 1, 1) := by decide +kernel
theorem d_PM_pour_1 : decode M_PM_pour.2.1 1 = .ok (.iconst 4, 1) := by decide +kernel
theorem d_PM_pour_2 : decode M_PM_pour.2.1 2 = .ok (.invokestatic 108, 3) := by decide +kernel
theorem d_PM_pour_5 : decode M_PM_pour.2.1 5 = .ok (.ifCond .eq 25, 3) := by decide +kernel
theorem d_PM_pour_8 : decode M_PM_pour.2.1 8 = .ok (.iload_n 3, 1) := by decide +kernel
theorem d_PM_pour_9 : decode M_PM_pour.2.1 9 = .ok (.iconst 4, 1) := by decide +kernel
theorem d_PM_pour_10 : decode M_PM_pour.2.1 10 = .ok (.invokestatic 108, 3) := by decide +kernel
theorem d_PM_pour_13 : decode M_PM_pour.2.1 13 = .ok (.ifCond .eq 17, 3) := by decide +kernel
theorem d_PM_pour_16 : decode M_PM_pour.2.1 16 = .ok (.iload_n 2, 1) := by decide +kernel
theorem d_PM_pour_17 : decode M_PM_pour.2.1 17 = .ok (.ifCond .lt 13, 3) := by decide +kernel
theorem d_PM_pour_20 : decode M_PM_pour.2.1 20 = .ok (.iload 4, 2) := by decide +kernel
theorem d_PM_pour_22 : decode M_PM_pour.2.1 22 = .ok (.ifCond .lt 8, 3) := by decide +kernel
theorem d_PM_pour_25 : decode M_PM_pour.2.1 25 = .ok (.iload 5, 2) := by decide +kernel
theorem d_PM_pour_27 : decode M_PM_pour.2.1 27 = .ok (.ifCond .ge 9, 3) := by decide +kernel
theorem d_PM_pour_30 : decode M_PM_pour.2.1 30 = .ok (.aload_n 0, 1) := by decide +kernel
theorem d_PM_pour_31 : decode M_PM_pour.2.1 31 = .ok (.iconst 1, 1) := by decide +kernel
theorem d_PM_pour_32 : decode M_PM_pour.2.1 32 = .ok (.invokevirtual 112, 3) := by decide +kernel
theorem d_PM_pour_35 : decode M_PM_pour.2.1 35 = .ok (.ireturn, 1) := by decide +kernel
theorem d_PM_pour_36 : decode M_PM_pour.2.1 36 = .ok (.aload_n 0, 1) := by decide +kernel
theorem d_PM_pour_37 : decode M_PM_pour.2.1 37 = .ok (.getfield 11, 3) := by decide +kernel
theorem d_PM_pour_40 : decode M_PM_pour.2.1 40 = .ok (.iload_n 1, 1) := by decide +kernel
theorem d_PM_pour_41 : decode M_PM_pour.2.1 41 = .ok (.aaload, 1) := by decide +kernel
theorem d_PM_pour_42 : decode M_PM_pour.2.1 42 = .ok (.astore 6, 2) := by decide +kernel
theorem d_PM_pour_44 : decode M_PM_pour.2.1 44 = .ok (.aload_n 0, 1) := by decide +kernel
theorem d_PM_pour_45 : decode M_PM_pour.2.1 45 = .ok (.getfield 11, 3) := by decide +kernel
theorem d_PM_pour_48 : decode M_PM_pour.2.1 48 = .ok (.iload_n 3, 1) := by decide +kernel
theorem d_PM_pour_49 : decode M_PM_pour.2.1 49 = .ok (.aaload, 1) := by decide +kernel
theorem d_PM_pour_50 : decode M_PM_pour.2.1 50 = .ok (.astore 7, 2) := by decide +kernel
theorem d_PM_pour_52 : decode M_PM_pour.2.1 52 = .ok (.aload 6, 2) := by decide +kernel
theorem d_PM_pour_54 : decode M_PM_pour.2.1 54 = .ok (.getfield 140, 3) := by decide +kernel
theorem d_PM_pour_57 : decode M_PM_pour.2.1 57 = .ok (.ifCond .eq 11, 3) := by decide +kernel
theorem d_PM_pour_60 : decode M_PM_pour.2.1 60 = .ok (.aload 7, 2) := by decide +kernel
theorem d_PM_pour_62 : decode M_PM_pour.2.1 62 = .ok (.getfield 140, 3) := by decide +kernel
theorem d_PM_pour_65 : decode M_PM_pour.2.1 65 = .ok (.ifCond .ne 9, 3) := by decide +kernel
theorem d_PM_pour_68 : decode M_PM_pour.2.1 68 = .ok (.aload_n 0, 1) := by decide +kernel
theorem d_PM_pour_69 : decode M_PM_pour.2.1 69 = .ok (.iconst 2, 1) := by decide +kernel
theorem d_PM_pour_70 : decode M_PM_pour.2.1 70 = .ok (.invokevirtual 112, 3) := by decide +kernel
theorem d_PM_pour_73 : decode M_PM_pour.2.1 73 = .ok (.ireturn, 1) := by decide +kernel
theorem d_PM_pour_74 : decode M_PM_pour.2.1 74 = .ok (.aload 6, 2) := by decide +kernel
theorem d_PM_pour_76 : decode M_PM_pour.2.1 76 = .ok (.getfield 143, 3) := by decide +kernel
theorem d_PM_pour_79 : decode M_PM_pour.2.1 79 = .ok (.aload 7, 2) := by decide +kernel
theorem d_PM_pour_81 : decode M_PM_pour.2.1 81 = .ok (.getfield 143, 3) := by decide +kernel
theorem d_PM_pour_84 : decode M_PM_pour.2.1 84 = .ok (.if_icmp .eq 10, 3) := by decide +kernel
theorem d_PM_pour_87 : decode M_PM_pour.2.1 87 = .ok (.aload_n 0, 1) := by decide +kernel
theorem d_PM_pour_88 : decode M_PM_pour.2.1 88 = .ok (.bipush 8, 2) := by decide +kernel
theorem d_PM_pour_90 : decode M_PM_pour.2.1 90 = .ok (.invokevirtual 112, 3) := by decide +kernel
theorem d_PM_pour_93 : decode M_PM_pour.2.1 93 = .ok (.ireturn, 1) := by decide +kernel
theorem d_PM_pour_94 : decode M_PM_pour.2.1 94 = .ok (.aload 6, 2) := by decide +kernel
theorem d_PM_pour_96 : decode M_PM_pour.2.1 96 = .ok (.iload_n 2, 1) := by decide +kernel
theorem d_PM_pour_97 : decode M_PM_pour.2.1 97 = .ok (.iload 5, 2) := by decide +kernel
theorem d_PM_pour_99 : decode M_PM_pour.2.1 99 = .ok (.invokevirtual 146, 3) := by decide +kernel
theorem d_PM_pour_102 : decode M_PM_pour.2.1 102 = .ok (.ifCond .eq 15, 3) := by decide +kernel
theorem d_PM_pour_105 : decode M_PM_pour.2.1 105 = .ok (.aload 7, 2) := by decide +kernel
theorem d_PM_pour_107 : decode M_PM_pour.2.1 107 = .ok (.iload 4, 2) := by decide +kernel
theorem d_PM_pour_109 : decode M_PM_pour.2.1 109 = .ok (.iload 5, 2) := by decide +kernel
theorem d_PM_pour_111 : decode M_PM_pour.2.1 111 = .ok (.invokevirtual 146, 3) := by decide +kernel
theorem d_PM_pour_114 : decode M_PM_pour.2.1 114 = .ok (.ifCond .ne 9, 3) := by decide +kernel
theorem d_PM_pour_117 : decode M_PM_pour.2.1 117 = .ok (.aload_n 0, 1) := by decide +kernel
theorem d_PM_pour_118 : decode M_PM_pour.2.1 118 = .ok (.iconst 3, 1) := by decide +kernel
theorem d_PM_pour_119 : decode M_PM_pour.2.1 119 = .ok (.invokevirtual 112, 3) := by decide +kernel
theorem d_PM_pour_122 : decode M_PM_pour.2.1 122 = .ok (.ireturn, 1) := by decide +kernel
theorem d_PM_pour_123 : decode M_PM_pour.2.1 123 = .ok (.aload 6, 2) := by decide +kernel
theorem d_PM_pour_125 : decode M_PM_pour.2.1 125 = .ok (.getfield 136, 3) := by decide +kernel
theorem d_PM_pour_128 : decode M_PM_pour.2.1 128 = .ok (.iload_n 2, 1) := by decide +kernel
theorem d_PM_pour_129 : decode M_PM_pour.2.1 129 = .ok (.aload 7, 2) := by decide +kernel
theorem d_PM_pour_131 : decode M_PM_pour.2.1 131 = .ok (.getfield 136, 3) := by decide +kernel
theorem d_PM_pour_134 : decode M_PM_pour.2.1 134 = .ok (.iload 4, 2) := by decide +kernel
theorem d_PM_pour_136 : decode M_PM_pour.2.1 136 = .ok (.iload 5, 2) := by decide +kernel
theorem d_PM_pour_138 : decode M_PM_pour.2.1 138 = .ok (.invokestatic 149, 3) := by decide +kernel
theorem d_PM_pour_141 : decode M_PM_pour.2.1 141 = .ok (.aload_n 0, 1) := by decide +kernel
theorem d_PM_pour_142 : decode M_PM_pour.2.1 142 = .ok (.invokevirtual 120, 3) := by decide +kernel
theorem d_PM_pour_145 : decode M_PM_pour.2.1 145 = .ok (.ireturn, 1) := by decide +kernel
theorem d_PM_feed_0 : decode M_PM_feed.2.1 0 = .ok (.aload_n 0, 1) := by decide +kernel
theorem d_PM_feed_1 : decode M_PM_feed.2.1 1 = .ok (.getfield 18, 3) := by decide +kernel
theorem d_PM_feed_4 : decode M_PM_feed.2.1 4 = .ok (.getfield 155, 3) := by decide +kernel
theorem d_PM_feed_7 : decode M_PM_feed.2.1 7 = .ok (.bipush 20, 2) := by decide +kernel
theorem d_PM_feed_9 : decode M_PM_feed.2.1 9 = .ok (.iadd, 1) := by decide +kernel
theorem d_PM_feed_10 : decode M_PM_feed.2.1 10 = .ok (.sipush 900, 3) := by decide +kernel
theorem d_PM_feed_13 : decode M_PM_feed.2.1 13 = .ok (.if_icmp .le 5, 3) := by decide +kernel
theorem d_PM_feed_16 : decode M_PM_feed.2.1 16 = .ok (.iconst (-1), 1) := by decide +kernel
theorem d_PM_feed_17 : decode M_PM_feed.2.1 17 = .ok (.ireturn, 1) := by decide +kernel
theorem d_PM_feed_18 : decode M_PM_feed.2.1 18 = .ok (.aload_n 0, 1) := by decide +kernel
theorem d_PM_feed_19 : decode M_PM_feed.2.1 19 = .ok (.getfield 18, 3) := by decide +kernel
theorem d_PM_feed_22 : decode M_PM_feed.2.1 22 = .ok (.iload_n 1, 1) := by decide +kernel
theorem d_PM_feed_23 : decode M_PM_feed.2.1 23 = .ok (.invokevirtual 158, 3) := by decide +kernel
theorem d_PM_feed_26 : decode M_PM_feed.2.1 26 = .ok (.aload_n 0, 1) := by decide +kernel
theorem d_PM_feed_27 : decode M_PM_feed.2.1 27 = .ok (.getfield 18, 3) := by decide +kernel
theorem d_PM_feed_30 : decode M_PM_feed.2.1 30 = .ok (.iload_n 2, 1) := by decide +kernel
theorem d_PM_feed_31 : decode M_PM_feed.2.1 31 = .ok (.invokevirtual 158, 3) := by decide +kernel
theorem d_PM_feed_34 : decode M_PM_feed.2.1 34 = .ok (.aload_n 0, 1) := by decide +kernel
theorem d_PM_feed_35 : decode M_PM_feed.2.1 35 = .ok (.getfield 18, 3) := by decide +kernel
theorem d_PM_feed_38 : decode M_PM_feed.2.1 38 = .ok (.iload_n 3, 1) := by decide +kernel
theorem d_PM_feed_39 : decode M_PM_feed.2.1 39 = .ok (.invokevirtual 158, 3) := by decide +kernel
theorem d_PM_feed_42 : decode M_PM_feed.2.1 42 = .ok (.aload_n 0, 1) := by decide +kernel
theorem d_PM_feed_43 : decode M_PM_feed.2.1 43 = .ok (.getfield 18, 3) := by decide +kernel
theorem d_PM_feed_46 : decode M_PM_feed.2.1 46 = .ok (.iload 4, 2) := by decide +kernel
theorem d_PM_feed_48 : decode M_PM_feed.2.1 48 = .ok (.invokevirtual 158, 3) := by decide +kernel
theorem d_PM_feed_51 : decode M_PM_feed.2.1 51 = .ok (.aload_n 0, 1) := by decide +kernel
theorem d_PM_feed_52 : decode M_PM_feed.2.1 52 = .ok (.getfield 18, 3) := by decide +kernel
theorem d_PM_feed_55 : decode M_PM_feed.2.1 55 = .ok (.iload 5, 2) := by decide +kernel
theorem d_PM_feed_57 : decode M_PM_feed.2.1 57 = .ok (.invokevirtual 158, 3) := by decide +kernel
theorem d_PM_feed_60 : decode M_PM_feed.2.1 60 = .ok (.aload_n 0, 1) := by decide +kernel
theorem d_PM_feed_61 : decode M_PM_feed.2.1 61 = .ok (.getfield 18, 3) := by decide +kernel
theorem d_PM_feed_64 : decode M_PM_feed.2.1 64 = .ok (.getfield 155, 3) := by decide +kernel
theorem d_PM_feed_67 : decode M_PM_feed.2.1 67 = .ok (.ireturn, 1) := by decide +kernel
theorem d_PM_town_0 : decode M_PM_town.2.1 0 = .ok (.iload_n 1, 1) := by decide +kernel
theorem d_PM_town_1 : decode M_PM_town.2.1 1 = .ok (.ifCond .lt 14, 3) := by decide +kernel
theorem d_PM_town_4 : decode M_PM_town.2.1 4 = .ok (.iload_n 1, 1) := by decide +kernel
theorem d_PM_town_5 : decode M_PM_town.2.1 5 = .ok (.aload_n 0, 1) := by decide +kernel
theorem d_PM_town_6 : decode M_PM_town.2.1 6 = .ok (.getfield 18, 3) := by decide +kernel
theorem d_PM_town_9 : decode M_PM_town.2.1 9 = .ok (.getfield 155, 3) := by decide +kernel
theorem d_PM_town_12 : decode M_PM_town.2.1 12 = .ok (.if_icmp .le 9, 3) := by decide +kernel
theorem d_PM_town_15 : decode M_PM_town.2.1 15 = .ok (.aload_n 0, 1) := by decide +kernel
theorem d_PM_town_16 : decode M_PM_town.2.1 16 = .ok (.iconst 1, 1) := by decide +kernel
theorem d_PM_town_17 : decode M_PM_town.2.1 17 = .ok (.invokevirtual 132, 3) := by decide +kernel
theorem d_PM_town_20 : decode M_PM_town.2.1 20 = .ok (.ireturn, 1) := by decide +kernel
theorem d_PM_town_21 : decode M_PM_town.2.1 21 = .ok (.aload_n 0, 1) := by decide +kernel
theorem d_PM_town_22 : decode M_PM_town.2.1 22 = .ok (.getfield 18, 3) := by decide +kernel
theorem d_PM_town_25 : decode M_PM_town.2.1 25 = .ok (.iload_n 1, 1) := by decide +kernel
theorem d_PM_town_26 : decode M_PM_town.2.1 26 = .ok (.invokevirtual 162, 3) := by decide +kernel
theorem d_PM_town_29 : decode M_PM_town.2.1 29 = .ok (.new 164, 3) := by decide +kernel
theorem d_PM_town_32 : decode M_PM_town.2.1 32 = .ok (.dup, 1) := by decide +kernel
theorem d_PM_town_33 : decode M_PM_town.2.1 33 = .ok (.aload_n 0, 1) := by decide +kernel
theorem d_PM_town_34 : decode M_PM_town.2.1 34 = .ok (.getfield 18, 3) := by decide +kernel
theorem d_PM_town_37 : decode M_PM_town.2.1 37 = .ok (.aload_n 0, 1) := by decide +kernel
theorem d_PM_town_38 : decode M_PM_town.2.1 38 = .ok (.getfield 29, 3) := by decide +kernel
theorem d_PM_town_41 : decode M_PM_town.2.1 41 = .ok (.invokespecial 166, 3) := by decide +kernel
theorem d_PM_town_44 : decode M_PM_town.2.1 44 = .ok (.invokevirtual 169, 3) := by decide +kernel
theorem d_PM_town_47 : decode M_PM_town.2.1 47 = .ok (.ifCond .ne 10, 3) := by decide +kernel
theorem d_PM_town_50 : decode M_PM_town.2.1 50 = .ok (.aload_n 0, 1) := by decide +kernel
theorem d_PM_town_51 : decode M_PM_town.2.1 51 = .ok (.bipush 9, 2) := by decide +kernel
theorem d_PM_town_53 : decode M_PM_town.2.1 53 = .ok (.invokevirtual 132, 3) := by decide +kernel
theorem d_PM_town_56 : decode M_PM_town.2.1 56 = .ok (.ireturn, 1) := by decide +kernel
theorem d_PM_town_57 : decode M_PM_town.2.1 57 = .ok (.aload_n 0, 1) := by decide +kernel
theorem d_PM_town_58 : decode M_PM_town.2.1 58 = .ok (.getfield 25, 3) := by decide +kernel
theorem d_PM_town_61 : decode M_PM_town.2.1 61 = .ok (.aload_n 0, 1) := by decide +kernel
theorem d_PM_town_62 : decode M_PM_town.2.1 62 = .ok (.getfield 29, 3) := by decide +kernel
theorem d_PM_town_65 : decode M_PM_town.2.1 65 = .ok (.invokevirtual 172, 3) := by decide +kernel
theorem d_PM_town_68 : decode M_PM_town.2.1 68 = .ok (.aload_n 0, 1) := by decide +kernel
theorem d_PM_town_69 : decode M_PM_town.2.1 69 = .ok (.getfield 35, 3) := by decide +kernel
theorem d_PM_town_72 : decode M_PM_town.2.1 72 = .ok (.invokevirtual 176, 3) := by decide +kernel
theorem d_PM_town_75 : decode M_PM_town.2.1 75 = .ok (.aload_n 0, 1) := by decide +kernel
theorem d_PM_town_76 : decode M_PM_town.2.1 76 = .ok (.aload_n 0, 1) := by decide +kernel
theorem d_PM_town_77 : decode M_PM_town.2.1 77 = .ok (.getfield 25, 3) := by decide +kernel
theorem d_PM_town_80 : decode M_PM_town.2.1 80 = .ok (.getfield 179, 3) := by decide +kernel
theorem d_PM_town_83 : decode M_PM_town.2.1 83 = .ok (.invokevirtual 182, 3) := by decide +kernel
theorem d_PM_town_86 : decode M_PM_town.2.1 86 = .ok (.ireturn, 1) := by decide +kernel
theorem d_PM_days_0 : decode M_PM_days.2.1 0 = .ok (.iload_n 1, 1) := by decide +kernel
theorem d_PM_days_1 : decode M_PM_days.2.1 1 = .ok (.ifCond .lt 21, 3) := by decide +kernel
theorem d_PM_days_4 : decode M_PM_days.2.1 4 = .ok (.iload_n 1, 1) := by decide +kernel
theorem d_PM_days_5 : decode M_PM_days.2.1 5 = .ok (.aload_n 0, 1) := by decide +kernel
theorem d_PM_days_6 : decode M_PM_days.2.1 6 = .ok (.getfield 18, 3) := by decide +kernel
theorem d_PM_days_9 : decode M_PM_days.2.1 9 = .ok (.getfield 155, 3) := by decide +kernel
theorem d_PM_days_12 : decode M_PM_days.2.1 12 = .ok (.if_icmp .gt 10, 3) := by decide +kernel
theorem d_PM_days_15 : decode M_PM_days.2.1 15 = .ok (.iload_n 1, 1) := by decide +kernel
theorem d_PM_days_16 : decode M_PM_days.2.1 16 = .ok (.sipush 300, 3) := by decide +kernel
theorem d_PM_days_19 : decode M_PM_days.2.1 19 = .ok (.if_icmp .le 9, 3) := by decide +kernel
theorem d_PM_days_22 : decode M_PM_days.2.1 22 = .ok (.aload_n 0, 1) := by decide +kernel
theorem d_PM_days_23 : decode M_PM_days.2.1 23 = .ok (.iconst 1, 1) := by decide +kernel
theorem d_PM_days_24 : decode M_PM_days.2.1 24 = .ok (.invokevirtual 132, 3) := by decide +kernel
theorem d_PM_days_27 : decode M_PM_days.2.1 27 = .ok (.ireturn, 1) := by decide +kernel
theorem d_PM_days_28 : decode M_PM_days.2.1 28 = .ok (.aload_n 0, 1) := by decide +kernel
theorem d_PM_days_29 : decode M_PM_days.2.1 29 = .ok (.getfield 18, 3) := by decide +kernel
theorem d_PM_days_32 : decode M_PM_days.2.1 32 = .ok (.iload_n 1, 1) := by decide +kernel
theorem d_PM_days_33 : decode M_PM_days.2.1 33 = .ok (.invokevirtual 162, 3) := by decide +kernel
theorem d_PM_days_36 : decode M_PM_days.2.1 36 = .ok (.new 185, 3) := by decide +kernel
theorem d_PM_days_39 : decode M_PM_days.2.1 39 = .ok (.dup, 1) := by decide +kernel
theorem d_PM_days_40 : decode M_PM_days.2.1 40 = .ok (.aload_n 0, 1) := by decide +kernel
theorem d_PM_days_41 : decode M_PM_days.2.1 41 = .ok (.getfield 18, 3) := by decide +kernel
theorem d_PM_days_44 : decode M_PM_days.2.1 44 = .ok (.aload_n 0, 1) := by decide +kernel
theorem d_PM_days_45 : decode M_PM_days.2.1 45 = .ok (.getfield 25, 3) := by decide +kernel
theorem d_PM_days_48 : decode M_PM_days.2.1 48 = .ok (.aload_n 0, 1) := by decide +kernel
theorem d_PM_days_49 : decode M_PM_days.2.1 49 = .ok (.getfield 39, 3) := by decide +kernel
theorem d_PM_days_52 : decode M_PM_days.2.1 52 = .ok (.invokespecial 187, 3) := by decide +kernel
theorem d_PM_days_55 : decode M_PM_days.2.1 55 = .ok (.invokevirtual 190, 3) := by decide +kernel
theorem d_PM_days_58 : decode M_PM_days.2.1 58 = .ok (.ifCond .ne 10, 3) := by decide +kernel
theorem d_PM_days_61 : decode M_PM_days.2.1 61 = .ok (.aload_n 0, 1) := by decide +kernel
theorem d_PM_days_62 : decode M_PM_days.2.1 62 = .ok (.bipush 9, 2) := by decide +kernel
theorem d_PM_days_64 : decode M_PM_days.2.1 64 = .ok (.invokevirtual 132, 3) := by decide +kernel
theorem d_PM_days_67 : decode M_PM_days.2.1 67 = .ok (.ireturn, 1) := by decide +kernel
theorem d_PM_days_68 : decode M_PM_days.2.1 68 = .ok (.aload_n 0, 1) := by decide +kernel
theorem d_PM_days_69 : decode M_PM_days.2.1 69 = .ok (.getfield 35, 3) := by decide +kernel
theorem d_PM_days_72 : decode M_PM_days.2.1 72 = .ok (.aload_n 0, 1) := by decide +kernel
theorem d_PM_days_73 : decode M_PM_days.2.1 73 = .ok (.getfield 39, 3) := by decide +kernel
theorem d_PM_days_76 : decode M_PM_days.2.1 76 = .ok (.invokevirtual 191, 3) := by decide +kernel
theorem d_PM_days_79 : decode M_PM_days.2.1 79 = .ok (.aload_n 0, 1) := by decide +kernel
theorem d_PM_days_80 : decode M_PM_days.2.1 80 = .ok (.aload_n 0, 1) := by decide +kernel
theorem d_PM_days_81 : decode M_PM_days.2.1 81 = .ok (.getfield 35, 3) := by decide +kernel
theorem d_PM_days_84 : decode M_PM_days.2.1 84 = .ok (.getfield 194, 3) := by decide +kernel
theorem d_PM_days_87 : decode M_PM_days.2.1 87 = .ok (.invokevirtual 182, 3) := by decide +kernel
theorem d_PM_days_90 : decode M_PM_days.2.1 90 = .ok (.ireturn, 1) := by decide +kernel
theorem d_PM_fault_0 : decode M_PM_fault.2.1 0 = .ok (.iload_n 1, 1) := by decide +kernel
theorem d_PM_fault_1 : decode M_PM_fault.2.1 1 = .ok (.ifCond .ne 11, 3) := by decide +kernel
theorem d_PM_fault_4 : decode M_PM_fault.2.1 4 = .ok (.aload_n 0, 1) := by decide +kernel
theorem d_PM_fault_5 : decode M_PM_fault.2.1 5 = .ok (.getfield 18, 3) := by decide +kernel
theorem d_PM_fault_8 : decode M_PM_fault.2.1 8 = .ok (.getfield 197, 3) := by decide +kernel
theorem d_PM_fault_11 : decode M_PM_fault.2.1 11 = .ok (.ireturn, 1) := by decide +kernel
theorem d_PM_fault_12 : decode M_PM_fault.2.1 12 = .ok (.iload_n 1, 1) := by decide +kernel
theorem d_PM_fault_13 : decode M_PM_fault.2.1 13 = .ok (.iconst 1, 1) := by decide +kernel
theorem d_PM_fault_14 : decode M_PM_fault.2.1 14 = .ok (.if_icmp .ne 13, 3) := by decide +kernel
theorem d_PM_fault_17 : decode M_PM_fault.2.1 17 = .ok (.aload_n 0, 1) := by decide +kernel
theorem d_PM_fault_18 : decode M_PM_fault.2.1 18 = .ok (.getfield 18, 3) := by decide +kernel
theorem d_PM_fault_21 : decode M_PM_fault.2.1 21 = .ok (.getfield 200, 3) := by decide +kernel
theorem d_PM_fault_24 : decode M_PM_fault.2.1 24 = .ok (.goto 4, 3) := by decide +kernel
theorem d_PM_fault_27 : decode M_PM_fault.2.1 27 = .ok (.iconst (-1), 1) := by decide +kernel
theorem d_PM_fault_28 : decode M_PM_fault.2.1 28 = .ok (.ireturn, 1) := by decide +kernel
theorem d_PM_told_0 : decode M_PM_told.2.1 0 = .ok (.iload_n 1, 1) := by decide +kernel
theorem d_PM_told_1 : decode M_PM_told.2.1 1 = .ok (.tableswitch 177 0 11 #[63, 75, 87, 99, 111, 143, 167, 155, 167, 167, 167, 167], 63) := by decide +kernel
theorem d_PM_told_64 : decode M_PM_told.2.1 64 = .ok (.aload_n 0, 1) := by decide +kernel
theorem d_PM_told_65 : decode M_PM_told.2.1 65 = .ok (.aload_n 0, 1) := by decide +kernel
theorem d_PM_told_66 : decode M_PM_told.2.1 66 = .ok (.getfield 25, 3) := by decide +kernel
theorem d_PM_told_69 : decode M_PM_told.2.1 69 = .ok (.getfield 203, 3) := by decide +kernel
theorem d_PM_told_72 : decode M_PM_told.2.1 72 = .ok (.invokevirtual 182, 3) := by decide +kernel
theorem d_PM_told_75 : decode M_PM_told.2.1 75 = .ok (.ireturn, 1) := by decide +kernel
theorem d_PM_told_76 : decode M_PM_told.2.1 76 = .ok (.aload_n 0, 1) := by decide +kernel
theorem d_PM_told_77 : decode M_PM_told.2.1 77 = .ok (.aload_n 0, 1) := by decide +kernel
theorem d_PM_told_78 : decode M_PM_told.2.1 78 = .ok (.getfield 25, 3) := by decide +kernel
theorem d_PM_told_81 : decode M_PM_told.2.1 81 = .ok (.getfield 206, 3) := by decide +kernel
theorem d_PM_told_84 : decode M_PM_told.2.1 84 = .ok (.invokevirtual 182, 3) := by decide +kernel
theorem d_PM_told_87 : decode M_PM_told.2.1 87 = .ok (.ireturn, 1) := by decide +kernel
theorem d_PM_told_88 : decode M_PM_told.2.1 88 = .ok (.aload_n 0, 1) := by decide +kernel
theorem d_PM_told_89 : decode M_PM_told.2.1 89 = .ok (.aload_n 0, 1) := by decide +kernel
theorem d_PM_told_90 : decode M_PM_told.2.1 90 = .ok (.getfield 25, 3) := by decide +kernel
theorem d_PM_told_93 : decode M_PM_told.2.1 93 = .ok (.getfield 179, 3) := by decide +kernel
theorem d_PM_told_96 : decode M_PM_told.2.1 96 = .ok (.invokevirtual 182, 3) := by decide +kernel
theorem d_PM_told_99 : decode M_PM_told.2.1 99 = .ok (.ireturn, 1) := by decide +kernel
theorem d_PM_told_100 : decode M_PM_told.2.1 100 = .ok (.aload_n 0, 1) := by decide +kernel
theorem d_PM_told_101 : decode M_PM_told.2.1 101 = .ok (.aload_n 0, 1) := by decide +kernel
theorem d_PM_told_102 : decode M_PM_told.2.1 102 = .ok (.getfield 25, 3) := by decide +kernel
theorem d_PM_told_105 : decode M_PM_told.2.1 105 = .ok (.getfield 209, 3) := by decide +kernel
theorem d_PM_told_108 : decode M_PM_told.2.1 108 = .ok (.invokevirtual 182, 3) := by decide +kernel
theorem d_PM_told_111 : decode M_PM_told.2.1 111 = .ok (.ireturn, 1) := by decide +kernel
theorem d_PM_told_112 : decode M_PM_told.2.1 112 = .ok (.aload_n 0, 1) := by decide +kernel
theorem d_PM_told_113 : decode M_PM_told.2.1 113 = .ok (.getfield 25, 3) := by decide +kernel
theorem d_PM_told_116 : decode M_PM_told.2.1 116 = .ok (.getfield 212, 3) := by decide +kernel
theorem d_PM_told_119 : decode M_PM_told.2.1 119 = .ok (.iconst (-1), 1) := by decide +kernel
theorem d_PM_told_120 : decode M_PM_told.2.1 120 = .ok (.if_icmp .ne 12, 3) := by decide +kernel
theorem d_PM_told_123 : decode M_PM_told.2.1 123 = .ok (.aload_n 0, 1) := by decide +kernel
theorem d_PM_told_124 : decode M_PM_told.2.1 124 = .ok (.bipush 6, 2) := by decide +kernel
theorem d_PM_told_126 : decode M_PM_told.2.1 126 = .ok (.invokevirtual 132, 3) := by decide +kernel
theorem d_PM_told_129 : decode M_PM_told.2.1 129 = .ok (.goto 14, 3) := by decide +kernel
theorem d_PM_told_132 : decode M_PM_told.2.1 132 = .ok (.aload_n 0, 1) := by decide +kernel
theorem d_PM_told_133 : decode M_PM_told.2.1 133 = .ok (.aload_n 0, 1) := by decide +kernel
theorem d_PM_told_134 : decode M_PM_told.2.1 134 = .ok (.getfield 25, 3) := by decide +kernel
theorem d_PM_told_137 : decode M_PM_told.2.1 137 = .ok (.getfield 212, 3) := by decide +kernel
theorem d_PM_told_140 : decode M_PM_told.2.1 140 = .ok (.invokevirtual 182, 3) := by decide +kernel
theorem d_PM_told_143 : decode M_PM_told.2.1 143 = .ok (.ireturn, 1) := by decide +kernel
theorem d_PM_told_144 : decode M_PM_told.2.1 144 = .ok (.aload_n 0, 1) := by decide +kernel
theorem d_PM_told_145 : decode M_PM_told.2.1 145 = .ok (.aload_n 0, 1) := by decide +kernel
theorem d_PM_told_146 : decode M_PM_told.2.1 146 = .ok (.getfield 25, 3) := by decide +kernel
theorem d_PM_told_149 : decode M_PM_told.2.1 149 = .ok (.getfield 215, 3) := by decide +kernel
theorem d_PM_told_152 : decode M_PM_told.2.1 152 = .ok (.invokevirtual 182, 3) := by decide +kernel
theorem d_PM_told_155 : decode M_PM_told.2.1 155 = .ok (.ireturn, 1) := by decide +kernel
theorem d_PM_told_156 : decode M_PM_told.2.1 156 = .ok (.aload_n 0, 1) := by decide +kernel
theorem d_PM_told_157 : decode M_PM_told.2.1 157 = .ok (.aload_n 0, 1) := by decide +kernel
theorem d_PM_told_158 : decode M_PM_told.2.1 158 = .ok (.getfield 25, 3) := by decide +kernel
theorem d_PM_told_161 : decode M_PM_told.2.1 161 = .ok (.getfield 218, 3) := by decide +kernel
theorem d_PM_told_164 : decode M_PM_told.2.1 164 = .ok (.invokevirtual 182, 3) := by decide +kernel
theorem d_PM_told_167 : decode M_PM_told.2.1 167 = .ok (.ireturn, 1) := by decide +kernel
theorem d_PM_told_168 : decode M_PM_told.2.1 168 = .ok (.aload_n 0, 1) := by decide +kernel
theorem d_PM_told_169 : decode M_PM_told.2.1 169 = .ok (.aload_n 0, 1) := by decide +kernel
theorem d_PM_told_170 : decode M_PM_told.2.1 170 = .ok (.iload_n 1, 1) := by decide +kernel
theorem d_PM_told_171 : decode M_PM_told.2.1 171 = .ok (.invokevirtual 221, 3) := by decide +kernel
theorem d_PM_told_174 : decode M_PM_told.2.1 174 = .ok (.invokevirtual 182, 3) := by decide +kernel
theorem d_PM_told_177 : decode M_PM_told.2.1 177 = .ok (.ireturn, 1) := by decide +kernel
theorem d_PM_told_178 : decode M_PM_told.2.1 178 = .ok (.aload_n 0, 1) := by decide +kernel
theorem d_PM_told_179 : decode M_PM_told.2.1 179 = .ok (.iconst 1, 1) := by decide +kernel
theorem d_PM_told_180 : decode M_PM_told.2.1 180 = .ok (.invokevirtual 132, 3) := by decide +kernel
theorem d_PM_told_183 : decode M_PM_told.2.1 183 = .ok (.ireturn, 1) := by decide +kernel
theorem d_PM_walker_0 : decode M_PM_walker.2.1 0 = .ok (.iload_n 1, 1) := by decide +kernel
theorem d_PM_walker_1 : decode M_PM_walker.2.1 1 = .ok (.aload_n 0, 1) := by decide +kernel
theorem d_PM_walker_2 : decode M_PM_walker.2.1 2 = .ok (.getfield 25, 3) := by decide +kernel
theorem d_PM_walker_5 : decode M_PM_walker.2.1 5 = .ok (.getfield 206, 3) := by decide +kernel
theorem d_PM_walker_8 : decode M_PM_walker.2.1 8 = .ok (.invokestatic 108, 3) := by decide +kernel
theorem d_PM_walker_11 : decode M_PM_walker.2.1 11 = .ok (.ifCond .ne 9, 3) := by decide +kernel
theorem d_PM_walker_14 : decode M_PM_walker.2.1 14 = .ok (.aload_n 0, 1) := by decide +kernel
theorem d_PM_walker_15 : decode M_PM_walker.2.1 15 = .ok (.iconst 1, 1) := by decide +kernel
theorem d_PM_walker_16 : decode M_PM_walker.2.1 16 = .ok (.invokevirtual 132, 3) := by decide +kernel
theorem d_PM_walker_19 : decode M_PM_walker.2.1 19 = .ok (.ireturn, 1) := by decide +kernel
theorem d_PM_walker_20 : decode M_PM_walker.2.1 20 = .ok (.aload_n 0, 1) := by decide +kernel
theorem d_PM_walker_21 : decode M_PM_walker.2.1 21 = .ok (.getfield 25, 3) := by decide +kernel
theorem d_PM_walker_24 : decode M_PM_walker.2.1 24 = .ok (.getfield 224, 3) := by decide +kernel
theorem d_PM_walker_27 : decode M_PM_walker.2.1 27 = .ok (.iload_n 1, 1) := by decide +kernel
theorem d_PM_walker_28 : decode M_PM_walker.2.1 28 = .ok (.iaload, 1) := by decide +kernel
theorem d_PM_walker_29 : decode M_PM_walker.2.1 29 = .ok (.istore_n 3, 1) := by decide +kernel
theorem d_PM_walker_30 : decode M_PM_walker.2.1 30 = .ok (.iload_n 2, 1) := by decide +kernel
theorem d_PM_walker_31 : decode M_PM_walker.2.1 31 = .ok (.tableswitch 87 0 4 #[33, 42, 59, 68, 74], 33) := by decide +kernel
theorem d_PM_walker_64 : decode M_PM_walker.2.1 64 = .ok (.aload_n 0, 1) := by decide +kernel
theorem d_PM_walker_65 : decode M_PM_walker.2.1 65 = .ok (.iload_n 3, 1) := by decide +kernel
theorem d_PM_walker_66 : decode M_PM_walker.2.1 66 = .ok (.invokestatic 227, 3) := by decide +kernel
theorem d_PM_walker_69 : decode M_PM_walker.2.1 69 = .ok (.invokevirtual 182, 3) := by decide +kernel
theorem d_PM_walker_72 : decode M_PM_walker.2.1 72 = .ok (.ireturn, 1) := by decide +kernel
theorem d_PM_walker_73 : decode M_PM_walker.2.1 73 = .ok (.aload_n 0, 1) := by decide +kernel
theorem d_PM_walker_74 : decode M_PM_walker.2.1 74 = .ok (.iload_n 3, 1) := by decide +kernel
theorem d_PM_walker_75 : decode M_PM_walker.2.1 75 = .ok (.invokestatic 230, 3) := by decide +kernel
theorem d_PM_walker_78 : decode M_PM_walker.2.1 78 = .ok (.ifCond .eq 7, 3) := by decide +kernel
theorem d_PM_walker_81 : decode M_PM_walker.2.1 81 = .ok (.iconst 1, 1) := by decide +kernel
theorem d_PM_walker_82 : decode M_PM_walker.2.1 82 = .ok (.goto 4, 3) := by decide +kernel
theorem d_PM_walker_85 : decode M_PM_walker.2.1 85 = .ok (.iconst 0, 1) := by decide +kernel
theorem d_PM_walker_86 : decode M_PM_walker.2.1 86 = .ok (.invokevirtual 182, 3) := by decide +kernel
theorem d_PM_walker_89 : decode M_PM_walker.2.1 89 = .ok (.ireturn, 1) := by decide +kernel
theorem d_PM_walker_90 : decode M_PM_walker.2.1 90 = .ok (.aload_n 0, 1) := by decide +kernel
theorem d_PM_walker_91 : decode M_PM_walker.2.1 91 = .ok (.iload_n 3, 1) := by decide +kernel
theorem d_PM_walker_92 : decode M_PM_walker.2.1 92 = .ok (.invokestatic 233, 3) := by decide +kernel
theorem d_PM_walker_95 : decode M_PM_walker.2.1 95 = .ok (.invokevirtual 182, 3) := by decide +kernel
theorem d_PM_walker_98 : decode M_PM_walker.2.1 98 = .ok (.ireturn, 1) := by decide +kernel
theorem d_PM_walker_99 : decode M_PM_walker.2.1 99 = .ok (.aload_n 0, 1) := by decide +kernel
theorem d_PM_walker_100 : decode M_PM_walker.2.1 100 = .ok (.iload_n 3, 1) := by decide +kernel
theorem d_PM_walker_101 : decode M_PM_walker.2.1 101 = .ok (.invokevirtual 182, 3) := by decide +kernel
theorem d_PM_walker_104 : decode M_PM_walker.2.1 104 = .ok (.ireturn, 1) := by decide +kernel
theorem d_PM_walker_105 : decode M_PM_walker.2.1 105 = .ok (.aload_n 0, 1) := by decide +kernel
theorem d_PM_walker_106 : decode M_PM_walker.2.1 106 = .ok (.aload_n 0, 1) := by decide +kernel
theorem d_PM_walker_107 : decode M_PM_walker.2.1 107 = .ok (.getfield 25, 3) := by decide +kernel
theorem d_PM_walker_110 : decode M_PM_walker.2.1 110 = .ok (.iload_n 1, 1) := by decide +kernel
theorem d_PM_walker_111 : decode M_PM_walker.2.1 111 = .ok (.invokevirtual 236, 3) := by decide +kernel
theorem d_PM_walker_114 : decode M_PM_walker.2.1 114 = .ok (.invokevirtual 182, 3) := by decide +kernel
theorem d_PM_walker_117 : decode M_PM_walker.2.1 117 = .ok (.ireturn, 1) := by decide +kernel
theorem d_PM_walker_118 : decode M_PM_walker.2.1 118 = .ok (.aload_n 0, 1) := by decide +kernel
theorem d_PM_walker_119 : decode M_PM_walker.2.1 119 = .ok (.iconst 1, 1) := by decide +kernel
theorem d_PM_walker_120 : decode M_PM_walker.2.1 120 = .ok (.invokevirtual 132, 3) := by decide +kernel
theorem d_PM_walker_123 : decode M_PM_walker.2.1 123 = .ok (.ireturn, 1) := by decide +kernel
theorem d_PM_leg_0 : decode M_PM_leg.2.1 0 = .ok (.iload_n 1, 1) := by decide +kernel
theorem d_PM_leg_1 : decode M_PM_leg.2.1 1 = .ok (.aload_n 0, 1) := by decide +kernel
theorem d_PM_leg_2 : decode M_PM_leg.2.1 2 = .ok (.getfield 25, 3) := by decide +kernel
theorem d_PM_leg_5 : decode M_PM_leg.2.1 5 = .ok (.getfield 179, 3) := by decide +kernel
theorem d_PM_leg_8 : decode M_PM_leg.2.1 8 = .ok (.invokestatic 108, 3) := by decide +kernel
theorem d_PM_leg_11 : decode M_PM_leg.2.1 11 = .ok (.ifCond .ne 9, 3) := by decide +kernel
theorem d_PM_leg_14 : decode M_PM_leg.2.1 14 = .ok (.aload_n 0, 1) := by decide +kernel
theorem d_PM_leg_15 : decode M_PM_leg.2.1 15 = .ok (.iconst 1, 1) := by decide +kernel
theorem d_PM_leg_16 : decode M_PM_leg.2.1 16 = .ok (.invokevirtual 132, 3) := by decide +kernel
theorem d_PM_leg_19 : decode M_PM_leg.2.1 19 = .ok (.ireturn, 1) := by decide +kernel
theorem d_PM_leg_20 : decode M_PM_leg.2.1 20 = .ok (.iload_n 2, 1) := by decide +kernel
theorem d_PM_leg_21 : decode M_PM_leg.2.1 21 = .ok (.tableswitch 195 0 7 #[47, 61, 75, 89, 103, 117, 130, 143], 47) := by decide +kernel
theorem d_PM_leg_68 : decode M_PM_leg.2.1 68 = .ok (.aload_n 0, 1) := by decide +kernel
theorem d_PM_leg_69 : decode M_PM_leg.2.1 69 = .ok (.aload_n 0, 1) := by decide +kernel
theorem d_PM_leg_70 : decode M_PM_leg.2.1 70 = .ok (.getfield 25, 3) := by decide +kernel
theorem d_PM_leg_73 : decode M_PM_leg.2.1 73 = .ok (.getfield 239, 3) := by decide +kernel
theorem d_PM_leg_76 : decode M_PM_leg.2.1 76 = .ok (.iload_n 1, 1) := by decide +kernel
theorem d_PM_leg_77 : decode M_PM_leg.2.1 77 = .ok (.iaload, 1) := by decide +kernel
theorem d_PM_leg_78 : decode M_PM_leg.2.1 78 = .ok (.invokevirtual 182, 3) := by decide +kernel
theorem d_PM_leg_81 : decode M_PM_leg.2.1 81 = .ok (.ireturn, 1) := by decide +kernel
theorem d_PM_leg_82 : decode M_PM_leg.2.1 82 = .ok (.aload_n 0, 1) := by decide +kernel
theorem d_PM_leg_83 : decode M_PM_leg.2.1 83 = .ok (.aload_n 0, 1) := by decide +kernel
theorem d_PM_leg_84 : decode M_PM_leg.2.1 84 = .ok (.getfield 25, 3) := by decide +kernel
theorem d_PM_leg_87 : decode M_PM_leg.2.1 87 = .ok (.getfield 242, 3) := by decide +kernel
theorem d_PM_leg_90 : decode M_PM_leg.2.1 90 = .ok (.iload_n 1, 1) := by decide +kernel
theorem d_PM_leg_91 : decode M_PM_leg.2.1 91 = .ok (.iaload, 1) := by decide +kernel
theorem d_PM_leg_92 : decode M_PM_leg.2.1 92 = .ok (.invokevirtual 182, 3) := by decide +kernel
theorem d_PM_leg_95 : decode M_PM_leg.2.1 95 = .ok (.ireturn, 1) := by decide +kernel
theorem d_PM_leg_96 : decode M_PM_leg.2.1 96 = .ok (.aload_n 0, 1) := by decide +kernel
theorem d_PM_leg_97 : decode M_PM_leg.2.1 97 = .ok (.aload_n 0, 1) := by decide +kernel
theorem d_PM_leg_98 : decode M_PM_leg.2.1 98 = .ok (.getfield 25, 3) := by decide +kernel
theorem d_PM_leg_101 : decode M_PM_leg.2.1 101 = .ok (.getfield 245, 3) := by decide +kernel
theorem d_PM_leg_104 : decode M_PM_leg.2.1 104 = .ok (.iload_n 1, 1) := by decide +kernel
theorem d_PM_leg_105 : decode M_PM_leg.2.1 105 = .ok (.iaload, 1) := by decide +kernel
theorem d_PM_leg_106 : decode M_PM_leg.2.1 106 = .ok (.invokevirtual 182, 3) := by decide +kernel
theorem d_PM_leg_109 : decode M_PM_leg.2.1 109 = .ok (.ireturn, 1) := by decide +kernel
theorem d_PM_leg_110 : decode M_PM_leg.2.1 110 = .ok (.aload_n 0, 1) := by decide +kernel
theorem d_PM_leg_111 : decode M_PM_leg.2.1 111 = .ok (.aload_n 0, 1) := by decide +kernel
theorem d_PM_leg_112 : decode M_PM_leg.2.1 112 = .ok (.getfield 25, 3) := by decide +kernel
theorem d_PM_leg_115 : decode M_PM_leg.2.1 115 = .ok (.getfield 248, 3) := by decide +kernel
theorem d_PM_leg_118 : decode M_PM_leg.2.1 118 = .ok (.iload_n 1, 1) := by decide +kernel
theorem d_PM_leg_119 : decode M_PM_leg.2.1 119 = .ok (.iaload, 1) := by decide +kernel
theorem d_PM_leg_120 : decode M_PM_leg.2.1 120 = .ok (.invokevirtual 182, 3) := by decide +kernel
theorem d_PM_leg_123 : decode M_PM_leg.2.1 123 = .ok (.ireturn, 1) := by decide +kernel
theorem d_PM_leg_124 : decode M_PM_leg.2.1 124 = .ok (.aload_n 0, 1) := by decide +kernel
theorem d_PM_leg_125 : decode M_PM_leg.2.1 125 = .ok (.aload_n 0, 1) := by decide +kernel
theorem d_PM_leg_126 : decode M_PM_leg.2.1 126 = .ok (.getfield 25, 3) := by decide +kernel
theorem d_PM_leg_129 : decode M_PM_leg.2.1 129 = .ok (.getfield 251, 3) := by decide +kernel
theorem d_PM_leg_132 : decode M_PM_leg.2.1 132 = .ok (.iload_n 1, 1) := by decide +kernel
theorem d_PM_leg_133 : decode M_PM_leg.2.1 133 = .ok (.iaload, 1) := by decide +kernel
theorem d_PM_leg_134 : decode M_PM_leg.2.1 134 = .ok (.invokevirtual 182, 3) := by decide +kernel
theorem d_PM_leg_137 : decode M_PM_leg.2.1 137 = .ok (.ireturn, 1) := by decide +kernel
theorem d_PM_leg_138 : decode M_PM_leg.2.1 138 = .ok (.aload_n 0, 1) := by decide +kernel
theorem d_PM_leg_139 : decode M_PM_leg.2.1 139 = .ok (.aload_n 0, 1) := by decide +kernel
theorem d_PM_leg_140 : decode M_PM_leg.2.1 140 = .ok (.getfield 25, 3) := by decide +kernel
theorem d_PM_leg_143 : decode M_PM_leg.2.1 143 = .ok (.iload_n 1, 1) := by decide +kernel
theorem d_PM_leg_144 : decode M_PM_leg.2.1 144 = .ok (.invokevirtual 254, 3) := by decide +kernel
theorem d_PM_leg_147 : decode M_PM_leg.2.1 147 = .ok (.invokevirtual 182, 3) := by decide +kernel
theorem d_PM_leg_150 : decode M_PM_leg.2.1 150 = .ok (.ireturn, 1) := by decide +kernel
theorem d_PM_leg_151 : decode M_PM_leg.2.1 151 = .ok (.aload_n 0, 1) := by decide +kernel
theorem d_PM_leg_152 : decode M_PM_leg.2.1 152 = .ok (.aload_n 0, 1) := by decide +kernel
theorem d_PM_leg_153 : decode M_PM_leg.2.1 153 = .ok (.getfield 25, 3) := by decide +kernel
theorem d_PM_leg_156 : decode M_PM_leg.2.1 156 = .ok (.iload_n 1, 1) := by decide +kernel
theorem d_PM_leg_157 : decode M_PM_leg.2.1 157 = .ok (.invokevirtual 257, 3) := by decide +kernel
theorem d_PM_leg_160 : decode M_PM_leg.2.1 160 = .ok (.invokevirtual 182, 3) := by decide +kernel
theorem d_PM_leg_163 : decode M_PM_leg.2.1 163 = .ok (.ireturn, 1) := by decide +kernel
theorem d_PM_leg_164 : decode M_PM_leg.2.1 164 = .ok (.aload_n 0, 1) := by decide +kernel
theorem d_PM_leg_165 : decode M_PM_leg.2.1 165 = .ok (.getfield 53, 3) := by decide +kernel
theorem d_PM_leg_168 : decode M_PM_leg.2.1 168 = .ok (.aload_n 0, 1) := by decide +kernel
theorem d_PM_leg_169 : decode M_PM_leg.2.1 169 = .ok (.getfield 25, 3) := by decide +kernel
theorem d_PM_leg_172 : decode M_PM_leg.2.1 172 = .ok (.invokevirtual 260, 3) := by decide +kernel
theorem d_PM_leg_175 : decode M_PM_leg.2.1 175 = .ok (.aload_n 0, 1) := by decide +kernel
theorem d_PM_leg_176 : decode M_PM_leg.2.1 176 = .ok (.getfield 53, 3) := by decide +kernel
theorem d_PM_leg_179 : decode M_PM_leg.2.1 179 = .ok (.aload_n 0, 1) := by decide +kernel
theorem d_PM_leg_180 : decode M_PM_leg.2.1 180 = .ok (.getfield 25, 3) := by decide +kernel
theorem d_PM_leg_183 : decode M_PM_leg.2.1 183 = .ok (.iload_n 1, 1) := by decide +kernel
theorem d_PM_leg_184 : decode M_PM_leg.2.1 184 = .ok (.invokevirtual 263, 3) := by decide +kernel
theorem d_PM_leg_187 : decode M_PM_leg.2.1 187 = .ok (.ifCond .eq 22, 3) := by decide +kernel
theorem d_PM_leg_190 : decode M_PM_leg.2.1 190 = .ok (.aload_n 0, 1) := by decide +kernel
theorem d_PM_leg_191 : decode M_PM_leg.2.1 191 = .ok (.aload_n 0, 1) := by decide +kernel
theorem d_PM_leg_192 : decode M_PM_leg.2.1 192 = .ok (.getfield 53, 3) := by decide +kernel
theorem d_PM_leg_195 : decode M_PM_leg.2.1 195 = .ok (.aload_n 0, 1) := by decide +kernel
theorem d_PM_leg_196 : decode M_PM_leg.2.1 196 = .ok (.getfield 25, 3) := by decide +kernel
theorem d_PM_leg_199 : decode M_PM_leg.2.1 199 = .ok (.iload_n 1, 1) := by decide +kernel
theorem d_PM_leg_200 : decode M_PM_leg.2.1 200 = .ok (.invokevirtual 267, 3) := by decide +kernel
theorem d_PM_leg_203 : decode M_PM_leg.2.1 203 = .ok (.invokevirtual 182, 3) := by decide +kernel
theorem d_PM_leg_206 : decode M_PM_leg.2.1 206 = .ok (.goto 9, 3) := by decide +kernel
theorem d_PM_leg_209 : decode M_PM_leg.2.1 209 = .ok (.aload_n 0, 1) := by decide +kernel
theorem d_PM_leg_210 : decode M_PM_leg.2.1 210 = .ok (.bipush 6, 2) := by decide +kernel
theorem d_PM_leg_212 : decode M_PM_leg.2.1 212 = .ok (.invokevirtual 132, 3) := by decide +kernel
theorem d_PM_leg_215 : decode M_PM_leg.2.1 215 = .ok (.ireturn, 1) := by decide +kernel
theorem d_PM_leg_216 : decode M_PM_leg.2.1 216 = .ok (.aload_n 0, 1) := by decide +kernel
theorem d_PM_leg_217 : decode M_PM_leg.2.1 217 = .ok (.iconst 1, 1) := by decide +kernel
theorem d_PM_leg_218 : decode M_PM_leg.2.1 218 = .ok (.invokevirtual 132, 3) := by decide +kernel
theorem d_PM_leg_221 : decode M_PM_leg.2.1 221 = .ok (.ireturn, 1) := by decide +kernel
theorem d_PM_place_0 : decode M_PM_place.2.1 0 = .ok (.iload_n 1, 1) := by decide +kernel
theorem d_PM_place_1 : decode M_PM_place.2.1 1 = .ok (.aload_n 0, 1) := by decide +kernel
theorem d_PM_place_2 : decode M_PM_place.2.1 2 = .ok (.getfield 25, 3) := by decide +kernel
theorem d_PM_place_5 : decode M_PM_place.2.1 5 = .ok (.getfield 203, 3) := by decide +kernel
theorem d_PM_place_8 : decode M_PM_place.2.1 8 = .ok (.invokestatic 108, 3) := by decide +kernel
theorem d_PM_place_11 : decode M_PM_place.2.1 11 = .ok (.ifCond .eq 11, 3) := by decide +kernel
theorem d_PM_place_14 : decode M_PM_place.2.1 14 = .ok (.iload_n 2, 1) := by decide +kernel
theorem d_PM_place_15 : decode M_PM_place.2.1 15 = .ok (.iconst 2, 1) := by decide +kernel
theorem d_PM_place_16 : decode M_PM_place.2.1 16 = .ok (.invokestatic 108, 3) := by decide +kernel
theorem d_PM_place_19 : decode M_PM_place.2.1 19 = .ok (.ifCond .ne 9, 3) := by decide +kernel
theorem d_PM_place_22 : decode M_PM_place.2.1 22 = .ok (.aload_n 0, 1) := by decide +kernel
theorem d_PM_place_23 : decode M_PM_place.2.1 23 = .ok (.iconst 1, 1) := by decide +kernel
theorem d_PM_place_24 : decode M_PM_place.2.1 24 = .ok (.invokevirtual 132, 3) := by decide +kernel
theorem d_PM_place_27 : decode M_PM_place.2.1 27 = .ok (.ireturn, 1) := by decide +kernel
theorem d_PM_place_28 : decode M_PM_place.2.1 28 = .ok (.aload_n 0, 1) := by decide +kernel
theorem d_PM_place_29 : decode M_PM_place.2.1 29 = .ok (.getfield 53, 3) := by decide +kernel
theorem d_PM_place_32 : decode M_PM_place.2.1 32 = .ok (.aload_n 0, 1) := by decide +kernel
theorem d_PM_place_33 : decode M_PM_place.2.1 33 = .ok (.getfield 25, 3) := by decide +kernel
theorem d_PM_place_36 : decode M_PM_place.2.1 36 = .ok (.invokevirtual 260, 3) := by decide +kernel
theorem d_PM_place_39 : decode M_PM_place.2.1 39 = .ok (.aload_n 0, 1) := by decide +kernel
theorem d_PM_place_40 : decode M_PM_place.2.1 40 = .ok (.getfield 53, 3) := by decide +kernel
theorem d_PM_place_43 : decode M_PM_place.2.1 43 = .ok (.iload_n 1, 1) := by decide +kernel
theorem d_PM_place_44 : decode M_PM_place.2.1 44 = .ok (.invokevirtual 271, 3) := by decide +kernel
theorem d_PM_place_47 : decode M_PM_place.2.1 47 = .ok (.ifCond .ne 10, 3) := by decide +kernel
theorem d_PM_place_50 : decode M_PM_place.2.1 50 = .ok (.aload_n 0, 1) := by decide +kernel
theorem d_PM_place_51 : decode M_PM_place.2.1 51 = .ok (.bipush 6, 2) := by decide +kernel
theorem d_PM_place_53 : decode M_PM_place.2.1 53 = .ok (.invokevirtual 132, 3) := by decide +kernel
theorem d_PM_place_56 : decode M_PM_place.2.1 56 = .ok (.ireturn, 1) := by decide +kernel
theorem d_PM_place_57 : decode M_PM_place.2.1 57 = .ok (.aload_n 0, 1) := by decide +kernel
theorem d_PM_place_58 : decode M_PM_place.2.1 58 = .ok (.iload_n 2, 1) := by decide +kernel
theorem d_PM_place_59 : decode M_PM_place.2.1 59 = .ok (.ifCond .ne 15, 3) := by decide +kernel
theorem d_PM_place_62 : decode M_PM_place.2.1 62 = .ok (.aload_n 0, 1) := by decide +kernel
theorem d_PM_place_63 : decode M_PM_place.2.1 63 = .ok (.getfield 53, 3) := by decide +kernel
theorem d_PM_place_66 : decode M_PM_place.2.1 66 = .ok (.getfield 274, 3) := by decide +kernel
theorem d_PM_place_69 : decode M_PM_place.2.1 69 = .ok (.iload_n 1, 1) := by decide +kernel
theorem d_PM_place_70 : decode M_PM_place.2.1 70 = .ok (.iaload, 1) := by decide +kernel
theorem d_PM_place_71 : decode M_PM_place.2.1 71 = .ok (.goto 12, 3) := by decide +kernel
theorem d_PM_place_74 : decode M_PM_place.2.1 74 = .ok (.aload_n 0, 1) := by decide +kernel
theorem d_PM_place_75 : decode M_PM_place.2.1 75 = .ok (.getfield 53, 3) := by decide +kernel
theorem d_PM_place_78 : decode M_PM_place.2.1 78 = .ok (.getfield 277, 3) := by decide +kernel
theorem d_PM_place_81 : decode M_PM_place.2.1 81 = .ok (.iload_n 1, 1) := by decide +kernel
theorem d_PM_place_82 : decode M_PM_place.2.1 82 = .ok (.iaload, 1) := by decide +kernel
theorem d_PM_place_83 : decode M_PM_place.2.1 83 = .ok (.invokevirtual 182, 3) := by decide +kernel
theorem d_PM_place_86 : decode M_PM_place.2.1 86 = .ok (.ireturn, 1) := by decide +kernel
theorem d_PM_apart_0 : decode M_PM_apart.2.1 0 = .ok (.iload_n 1, 1) := by decide +kernel
theorem d_PM_apart_1 : decode M_PM_apart.2.1 1 = .ok (.aload_n 0, 1) := by decide +kernel
theorem d_PM_apart_2 : decode M_PM_apart.2.1 2 = .ok (.getfield 25, 3) := by decide +kernel
theorem d_PM_apart_5 : decode M_PM_apart.2.1 5 = .ok (.getfield 203, 3) := by decide +kernel
theorem d_PM_apart_8 : decode M_PM_apart.2.1 8 = .ok (.invokestatic 108, 3) := by decide +kernel
theorem d_PM_apart_11 : decode M_PM_apart.2.1 11 = .ok (.ifCond .eq 17, 3) := by decide +kernel
theorem d_PM_apart_14 : decode M_PM_apart.2.1 14 = .ok (.iload_n 2, 1) := by decide +kernel
theorem d_PM_apart_15 : decode M_PM_apart.2.1 15 = .ok (.aload_n 0, 1) := by decide +kernel
theorem d_PM_apart_16 : decode M_PM_apart.2.1 16 = .ok (.getfield 25, 3) := by decide +kernel
theorem d_PM_apart_19 : decode M_PM_apart.2.1 19 = .ok (.getfield 203, 3) := by decide +kernel
theorem d_PM_apart_22 : decode M_PM_apart.2.1 22 = .ok (.invokestatic 108, 3) := by decide +kernel
theorem d_PM_apart_25 : decode M_PM_apart.2.1 25 = .ok (.ifCond .ne 9, 3) := by decide +kernel
theorem d_PM_apart_28 : decode M_PM_apart.2.1 28 = .ok (.aload_n 0, 1) := by decide +kernel
theorem d_PM_apart_29 : decode M_PM_apart.2.1 29 = .ok (.iconst 1, 1) := by decide +kernel
theorem d_PM_apart_30 : decode M_PM_apart.2.1 30 = .ok (.invokevirtual 132, 3) := by decide +kernel
theorem d_PM_apart_33 : decode M_PM_apart.2.1 33 = .ok (.ireturn, 1) := by decide +kernel
theorem d_PM_apart_34 : decode M_PM_apart.2.1 34 = .ok (.aload_n 0, 1) := by decide +kernel
theorem d_PM_apart_35 : decode M_PM_apart.2.1 35 = .ok (.getfield 53, 3) := by decide +kernel
theorem d_PM_apart_38 : decode M_PM_apart.2.1 38 = .ok (.aload_n 0, 1) := by decide +kernel
theorem d_PM_apart_39 : decode M_PM_apart.2.1 39 = .ok (.getfield 25, 3) := by decide +kernel
theorem d_PM_apart_42 : decode M_PM_apart.2.1 42 = .ok (.invokevirtual 260, 3) := by decide +kernel
theorem d_PM_apart_45 : decode M_PM_apart.2.1 45 = .ok (.aload_n 0, 1) := by decide +kernel
theorem d_PM_apart_46 : decode M_PM_apart.2.1 46 = .ok (.getfield 53, 3) := by decide +kernel
theorem d_PM_apart_49 : decode M_PM_apart.2.1 49 = .ok (.iload_n 1, 1) := by decide +kernel
theorem d_PM_apart_50 : decode M_PM_apart.2.1 50 = .ok (.invokevirtual 271, 3) := by decide +kernel
theorem d_PM_apart_53 : decode M_PM_apart.2.1 53 = .ok (.ifCond .eq 14, 3) := by decide +kernel
theorem d_PM_apart_56 : decode M_PM_apart.2.1 56 = .ok (.aload_n 0, 1) := by decide +kernel
theorem d_PM_apart_57 : decode M_PM_apart.2.1 57 = .ok (.getfield 53, 3) := by decide +kernel
theorem d_PM_apart_60 : decode M_PM_apart.2.1 60 = .ok (.iload_n 2, 1) := by decide +kernel
theorem d_PM_apart_61 : decode M_PM_apart.2.1 61 = .ok (.invokevirtual 271, 3) := by decide +kernel
theorem d_PM_apart_64 : decode M_PM_apart.2.1 64 = .ok (.ifCond .ne 10, 3) := by decide +kernel
theorem d_PM_apart_67 : decode M_PM_apart.2.1 67 = .ok (.aload_n 0, 1) := by decide +kernel
theorem d_PM_apart_68 : decode M_PM_apart.2.1 68 = .ok (.bipush 6, 2) := by decide +kernel
theorem d_PM_apart_70 : decode M_PM_apart.2.1 70 = .ok (.invokevirtual 132, 3) := by decide +kernel
theorem d_PM_apart_73 : decode M_PM_apart.2.1 73 = .ok (.ireturn, 1) := by decide +kernel
theorem d_PM_apart_74 : decode M_PM_apart.2.1 74 = .ok (.aload_n 0, 1) := by decide +kernel
theorem d_PM_apart_75 : decode M_PM_apart.2.1 75 = .ok (.aload_n 0, 1) := by decide +kernel
theorem d_PM_apart_76 : decode M_PM_apart.2.1 76 = .ok (.getfield 53, 3) := by decide +kernel
theorem d_PM_apart_79 : decode M_PM_apart.2.1 79 = .ok (.getfield 274, 3) := by decide +kernel
theorem d_PM_apart_82 : decode M_PM_apart.2.1 82 = .ok (.iload_n 1, 1) := by decide +kernel
theorem d_PM_apart_83 : decode M_PM_apart.2.1 83 = .ok (.iaload, 1) := by decide +kernel
theorem d_PM_apart_84 : decode M_PM_apart.2.1 84 = .ok (.aload_n 0, 1) := by decide +kernel
theorem d_PM_apart_85 : decode M_PM_apart.2.1 85 = .ok (.getfield 53, 3) := by decide +kernel
theorem d_PM_apart_88 : decode M_PM_apart.2.1 88 = .ok (.getfield 274, 3) := by decide +kernel
theorem d_PM_apart_91 : decode M_PM_apart.2.1 91 = .ok (.iload_n 2, 1) := by decide +kernel
theorem d_PM_apart_92 : decode M_PM_apart.2.1 92 = .ok (.iaload, 1) := by decide +kernel
theorem d_PM_apart_93 : decode M_PM_apart.2.1 93 = .ok (.isub, 1) := by decide +kernel
theorem d_PM_apart_94 : decode M_PM_apart.2.1 94 = .ok (.invokestatic 280, 3) := by decide +kernel
theorem d_PM_apart_97 : decode M_PM_apart.2.1 97 = .ok (.aload_n 0, 1) := by decide +kernel
theorem d_PM_apart_98 : decode M_PM_apart.2.1 98 = .ok (.getfield 53, 3) := by decide +kernel
theorem d_PM_apart_101 : decode M_PM_apart.2.1 101 = .ok (.getfield 277, 3) := by decide +kernel
theorem d_PM_apart_104 : decode M_PM_apart.2.1 104 = .ok (.iload_n 1, 1) := by decide +kernel
theorem d_PM_apart_105 : decode M_PM_apart.2.1 105 = .ok (.iaload, 1) := by decide +kernel
theorem d_PM_apart_106 : decode M_PM_apart.2.1 106 = .ok (.aload_n 0, 1) := by decide +kernel
theorem d_PM_apart_107 : decode M_PM_apart.2.1 107 = .ok (.getfield 53, 3) := by decide +kernel
theorem d_PM_apart_110 : decode M_PM_apart.2.1 110 = .ok (.getfield 277, 3) := by decide +kernel
theorem d_PM_apart_113 : decode M_PM_apart.2.1 113 = .ok (.iload_n 2, 1) := by decide +kernel
theorem d_PM_apart_114 : decode M_PM_apart.2.1 114 = .ok (.iaload, 1) := by decide +kernel
theorem d_PM_apart_115 : decode M_PM_apart.2.1 115 = .ok (.isub, 1) := by decide +kernel
theorem d_PM_apart_116 : decode M_PM_apart.2.1 116 = .ok (.invokestatic 280, 3) := by decide +kernel
theorem d_PM_apart_119 : decode M_PM_apart.2.1 119 = .ok (.iadd, 1) := by decide +kernel
theorem d_PM_apart_120 : decode M_PM_apart.2.1 120 = .ok (.invokevirtual 182, 3) := by decide +kernel
theorem d_PM_apart_123 : decode M_PM_apart.2.1 123 = .ok (.ireturn, 1) := by decide +kernel
theorem d_PM_joined_0 : decode M_PM_joined.2.1 0 = .ok (.iload_n 1, 1) := by decide +kernel
theorem d_PM_joined_1 : decode M_PM_joined.2.1 1 = .ok (.aload_n 0, 1) := by decide +kernel
theorem d_PM_joined_2 : decode M_PM_joined.2.1 2 = .ok (.getfield 25, 3) := by decide +kernel
theorem d_PM_joined_5 : decode M_PM_joined.2.1 5 = .ok (.getfield 203, 3) := by decide +kernel
theorem d_PM_joined_8 : decode M_PM_joined.2.1 8 = .ok (.invokestatic 108, 3) := by decide +kernel
theorem d_PM_joined_11 : decode M_PM_joined.2.1 11 = .ok (.ifCond .eq 17, 3) := by decide +kernel
theorem d_PM_joined_14 : decode M_PM_joined.2.1 14 = .ok (.iload_n 2, 1) := by decide +kernel
theorem d_PM_joined_15 : decode M_PM_joined.2.1 15 = .ok (.aload_n 0, 1) := by decide +kernel
theorem d_PM_joined_16 : decode M_PM_joined.2.1 16 = .ok (.getfield 25, 3) := by decide +kernel
theorem d_PM_joined_19 : decode M_PM_joined.2.1 19 = .ok (.getfield 203, 3) := by decide +kernel
theorem d_PM_joined_22 : decode M_PM_joined.2.1 22 = .ok (.invokestatic 108, 3) := by decide +kernel
theorem d_PM_joined_25 : decode M_PM_joined.2.1 25 = .ok (.ifCond .ne 9, 3) := by decide +kernel
theorem d_PM_joined_28 : decode M_PM_joined.2.1 28 = .ok (.aload_n 0, 1) := by decide +kernel
theorem d_PM_joined_29 : decode M_PM_joined.2.1 29 = .ok (.iconst 1, 1) := by decide +kernel
theorem d_PM_joined_30 : decode M_PM_joined.2.1 30 = .ok (.invokevirtual 132, 3) := by decide +kernel
theorem d_PM_joined_33 : decode M_PM_joined.2.1 33 = .ok (.ireturn, 1) := by decide +kernel
theorem d_PM_joined_34 : decode M_PM_joined.2.1 34 = .ok (.aload_n 0, 1) := by decide +kernel
theorem d_PM_joined_35 : decode M_PM_joined.2.1 35 = .ok (.getfield 53, 3) := by decide +kernel
theorem d_PM_joined_38 : decode M_PM_joined.2.1 38 = .ok (.aload_n 0, 1) := by decide +kernel
theorem d_PM_joined_39 : decode M_PM_joined.2.1 39 = .ok (.getfield 25, 3) := by decide +kernel
theorem d_PM_joined_42 : decode M_PM_joined.2.1 42 = .ok (.aload_n 0, 1) := by decide +kernel
theorem d_PM_joined_43 : decode M_PM_joined.2.1 43 = .ok (.getfield 25, 3) := by decide +kernel
theorem d_PM_joined_46 : decode M_PM_joined.2.1 46 = .ok (.invokevirtual 285, 3) := by decide +kernel
theorem d_PM_joined_49 : decode M_PM_joined.2.1 49 = .ok (.invokevirtual 289, 3) := by decide +kernel
theorem d_PM_joined_52 : decode M_PM_joined.2.1 52 = .ok (.aload_n 0, 1) := by decide +kernel
theorem d_PM_joined_53 : decode M_PM_joined.2.1 53 = .ok (.aload_n 0, 1) := by decide +kernel
theorem d_PM_joined_54 : decode M_PM_joined.2.1 54 = .ok (.getfield 53, 3) := by decide +kernel
theorem d_PM_joined_57 : decode M_PM_joined.2.1 57 = .ok (.iload_n 1, 1) := by decide +kernel
theorem d_PM_joined_58 : decode M_PM_joined.2.1 58 = .ok (.iload_n 2, 1) := by decide +kernel
theorem d_PM_joined_59 : decode M_PM_joined.2.1 59 = .ok (.invokevirtual 293, 3) := by decide +kernel
theorem d_PM_joined_62 : decode M_PM_joined.2.1 62 = .ok (.ifCond .eq 7, 3) := by decide +kernel
theorem d_PM_joined_65 : decode M_PM_joined.2.1 65 = .ok (.iconst 1, 1) := by decide +kernel
theorem d_PM_joined_66 : decode M_PM_joined.2.1 66 = .ok (.goto 4, 3) := by decide +kernel
theorem d_PM_joined_69 : decode M_PM_joined.2.1 69 = .ok (.iconst 0, 1) := by decide +kernel
theorem d_PM_joined_70 : decode M_PM_joined.2.1 70 = .ok (.invokevirtual 182, 3) := by decide +kernel
theorem d_PM_joined_73 : decode M_PM_joined.2.1 73 = .ok (.ireturn, 1) := by decide +kernel
theorem d_PM_pace_0 : decode M_PM_pace.2.1 0 = .ok (.iload_n 1, 1) := by decide +kernel
theorem d_PM_pace_1 : decode M_PM_pace.2.1 1 = .ok (.aload_n 0, 1) := by decide +kernel
theorem d_PM_pace_2 : decode M_PM_pace.2.1 2 = .ok (.getfield 25, 3) := by decide +kernel
theorem d_PM_pace_5 : decode M_PM_pace.2.1 5 = .ok (.getfield 206, 3) := by decide +kernel
theorem d_PM_pace_8 : decode M_PM_pace.2.1 8 = .ok (.invokestatic 108, 3) := by decide +kernel
theorem d_PM_pace_11 : decode M_PM_pace.2.1 11 = .ok (.ifCond .eq 28, 3) := by decide +kernel
theorem d_PM_pace_14 : decode M_PM_pace.2.1 14 = .ok (.aload_n 0, 1) := by decide +kernel
theorem d_PM_pace_15 : decode M_PM_pace.2.1 15 = .ok (.iload_n 2, 1) := by decide +kernel
theorem d_PM_pace_16 : decode M_PM_pace.2.1 16 = .ok (.iload_n 3, 1) := by decide +kernel
theorem d_PM_pace_17 : decode M_PM_pace.2.1 17 = .ok (.invokevirtual 296, 3) := by decide +kernel
theorem d_PM_pace_20 : decode M_PM_pace.2.1 20 = .ok (.ifCond .eq 19, 3) := by decide +kernel
theorem d_PM_pace_23 : decode M_PM_pace.2.1 23 = .ok (.iload 4, 2) := by decide +kernel
theorem d_PM_pace_25 : decode M_PM_pace.2.1 25 = .ok (.invokestatic 299, 3) := by decide +kernel
theorem d_PM_pace_28 : decode M_PM_pace.2.1 28 = .ok (.ifCond .eq 11, 3) := by decide +kernel
theorem d_PM_pace_31 : decode M_PM_pace.2.1 31 = .ok (.iload 5, 2) := by decide +kernel
theorem d_PM_pace_33 : decode M_PM_pace.2.1 33 = .ok (.invokestatic 299, 3) := by decide +kernel
theorem d_PM_pace_36 : decode M_PM_pace.2.1 36 = .ok (.ifCond .ne 9, 3) := by decide +kernel
theorem d_PM_pace_39 : decode M_PM_pace.2.1 39 = .ok (.aload_n 0, 1) := by decide +kernel
theorem d_PM_pace_40 : decode M_PM_pace.2.1 40 = .ok (.iconst 1, 1) := by decide +kernel
theorem d_PM_pace_41 : decode M_PM_pace.2.1 41 = .ok (.invokevirtual 132, 3) := by decide +kernel
theorem d_PM_pace_44 : decode M_PM_pace.2.1 44 = .ok (.ireturn, 1) := by decide +kernel
theorem d_PM_pace_45 : decode M_PM_pace.2.1 45 = .ok (.aload_n 0, 1) := by decide +kernel
theorem d_PM_pace_46 : decode M_PM_pace.2.1 46 = .ok (.getfield 25, 3) := by decide +kernel
theorem d_PM_pace_49 : decode M_PM_pace.2.1 49 = .ok (.getfield 179, 3) := by decide +kernel
theorem d_PM_pace_52 : decode M_PM_pace.2.1 52 = .ok (.bipush 12, 2) := by decide +kernel
theorem d_PM_pace_54 : decode M_PM_pace.2.1 54 = .ok (.if_icmp .lt 9, 3) := by decide +kernel
theorem d_PM_pace_57 : decode M_PM_pace.2.1 57 = .ok (.aload_n 0, 1) := by decide +kernel
theorem d_PM_pace_58 : decode M_PM_pace.2.1 58 = .ok (.iconst 4, 1) := by decide +kernel
theorem d_PM_pace_59 : decode M_PM_pace.2.1 59 = .ok (.invokevirtual 132, 3) := by decide +kernel
theorem d_PM_pace_62 : decode M_PM_pace.2.1 62 = .ok (.ireturn, 1) := by decide +kernel
theorem d_PM_pace_63 : decode M_PM_pace.2.1 63 = .ok (.aload_n 0, 1) := by decide +kernel
theorem d_PM_pace_64 : decode M_PM_pace.2.1 64 = .ok (.getfield 25, 3) := by decide +kernel
theorem d_PM_pace_67 : decode M_PM_pace.2.1 67 = .ok (.iload_n 1, 1) := by decide +kernel
theorem d_PM_pace_68 : decode M_PM_pace.2.1 68 = .ok (.iload_n 2, 1) := by decide +kernel
theorem d_PM_pace_69 : decode M_PM_pace.2.1 69 = .ok (.iload_n 3, 1) := by decide +kernel
theorem d_PM_pace_70 : decode M_PM_pace.2.1 70 = .ok (.invokevirtual 302, 3) := by decide +kernel
theorem d_PM_pace_73 : decode M_PM_pace.2.1 73 = .ok (.istore 6, 2) := by decide +kernel
theorem d_PM_pace_75 : decode M_PM_pace.2.1 75 = .ok (.aload_n 0, 1) := by decide +kernel
theorem d_PM_pace_76 : decode M_PM_pace.2.1 76 = .ok (.getfield 25, 3) := by decide +kernel
theorem d_PM_pace_79 : decode M_PM_pace.2.1 79 = .ok (.getfield 248, 3) := by decide +kernel
theorem d_PM_pace_82 : decode M_PM_pace.2.1 82 = .ok (.iload 6, 2) := by decide +kernel
theorem d_PM_pace_84 : decode M_PM_pace.2.1 84 = .ok (.iload 4, 2) := by decide +kernel
theorem d_PM_pace_86 : decode M_PM_pace.2.1 86 = .ok (.iastore, 1) := by decide +kernel
theorem d_PM_pace_87 : decode M_PM_pace.2.1 87 = .ok (.aload_n 0, 1) := by decide +kernel
theorem d_PM_pace_88 : decode M_PM_pace.2.1 88 = .ok (.getfield 25, 3) := by decide +kernel
theorem d_PM_pace_91 : decode M_PM_pace.2.1 91 = .ok (.getfield 251, 3) := by decide +kernel
theorem d_PM_pace_94 : decode M_PM_pace.2.1 94 = .ok (.iload 6, 2) := by decide +kernel
theorem d_PM_pace_96 : decode M_PM_pace.2.1 96 = .ok (.iload 5, 2) := by decide +kernel
theorem d_PM_pace_98 : decode M_PM_pace.2.1 98 = .ok (.iastore, 1) := by decide +kernel
theorem d_PM_pace_99 : decode M_PM_pace.2.1 99 = .ok (.aload_n 0, 1) := by decide +kernel
theorem d_PM_pace_100 : decode M_PM_pace.2.1 100 = .ok (.iload 6, 2) := by decide +kernel
theorem d_PM_pace_102 : decode M_PM_pace.2.1 102 = .ok (.invokevirtual 182, 3) := by decide +kernel
theorem d_PM_pace_105 : decode M_PM_pace.2.1 105 = .ok (.ireturn, 1) := by decide +kernel
theorem d_PM_tell_0 : decode M_PM_tell.2.1 0 = .ok (.iload_n 1, 1) := by decide +kernel
theorem d_PM_tell_1 : decode M_PM_tell.2.1 1 = .ok (.aload_n 0, 1) := by decide +kernel
theorem d_PM_tell_2 : decode M_PM_tell.2.1 2 = .ok (.getfield 25, 3) := by decide +kernel
theorem d_PM_tell_5 : decode M_PM_tell.2.1 5 = .ok (.getfield 179, 3) := by decide +kernel
theorem d_PM_tell_8 : decode M_PM_tell.2.1 8 = .ok (.invokestatic 108, 3) := by decide +kernel
theorem d_PM_tell_11 : decode M_PM_tell.2.1 11 = .ok (.ifCond .eq 17, 3) := by decide +kernel
theorem d_PM_tell_14 : decode M_PM_tell.2.1 14 = .ok (.iload_n 2, 1) := by decide +kernel
theorem d_PM_tell_15 : decode M_PM_tell.2.1 15 = .ok (.invokestatic 299, 3) := by decide +kernel
theorem d_PM_tell_18 : decode M_PM_tell.2.1 18 = .ok (.ifCond .eq 10, 3) := by decide +kernel
theorem d_PM_tell_21 : decode M_PM_tell.2.1 21 = .ok (.iload_n 3, 1) := by decide +kernel
theorem d_PM_tell_22 : decode M_PM_tell.2.1 22 = .ok (.invokestatic 299, 3) := by decide +kernel
theorem d_PM_tell_25 : decode M_PM_tell.2.1 25 = .ok (.ifCond .ne 9, 3) := by decide +kernel
theorem d_PM_tell_28 : decode M_PM_tell.2.1 28 = .ok (.aload_n 0, 1) := by decide +kernel
theorem d_PM_tell_29 : decode M_PM_tell.2.1 29 = .ok (.iconst 1, 1) := by decide +kernel
theorem d_PM_tell_30 : decode M_PM_tell.2.1 30 = .ok (.invokevirtual 112, 3) := by decide +kernel
theorem d_PM_tell_33 : decode M_PM_tell.2.1 33 = .ok (.ireturn, 1) := by decide +kernel
theorem d_PM_tell_34 : decode M_PM_tell.2.1 34 = .ok (.aload_n 0, 1) := by decide +kernel
theorem d_PM_tell_35 : decode M_PM_tell.2.1 35 = .ok (.getfield 25, 3) := by decide +kernel
theorem d_PM_tell_38 : decode M_PM_tell.2.1 38 = .ok (.getfield 248, 3) := by decide +kernel
theorem d_PM_tell_41 : decode M_PM_tell.2.1 41 = .ok (.iload_n 1, 1) := by decide +kernel
theorem d_PM_tell_42 : decode M_PM_tell.2.1 42 = .ok (.iload_n 2, 1) := by decide +kernel
theorem d_PM_tell_43 : decode M_PM_tell.2.1 43 = .ok (.iastore, 1) := by decide +kernel
theorem d_PM_tell_44 : decode M_PM_tell.2.1 44 = .ok (.aload_n 0, 1) := by decide +kernel
theorem d_PM_tell_45 : decode M_PM_tell.2.1 45 = .ok (.getfield 25, 3) := by decide +kernel
theorem d_PM_tell_48 : decode M_PM_tell.2.1 48 = .ok (.getfield 251, 3) := by decide +kernel
theorem d_PM_tell_51 : decode M_PM_tell.2.1 51 = .ok (.iload_n 1, 1) := by decide +kernel
theorem d_PM_tell_52 : decode M_PM_tell.2.1 52 = .ok (.iload_n 3, 1) := by decide +kernel
theorem d_PM_tell_53 : decode M_PM_tell.2.1 53 = .ok (.iastore, 1) := by decide +kernel
theorem d_PM_tell_54 : decode M_PM_tell.2.1 54 = .ok (.aload_n 0, 1) := by decide +kernel
theorem d_PM_tell_55 : decode M_PM_tell.2.1 55 = .ok (.invokevirtual 120, 3) := by decide +kernel
theorem d_PM_tell_58 : decode M_PM_tell.2.1 58 = .ok (.ireturn, 1) := by decide +kernel
theorem d_PM_strike_0 : decode M_PM_strike.2.1 0 = .ok (.iload_n 1, 1) := by decide +kernel
theorem d_PM_strike_1 : decode M_PM_strike.2.1 1 = .ok (.aload_n 0, 1) := by decide +kernel
theorem d_PM_strike_2 : decode M_PM_strike.2.1 2 = .ok (.getfield 25, 3) := by decide +kernel
theorem d_PM_strike_5 : decode M_PM_strike.2.1 5 = .ok (.getfield 179, 3) := by decide +kernel
theorem d_PM_strike_8 : decode M_PM_strike.2.1 8 = .ok (.invokestatic 108, 3) := by decide +kernel
theorem d_PM_strike_11 : decode M_PM_strike.2.1 11 = .ok (.ifCond .ne 9, 3) := by decide +kernel
theorem d_PM_strike_14 : decode M_PM_strike.2.1 14 = .ok (.aload_n 0, 1) := by decide +kernel
theorem d_PM_strike_15 : decode M_PM_strike.2.1 15 = .ok (.iconst 1, 1) := by decide +kernel
theorem d_PM_strike_16 : decode M_PM_strike.2.1 16 = .ok (.invokevirtual 132, 3) := by decide +kernel
theorem d_PM_strike_19 : decode M_PM_strike.2.1 19 = .ok (.ireturn, 1) := by decide +kernel
theorem d_PM_strike_20 : decode M_PM_strike.2.1 20 = .ok (.aload_n 0, 1) := by decide +kernel
theorem d_PM_strike_21 : decode M_PM_strike.2.1 21 = .ok (.getfield 25, 3) := by decide +kernel
theorem d_PM_strike_24 : decode M_PM_strike.2.1 24 = .ok (.iload_n 1, 1) := by decide +kernel
theorem d_PM_strike_25 : decode M_PM_strike.2.1 25 = .ok (.invokevirtual 306, 3) := by decide +kernel
theorem d_PM_strike_28 : decode M_PM_strike.2.1 28 = .ok (.ifCond .ne 10, 3) := by decide +kernel
theorem d_PM_strike_31 : decode M_PM_strike.2.1 31 = .ok (.aload_n 0, 1) := by decide +kernel
theorem d_PM_strike_32 : decode M_PM_strike.2.1 32 = .ok (.bipush 7, 2) := by decide +kernel
theorem d_PM_strike_34 : decode M_PM_strike.2.1 34 = .ok (.invokevirtual 132, 3) := by decide +kernel
theorem d_PM_strike_37 : decode M_PM_strike.2.1 37 = .ok (.ireturn, 1) := by decide +kernel
theorem d_PM_strike_38 : decode M_PM_strike.2.1 38 = .ok (.aload_n 0, 1) := by decide +kernel
theorem d_PM_strike_39 : decode M_PM_strike.2.1 39 = .ok (.aload_n 0, 1) := by decide +kernel
theorem d_PM_strike_40 : decode M_PM_strike.2.1 40 = .ok (.getfield 25, 3) := by decide +kernel
theorem d_PM_strike_43 : decode M_PM_strike.2.1 43 = .ok (.getfield 218, 3) := by decide +kernel
theorem d_PM_strike_46 : decode M_PM_strike.2.1 46 = .ok (.invokestatic 309, 3) := by decide +kernel
theorem d_PM_strike_49 : decode M_PM_strike.2.1 49 = .ok (.invokevirtual 182, 3) := by decide +kernel
theorem d_PM_strike_52 : decode M_PM_strike.2.1 52 = .ok (.ireturn, 1) := by decide +kernel
theorem d_PM_restore_0 : decode M_PM_restore.2.1 0 = .ok (.iload_n 1, 1) := by decide +kernel
theorem d_PM_restore_1 : decode M_PM_restore.2.1 1 = .ok (.aload_n 0, 1) := by decide +kernel
theorem d_PM_restore_2 : decode M_PM_restore.2.1 2 = .ok (.getfield 25, 3) := by decide +kernel
theorem d_PM_restore_5 : decode M_PM_restore.2.1 5 = .ok (.getfield 179, 3) := by decide +kernel
theorem d_PM_restore_8 : decode M_PM_restore.2.1 8 = .ok (.invokestatic 108, 3) := by decide +kernel
theorem d_PM_restore_11 : decode M_PM_restore.2.1 11 = .ok (.ifCond .ne 9, 3) := by decide +kernel
theorem d_PM_restore_14 : decode M_PM_restore.2.1 14 = .ok (.aload_n 0, 1) := by decide +kernel
theorem d_PM_restore_15 : decode M_PM_restore.2.1 15 = .ok (.iconst 1, 1) := by decide +kernel
theorem d_PM_restore_16 : decode M_PM_restore.2.1 16 = .ok (.invokevirtual 132, 3) := by decide +kernel
theorem d_PM_restore_19 : decode M_PM_restore.2.1 19 = .ok (.ireturn, 1) := by decide +kernel
theorem d_PM_restore_20 : decode M_PM_restore.2.1 20 = .ok (.aload_n 0, 1) := by decide +kernel
theorem d_PM_restore_21 : decode M_PM_restore.2.1 21 = .ok (.getfield 25, 3) := by decide +kernel
theorem d_PM_restore_24 : decode M_PM_restore.2.1 24 = .ok (.iload_n 1, 1) := by decide +kernel
theorem d_PM_restore_25 : decode M_PM_restore.2.1 25 = .ok (.invokevirtual 314, 3) := by decide +kernel
theorem d_PM_restore_28 : decode M_PM_restore.2.1 28 = .ok (.ifCond .ne 10, 3) := by decide +kernel
theorem d_PM_restore_31 : decode M_PM_restore.2.1 31 = .ok (.aload_n 0, 1) := by decide +kernel
theorem d_PM_restore_32 : decode M_PM_restore.2.1 32 = .ok (.bipush 7, 2) := by decide +kernel
theorem d_PM_restore_34 : decode M_PM_restore.2.1 34 = .ok (.invokevirtual 132, 3) := by decide +kernel
theorem d_PM_restore_37 : decode M_PM_restore.2.1 37 = .ok (.ireturn, 1) := by decide +kernel
theorem d_PM_restore_38 : decode M_PM_restore.2.1 38 = .ok (.aload_n 0, 1) := by decide +kernel
theorem d_PM_restore_39 : decode M_PM_restore.2.1 39 = .ok (.aload_n 0, 1) := by decide +kernel
theorem d_PM_restore_40 : decode M_PM_restore.2.1 40 = .ok (.getfield 25, 3) := by decide +kernel
theorem d_PM_restore_43 : decode M_PM_restore.2.1 43 = .ok (.getfield 218, 3) := by decide +kernel
theorem d_PM_restore_46 : decode M_PM_restore.2.1 46 = .ok (.invokestatic 309, 3) := by decide +kernel
theorem d_PM_restore_49 : decode M_PM_restore.2.1 49 = .ok (.invokevirtual 182, 3) := by decide +kernel
theorem d_PM_restore_52 : decode M_PM_restore.2.1 52 = .ok (.ireturn, 1) := by decide +kernel
theorem d_PM_believe_0 : decode M_PM_believe.2.1 0 = .ok (.iload_n 1, 1) := by decide +kernel
theorem d_PM_believe_1 : decode M_PM_believe.2.1 1 = .ok (.aload_n 0, 1) := by decide +kernel
theorem d_PM_believe_2 : decode M_PM_believe.2.1 2 = .ok (.getfield 25, 3) := by decide +kernel
theorem d_PM_believe_5 : decode M_PM_believe.2.1 5 = .ok (.getfield 206, 3) := by decide +kernel
theorem d_PM_believe_8 : decode M_PM_believe.2.1 8 = .ok (.invokestatic 108, 3) := by decide +kernel
theorem d_PM_believe_11 : decode M_PM_believe.2.1 11 = .ok (.ifCond .eq 12, 3) := by decide +kernel
theorem d_PM_believe_14 : decode M_PM_believe.2.1 14 = .ok (.iload_n 2, 1) := by decide +kernel
theorem d_PM_believe_15 : decode M_PM_believe.2.1 15 = .ok (.bipush 24, 2) := by decide +kernel
theorem d_PM_believe_17 : decode M_PM_believe.2.1 17 = .ok (.invokestatic 108, 3) := by decide +kernel
theorem d_PM_believe_20 : decode M_PM_believe.2.1 20 = .ok (.ifCond .ne 9, 3) := by decide +kernel
theorem d_PM_believe_23 : decode M_PM_believe.2.1 23 = .ok (.aload_n 0, 1) := by decide +kernel
theorem d_PM_believe_24 : decode M_PM_believe.2.1 24 = .ok (.iconst 1, 1) := by decide +kernel
theorem d_PM_believe_25 : decode M_PM_believe.2.1 25 = .ok (.invokevirtual 132, 3) := by decide +kernel
theorem d_PM_believe_28 : decode M_PM_believe.2.1 28 = .ok (.ireturn, 1) := by decide +kernel
theorem d_PM_believe_29 : decode M_PM_believe.2.1 29 = .ok (.aload_n 0, 1) := by decide +kernel
theorem d_PM_believe_30 : decode M_PM_believe.2.1 30 = .ok (.getfield 25, 3) := by decide +kernel
theorem d_PM_believe_33 : decode M_PM_believe.2.1 33 = .ok (.getfield 224, 3) := by decide +kernel
theorem d_PM_believe_36 : decode M_PM_believe.2.1 36 = .ok (.iload_n 1, 1) := by decide +kernel
theorem d_PM_believe_37 : decode M_PM_believe.2.1 37 = .ok (.iaload, 1) := by decide +kernel
theorem d_PM_believe_38 : decode M_PM_believe.2.1 38 = .ok (.istore_n 3, 1) := by decide +kernel
theorem d_PM_believe_39 : decode M_PM_believe.2.1 39 = .ok (.aload_n 0, 1) := by decide +kernel
theorem d_PM_believe_40 : decode M_PM_believe.2.1 40 = .ok (.getfield 25, 3) := by decide +kernel
theorem d_PM_believe_43 : decode M_PM_believe.2.1 43 = .ok (.getfield 224, 3) := by decide +kernel
theorem d_PM_believe_46 : decode M_PM_believe.2.1 46 = .ok (.iload_n 1, 1) := by decide +kernel
theorem d_PM_believe_47 : decode M_PM_believe.2.1 47 = .ok (.iload_n 2, 1) := by decide +kernel
theorem d_PM_believe_48 : decode M_PM_believe.2.1 48 = .ok (.iastore, 1) := by decide +kernel
theorem d_PM_believe_49 : decode M_PM_believe.2.1 49 = .ok (.aload_n 0, 1) := by decide +kernel
theorem d_PM_believe_50 : decode M_PM_believe.2.1 50 = .ok (.iload_n 3, 1) := by decide +kernel
theorem d_PM_believe_51 : decode M_PM_believe.2.1 51 = .ok (.invokevirtual 182, 3) := by decide +kernel
theorem d_PM_believe_54 : decode M_PM_believe.2.1 54 = .ok (.ireturn, 1) := by decide +kernel
theorem d_PM_settle_0 : decode M_PM_settle.2.1 0 = .ok (.aload_n 0, 1) := by decide +kernel
theorem d_PM_settle_1 : decode M_PM_settle.2.1 1 = .ok (.getfield 25, 3) := by decide +kernel
theorem d_PM_settle_4 : decode M_PM_settle.2.1 4 = .ok (.getfield 203, 3) := by decide +kernel
theorem d_PM_settle_7 : decode M_PM_settle.2.1 7 = .ok (.bipush 7, 2) := by decide +kernel
theorem d_PM_settle_9 : decode M_PM_settle.2.1 9 = .ok (.if_icmp .lt 9, 3) := by decide +kernel
theorem d_PM_settle_12 : decode M_PM_settle.2.1 12 = .ok (.aload_n 0, 1) := by decide +kernel
theorem d_PM_settle_13 : decode M_PM_settle.2.1 13 = .ok (.iconst 4, 1) := by decide +kernel
theorem d_PM_settle_14 : decode M_PM_settle.2.1 14 = .ok (.invokevirtual 132, 3) := by decide +kernel
theorem d_PM_settle_17 : decode M_PM_settle.2.1 17 = .ok (.ireturn, 1) := by decide +kernel
theorem d_PM_settle_18 : decode M_PM_settle.2.1 18 = .ok (.aload_n 0, 1) := by decide +kernel
theorem d_PM_settle_19 : decode M_PM_settle.2.1 19 = .ok (.aload_n 0, 1) := by decide +kernel
theorem d_PM_settle_20 : decode M_PM_settle.2.1 20 = .ok (.getfield 25, 3) := by decide +kernel
theorem d_PM_settle_23 : decode M_PM_settle.2.1 23 = .ok (.lconst 0, 1) := by decide +kernel
theorem d_PM_settle_24 : decode M_PM_settle.2.1 24 = .ok (.invokevirtual 317, 3) := by decide +kernel
theorem d_PM_settle_27 : decode M_PM_settle.2.1 27 = .ok (.invokevirtual 182, 3) := by decide +kernel
theorem d_PM_settle_30 : decode M_PM_settle.2.1 30 = .ok (.ireturn, 1) := by decide +kernel
theorem d_PM_go_0 : decode M_PM_go.2.1 0 = .ok (.iload_n 1, 1) := by decide +kernel
theorem d_PM_go_1 : decode M_PM_go.2.1 1 = .ok (.aload_n 0, 1) := by decide +kernel
theorem d_PM_go_2 : decode M_PM_go.2.1 2 = .ok (.getfield 25, 3) := by decide +kernel
theorem d_PM_go_5 : decode M_PM_go.2.1 5 = .ok (.getfield 179, 3) := by decide +kernel
theorem d_PM_go_8 : decode M_PM_go.2.1 8 = .ok (.invokestatic 108, 3) := by decide +kernel
theorem d_PM_go_11 : decode M_PM_go.2.1 11 = .ok (.ifCond .ne 9, 3) := by decide +kernel
theorem d_PM_go_14 : decode M_PM_go.2.1 14 = .ok (.aload_n 0, 1) := by decide +kernel
theorem d_PM_go_15 : decode M_PM_go.2.1 15 = .ok (.iconst 1, 1) := by decide +kernel
theorem d_PM_go_16 : decode M_PM_go.2.1 16 = .ok (.invokevirtual 132, 3) := by decide +kernel
theorem d_PM_go_19 : decode M_PM_go.2.1 19 = .ok (.ireturn, 1) := by decide +kernel
theorem d_PM_go_20 : decode M_PM_go.2.1 20 = .ok (.aload_n 0, 1) := by decide +kernel
theorem d_PM_go_21 : decode M_PM_go.2.1 21 = .ok (.getfield 25, 3) := by decide +kernel
theorem d_PM_go_24 : decode M_PM_go.2.1 24 = .ok (.iload_n 1, 1) := by decide +kernel
theorem d_PM_go_25 : decode M_PM_go.2.1 25 = .ok (.invokevirtual 321, 3) := by decide +kernel
theorem d_PM_go_28 : decode M_PM_go.2.1 28 = .ok (.ifCond .ne 10, 3) := by decide +kernel
theorem d_PM_go_31 : decode M_PM_go.2.1 31 = .ok (.aload_n 0, 1) := by decide +kernel
theorem d_PM_go_32 : decode M_PM_go.2.1 32 = .ok (.bipush 7, 2) := by decide +kernel
theorem d_PM_go_34 : decode M_PM_go.2.1 34 = .ok (.invokevirtual 132, 3) := by decide +kernel
theorem d_PM_go_37 : decode M_PM_go.2.1 37 = .ok (.ireturn, 1) := by decide +kernel
theorem d_PM_go_38 : decode M_PM_go.2.1 38 = .ok (.aload_n 0, 1) := by decide +kernel
theorem d_PM_go_39 : decode M_PM_go.2.1 39 = .ok (.aload_n 0, 1) := by decide +kernel
theorem d_PM_go_40 : decode M_PM_go.2.1 40 = .ok (.getfield 25, 3) := by decide +kernel
theorem d_PM_go_43 : decode M_PM_go.2.1 43 = .ok (.getfield 212, 3) := by decide +kernel
theorem d_PM_go_46 : decode M_PM_go.2.1 46 = .ok (.invokevirtual 182, 3) := by decide +kernel
theorem d_PM_go_49 : decode M_PM_go.2.1 49 = .ok (.ireturn, 1) := by decide +kernel
theorem d_PM_rule_0 : decode M_PM_rule.2.1 0 = .ok (.iload_n 1, 1) := by decide +kernel
theorem d_PM_rule_1 : decode M_PM_rule.2.1 1 = .ok (.bipush 17, 2) := by decide +kernel
theorem d_PM_rule_3 : decode M_PM_rule.2.1 3 = .ok (.invokestatic 108, 3) := by decide +kernel
theorem d_PM_rule_6 : decode M_PM_rule.2.1 6 = .ok (.ifCond .ne 9, 3) := by decide +kernel
theorem d_PM_rule_9 : decode M_PM_rule.2.1 9 = .ok (.aload_n 0, 1) := by decide +kernel
theorem d_PM_rule_10 : decode M_PM_rule.2.1 10 = .ok (.iconst 1, 1) := by decide +kernel
theorem d_PM_rule_11 : decode M_PM_rule.2.1 11 = .ok (.invokevirtual 112, 3) := by decide +kernel
theorem d_PM_rule_14 : decode M_PM_rule.2.1 14 = .ok (.ireturn, 1) := by decide +kernel
theorem d_PM_rule_15 : decode M_PM_rule.2.1 15 = .ok (.aload_n 0, 1) := by decide +kernel
theorem d_PM_rule_16 : decode M_PM_rule.2.1 16 = .ok (.getfield 25, 3) := by decide +kernel
theorem d_PM_rule_19 : decode M_PM_rule.2.1 19 = .ok (.iload_n 1, 1) := by decide +kernel
theorem d_PM_rule_20 : decode M_PM_rule.2.1 20 = .ok (.putfield 209, 3) := by decide +kernel
theorem d_PM_rule_23 : decode M_PM_rule.2.1 23 = .ok (.aload_n 0, 1) := by decide +kernel
theorem d_PM_rule_24 : decode M_PM_rule.2.1 24 = .ok (.invokevirtual 120, 3) := by decide +kernel
theorem d_PM_rule_27 : decode M_PM_rule.2.1 27 = .ok (.ireturn, 1) := by decide +kernel
theorem d_PM_out_0 : decode M_PM_out.2.1 0 = .ok (.aload_n 0, 1) := by decide +kernel
theorem d_PM_out_1 : decode M_PM_out.2.1 1 = .ok (.getfield 60, 3) := by decide +kernel
theorem d_PM_out_4 : decode M_PM_out.2.1 4 = .ok (.aload_n 0, 1) := by decide +kernel
theorem d_PM_out_5 : decode M_PM_out.2.1 5 = .ok (.getfield 25, 3) := by decide +kernel
theorem d_PM_out_8 : decode M_PM_out.2.1 8 = .ok (.invokevirtual 324, 3) := by decide +kernel
theorem d_PM_out_11 : decode M_PM_out.2.1 11 = .ok (.aload_n 0, 1) := by decide +kernel
theorem d_PM_out_12 : decode M_PM_out.2.1 12 = .ok (.getfield 60, 3) := by decide +kernel
theorem d_PM_out_15 : decode M_PM_out.2.1 15 = .ok (.getfield 327, 3) := by decide +kernel
theorem d_PM_out_18 : decode M_PM_out.2.1 18 = .ok (.iconst (-1), 1) := by decide +kernel
theorem d_PM_out_19 : decode M_PM_out.2.1 19 = .ok (.if_icmp .ne 12, 3) := by decide +kernel
theorem d_PM_out_22 : decode M_PM_out.2.1 22 = .ok (.aload_n 0, 1) := by decide +kernel
theorem d_PM_out_23 : decode M_PM_out.2.1 23 = .ok (.bipush 6, 2) := by decide +kernel
theorem d_PM_out_25 : decode M_PM_out.2.1 25 = .ok (.invokevirtual 132, 3) := by decide +kernel
theorem d_PM_out_28 : decode M_PM_out.2.1 28 = .ok (.goto 17, 3) := by decide +kernel
theorem d_PM_out_31 : decode M_PM_out.2.1 31 = .ok (.aload_n 0, 1) := by decide +kernel
theorem d_PM_out_32 : decode M_PM_out.2.1 32 = .ok (.aload_n 0, 1) := by decide +kernel
theorem d_PM_out_33 : decode M_PM_out.2.1 33 = .ok (.getfield 60, 3) := by decide +kernel
theorem d_PM_out_36 : decode M_PM_out.2.1 36 = .ok (.getfield 327, 3) := by decide +kernel
theorem d_PM_out_39 : decode M_PM_out.2.1 39 = .ok (.invokestatic 309, 3) := by decide +kernel
theorem d_PM_out_42 : decode M_PM_out.2.1 42 = .ok (.invokevirtual 182, 3) := by decide +kernel
theorem d_PM_out_45 : decode M_PM_out.2.1 45 = .ok (.ireturn, 1) := by decide +kernel
theorem d_PM_outSet_0 : decode M_PM_outSet.2.1 0 = .ok (.aload_n 0, 1) := by decide +kernel
