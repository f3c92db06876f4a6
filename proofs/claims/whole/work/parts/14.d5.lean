theorem d_Mo_missOf_51 : decode M_Mo_missOf.2.1 51 = .ok (.iload_n 1, 1) := by decide +kernel
theorem d_Mo_missOf_52 : decode M_Mo_missOf.2.1 52 = .ok (.iconst 1, 1) := by decide +kernel
theorem d_Mo_missOf_53 : decode M_Mo_missOf.2.1 53 = .ok (.invokevirtual 293, 3) := by decide +kernel
theorem d_Mo_missOf_56 : decode M_Mo_missOf.2.1 56 = .ok (.isub, 1) := by decide +kernel
theorem d_Mo_missOf_57 : decode M_Mo_missOf.2.1 57 = .ok (.invokestatic 297, 3) := by decide +kernel
theorem d_Mo_missOf_60 : decode M_Mo_missOf.2.1 60 = .ok (.iadd, 1) := by decide +kernel
theorem d_Mo_missOf_61 : decode M_Mo_missOf.2.1 61 = .ok (.ireturn, 1) := by decide +kernel
theorem d_Mo_missing_0 : decode M_Mo_missing.2.1 0 = .ok (.iconst 0, 1) := by decide +kernel
theorem d_Mo_missing_1 : decode M_Mo_missing.2.1 1 = .ok (.istore_n 1, 1) := by decide +kernel
theorem d_Mo_missing_2 : decode M_Mo_missing.2.1 2 = .ok (.iconst 0, 1) := by decide +kernel
theorem d_Mo_missing_3 : decode M_Mo_missing.2.1 3 = .ok (.istore_n 2, 1) := by decide +kernel
theorem d_Mo_missing_4 : decode M_Mo_missing.2.1 4 = .ok (.iload_n 2, 1) := by decide +kernel
theorem d_Mo_missing_5 : decode M_Mo_missing.2.1 5 = .ok (.aload_n 0, 1) := by decide +kernel
theorem d_Mo_missing_6 : decode M_Mo_missing.2.1 6 = .ok (.getfield 7, 3) := by decide +kernel
theorem d_Mo_missing_9 : decode M_Mo_missing.2.1 9 = .ok (.iconst 2, 1) := by decide +kernel
theorem d_Mo_missing_10 : decode M_Mo_missing.2.1 10 = .ok (.iaload, 1) := by decide +kernel
theorem d_Mo_missing_11 : decode M_Mo_missing.2.1 11 = .ok (.if_icmp .ge 48, 3) := by decide +kernel
theorem d_Mo_missing_14 : decode M_Mo_missing.2.1 14 = .ok (.iload_n 1, 1) := by decide +kernel
theorem d_Mo_missing_15 : decode M_Mo_missing.2.1 15 = .ok (.aload_n 0, 1) := by decide +kernel
theorem d_Mo_missing_16 : decode M_Mo_missing.2.1 16 = .ok (.iload_n 2, 1) := by decide +kernel
theorem d_Mo_missing_17 : decode M_Mo_missing.2.1 17 = .ok (.invokevirtual 300, 3) := by decide +kernel
theorem d_Mo_missing_20 : decode M_Mo_missing.2.1 20 = .ok (.ifCond .eq 30, 3) := by decide +kernel
theorem d_Mo_missing_23 : decode M_Mo_missing.2.1 23 = .ok (.aload_n 0, 1) := by decide +kernel
theorem d_Mo_missing_24 : decode M_Mo_missing.2.1 24 = .ok (.aload_n 0, 1) := by decide +kernel
theorem d_Mo_missing_25 : decode M_Mo_missing.2.1 25 = .ok (.iload_n 2, 1) := by decide +kernel
theorem d_Mo_missing_26 : decode M_Mo_missing.2.1 26 = .ok (.iconst 1, 1) := by decide +kernel
theorem d_Mo_missing_27 : decode M_Mo_missing.2.1 27 = .ok (.invokevirtual 287, 3) := by decide +kernel
theorem d_Mo_missing_30 : decode M_Mo_missing.2.1 30 = .ok (.invokevirtual 303, 3) := by decide +kernel
theorem d_Mo_missing_33 : decode M_Mo_missing.2.1 33 = .ok (.ifCond .eq 17, 3) := by decide +kernel
theorem d_Mo_missing_36 : decode M_Mo_missing.2.1 36 = .ok (.aload_n 0, 1) := by decide +kernel
theorem d_Mo_missing_37 : decode M_Mo_missing.2.1 37 = .ok (.iload_n 2, 1) := by decide +kernel
theorem d_Mo_missing_38 : decode M_Mo_missing.2.1 38 = .ok (.invokevirtual 312, 3) := by decide +kernel
theorem d_Mo_missing_41 : decode M_Mo_missing.2.1 41 = .ok (.ifCond .le 9, 3) := by decide +kernel
theorem d_Mo_missing_44 : decode M_Mo_missing.2.1 44 = .ok (.iconst 1, 1) := by decide +kernel
theorem d_Mo_missing_45 : decode M_Mo_missing.2.1 45 = .ok (.iload_n 2, 1) := by decide +kernel
theorem d_Mo_missing_46 : decode M_Mo_missing.2.1 46 = .ok (.ishl, 1) := by decide +kernel
theorem d_Mo_missing_47 : decode M_Mo_missing.2.1 47 = .ok (.goto 4, 3) := by decide +kernel
theorem d_Mo_missing_50 : decode M_Mo_missing.2.1 50 = .ok (.iconst 0, 1) := by decide +kernel
theorem d_Mo_missing_51 : decode M_Mo_missing.2.1 51 = .ok (.ior, 1) := by decide +kernel
theorem d_Mo_missing_52 : decode M_Mo_missing.2.1 52 = .ok (.istore_n 1, 1) := by decide +kernel
theorem d_Mo_missing_53 : decode M_Mo_missing.2.1 53 = .ok (.iinc 2 1, 3) := by decide +kernel
theorem d_Mo_missing_56 : decode M_Mo_missing.2.1 56 = .ok (.goto (-52), 3) := by decide +kernel
theorem d_Mo_missing_59 : decode M_Mo_missing.2.1 59 = .ok (.iload_n 1, 1) := by decide +kernel
theorem d_Mo_missing_60 : decode M_Mo_missing.2.1 60 = .ok (.ireturn, 1) := by decide +kernel
theorem d_Mo_isClosed_0 : decode M_Mo_isClosed.2.1 0 = .ok (.aload_n 0, 1) := by decide +kernel
theorem d_Mo_isClosed_1 : decode M_Mo_isClosed.2.1 1 = .ok (.iconst 1, 1) := by decide +kernel
theorem d_Mo_isClosed_2 : decode M_Mo_isClosed.2.1 2 = .ok (.invokevirtual 315, 3) := by decide +kernel
theorem d_Mo_isClosed_5 : decode M_Mo_isClosed.2.1 5 = .ok (.aload_n 0, 1) := by decide +kernel
theorem d_Mo_isClosed_6 : decode M_Mo_isClosed.2.1 6 = .ok (.invokevirtual 319, 3) := by decide +kernel
theorem d_Mo_isClosed_9 : decode M_Mo_isClosed.2.1 9 = .ok (.ifCond .ne 7, 3) := by decide +kernel
theorem d_Mo_isClosed_12 : decode M_Mo_isClosed.2.1 12 = .ok (.iconst 1, 1) := by decide +kernel
theorem d_Mo_isClosed_13 : decode M_Mo_isClosed.2.1 13 = .ok (.goto 4, 3) := by decide +kernel
theorem d_Mo_isClosed_16 : decode M_Mo_isClosed.2.1 16 = .ok (.iconst 0, 1) := by decide +kernel
theorem d_Mo_isClosed_17 : decode M_Mo_isClosed.2.1 17 = .ok (.ireturn, 1) := by decide +kernel
theorem d_Mo_parts_0 : decode M_Mo_parts.2.1 0 = .ok (.aload_n 0, 1) := by decide +kernel
theorem d_Mo_parts_1 : decode M_Mo_parts.2.1 1 = .ok (.iconst 1, 1) := by decide +kernel
theorem d_Mo_parts_2 : decode M_Mo_parts.2.1 2 = .ok (.invokevirtual 315, 3) := by decide +kernel
theorem d_Mo_parts_5 : decode M_Mo_parts.2.1 5 = .ok (.iconst 0, 1) := by decide +kernel
theorem d_Mo_parts_6 : decode M_Mo_parts.2.1 6 = .ok (.istore_n 1, 1) := by decide +kernel
theorem d_Mo_parts_7 : decode M_Mo_parts.2.1 7 = .ok (.iconst 0, 1) := by decide +kernel
theorem d_Mo_parts_8 : decode M_Mo_parts.2.1 8 = .ok (.istore_n 2, 1) := by decide +kernel
theorem d_Mo_parts_9 : decode M_Mo_parts.2.1 9 = .ok (.iload_n 2, 1) := by decide +kernel
theorem d_Mo_parts_10 : decode M_Mo_parts.2.1 10 = .ok (.aload_n 0, 1) := by decide +kernel
theorem d_Mo_parts_11 : decode M_Mo_parts.2.1 11 = .ok (.getfield 7, 3) := by decide +kernel
theorem d_Mo_parts_14 : decode M_Mo_parts.2.1 14 = .ok (.iconst 0, 1) := by decide +kernel
theorem d_Mo_parts_15 : decode M_Mo_parts.2.1 15 = .ok (.iaload, 1) := by decide +kernel
theorem d_Mo_parts_16 : decode M_Mo_parts.2.1 16 = .ok (.if_icmp .ge 27, 3) := by decide +kernel
theorem d_Mo_parts_19 : decode M_Mo_parts.2.1 19 = .ok (.iload_n 1, 1) := by decide +kernel
theorem d_Mo_parts_20 : decode M_Mo_parts.2.1 20 = .ok (.aload_n 0, 1) := by decide +kernel
theorem d_Mo_parts_21 : decode M_Mo_parts.2.1 21 = .ok (.getfield 53, 3) := by decide +kernel
theorem d_Mo_parts_24 : decode M_Mo_parts.2.1 24 = .ok (.iload_n 2, 1) := by decide +kernel
theorem d_Mo_parts_25 : decode M_Mo_parts.2.1 25 = .ok (.iaload, 1) := by decide +kernel
theorem d_Mo_parts_26 : decode M_Mo_parts.2.1 26 = .ok (.iload_n 2, 1) := by decide +kernel
theorem d_Mo_parts_27 : decode M_Mo_parts.2.1 27 = .ok (.if_icmp .ne 7, 3) := by decide +kernel
theorem d_Mo_parts_30 : decode M_Mo_parts.2.1 30 = .ok (.iconst 1, 1) := by decide +kernel
theorem d_Mo_parts_31 : decode M_Mo_parts.2.1 31 = .ok (.goto 4, 3) := by decide +kernel
theorem d_Mo_parts_34 : decode M_Mo_parts.2.1 34 = .ok (.iconst 0, 1) := by decide +kernel
theorem d_Mo_parts_35 : decode M_Mo_parts.2.1 35 = .ok (.iadd, 1) := by decide +kernel
theorem d_Mo_parts_36 : decode M_Mo_parts.2.1 36 = .ok (.istore_n 1, 1) := by decide +kernel
theorem d_Mo_parts_37 : decode M_Mo_parts.2.1 37 = .ok (.iinc 2 1, 3) := by decide +kernel
theorem d_Mo_parts_40 : decode M_Mo_parts.2.1 40 = .ok (.goto (-31), 3) := by decide +kernel
theorem d_Mo_parts_43 : decode M_Mo_parts.2.1 43 = .ok (.iload_n 1, 1) := by decide +kernel
theorem d_Mo_parts_44 : decode M_Mo_parts.2.1 44 = .ok (.ireturn, 1) := by decide +kernel
theorem d_Mo_legsThere_0 : decode M_Mo_legsThere.2.1 0 = .ok (.iconst 0, 1) := by decide +kernel
theorem d_Mo_legsThere_1 : decode M_Mo_legsThere.2.1 1 = .ok (.istore_n 1, 1) := by decide +kernel
theorem d_Mo_legsThere_2 : decode M_Mo_legsThere.2.1 2 = .ok (.iconst 0, 1) := by decide +kernel
theorem d_Mo_legsThere_3 : decode M_Mo_legsThere.2.1 3 = .ok (.istore_n 2, 1) := by decide +kernel
theorem d_Mo_legsThere_4 : decode M_Mo_legsThere.2.1 4 = .ok (.iload_n 2, 1) := by decide +kernel
theorem d_Mo_legsThere_5 : decode M_Mo_legsThere.2.1 5 = .ok (.aload_n 0, 1) := by decide +kernel
theorem d_Mo_legsThere_6 : decode M_Mo_legsThere.2.1 6 = .ok (.getfield 7, 3) := by decide +kernel
theorem d_Mo_legsThere_9 : decode M_Mo_legsThere.2.1 9 = .ok (.iconst 2, 1) := by decide +kernel
theorem d_Mo_legsThere_10 : decode M_Mo_legsThere.2.1 10 = .ok (.iaload, 1) := by decide +kernel
theorem d_Mo_legsThere_11 : decode M_Mo_legsThere.2.1 11 = .ok (.if_icmp .ge 25, 3) := by decide +kernel
theorem d_Mo_legsThere_14 : decode M_Mo_legsThere.2.1 14 = .ok (.iload_n 1, 1) := by decide +kernel
theorem d_Mo_legsThere_15 : decode M_Mo_legsThere.2.1 15 = .ok (.aload_n 0, 1) := by decide +kernel
theorem d_Mo_legsThere_16 : decode M_Mo_legsThere.2.1 16 = .ok (.iload_n 2, 1) := by decide +kernel
theorem d_Mo_legsThere_17 : decode M_Mo_legsThere.2.1 17 = .ok (.invokevirtual 300, 3) := by decide +kernel
theorem d_Mo_legsThere_20 : decode M_Mo_legsThere.2.1 20 = .ok (.ifCond .eq 7, 3) := by decide +kernel
theorem d_Mo_legsThere_23 : decode M_Mo_legsThere.2.1 23 = .ok (.iconst 1, 1) := by decide +kernel
theorem d_Mo_legsThere_24 : decode M_Mo_legsThere.2.1 24 = .ok (.goto 4, 3) := by decide +kernel
theorem d_Mo_legsThere_27 : decode M_Mo_legsThere.2.1 27 = .ok (.iconst 0, 1) := by decide +kernel
theorem d_Mo_legsThere_28 : decode M_Mo_legsThere.2.1 28 = .ok (.iadd, 1) := by decide +kernel
theorem d_Mo_legsThere_29 : decode M_Mo_legsThere.2.1 29 = .ok (.istore_n 1, 1) := by decide +kernel
theorem d_Mo_legsThere_30 : decode M_Mo_legsThere.2.1 30 = .ok (.iinc 2 1, 3) := by decide +kernel
theorem d_Mo_legsThere_33 : decode M_Mo_legsThere.2.1 33 = .ok (.goto (-29), 3) := by decide +kernel
theorem d_Mo_legsThere_36 : decode M_Mo_legsThere.2.1 36 = .ok (.iload_n 1, 1) := by decide +kernel
theorem d_Mo_legsThere_37 : decode M_Mo_legsThere.2.1 37 = .ok (.ireturn, 1) := by decide +kernel
theorem d_Mo_lying_0 : decode M_Mo_lying.2.1 0 = .ok (.aload_n 0, 1) := by decide +kernel
theorem d_Mo_lying_1 : decode M_Mo_lying.2.1 1 = .ok (.iconst 0, 1) := by decide +kernel
theorem d_Mo_lying_2 : decode M_Mo_lying.2.1 2 = .ok (.invokevirtual 315, 3) := by decide +kernel
theorem d_Mo_lying_5 : decode M_Mo_lying.2.1 5 = .ok (.iconst 0, 1) := by decide +kernel
theorem d_Mo_lying_6 : decode M_Mo_lying.2.1 6 = .ok (.istore_n 1, 1) := by decide +kernel
theorem d_Mo_lying_7 : decode M_Mo_lying.2.1 7 = .ok (.iconst 0, 1) := by decide +kernel
theorem d_Mo_lying_8 : decode M_Mo_lying.2.1 8 = .ok (.istore_n 2, 1) := by decide +kernel
theorem d_Mo_lying_9 : decode M_Mo_lying.2.1 9 = .ok (.iload_n 2, 1) := by decide +kernel
theorem d_Mo_lying_10 : decode M_Mo_lying.2.1 10 = .ok (.aload_n 0, 1) := by decide +kernel
theorem d_Mo_lying_11 : decode M_Mo_lying.2.1 11 = .ok (.getfield 7, 3) := by decide +kernel
theorem d_Mo_lying_14 : decode M_Mo_lying.2.1 14 = .ok (.iconst 0, 1) := by decide +kernel
theorem d_Mo_lying_15 : decode M_Mo_lying.2.1 15 = .ok (.iaload, 1) := by decide +kernel
theorem d_Mo_lying_16 : decode M_Mo_lying.2.1 16 = .ok (.if_icmp .ge 27, 3) := by decide +kernel
theorem d_Mo_lying_19 : decode M_Mo_lying.2.1 19 = .ok (.iload_n 1, 1) := by decide +kernel
theorem d_Mo_lying_20 : decode M_Mo_lying.2.1 20 = .ok (.aload_n 0, 1) := by decide +kernel
theorem d_Mo_lying_21 : decode M_Mo_lying.2.1 21 = .ok (.iload_n 2, 1) := by decide +kernel
theorem d_Mo_lying_22 : decode M_Mo_lying.2.1 22 = .ok (.invokevirtual 303, 3) := by decide +kernel
theorem d_Mo_lying_25 : decode M_Mo_lying.2.1 25 = .ok (.ifCond .eq 9, 3) := by decide +kernel
theorem d_Mo_lying_28 : decode M_Mo_lying.2.1 28 = .ok (.iconst 1, 1) := by decide +kernel
theorem d_Mo_lying_29 : decode M_Mo_lying.2.1 29 = .ok (.iload_n 2, 1) := by decide +kernel
theorem d_Mo_lying_30 : decode M_Mo_lying.2.1 30 = .ok (.ishl, 1) := by decide +kernel
theorem d_Mo_lying_31 : decode M_Mo_lying.2.1 31 = .ok (.goto 4, 3) := by decide +kernel
theorem d_Mo_lying_34 : decode M_Mo_lying.2.1 34 = .ok (.iconst 0, 1) := by decide +kernel
theorem d_Mo_lying_35 : decode M_Mo_lying.2.1 35 = .ok (.ior, 1) := by decide +kernel
theorem d_Mo_lying_36 : decode M_Mo_lying.2.1 36 = .ok (.istore_n 1, 1) := by decide +kernel
theorem d_Mo_lying_37 : decode M_Mo_lying.2.1 37 = .ok (.iinc 2 1, 3) := by decide +kernel
theorem d_Mo_lying_40 : decode M_Mo_lying.2.1 40 = .ok (.goto (-31), 3) := by decide +kernel
theorem d_Mo_lying_43 : decode M_Mo_lying.2.1 43 = .ok (.iload_n 1, 1) := by decide +kernel
theorem d_Mo_lying_44 : decode M_Mo_lying.2.1 44 = .ok (.ireturn, 1) := by decide +kernel
theorem d_Mo_bridges_0 : decode M_Mo_bridges.2.1 0 = .ok (.iconst 0, 1) := by decide +kernel
theorem d_Mo_bridges_1 : decode M_Mo_bridges.2.1 1 = .ok (.istore_n 1, 1) := by decide +kernel
theorem d_Mo_bridges_2 : decode M_Mo_bridges.2.1 2 = .ok (.aload_n 0, 1) := by decide +kernel
theorem d_Mo_bridges_3 : decode M_Mo_bridges.2.1 3 = .ok (.invokevirtual 322, 3) := by decide +kernel
theorem d_Mo_bridges_6 : decode M_Mo_bridges.2.1 6 = .ok (.istore_n 2, 1) := by decide +kernel
theorem d_Mo_bridges_7 : decode M_Mo_bridges.2.1 7 = .ok (.aload_n 0, 1) := by decide +kernel
theorem d_Mo_bridges_8 : decode M_Mo_bridges.2.1 8 = .ok (.getfield 7, 3) := by decide +kernel
theorem d_Mo_bridges_11 : decode M_Mo_bridges.2.1 11 = .ok (.bipush 6, 2) := by decide +kernel
theorem d_Mo_bridges_13 : decode M_Mo_bridges.2.1 13 = .ok (.iaload, 1) := by decide +kernel
theorem d_Mo_bridges_14 : decode M_Mo_bridges.2.1 14 = .ok (.istore_n 3, 1) := by decide +kernel
theorem d_Mo_bridges_15 : decode M_Mo_bridges.2.1 15 = .ok (.iconst 0, 1) := by decide +kernel
theorem d_Mo_bridges_16 : decode M_Mo_bridges.2.1 16 = .ok (.istore 4, 2) := by decide +kernel
theorem d_Mo_bridges_18 : decode M_Mo_bridges.2.1 18 = .ok (.iload 4, 2) := by decide +kernel
theorem d_Mo_bridges_20 : decode M_Mo_bridges.2.1 20 = .ok (.aload_n 0, 1) := by decide +kernel
theorem d_Mo_bridges_21 : decode M_Mo_bridges.2.1 21 = .ok (.getfield 7, 3) := by decide +kernel
theorem d_Mo_bridges_24 : decode M_Mo_bridges.2.1 24 = .ok (.iconst 2, 1) := by decide +kernel
theorem d_Mo_bridges_25 : decode M_Mo_bridges.2.1 25 = .ok (.iaload, 1) := by decide +kernel
theorem d_Mo_bridges_26 : decode M_Mo_bridges.2.1 26 = .ok (.if_icmp .ge 61, 3) := by decide +kernel
theorem d_Mo_bridges_29 : decode M_Mo_bridges.2.1 29 = .ok (.aload_n 0, 1) := by decide +kernel
theorem d_Mo_bridges_30 : decode M_Mo_bridges.2.1 30 = .ok (.iload 4, 2) := by decide +kernel
theorem d_Mo_bridges_32 : decode M_Mo_bridges.2.1 32 = .ok (.invokevirtual 300, 3) := by decide +kernel
theorem d_Mo_bridges_35 : decode M_Mo_bridges.2.1 35 = .ok (.ifCond .ne 6, 3) := by decide +kernel
theorem d_Mo_bridges_38 : decode M_Mo_bridges.2.1 38 = .ok (.goto 43, 3) := by decide +kernel
theorem d_Mo_bridges_41 : decode M_Mo_bridges.2.1 41 = .ok (.aload_n 0, 1) := by decide +kernel
theorem d_Mo_bridges_42 : decode M_Mo_bridges.2.1 42 = .ok (.getfield 7, 3) := by decide +kernel
theorem d_Mo_bridges_45 : decode M_Mo_bridges.2.1 45 = .ok (.bipush 6, 2) := by decide +kernel
theorem d_Mo_bridges_47 : decode M_Mo_bridges.2.1 47 = .ok (.iload_n 3, 1) := by decide +kernel
theorem d_Mo_bridges_48 : decode M_Mo_bridges.2.1 48 = .ok (.iconst 1, 1) := by decide +kernel
theorem d_Mo_bridges_49 : decode M_Mo_bridges.2.1 49 = .ok (.iload 4, 2) := by decide +kernel
theorem d_Mo_bridges_51 : decode M_Mo_bridges.2.1 51 = .ok (.ishl, 1) := by decide +kernel
theorem d_Mo_bridges_52 : decode M_Mo_bridges.2.1 52 = .ok (.ior, 1) := by decide +kernel
theorem d_Mo_bridges_53 : decode M_Mo_bridges.2.1 53 = .ok (.iastore, 1) := by decide +kernel
theorem d_Mo_bridges_54 : decode M_Mo_bridges.2.1 54 = .ok (.iload_n 1, 1) := by decide +kernel
theorem d_Mo_bridges_55 : decode M_Mo_bridges.2.1 55 = .ok (.aload_n 0, 1) := by decide +kernel
theorem d_Mo_bridges_56 : decode M_Mo_bridges.2.1 56 = .ok (.invokevirtual 322, 3) := by decide +kernel
theorem d_Mo_bridges_59 : decode M_Mo_bridges.2.1 59 = .ok (.iload_n 2, 1) := by decide +kernel
theorem d_Mo_bridges_60 : decode M_Mo_bridges.2.1 60 = .ok (.if_icmp .le 10, 3) := by decide +kernel
theorem d_Mo_bridges_63 : decode M_Mo_bridges.2.1 63 = .ok (.iconst 1, 1) := by decide +kernel
theorem d_Mo_bridges_64 : decode M_Mo_bridges.2.1 64 = .ok (.iload 4, 2) := by decide +kernel
theorem d_Mo_bridges_66 : decode M_Mo_bridges.2.1 66 = .ok (.ishl, 1) := by decide +kernel
theorem d_Mo_bridges_67 : decode M_Mo_bridges.2.1 67 = .ok (.goto 4, 3) := by decide +kernel
theorem d_Mo_bridges_70 : decode M_Mo_bridges.2.1 70 = .ok (.iconst 0, 1) := by decide +kernel
theorem d_Mo_bridges_71 : decode M_Mo_bridges.2.1 71 = .ok (.ior, 1) := by decide +kernel
theorem d_Mo_bridges_72 : decode M_Mo_bridges.2.1 72 = .ok (.istore_n 1, 1) := by decide +kernel
theorem d_Mo_bridges_73 : decode M_Mo_bridges.2.1 73 = .ok (.aload_n 0, 1) := by decide +kernel
theorem d_Mo_bridges_74 : decode M_Mo_bridges.2.1 74 = .ok (.getfield 7, 3) := by decide +kernel
theorem d_Mo_bridges_77 : decode M_Mo_bridges.2.1 77 = .ok (.bipush 6, 2) := by decide +kernel
theorem d_Mo_bridges_79 : decode M_Mo_bridges.2.1 79 = .ok (.iload_n 3, 1) := by decide +kernel
theorem d_Mo_bridges_80 : decode M_Mo_bridges.2.1 80 = .ok (.iastore, 1) := by decide +kernel
theorem d_Mo_bridges_81 : decode M_Mo_bridges.2.1 81 = .ok (.iinc 4 1, 3) := by decide +kernel
theorem d_Mo_bridges_84 : decode M_Mo_bridges.2.1 84 = .ok (.goto (-66), 3) := by decide +kernel
theorem d_Mo_bridges_87 : decode M_Mo_bridges.2.1 87 = .ok (.iload_n 1, 1) := by decide +kernel
theorem d_Mo_bridges_88 : decode M_Mo_bridges.2.1 88 = .ok (.ireturn, 1) := by decide +kernel
theorem d_Mo_told_0 : decode M_Mo_told.2.1 0 = .ok (.iload_n 1, 1) := by decide +kernel
theorem d_Mo_told_1 : decode M_Mo_told.2.1 1 = .ok (.tableswitch 167 0 11 #[63, 63, 63, 63, 74, 63, 85, 94, 106, 120, 129, 150], 63) := by decide +kernel
theorem d_Mo_told_64 : decode M_Mo_told.2.1 64 = .ok (.aload_n 0, 1) := by decide +kernel
theorem d_Mo_told_65 : decode M_Mo_told.2.1 65 = .ok (.aload_n 0, 1) := by decide +kernel
theorem d_Mo_told_66 : decode M_Mo_told.2.1 66 = .ok (.getfield 7, 3) := by decide +kernel
theorem d_Mo_told_69 : decode M_Mo_told.2.1 69 = .ok (.iload_n 1, 1) := by decide +kernel
theorem d_Mo_told_70 : decode M_Mo_told.2.1 70 = .ok (.iaload, 1) := by decide +kernel
theorem d_Mo_told_71 : decode M_Mo_told.2.1 71 = .ok (.invokevirtual 115, 3) := by decide +kernel
theorem d_Mo_told_74 : decode M_Mo_told.2.1 74 = .ok (.ireturn, 1) := by decide +kernel
theorem d_Mo_told_75 : decode M_Mo_told.2.1 75 = .ok (.aload_n 0, 1) := by decide +kernel
theorem d_Mo_told_76 : decode M_Mo_told.2.1 76 = .ok (.aload_n 0, 1) := by decide +kernel
theorem d_Mo_told_77 : decode M_Mo_told.2.1 77 = .ok (.getfield 7, 3) := by decide +kernel
theorem d_Mo_told_80 : decode M_Mo_told.2.1 80 = .ok (.iconst 4, 1) := by decide +kernel
theorem d_Mo_told_81 : decode M_Mo_told.2.1 81 = .ok (.iaload, 1) := by decide +kernel
theorem d_Mo_told_82 : decode M_Mo_told.2.1 82 = .ok (.invokevirtual 325, 3) := by decide +kernel
theorem d_Mo_told_85 : decode M_Mo_told.2.1 85 = .ok (.ireturn, 1) := by decide +kernel
theorem d_Mo_told_86 : decode M_Mo_told.2.1 86 = .ok (.aload_n 0, 1) := by decide +kernel
theorem d_Mo_told_87 : decode M_Mo_told.2.1 87 = .ok (.aload_n 0, 1) := by decide +kernel
theorem d_Mo_told_88 : decode M_Mo_told.2.1 88 = .ok (.invokevirtual 328, 3) := by decide +kernel
theorem d_Mo_told_91 : decode M_Mo_told.2.1 91 = .ok (.invokevirtual 115, 3) := by decide +kernel
theorem d_Mo_told_94 : decode M_Mo_told.2.1 94 = .ok (.ireturn, 1) := by decide +kernel
theorem d_Mo_told_95 : decode M_Mo_told.2.1 95 = .ok (.aload_n 0, 1) := by decide +kernel
theorem d_Mo_told_96 : decode M_Mo_told.2.1 96 = .ok (.aload_n 0, 1) := by decide +kernel
theorem d_Mo_told_97 : decode M_Mo_told.2.1 97 = .ok (.getfield 7, 3) := by decide +kernel
theorem d_Mo_told_100 : decode M_Mo_told.2.1 100 = .ok (.bipush 6, 2) := by decide +kernel
theorem d_Mo_told_102 : decode M_Mo_told.2.1 102 = .ok (.iaload, 1) := by decide +kernel
theorem d_Mo_told_103 : decode M_Mo_told.2.1 103 = .ok (.invokevirtual 115, 3) := by decide +kernel
theorem d_Mo_told_106 : decode M_Mo_told.2.1 106 = .ok (.ireturn, 1) := by decide +kernel
theorem d_Mo_told_107 : decode M_Mo_told.2.1 107 = .ok (.aload_n 0, 1) := by decide +kernel
theorem d_Mo_told_108 : decode M_Mo_told.2.1 108 = .ok (.iconst 0, 1) := by decide +kernel
theorem d_Mo_told_109 : decode M_Mo_told.2.1 109 = .ok (.invokevirtual 315, 3) := by decide +kernel
theorem d_Mo_told_112 : decode M_Mo_told.2.1 112 = .ok (.aload_n 0, 1) := by decide +kernel
theorem d_Mo_told_113 : decode M_Mo_told.2.1 113 = .ok (.aload_n 0, 1) := by decide +kernel
theorem d_Mo_told_114 : decode M_Mo_told.2.1 114 = .ok (.invokevirtual 319, 3) := by decide +kernel
theorem d_Mo_told_117 : decode M_Mo_told.2.1 117 = .ok (.invokevirtual 115, 3) := by decide +kernel
theorem d_Mo_told_120 : decode M_Mo_told.2.1 120 = .ok (.ireturn, 1) := by decide +kernel
theorem d_Mo_told_121 : decode M_Mo_told.2.1 121 = .ok (.aload_n 0, 1) := by decide +kernel
theorem d_Mo_told_122 : decode M_Mo_told.2.1 122 = .ok (.aload_n 0, 1) := by decide +kernel
theorem d_Mo_told_123 : decode M_Mo_told.2.1 123 = .ok (.invokevirtual 331, 3) := by decide +kernel
theorem d_Mo_told_126 : decode M_Mo_told.2.1 126 = .ok (.invokevirtual 115, 3) := by decide +kernel
theorem d_Mo_told_129 : decode M_Mo_told.2.1 129 = .ok (.ireturn, 1) := by decide +kernel
theorem d_Mo_told_130 : decode M_Mo_told.2.1 130 = .ok (.aload_n 0, 1) := by decide +kernel
theorem d_Mo_told_131 : decode M_Mo_told.2.1 131 = .ok (.aload_n 0, 1) := by decide +kernel
theorem d_Mo_told_132 : decode M_Mo_told.2.1 132 = .ok (.invokevirtual 334, 3) := by decide +kernel
theorem d_Mo_told_135 : decode M_Mo_told.2.1 135 = .ok (.aload_n 0, 1) := by decide +kernel
theorem d_Mo_told_136 : decode M_Mo_told.2.1 136 = .ok (.getfield 7, 3) := by decide +kernel
theorem d_Mo_told_139 : decode M_Mo_told.2.1 139 = .ok (.iconst 0, 1) := by decide +kernel
theorem d_Mo_told_140 : decode M_Mo_told.2.1 140 = .ok (.iaload, 1) := by decide +kernel
theorem d_Mo_told_141 : decode M_Mo_told.2.1 141 = .ok (.isub, 1) := by decide +kernel
theorem d_Mo_told_142 : decode M_Mo_told.2.1 142 = .ok (.aload_n 0, 1) := by decide +kernel
theorem d_Mo_told_143 : decode M_Mo_told.2.1 143 = .ok (.invokevirtual 322, 3) := by decide +kernel
theorem d_Mo_told_146 : decode M_Mo_told.2.1 146 = .ok (.iadd, 1) := by decide +kernel
theorem d_Mo_told_147 : decode M_Mo_told.2.1 147 = .ok (.invokevirtual 115, 3) := by decide +kernel
theorem d_Mo_told_150 : decode M_Mo_told.2.1 150 = .ok (.ireturn, 1) := by decide +kernel
theorem d_Mo_told_151 : decode M_Mo_told.2.1 151 = .ok (.aload_n 0, 1) := by decide +kernel
theorem d_Mo_told_152 : decode M_Mo_told.2.1 152 = .ok (.aload_n 0, 1) := by decide +kernel
theorem d_Mo_told_153 : decode M_Mo_told.2.1 153 = .ok (.invokevirtual 337, 3) := by decide +kernel
theorem d_Mo_told_156 : decode M_Mo_told.2.1 156 = .ok (.ifCond .eq 7, 3) := by decide +kernel
theorem d_Mo_told_159 : decode M_Mo_told.2.1 159 = .ok (.iconst 1, 1) := by decide +kernel
theorem d_Mo_told_160 : decode M_Mo_told.2.1 160 = .ok (.goto 4, 3) := by decide +kernel
theorem d_Mo_told_163 : decode M_Mo_told.2.1 163 = .ok (.iconst 0, 1) := by decide +kernel
theorem d_Mo_told_164 : decode M_Mo_told.2.1 164 = .ok (.invokevirtual 115, 3) := by decide +kernel
theorem d_Mo_told_167 : decode M_Mo_told.2.1 167 = .ok (.ireturn, 1) := by decide +kernel
theorem d_Mo_told_168 : decode M_Mo_told.2.1 168 = .ok (.aload_n 0, 1) := by decide +kernel
theorem d_Mo_told_169 : decode M_Mo_told.2.1 169 = .ok (.iconst 1, 1) := by decide +kernel
theorem d_Mo_told_170 : decode M_Mo_told.2.1 170 = .ok (.invokevirtual 111, 3) := by decide +kernel
theorem d_Mo_told_173 : decode M_Mo_told.2.1 173 = .ok (.ireturn, 1) := by decide +kernel
theorem d_Mo_faultOf_0 : decode M_Mo_faultOf.2.1 0 = .ok (.aload_n 0, 1) := by decide +kernel
theorem d_Mo_faultOf_1 : decode M_Mo_faultOf.2.1 1 = .ok (.iload_n 1, 1) := by decide +kernel
theorem d_Mo_faultOf_2 : decode M_Mo_faultOf.2.1 2 = .ok (.iconst 0, 1) := by decide +kernel
theorem d_Mo_faultOf_3 : decode M_Mo_faultOf.2.1 3 = .ok (.invokevirtual 290, 3) := by decide +kernel
theorem d_Mo_faultOf_6 : decode M_Mo_faultOf.2.1 6 = .ok (.iconst 4, 1) := by decide +kernel
theorem d_Mo_faultOf_7 : decode M_Mo_faultOf.2.1 7 = .ok (.aload_n 0, 1) := by decide +kernel
theorem d_Mo_faultOf_8 : decode M_Mo_faultOf.2.1 8 = .ok (.iload_n 1, 1) := by decide +kernel
theorem d_Mo_faultOf_9 : decode M_Mo_faultOf.2.1 9 = .ok (.iconst 1, 1) := by decide +kernel
theorem d_Mo_faultOf_10 : decode M_Mo_faultOf.2.1 10 = .ok (.invokevirtual 290, 3) := by decide +kernel
theorem d_Mo_faultOf_13 : decode M_Mo_faultOf.2.1 13 = .ok (.imul, 1) := by decide +kernel
theorem d_Mo_faultOf_14 : decode M_Mo_faultOf.2.1 14 = .ok (.iadd, 1) := by decide +kernel
theorem d_Mo_faultOf_15 : decode M_Mo_faultOf.2.1 15 = .ok (.bipush 8, 2) := by decide +kernel
theorem d_Mo_faultOf_17 : decode M_Mo_faultOf.2.1 17 = .ok (.aload_n 0, 1) := by decide +kernel
theorem d_Mo_faultOf_18 : decode M_Mo_faultOf.2.1 18 = .ok (.iload_n 1, 1) := by decide +kernel
theorem d_Mo_faultOf_19 : decode M_Mo_faultOf.2.1 19 = .ok (.iconst 2, 1) := by decide +kernel
theorem d_Mo_faultOf_20 : decode M_Mo_faultOf.2.1 20 = .ok (.invokevirtual 290, 3) := by decide +kernel
theorem d_Mo_faultOf_23 : decode M_Mo_faultOf.2.1 23 = .ok (.iconst 1, 1) := by decide +kernel
theorem d_Mo_faultOf_24 : decode M_Mo_faultOf.2.1 24 = .ok (.isub, 1) := by decide +kernel
theorem d_Mo_faultOf_25 : decode M_Mo_faultOf.2.1 25 = .ok (.imul, 1) := by decide +kernel
theorem d_Mo_faultOf_26 : decode M_Mo_faultOf.2.1 26 = .ok (.iadd, 1) := by decide +kernel
theorem d_Mo_faultOf_27 : decode M_Mo_faultOf.2.1 27 = .ok (.ireturn, 1) := by decide +kernel
theorem d_Mo_walker_0 : decode M_Mo_walker.2.1 0 = .ok (.aload_n 0, 1) := by decide +kernel
theorem d_Mo_walker_1 : decode M_Mo_walker.2.1 1 = .ok (.iload_n 1, 1) := by decide +kernel
theorem d_Mo_walker_2 : decode M_Mo_walker.2.1 2 = .ok (.invokevirtual 340, 3) := by decide +kernel
theorem d_Mo_walker_5 : decode M_Mo_walker.2.1 5 = .ok (.ifCond .eq 12, 3) := by decide +kernel
theorem d_Mo_walker_8 : decode M_Mo_walker.2.1 8 = .ok (.iload_n 2, 1) := by decide +kernel
theorem d_Mo_walker_9 : decode M_Mo_walker.2.1 9 = .ok (.ifCond .lt 8, 3) := by decide +kernel
theorem d_Mo_walker_12 : decode M_Mo_walker.2.1 12 = .ok (.iload_n 2, 1) := by decide +kernel
theorem d_Mo_walker_13 : decode M_Mo_walker.2.1 13 = .ok (.iconst 4, 1) := by decide +kernel
theorem d_Mo_walker_14 : decode M_Mo_walker.2.1 14 = .ok (.if_icmp .le 9, 3) := by decide +kernel
theorem d_Mo_walker_17 : decode M_Mo_walker.2.1 17 = .ok (.aload_n 0, 1) := by decide +kernel
theorem d_Mo_walker_18 : decode M_Mo_walker.2.1 18 = .ok (.iconst 1, 1) := by decide +kernel
theorem d_Mo_walker_19 : decode M_Mo_walker.2.1 19 = .ok (.invokevirtual 111, 3) := by decide +kernel
theorem d_Mo_walker_22 : decode M_Mo_walker.2.1 22 = .ok (.ireturn, 1) := by decide +kernel
theorem d_Mo_walker_23 : decode M_Mo_walker.2.1 23 = .ok (.iload_n 2, 1) := by decide +kernel
theorem d_Mo_walker_24 : decode M_Mo_walker.2.1 24 = .ok (.iconst 3, 1) := by decide +kernel
theorem d_Mo_walker_25 : decode M_Mo_walker.2.1 25 = .ok (.if_icmp .ge 14, 3) := by decide +kernel
theorem d_Mo_walker_28 : decode M_Mo_walker.2.1 28 = .ok (.aload_n 0, 1) := by decide +kernel
theorem d_Mo_walker_29 : decode M_Mo_walker.2.1 29 = .ok (.aload_n 0, 1) := by decide +kernel
theorem d_Mo_walker_30 : decode M_Mo_walker.2.1 30 = .ok (.iload_n 1, 1) := by decide +kernel
theorem d_Mo_walker_31 : decode M_Mo_walker.2.1 31 = .ok (.iload_n 2, 1) := by decide +kernel
theorem d_Mo_walker_32 : decode M_Mo_walker.2.1 32 = .ok (.invokevirtual 290, 3) := by decide +kernel
theorem d_Mo_walker_35 : decode M_Mo_walker.2.1 35 = .ok (.invokevirtual 115, 3) := by decide +kernel
theorem d_Mo_walker_38 : decode M_Mo_walker.2.1 38 = .ok (.ireturn, 1) := by decide +kernel
theorem d_Mo_walker_39 : decode M_Mo_walker.2.1 39 = .ok (.iload_n 2, 1) := by decide +kernel
theorem d_Mo_walker_40 : decode M_Mo_walker.2.1 40 = .ok (.iconst 3, 1) := by decide +kernel
theorem d_Mo_walker_41 : decode M_Mo_walker.2.1 41 = .ok (.if_icmp .ne 13, 3) := by decide +kernel
theorem d_Mo_walker_44 : decode M_Mo_walker.2.1 44 = .ok (.aload_n 0, 1) := by decide +kernel
theorem d_Mo_walker_45 : decode M_Mo_walker.2.1 45 = .ok (.aload_n 0, 1) := by decide +kernel
theorem d_Mo_walker_46 : decode M_Mo_walker.2.1 46 = .ok (.iload_n 1, 1) := by decide +kernel
theorem d_Mo_walker_47 : decode M_Mo_walker.2.1 47 = .ok (.invokevirtual 343, 3) := by decide +kernel
theorem d_Mo_walker_50 : decode M_Mo_walker.2.1 50 = .ok (.invokevirtual 115, 3) := by decide +kernel
theorem d_Mo_walker_53 : decode M_Mo_walker.2.1 53 = .ok (.ireturn, 1) := by decide +kernel
theorem d_Mo_walker_54 : decode M_Mo_walker.2.1 54 = .ok (.iconst 0, 1) := by decide +kernel
theorem d_Mo_walker_55 : decode M_Mo_walker.2.1 55 = .ok (.istore_n 3, 1) := by decide +kernel
theorem d_Mo_walker_56 : decode M_Mo_walker.2.1 56 = .ok (.iconst 0, 1) := by decide +kernel
theorem d_Mo_walker_57 : decode M_Mo_walker.2.1 57 = .ok (.istore 4, 2) := by decide +kernel
theorem d_Mo_walker_59 : decode M_Mo_walker.2.1 59 = .ok (.iload 4, 2) := by decide +kernel
theorem d_Mo_walker_61 : decode M_Mo_walker.2.1 61 = .ok (.aload_n 0, 1) := by decide +kernel
theorem d_Mo_walker_62 : decode M_Mo_walker.2.1 62 = .ok (.getfield 7, 3) := by decide +kernel
theorem d_Mo_walker_65 : decode M_Mo_walker.2.1 65 = .ok (.iconst 2, 1) := by decide +kernel
theorem d_Mo_walker_66 : decode M_Mo_walker.2.1 66 = .ok (.iaload, 1) := by decide +kernel
theorem d_Mo_walker_67 : decode M_Mo_walker.2.1 67 = .ok (.if_icmp .ge 31, 3) := by decide +kernel
theorem d_Mo_walker_70 : decode M_Mo_walker.2.1 70 = .ok (.iload_n 3, 1) := by decide +kernel
theorem d_Mo_walker_71 : decode M_Mo_walker.2.1 71 = .ok (.aload_n 0, 1) := by decide +kernel
theorem d_Mo_walker_72 : decode M_Mo_walker.2.1 72 = .ok (.iload 4, 2) := by decide +kernel
theorem d_Mo_walker_74 : decode M_Mo_walker.2.1 74 = .ok (.iconst 0, 1) := by decide +kernel
theorem d_Mo_walker_75 : decode M_Mo_walker.2.1 75 = .ok (.invokevirtual 287, 3) := by decide +kernel
theorem d_Mo_walker_78 : decode M_Mo_walker.2.1 78 = .ok (.iload_n 1, 1) := by decide +kernel
theorem d_Mo_walker_79 : decode M_Mo_walker.2.1 79 = .ok (.if_icmp .ne 10, 3) := by decide +kernel
theorem d_Mo_walker_82 : decode M_Mo_walker.2.1 82 = .ok (.iconst 1, 1) := by decide +kernel
theorem d_Mo_walker_83 : decode M_Mo_walker.2.1 83 = .ok (.iload 4, 2) := by decide +kernel
theorem d_Mo_walker_85 : decode M_Mo_walker.2.1 85 = .ok (.ishl, 1) := by decide +kernel
theorem d_Mo_walker_86 : decode M_Mo_walker.2.1 86 = .ok (.goto 4, 3) := by decide +kernel
theorem d_Mo_walker_89 : decode M_Mo_walker.2.1 89 = .ok (.iconst 0, 1) := by decide +kernel
theorem d_Mo_walker_90 : decode M_Mo_walker.2.1 90 = .ok (.ior, 1) := by decide +kernel
theorem d_Mo_walker_91 : decode M_Mo_walker.2.1 91 = .ok (.istore_n 3, 1) := by decide +kernel
theorem d_Mo_walker_92 : decode M_Mo_walker.2.1 92 = .ok (.iinc 4 1, 3) := by decide +kernel
theorem d_Mo_walker_95 : decode M_Mo_walker.2.1 95 = .ok (.goto (-36), 3) := by decide +kernel
theorem d_Mo_walker_98 : decode M_Mo_walker.2.1 98 = .ok (.aload_n 0, 1) := by decide +kernel
theorem d_Mo_walker_99 : decode M_Mo_walker.2.1 99 = .ok (.iload_n 3, 1) := by decide +kernel
theorem d_Mo_walker_100 : decode M_Mo_walker.2.1 100 = .ok (.invokevirtual 115, 3) := by decide +kernel
theorem d_Mo_walker_103 : decode M_Mo_walker.2.1 103 = .ok (.ireturn, 1) := by decide +kernel
theorem d_Mo_leg_0 : decode M_Mo_leg.2.1 0 = .ok (.aload_n 0, 1) := by decide +kernel
theorem d_Mo_leg_1 : decode M_Mo_leg.2.1 1 = .ok (.iload_n 1, 1) := by decide +kernel
theorem d_Mo_leg_2 : decode M_Mo_leg.2.1 2 = .ok (.invokevirtual 346, 3) := by decide +kernel
theorem d_Mo_leg_5 : decode M_Mo_leg.2.1 5 = .ok (.ifCond .eq 13, 3) := by decide +kernel
theorem d_Mo_leg_8 : decode M_Mo_leg.2.1 8 = .ok (.iload_n 2, 1) := by decide +kernel
theorem d_Mo_leg_9 : decode M_Mo_leg.2.1 9 = .ok (.ifCond .lt 9, 3) := by decide +kernel
theorem d_Mo_leg_12 : decode M_Mo_leg.2.1 12 = .ok (.iload_n 2, 1) := by decide +kernel
theorem d_Mo_leg_13 : decode M_Mo_leg.2.1 13 = .ok (.bipush 7, 2) := by decide +kernel
theorem d_Mo_leg_15 : decode M_Mo_leg.2.1 15 = .ok (.if_icmp .le 9, 3) := by decide +kernel
theorem d_Mo_leg_18 : decode M_Mo_leg.2.1 18 = .ok (.aload_n 0, 1) := by decide +kernel
theorem d_Mo_leg_19 : decode M_Mo_leg.2.1 19 = .ok (.iconst 1, 1) := by decide +kernel
theorem d_Mo_leg_20 : decode M_Mo_leg.2.1 20 = .ok (.invokevirtual 111, 3) := by decide +kernel
theorem d_Mo_leg_23 : decode M_Mo_leg.2.1 23 = .ok (.ireturn, 1) := by decide +kernel
theorem d_Mo_leg_24 : decode M_Mo_leg.2.1 24 = .ok (.iload_n 2, 1) := by decide +kernel
theorem d_Mo_leg_25 : decode M_Mo_leg.2.1 25 = .ok (.iconst 5, 1) := by decide +kernel
theorem d_Mo_leg_26 : decode M_Mo_leg.2.1 26 = .ok (.if_icmp .ge 14, 3) := by decide +kernel
theorem d_Mo_leg_29 : decode M_Mo_leg.2.1 29 = .ok (.aload_n 0, 1) := by decide +kernel
theorem d_Mo_leg_30 : decode M_Mo_leg.2.1 30 = .ok (.aload_n 0, 1) := by decide +kernel
theorem d_Mo_leg_31 : decode M_Mo_leg.2.1 31 = .ok (.iload_n 1, 1) := by decide +kernel
theorem d_Mo_leg_32 : decode M_Mo_leg.2.1 32 = .ok (.iload_n 2, 1) := by decide +kernel
theorem d_Mo_leg_33 : decode M_Mo_leg.2.1 33 = .ok (.invokevirtual 287, 3) := by decide +kernel
theorem d_Mo_leg_36 : decode M_Mo_leg.2.1 36 = .ok (.invokevirtual 115, 3) := by decide +kernel
theorem d_Mo_leg_39 : decode M_Mo_leg.2.1 39 = .ok (.ireturn, 1) := by decide +kernel
theorem d_Mo_leg_40 : decode M_Mo_leg.2.1 40 = .ok (.iload_n 2, 1) := by decide +kernel
theorem d_Mo_leg_41 : decode M_Mo_leg.2.1 41 = .ok (.bipush 7, 2) := by decide +kernel
theorem d_Mo_leg_43 : decode M_Mo_leg.2.1 43 = .ok (.if_icmp .ge 24, 3) := by decide +kernel
theorem d_Mo_leg_46 : decode M_Mo_leg.2.1 46 = .ok (.aload_n 0, 1) := by decide +kernel
theorem d_Mo_leg_47 : decode M_Mo_leg.2.1 47 = .ok (.aload_n 0, 1) := by decide +kernel
theorem d_Mo_leg_48 : decode M_Mo_leg.2.1 48 = .ok (.iload_n 1, 1) := by decide +kernel
theorem d_Mo_leg_49 : decode M_Mo_leg.2.1 49 = .ok (.iload_n 2, 1) := by decide +kernel
theorem d_Mo_leg_50 : decode M_Mo_leg.2.1 50 = .ok (.bipush 6, 2) := by decide +kernel
theorem d_Mo_leg_52 : decode M_Mo_leg.2.1 52 = .ok (.if_icmp .ne 7, 3) := by decide +kernel
theorem d_Mo_leg_55 : decode M_Mo_leg.2.1 55 = .ok (.iconst 1, 1) := by decide +kernel
theorem d_Mo_leg_56 : decode M_Mo_leg.2.1 56 = .ok (.goto 4, 3) := by decide +kernel
theorem d_Mo_leg_59 : decode M_Mo_leg.2.1 59 = .ok (.iconst 0, 1) := by decide +kernel
theorem d_Mo_leg_60 : decode M_Mo_leg.2.1 60 = .ok (.invokevirtual 293, 3) := by decide +kernel
theorem d_Mo_leg_63 : decode M_Mo_leg.2.1 63 = .ok (.invokevirtual 115, 3) := by decide +kernel
theorem d_Mo_leg_66 : decode M_Mo_leg.2.1 66 = .ok (.ireturn, 1) := by decide +kernel
theorem d_Mo_leg_67 : decode M_Mo_leg.2.1 67 = .ok (.aload_n 0, 1) := by decide +kernel
theorem d_Mo_leg_68 : decode M_Mo_leg.2.1 68 = .ok (.iconst 0, 1) := by decide +kernel
theorem d_Mo_leg_69 : decode M_Mo_leg.2.1 69 = .ok (.invokevirtual 315, 3) := by decide +kernel
theorem d_Mo_leg_72 : decode M_Mo_leg.2.1 72 = .ok (.aload_n 0, 1) := by decide +kernel
theorem d_Mo_leg_73 : decode M_Mo_leg.2.1 73 = .ok (.iload_n 1, 1) := by decide +kernel
theorem d_Mo_leg_74 : decode M_Mo_leg.2.1 74 = .ok (.invokevirtual 300, 3) := by decide +kernel
theorem d_Mo_leg_77 : decode M_Mo_leg.2.1 77 = .ok (.ifCond .eq 20, 3) := by decide +kernel
theorem d_Mo_leg_80 : decode M_Mo_leg.2.1 80 = .ok (.aload_n 0, 1) := by decide +kernel
theorem d_Mo_leg_81 : decode M_Mo_leg.2.1 81 = .ok (.aload_n 0, 1) := by decide +kernel
theorem d_Mo_leg_82 : decode M_Mo_leg.2.1 82 = .ok (.iload_n 1, 1) := by decide +kernel
theorem d_Mo_leg_83 : decode M_Mo_leg.2.1 83 = .ok (.iconst 1, 1) := by decide +kernel
theorem d_Mo_leg_84 : decode M_Mo_leg.2.1 84 = .ok (.invokevirtual 287, 3) := by decide +kernel
theorem d_Mo_leg_87 : decode M_Mo_leg.2.1 87 = .ok (.invokevirtual 303, 3) := by decide +kernel
theorem d_Mo_leg_90 : decode M_Mo_leg.2.1 90 = .ok (.ifCond .eq 7, 3) := by decide +kernel
theorem d_Mo_leg_93 : decode M_Mo_leg.2.1 93 = .ok (.iconst 1, 1) := by decide +kernel
theorem d_Mo_leg_94 : decode M_Mo_leg.2.1 94 = .ok (.goto 4, 3) := by decide +kernel
theorem d_Mo_leg_97 : decode M_Mo_leg.2.1 97 = .ok (.iconst 0, 1) := by decide +kernel
theorem d_Mo_leg_98 : decode M_Mo_leg.2.1 98 = .ok (.istore_n 3, 1) := by decide +kernel
theorem d_Mo_leg_99 : decode M_Mo_leg.2.1 99 = .ok (.iload_n 3, 1) := by decide +kernel
theorem d_Mo_leg_100 : decode M_Mo_leg.2.1 100 = .ok (.ifCond .eq 15, 3) := by decide +kernel
theorem d_Mo_leg_103 : decode M_Mo_leg.2.1 103 = .ok (.aload_n 0, 1) := by decide +kernel
theorem d_Mo_leg_104 : decode M_Mo_leg.2.1 104 = .ok (.aload_n 0, 1) := by decide +kernel
theorem d_Mo_leg_105 : decode M_Mo_leg.2.1 105 = .ok (.iload_n 1, 1) := by decide +kernel
theorem d_Mo_leg_106 : decode M_Mo_leg.2.1 106 = .ok (.invokevirtual 312, 3) := by decide +kernel
theorem d_Mo_leg_109 : decode M_Mo_leg.2.1 109 = .ok (.invokevirtual 115, 3) := by decide +kernel
theorem d_Mo_leg_112 : decode M_Mo_leg.2.1 112 = .ok (.goto 9, 3) := by decide +kernel
theorem d_Mo_leg_115 : decode M_Mo_leg.2.1 115 = .ok (.aload_n 0, 1) := by decide +kernel
theorem d_Mo_leg_116 : decode M_Mo_leg.2.1 116 = .ok (.bipush 6, 2) := by decide +kernel
theorem d_Mo_leg_118 : decode M_Mo_leg.2.1 118 = .ok (.invokevirtual 111, 3) := by decide +kernel
theorem d_Mo_leg_121 : decode M_Mo_leg.2.1 121 = .ok (.ireturn, 1) := by decide +kernel
theorem d_Mo_place_0 : decode M_Mo_place.2.1 0 = .ok (.aload_n 0, 1) := by decide +kernel
theorem d_Mo_place_1 : decode M_Mo_place.2.1 1 = .ok (.iload_n 1, 1) := by decide +kernel
theorem d_Mo_place_2 : decode M_Mo_place.2.1 2 = .ok (.invokevirtual 278, 3) := by decide +kernel
theorem d_Mo_place_5 : decode M_Mo_place.2.1 5 = .ok (.ifCond .eq 12, 3) := by decide +kernel
theorem d_Mo_place_8 : decode M_Mo_place.2.1 8 = .ok (.iload_n 2, 1) := by decide +kernel
theorem d_Mo_place_9 : decode M_Mo_place.2.1 9 = .ok (.ifCond .lt 8, 3) := by decide +kernel
theorem d_Mo_place_12 : decode M_Mo_place.2.1 12 = .ok (.iload_n 2, 1) := by decide +kernel
theorem d_Mo_place_13 : decode M_Mo_place.2.1 13 = .ok (.iconst 1, 1) := by decide +kernel
theorem d_Mo_place_14 : decode M_Mo_place.2.1 14 = .ok (.if_icmp .le 9, 3) := by decide +kernel
theorem d_Mo_place_17 : decode M_Mo_place.2.1 17 = .ok (.aload_n 0, 1) := by decide +kernel
theorem d_Mo_place_18 : decode M_Mo_place.2.1 18 = .ok (.iconst 1, 1) := by decide +kernel
theorem d_Mo_place_19 : decode M_Mo_place.2.1 19 = .ok (.invokevirtual 111, 3) := by decide +kernel
theorem d_Mo_place_22 : decode M_Mo_place.2.1 22 = .ok (.ireturn, 1) := by decide +kernel
theorem d_Mo_place_23 : decode M_Mo_place.2.1 23 = .ok (.aload_n 0, 1) := by decide +kernel
theorem d_Mo_place_24 : decode M_Mo_place.2.1 24 = .ok (.iconst 0, 1) := by decide +kernel
theorem d_Mo_place_25 : decode M_Mo_place.2.1 25 = .ok (.invokevirtual 315, 3) := by decide +kernel
theorem d_Mo_place_28 : decode M_Mo_place.2.1 28 = .ok (.aload_n 0, 1) := by decide +kernel
theorem d_Mo_place_29 : decode M_Mo_place.2.1 29 = .ok (.iload_n 1, 1) := by decide +kernel
theorem d_Mo_place_30 : decode M_Mo_place.2.1 30 = .ok (.invokevirtual 303, 3) := by decide +kernel
theorem d_Mo_place_33 : decode M_Mo_place.2.1 33 = .ok (.ifCond .ne 10, 3) := by decide +kernel
theorem d_Mo_place_36 : decode M_Mo_place.2.1 36 = .ok (.aload_n 0, 1) := by decide +kernel
theorem d_Mo_place_37 : decode M_Mo_place.2.1 37 = .ok (.bipush 6, 2) := by decide +kernel
theorem d_Mo_place_39 : decode M_Mo_place.2.1 39 = .ok (.invokevirtual 111, 3) := by decide +kernel
theorem d_Mo_place_42 : decode M_Mo_place.2.1 42 = .ok (.ireturn, 1) := by decide +kernel
theorem d_Mo_place_43 : decode M_Mo_place.2.1 43 = .ok (.aload_n 0, 1) := by decide +kernel
theorem d_Mo_place_44 : decode M_Mo_place.2.1 44 = .ok (.iload_n 2, 1) := by decide +kernel
theorem d_Mo_place_45 : decode M_Mo_place.2.1 45 = .ok (.ifCond .ne 12, 3) := by decide +kernel
theorem d_Mo_place_48 : decode M_Mo_place.2.1 48 = .ok (.aload_n 0, 1) := by decide +kernel
theorem d_Mo_place_49 : decode M_Mo_place.2.1 49 = .ok (.getfield 47, 3) := by decide +kernel
theorem d_Mo_place_52 : decode M_Mo_place.2.1 52 = .ok (.iload_n 1, 1) := by decide +kernel
theorem d_Mo_place_53 : decode M_Mo_place.2.1 53 = .ok (.iaload, 1) := by decide +kernel
theorem d_Mo_place_54 : decode M_Mo_place.2.1 54 = .ok (.goto 9, 3) := by decide +kernel
theorem d_Mo_place_57 : decode M_Mo_place.2.1 57 = .ok (.aload_n 0, 1) := by decide +kernel
theorem d_Mo_place_58 : decode M_Mo_place.2.1 58 = .ok (.getfield 50, 3) := by decide +kernel
theorem d_Mo_place_61 : decode M_Mo_place.2.1 61 = .ok (.iload_n 1, 1) := by decide +kernel
theorem d_Mo_place_62 : decode M_Mo_place.2.1 62 = .ok (.iaload, 1) := by decide +kernel
theorem d_Mo_place_63 : decode M_Mo_place.2.1 63 = .ok (.invokevirtual 115, 3) := by decide +kernel
theorem d_Mo_place_66 : decode M_Mo_place.2.1 66 = .ok (.ireturn, 1) := by decide +kernel
theorem d_Mo_apart_0 : decode M_Mo_apart.2.1 0 = .ok (.aload_n 0, 1) := by decide +kernel
theorem d_Mo_apart_1 : decode M_Mo_apart.2.1 1 = .ok (.iload_n 1, 1) := by decide +kernel
theorem d_Mo_apart_2 : decode M_Mo_apart.2.1 2 = .ok (.invokevirtual 278, 3) := by decide +kernel
theorem d_Mo_apart_5 : decode M_Mo_apart.2.1 5 = .ok (.ifCond .eq 11, 3) := by decide +kernel
theorem d_Mo_apart_8 : decode M_Mo_apart.2.1 8 = .ok (.aload_n 0, 1) := by decide +kernel
theorem d_Mo_apart_9 : decode M_Mo_apart.2.1 9 = .ok (.iload_n 2, 1) := by decide +kernel
theorem d_Mo_apart_10 : decode M_Mo_apart.2.1 10 = .ok (.invokevirtual 278, 3) := by decide +kernel
theorem d_Mo_apart_13 : decode M_Mo_apart.2.1 13 = .ok (.ifCond .ne 9, 3) := by decide +kernel
theorem d_Mo_apart_16 : decode M_Mo_apart.2.1 16 = .ok (.aload_n 0, 1) := by decide +kernel
theorem d_Mo_apart_17 : decode M_Mo_apart.2.1 17 = .ok (.iconst 1, 1) := by decide +kernel
theorem d_Mo_apart_18 : decode M_Mo_apart.2.1 18 = .ok (.invokevirtual 111, 3) := by decide +kernel
theorem d_Mo_apart_21 : decode M_Mo_apart.2.1 21 = .ok (.ireturn, 1) := by decide +kernel
theorem d_Mo_apart_22 : decode M_Mo_apart.2.1 22 = .ok (.aload_n 0, 1) := by decide +kernel
theorem d_Mo_apart_23 : decode M_Mo_apart.2.1 23 = .ok (.iconst 0, 1) := by decide +kernel
theorem d_Mo_apart_24 : decode M_Mo_apart.2.1 24 = .ok (.invokevirtual 315, 3) := by decide +kernel
theorem d_Mo_apart_27 : decode M_Mo_apart.2.1 27 = .ok (.aload_n 0, 1) := by decide +kernel
theorem d_Mo_apart_28 : decode M_Mo_apart.2.1 28 = .ok (.iload_n 1, 1) := by decide +kernel
theorem d_Mo_apart_29 : decode M_Mo_apart.2.1 29 = .ok (.invokevirtual 303, 3) := by decide +kernel
theorem d_Mo_apart_32 : decode M_Mo_apart.2.1 32 = .ok (.ifCond .eq 11, 3) := by decide +kernel
theorem d_Mo_apart_35 : decode M_Mo_apart.2.1 35 = .ok (.aload_n 0, 1) := by decide +kernel
theorem d_Mo_apart_36 : decode M_Mo_apart.2.1 36 = .ok (.iload_n 2, 1) := by decide +kernel
theorem d_Mo_apart_37 : decode M_Mo_apart.2.1 37 = .ok (.invokevirtual 303, 3) := by decide +kernel
theorem d_Mo_apart_40 : decode M_Mo_apart.2.1 40 = .ok (.ifCond .ne 10, 3) := by decide +kernel
theorem d_Mo_apart_43 : decode M_Mo_apart.2.1 43 = .ok (.aload_n 0, 1) := by decide +kernel
theorem d_Mo_apart_44 : decode M_Mo_apart.2.1 44 = .ok (.bipush 6, 2) := by decide +kernel
theorem d_Mo_apart_46 : decode M_Mo_apart.2.1 46 = .ok (.invokevirtual 111, 3) := by decide +kernel
theorem d_Mo_apart_49 : decode M_Mo_apart.2.1 49 = .ok (.ireturn, 1) := by decide +kernel
theorem d_Mo_apart_50 : decode M_Mo_apart.2.1 50 = .ok (.aload_n 0, 1) := by decide +kernel
theorem d_Mo_apart_51 : decode M_Mo_apart.2.1 51 = .ok (.aload_n 0, 1) := by decide +kernel
theorem d_Mo_apart_52 : decode M_Mo_apart.2.1 52 = .ok (.getfield 47, 3) := by decide +kernel
theorem d_Mo_apart_55 : decode M_Mo_apart.2.1 55 = .ok (.iload_n 1, 1) := by decide +kernel
theorem d_Mo_apart_56 : decode M_Mo_apart.2.1 56 = .ok (.iaload, 1) := by decide +kernel
theorem d_Mo_apart_57 : decode M_Mo_apart.2.1 57 = .ok (.aload_n 0, 1) := by decide +kernel
theorem d_Mo_apart_58 : decode M_Mo_apart.2.1 58 = .ok (.getfield 47, 3) := by decide +kernel
theorem d_Mo_apart_61 : decode M_Mo_apart.2.1 61 = .ok (.iload_n 2, 1) := by decide +kernel
theorem d_Mo_apart_62 : decode M_Mo_apart.2.1 62 = .ok (.iaload, 1) := by decide +kernel
theorem d_Mo_apart_63 : decode M_Mo_apart.2.1 63 = .ok (.isub, 1) := by decide +kernel
theorem d_Mo_apart_64 : decode M_Mo_apart.2.1 64 = .ok (.invokestatic 297, 3) := by decide +kernel
theorem d_Mo_apart_67 : decode M_Mo_apart.2.1 67 = .ok (.aload_n 0, 1) := by decide +kernel
theorem d_Mo_apart_68 : decode M_Mo_apart.2.1 68 = .ok (.getfield 50, 3) := by decide +kernel
theorem d_Mo_apart_71 : decode M_Mo_apart.2.1 71 = .ok (.iload_n 1, 1) := by decide +kernel
theorem d_Mo_apart_72 : decode M_Mo_apart.2.1 72 = .ok (.iaload, 1) := by decide +kernel
theorem d_Mo_apart_73 : decode M_Mo_apart.2.1 73 = .ok (.aload_n 0, 1) := by decide +kernel
theorem d_Mo_apart_74 : decode M_Mo_apart.2.1 74 = .ok (.getfield 50, 3) := by decide +kernel
theorem d_Mo_apart_77 : decode M_Mo_apart.2.1 77 = .ok (.iload_n 2, 1) := by decide +kernel
theorem d_Mo_apart_78 : decode M_Mo_apart.2.1 78 = .ok (.iaload, 1) := by decide +kernel
theorem d_Mo_apart_79 : decode M_Mo_apart.2.1 79 = .ok (.isub, 1) := by decide +kernel
theorem d_Mo_apart_80 : decode M_Mo_apart.2.1 80 = .ok (.invokestatic 297, 3) := by decide +kernel
theorem d_Mo_apart_83 : decode M_Mo_apart.2.1 83 = .ok (.iadd, 1) := by decide +kernel
theorem d_Mo_apart_84 : decode M_Mo_apart.2.1 84 = .ok (.invokevirtual 115, 3) := by decide +kernel
theorem d_Mo_apart_87 : decode M_Mo_apart.2.1 87 = .ok (.ireturn, 1) := by decide +kernel
theorem d_Mo_joined_0 : decode M_Mo_joined.2.1 0 = .ok (.aload_n 0, 1) := by decide +kernel
theorem d_Mo_joined_1 : decode M_Mo_joined.2.1 1 = .ok (.iload_n 1, 1) := by decide +kernel
theorem d_Mo_joined_2 : decode M_Mo_joined.2.1 2 = .ok (.invokevirtual 278, 3) := by decide +kernel
theorem d_Mo_joined_5 : decode M_Mo_joined.2.1 5 = .ok (.ifCond .eq 11, 3) := by decide +kernel
theorem d_Mo_joined_8 : decode M_Mo_joined.2.1 8 = .ok (.aload_n 0, 1) := by decide +kernel
theorem d_Mo_joined_9 : decode M_Mo_joined.2.1 9 = .ok (.iload_n 2, 1) := by decide +kernel
theorem d_Mo_joined_10 : decode M_Mo_joined.2.1 10 = .ok (.invokevirtual 278, 3) := by decide +kernel
theorem d_Mo_joined_13 : decode M_Mo_joined.2.1 13 = .ok (.ifCond .ne 9, 3) := by decide +kernel
theorem d_Mo_joined_16 : decode M_Mo_joined.2.1 16 = .ok (.aload_n 0, 1) := by decide +kernel
theorem d_Mo_joined_17 : decode M_Mo_joined.2.1 17 = .ok (.iconst 1, 1) := by decide +kernel
theorem d_Mo_joined_18 : decode M_Mo_joined.2.1 18 = .ok (.invokevirtual 111, 3) := by decide +kernel
theorem d_Mo_joined_21 : decode M_Mo_joined.2.1 21 = .ok (.ireturn, 1) := by decide +kernel
theorem d_Mo_joined_22 : decode M_Mo_joined.2.1 22 = .ok (.aload_n 0, 1) := by decide +kernel
theorem d_Mo_joined_23 : decode M_Mo_joined.2.1 23 = .ok (.iconst 1, 1) := by decide +kernel
theorem d_Mo_joined_24 : decode M_Mo_joined.2.1 24 = .ok (.invokevirtual 315, 3) := by decide +kernel
theorem d_Mo_joined_27 : decode M_Mo_joined.2.1 27 = .ok (.aload_n 0, 1) := by decide +kernel
theorem d_Mo_joined_28 : decode M_Mo_joined.2.1 28 = .ok (.aload_n 0, 1) := by decide +kernel
theorem d_Mo_joined_29 : decode M_Mo_joined.2.1 29 = .ok (.getfield 53, 3) := by decide +kernel
theorem d_Mo_joined_32 : decode M_Mo_joined.2.1 32 = .ok (.iload_n 1, 1) := by decide +kernel
theorem d_Mo_joined_33 : decode M_Mo_joined.2.1 33 = .ok (.iaload, 1) := by decide +kernel
theorem d_Mo_joined_34 : decode M_Mo_joined.2.1 34 = .ok (.aload_n 0, 1) := by decide +kernel
theorem d_Mo_joined_35 : decode M_Mo_joined.2.1 35 = .ok (.getfield 53, 3) := by decide +kernel
theorem d_Mo_joined_38 : decode M_Mo_joined.2.1 38 = .ok (.iload_n 2, 1) := by decide +kernel
theorem d_Mo_joined_39 : decode M_Mo_joined.2.1 39 = .ok (.iaload, 1) := by decide +kernel
theorem d_Mo_joined_40 : decode M_Mo_joined.2.1 40 = .ok (.if_icmp .ne 7, 3) := by decide +kernel
theorem d_Mo_joined_43 : decode M_Mo_joined.2.1 43 = .ok (.iconst 1, 1) := by decide +kernel
theorem d_Mo_joined_44 : decode M_Mo_joined.2.1 44 = .ok (.goto 4, 3) := by decide +kernel
theorem d_Mo_joined_47 : decode M_Mo_joined.2.1 47 = .ok (.iconst 0, 1) := by decide +kernel
theorem d_Mo_joined_48 : decode M_Mo_joined.2.1 48 = .ok (.invokevirtual 115, 3) := by decide +kernel
theorem d_Mo_joined_51 : decode M_Mo_joined.2.1 51 = .ok (.ireturn, 1) := by decide +kernel
theorem d_Mo_pace_0 : decode M_Mo_pace.2.1 0 = .ok (.aload_n 0, 1) := by decide +kernel
theorem d_Mo_pace_1 : decode M_Mo_pace.2.1 1 = .ok (.iload_n 1, 1) := by decide +kernel
theorem d_Mo_pace_2 : decode M_Mo_pace.2.1 2 = .ok (.invokevirtual 340, 3) := by decide +kernel
theorem d_Mo_pace_5 : decode M_Mo_pace.2.1 5 = .ok (.ifCond .eq 42, 3) := by decide +kernel
theorem d_Mo_pace_8 : decode M_Mo_pace.2.1 8 = .ok (.aload_n 0, 1) := by decide +kernel
theorem d_Mo_pace_9 : decode M_Mo_pace.2.1 9 = .ok (.iload_n 2, 1) := by decide +kernel
theorem d_Mo_pace_10 : decode M_Mo_pace.2.1 10 = .ok (.iload_n 3, 1) := by decide +kernel
theorem d_Mo_pace_11 : decode M_Mo_pace.2.1 11 = .ok (.invokevirtual 349, 3) := by decide +kernel
theorem d_Mo_pace_14 : decode M_Mo_pace.2.1 14 = .ok (.ifCond .eq 33, 3) := by decide +kernel
theorem d_Mo_pace_17 : decode M_Mo_pace.2.1 17 = .ok (.iload 4, 2) := by decide +kernel
theorem d_Mo_pace_19 : decode M_Mo_pace.2.1 19 = .ok (.i2l, 1) := by decide +kernel
theorem d_Mo_pace_20 : decode M_Mo_pace.2.1 20 = .ok (.ldc2_w 352, 3) := by decide +kernel
theorem d_Mo_pace_23 : decode M_Mo_pace.2.1 23 = .ok (.ldc2_w 354, 3) := by decide +kernel
theorem d_Mo_pace_26 : decode M_Mo_pace.2.1 26 = .ok (.invokestatic 356, 3) := by decide +kernel
theorem d_Mo_pace_29 : decode M_Mo_pace.2.1 29 = .ok (.ifCond .eq 18, 3) := by decide +kernel
theorem d_Mo_pace_32 : decode M_Mo_pace.2.1 32 = .ok (.iload 5, 2) := by decide +kernel
theorem d_Mo_pace_34 : decode M_Mo_pace.2.1 34 = .ok (.i2l, 1) := by decide +kernel
theorem d_Mo_pace_35 : decode M_Mo_pace.2.1 35 = .ok (.ldc2_w 352, 3) := by decide +kernel
theorem d_Mo_pace_38 : decode M_Mo_pace.2.1 38 = .ok (.ldc2_w 354, 3) := by decide +kernel
theorem d_Mo_pace_41 : decode M_Mo_pace.2.1 41 = .ok (.invokestatic 356, 3) := by decide +kernel
theorem d_Mo_pace_44 : decode M_Mo_pace.2.1 44 = .ok (.ifCond .ne 9, 3) := by decide +kernel
theorem d_Mo_pace_47 : decode M_Mo_pace.2.1 47 = .ok (.aload_n 0, 1) := by decide +kernel
theorem d_Mo_pace_48 : decode M_Mo_pace.2.1 48 = .ok (.iconst 1, 1) := by decide +kernel
theorem d_Mo_pace_49 : decode M_Mo_pace.2.1 49 = .ok (.invokevirtual 111, 3) := by decide +kernel
theorem d_Mo_pace_52 : decode M_Mo_pace.2.1 52 = .ok (.ireturn, 1) := by decide +kernel
theorem d_Mo_pace_53 : decode M_Mo_pace.2.1 53 = .ok (.aload_n 0, 1) := by decide +kernel
theorem d_Mo_pace_54 : decode M_Mo_pace.2.1 54 = .ok (.getfield 7, 3) := by decide +kernel
theorem d_Mo_pace_57 : decode M_Mo_pace.2.1 57 = .ok (.iconst 2, 1) := by decide +kernel
theorem d_Mo_pace_58 : decode M_Mo_pace.2.1 58 = .ok (.iaload, 1) := by decide +kernel
theorem d_Mo_pace_59 : decode M_Mo_pace.2.1 59 = .ok (.istore 6, 2) := by decide +kernel
theorem d_Mo_pace_61 : decode M_Mo_pace.2.1 61 = .ok (.iload 6, 2) := by decide +kernel
theorem d_Mo_pace_63 : decode M_Mo_pace.2.1 63 = .ok (.bipush 12, 2) := by decide +kernel
theorem d_Mo_pace_65 : decode M_Mo_pace.2.1 65 = .ok (.if_icmp .ne 9, 3) := by decide +kernel
theorem d_Mo_pace_68 : decode M_Mo_pace.2.1 68 = .ok (.aload_n 0, 1) := by decide +kernel
theorem d_Mo_pace_69 : decode M_Mo_pace.2.1 69 = .ok (.iconst 4, 1) := by decide +kernel
theorem d_Mo_pace_70 : decode M_Mo_pace.2.1 70 = .ok (.invokevirtual 111, 3) := by decide +kernel
theorem d_Mo_pace_73 : decode M_Mo_pace.2.1 73 = .ok (.ireturn, 1) := by decide +kernel
theorem d_Mo_pace_74 : decode M_Mo_pace.2.1 74 = .ok (.iload 6, 2) := by decide +kernel
theorem d_Mo_pace_76 : decode M_Mo_pace.2.1 76 = .ok (.invokestatic 226, 3) := by decide +kernel
theorem d_Mo_pace_79 : decode M_Mo_pace.2.1 79 = .ok (.istore 7, 2) := by decide +kernel
theorem d_Mo_pace_81 : decode M_Mo_pace.2.1 81 = .ok (.aload_n 0, 1) := by decide +kernel
theorem d_Mo_pace_82 : decode M_Mo_pace.2.1 82 = .ok (.getfield 7, 3) := by decide +kernel
theorem d_Mo_pace_85 : decode M_Mo_pace.2.1 85 = .ok (.iconst 2, 1) := by decide +kernel
theorem d_Mo_pace_86 : decode M_Mo_pace.2.1 86 = .ok (.dup2, 1) := by decide +kernel
theorem d_Mo_pace_87 : decode M_Mo_pace.2.1 87 = .ok (.iaload, 1) := by decide +kernel
theorem d_Mo_pace_88 : decode M_Mo_pace.2.1 88 = .ok (.iconst 1, 1) := by decide +kernel
theorem d_Mo_pace_89 : decode M_Mo_pace.2.1 89 = .ok (.iadd, 1) := by decide +kernel
theorem d_Mo_pace_90 : decode M_Mo_pace.2.1 90 = .ok (.iastore, 1) := by decide +kernel
theorem d_Mo_pace_91 : decode M_Mo_pace.2.1 91 = .ok (.aload_n 0, 1) := by decide +kernel
theorem d_Mo_pace_92 : decode M_Mo_pace.2.1 92 = .ok (.getfield 7, 3) := by decide +kernel
theorem d_Mo_pace_95 : decode M_Mo_pace.2.1 95 = .ok (.iload 7, 2) := by decide +kernel
theorem d_Mo_pace_97 : decode M_Mo_pace.2.1 97 = .ok (.iload_n 1, 1) := by decide +kernel
theorem d_Mo_pace_98 : decode M_Mo_pace.2.1 98 = .ok (.iastore, 1) := by decide +kernel
theorem d_Mo_pace_99 : decode M_Mo_pace.2.1 99 = .ok (.aload_n 0, 1) := by decide +kernel
theorem d_Mo_pace_100 : decode M_Mo_pace.2.1 100 = .ok (.getfield 7, 3) := by decide +kernel
theorem d_Mo_pace_103 : decode M_Mo_pace.2.1 103 = .ok (.iload 7, 2) := by decide +kernel
theorem d_Mo_pace_105 : decode M_Mo_pace.2.1 105 = .ok (.iconst 1, 1) := by decide +kernel
theorem d_Mo_pace_106 : decode M_Mo_pace.2.1 106 = .ok (.iadd, 1) := by decide +kernel
theorem d_Mo_pace_107 : decode M_Mo_pace.2.1 107 = .ok (.iload_n 2, 1) := by decide +kernel
theorem d_Mo_pace_108 : decode M_Mo_pace.2.1 108 = .ok (.iastore, 1) := by decide +kernel
theorem d_Mo_pace_109 : decode M_Mo_pace.2.1 109 = .ok (.aload_n 0, 1) := by decide +kernel
theorem d_Mo_pace_110 : decode M_Mo_pace.2.1 110 = .ok (.getfield 7, 3) := by decide +kernel
theorem d_Mo_pace_113 : decode M_Mo_pace.2.1 113 = .ok (.iload 7, 2) := by decide +kernel
theorem d_Mo_pace_115 : decode M_Mo_pace.2.1 115 = .ok (.iconst 2, 1) := by decide +kernel
theorem d_Mo_pace_116 : decode M_Mo_pace.2.1 116 = .ok (.iadd, 1) := by decide +kernel
theorem d_Mo_pace_117 : decode M_Mo_pace.2.1 117 = .ok (.iload_n 3, 1) := by decide +kernel
theorem d_Mo_pace_118 : decode M_Mo_pace.2.1 118 = .ok (.iastore, 1) := by decide +kernel
theorem d_Mo_pace_119 : decode M_Mo_pace.2.1 119 = .ok (.aload_n 0, 1) := by decide +kernel
theorem d_Mo_pace_120 : decode M_Mo_pace.2.1 120 = .ok (.getfield 7, 3) := by decide +kernel
theorem d_Mo_pace_123 : decode M_Mo_pace.2.1 123 = .ok (.iload 7, 2) := by decide +kernel
theorem d_Mo_pace_125 : decode M_Mo_pace.2.1 125 = .ok (.iconst 3, 1) := by decide +kernel
theorem d_Mo_pace_126 : decode M_Mo_pace.2.1 126 = .ok (.iadd, 1) := by decide +kernel
theorem d_Mo_pace_127 : decode M_Mo_pace.2.1 127 = .ok (.iload 4, 2) := by decide +kernel
theorem d_Mo_pace_129 : decode M_Mo_pace.2.1 129 = .ok (.iastore, 1) := by decide +kernel
theorem d_Mo_pace_130 : decode M_Mo_pace.2.1 130 = .ok (.aload_n 0, 1) := by decide +kernel
theorem d_Mo_pace_131 : decode M_Mo_pace.2.1 131 = .ok (.getfield 7, 3) := by decide +kernel
theorem d_Mo_pace_134 : decode M_Mo_pace.2.1 134 = .ok (.iload 7, 2) := by decide +kernel
theorem d_Mo_pace_136 : decode M_Mo_pace.2.1 136 = .ok (.iconst 4, 1) := by decide +kernel
theorem d_Mo_pace_137 : decode M_Mo_pace.2.1 137 = .ok (.iadd, 1) := by decide +kernel
theorem d_Mo_pace_138 : decode M_Mo_pace.2.1 138 = .ok (.iload 5, 2) := by decide +kernel
theorem d_Mo_pace_140 : decode M_Mo_pace.2.1 140 = .ok (.iastore, 1) := by decide +kernel
theorem d_Mo_pace_141 : decode M_Mo_pace.2.1 141 = .ok (.aload_n 0, 1) := by decide +kernel
theorem d_Mo_pace_142 : decode M_Mo_pace.2.1 142 = .ok (.iload 6, 2) := by decide +kernel
theorem d_Mo_pace_144 : decode M_Mo_pace.2.1 144 = .ok (.invokevirtual 115, 3) := by decide +kernel
theorem d_Mo_pace_147 : decode M_Mo_pace.2.1 147 = .ok (.ireturn, 1) := by decide +kernel
theorem d_Mo_tell_0 : decode M_Mo_tell.2.1 0 = .ok (.aload_n 0, 1) := by decide +kernel
theorem d_Mo_tell_1 : decode M_Mo_tell.2.1 1 = .ok (.iload_n 1, 1) := by decide +kernel
theorem d_Mo_tell_2 : decode M_Mo_tell.2.1 2 = .ok (.invokevirtual 346, 3) := by decide +kernel
theorem d_Mo_tell_5 : decode M_Mo_tell.2.1 5 = .ok (.ifCond .eq 31, 3) := by decide +kernel
theorem d_Mo_tell_8 : decode M_Mo_tell.2.1 8 = .ok (.iload_n 2, 1) := by decide +kernel
theorem d_Mo_tell_9 : decode M_Mo_tell.2.1 9 = .ok (.i2l, 1) := by decide +kernel
theorem d_Mo_tell_10 : decode M_Mo_tell.2.1 10 = .ok (.ldc2_w 352, 3) := by decide +kernel
theorem d_Mo_tell_13 : decode M_Mo_tell.2.1 13 = .ok (.ldc2_w 354, 3) := by decide +kernel
theorem d_Mo_tell_16 : decode M_Mo_tell.2.1 16 = .ok (.invokestatic 356, 3) := by decide +kernel
theorem d_Mo_tell_19 : decode M_Mo_tell.2.1 19 = .ok (.ifCond .eq 17, 3) := by decide +kernel
theorem d_Mo_tell_22 : decode M_Mo_tell.2.1 22 = .ok (.iload_n 3, 1) := by decide +kernel
theorem d_Mo_tell_23 : decode M_Mo_tell.2.1 23 = .ok (.i2l, 1) := by decide +kernel
theorem d_Mo_tell_24 : decode M_Mo_tell.2.1 24 = .ok (.ldc2_w 352, 3) := by decide +kernel
theorem d_Mo_tell_27 : decode M_Mo_tell.2.1 27 = .ok (.ldc2_w 354, 3) := by decide +kernel
theorem d_Mo_tell_30 : decode M_Mo_tell.2.1 30 = .ok (.invokestatic 356, 3) := by decide +kernel
theorem d_Mo_tell_33 : decode M_Mo_tell.2.1 33 = .ok (.ifCond .ne 9, 3) := by decide +kernel
theorem d_Mo_tell_36 : decode M_Mo_tell.2.1 36 = .ok (.aload_n 0, 1) := by decide +kernel
theorem d_Mo_tell_37 : decode M_Mo_tell.2.1 37 = .ok (.iconst 1, 1) := by decide +kernel
theorem d_Mo_tell_38 : decode M_Mo_tell.2.1 38 = .ok (.invokevirtual 118, 3) := by decide +kernel
theorem d_Mo_tell_41 : decode M_Mo_tell.2.1 41 = .ok (.ireturn, 1) := by decide +kernel
theorem d_Mo_tell_42 : decode M_Mo_tell.2.1 42 = .ok (.aload_n 0, 1) := by decide +kernel
theorem d_Mo_tell_43 : decode M_Mo_tell.2.1 43 = .ok (.getfield 7, 3) := by decide +kernel
theorem d_Mo_tell_46 : decode M_Mo_tell.2.1 46 = .ok (.iload_n 1, 1) := by decide +kernel
theorem d_Mo_tell_47 : decode M_Mo_tell.2.1 47 = .ok (.invokestatic 226, 3) := by decide +kernel
theorem d_Mo_tell_50 : decode M_Mo_tell.2.1 50 = .ok (.iconst 3, 1) := by decide +kernel
theorem d_Mo_tell_51 : decode M_Mo_tell.2.1 51 = .ok (.iadd, 1) := by decide +kernel
theorem d_Mo_tell_52 : decode M_Mo_tell.2.1 52 = .ok (.iload_n 2, 1) := by decide +kernel
theorem d_Mo_tell_53 : decode M_Mo_tell.2.1 53 = .ok (.iastore, 1) := by decide +kernel
theorem d_Mo_tell_54 : decode M_Mo_tell.2.1 54 = .ok (.aload_n 0, 1) := by decide +kernel
theorem d_Mo_tell_55 : decode M_Mo_tell.2.1 55 = .ok (.getfield 7, 3) := by decide +kernel
theorem d_Mo_tell_58 : decode M_Mo_tell.2.1 58 = .ok (.iload_n 1, 1) := by decide +kernel
theorem d_Mo_tell_59 : decode M_Mo_tell.2.1 59 = .ok (.invokestatic 226, 3) := by decide +kernel
theorem d_Mo_tell_62 : decode M_Mo_tell.2.1 62 = .ok (.iconst 4, 1) := by decide +kernel
theorem d_Mo_tell_63 : decode M_Mo_tell.2.1 63 = .ok (.iadd, 1) := by decide +kernel
theorem d_Mo_tell_64 : decode M_Mo_tell.2.1 64 = .ok (.iload_n 3, 1) := by decide +kernel
theorem d_Mo_tell_65 : decode M_Mo_tell.2.1 65 = .ok (.iastore, 1) := by decide +kernel
theorem d_Mo_tell_66 : decode M_Mo_tell.2.1 66 = .ok (.aload_n 0, 1) := by decide +kernel
theorem d_Mo_tell_67 : decode M_Mo_tell.2.1 67 = .ok (.iconst 0, 1) := by decide +kernel
theorem d_Mo_tell_68 : decode M_Mo_tell.2.1 68 = .ok (.invokevirtual 118, 3) := by decide +kernel
theorem d_Mo_tell_71 : decode M_Mo_tell.2.1 71 = .ok (.ireturn, 1) := by decide +kernel
theorem d_Mo_strikes_0 : decode M_Mo_strikes.2.1 0 = .ok (.aload_n 0, 1) := by decide +kernel
theorem d_Mo_strikes_1 : decode M_Mo_strikes.2.1 1 = .ok (.iload_n 1, 1) := by decide +kernel
theorem d_Mo_strikes_2 : decode M_Mo_strikes.2.1 2 = .ok (.invokevirtual 300, 3) := by decide +kernel
theorem d_Mo_strikes_5 : decode M_Mo_strikes.2.1 5 = .ok (.ifCond .ne 5, 3) := by decide +kernel
theorem d_Mo_strikes_8 : decode M_Mo_strikes.2.1 8 = .ok (.iconst 0, 1) := by decide +kernel
theorem d_Mo_strikes_9 : decode M_Mo_strikes.2.1 9 = .ok (.ireturn, 1) := by decide +kernel
theorem d_Mo_strikes_10 : decode M_Mo_strikes.2.1 10 = .ok (.aload_n 0, 1) := by decide +kernel
theorem d_Mo_strikes_11 : decode M_Mo_strikes.2.1 11 = .ok (.getfield 7, 3) := by decide +kernel
theorem d_Mo_strikes_14 : decode M_Mo_strikes.2.1 14 = .ok (.bipush 6, 2) := by decide +kernel
theorem d_Mo_strikes_16 : decode M_Mo_strikes.2.1 16 = .ok (.dup2, 1) := by decide +kernel
theorem d_Mo_strikes_17 : decode M_Mo_strikes.2.1 17 = .ok (.iaload, 1) := by decide +kernel
theorem d_Mo_strikes_18 : decode M_Mo_strikes.2.1 18 = .ok (.iconst 1, 1) := by decide +kernel
theorem d_Mo_strikes_19 : decode M_Mo_strikes.2.1 19 = .ok (.iload_n 1, 1) := by decide +kernel
theorem d_Mo_strikes_20 : decode M_Mo_strikes.2.1 20 = .ok (.ishl, 1) := by decide +kernel
theorem d_Mo_strikes_21 : decode M_Mo_strikes.2.1 21 = .ok (.ior, 1) := by decide +kernel
theorem d_Mo_strikes_22 : decode M_Mo_strikes.2.1 22 = .ok (.iastore, 1) := by decide +kernel
theorem d_Mo_strikes_23 : decode M_Mo_strikes.2.1 23 = .ok (.iconst 1, 1) := by decide +kernel
theorem d_Mo_strikes_24 : decode M_Mo_strikes.2.1 24 = .ok (.ireturn, 1) := by decide +kernel
theorem d_Mo_restores1_0 : decode M_Mo_restores1.2.1 0 = .ok (.aload_n 0, 1) := by decide +kernel
theorem d_Mo_restores1_1 : decode M_Mo_restores1.2.1 1 = .ok (.aload_n 0, 1) := by decide +kernel
theorem d_Mo_restores1_2 : decode M_Mo_restores1.2.1 2 = .ok (.getfield 7, 3) := by decide +kernel
theorem d_Mo_restores1_5 : decode M_Mo_restores1.2.1 5 = .ok (.bipush 6, 2) := by decide +kernel
theorem d_Mo_restores1_7 : decode M_Mo_restores1.2.1 7 = .ok (.iaload, 1) := by decide +kernel
theorem d_Mo_restores1_8 : decode M_Mo_restores1.2.1 8 = .ok (.iload_n 1, 1) := by decide +kernel
theorem d_Mo_restores1_9 : decode M_Mo_restores1.2.1 9 = .ok (.invokevirtual 281, 3) := by decide +kernel
theorem d_Mo_restores1_12 : decode M_Mo_restores1.2.1 12 = .ok (.ifCond .ne 5, 3) := by decide +kernel
theorem d_Mo_restores1_15 : decode M_Mo_restores1.2.1 15 = .ok (.iconst 0, 1) := by decide +kernel
theorem d_Mo_restores1_16 : decode M_Mo_restores1.2.1 16 = .ok (.ireturn, 1) := by decide +kernel
theorem d_Mo_restores1_17 : decode M_Mo_restores1.2.1 17 = .ok (.aload_n 0, 1) := by decide +kernel
theorem d_Mo_restores1_18 : decode M_Mo_restores1.2.1 18 = .ok (.getfield 7, 3) := by decide +kernel
theorem d_Mo_restores1_21 : decode M_Mo_restores1.2.1 21 = .ok (.bipush 6, 2) := by decide +kernel
theorem d_Mo_restores1_23 : decode M_Mo_restores1.2.1 23 = .ok (.dup2, 1) := by decide +kernel
theorem d_Mo_restores1_24 : decode M_Mo_restores1.2.1 24 = .ok (.iaload, 1) := by decide +kernel
theorem d_Mo_restores1_25 : decode M_Mo_restores1.2.1 25 = .ok (.iconst 1, 1) := by decide +kernel
theorem d_Mo_restores1_26 : decode M_Mo_restores1.2.1 26 = .ok (.iload_n 1, 1) := by decide +kernel
theorem d_Mo_restores1_27 : decode M_Mo_restores1.2.1 27 = .ok (.ishl, 1) := by decide +kernel
theorem d_Mo_restores1_28 : decode M_Mo_restores1.2.1 28 = .ok (.iconst (-1), 1) := by decide +kernel
theorem d_Mo_restores1_29 : decode M_Mo_restores1.2.1 29 = .ok (.ixor, 1) := by decide +kernel
theorem d_Mo_restores1_30 : decode M_Mo_restores1.2.1 30 = .ok (.iand, 1) := by decide +kernel
theorem d_Mo_restores1_31 : decode M_Mo_restores1.2.1 31 = .ok (.iastore, 1) := by decide +kernel
theorem d_Mo_restores1_32 : decode M_Mo_restores1.2.1 32 = .ok (.iconst 1, 1) := by decide +kernel
theorem d_Mo_restores1_33 : decode M_Mo_restores1.2.1 33 = .ok (.ireturn, 1) := by decide +kernel
theorem d_Mo_strike_0 : decode M_Mo_strike.2.1 0 = .ok (.aload_n 0, 1) := by decide +kernel
theorem d_Mo_strike_1 : decode M_Mo_strike.2.1 1 = .ok (.iload_n 1, 1) := by decide +kernel
theorem d_Mo_strike_2 : decode M_Mo_strike.2.1 2 = .ok (.invokevirtual 346, 3) := by decide +kernel
theorem d_Mo_strike_5 : decode M_Mo_strike.2.1 5 = .ok (.ifCond .ne 9, 3) := by decide +kernel
theorem d_Mo_strike_8 : decode M_Mo_strike.2.1 8 = .ok (.aload_n 0, 1) := by decide +kernel
theorem d_Mo_strike_9 : decode M_Mo_strike.2.1 9 = .ok (.iconst 1, 1) := by decide +kernel
theorem d_Mo_strike_10 : decode M_Mo_strike.2.1 10 = .ok (.invokevirtual 111, 3) := by decide +kernel
theorem d_Mo_strike_13 : decode M_Mo_strike.2.1 13 = .ok (.ireturn, 1) := by decide +kernel
theorem d_Mo_strike_14 : decode M_Mo_strike.2.1 14 = .ok (.aload_n 0, 1) := by decide +kernel
theorem d_Mo_strike_15 : decode M_Mo_strike.2.1 15 = .ok (.iload_n 1, 1) := by decide +kernel
theorem d_Mo_strike_16 : decode M_Mo_strike.2.1 16 = .ok (.invokevirtual 360, 3) := by decide +kernel
theorem d_Mo_strike_19 : decode M_Mo_strike.2.1 19 = .ok (.ifCond .eq 20, 3) := by decide +kernel
theorem d_Mo_strike_22 : decode M_Mo_strike.2.1 22 = .ok (.aload_n 0, 1) := by decide +kernel
theorem d_Mo_strike_23 : decode M_Mo_strike.2.1 23 = .ok (.aload_n 0, 1) := by decide +kernel
theorem d_Mo_strike_24 : decode M_Mo_strike.2.1 24 = .ok (.getfield 7, 3) := by decide +kernel
theorem d_Mo_strike_27 : decode M_Mo_strike.2.1 27 = .ok (.bipush 6, 2) := by decide +kernel
theorem d_Mo_strike_29 : decode M_Mo_strike.2.1 29 = .ok (.iaload, 1) := by decide +kernel
theorem d_Mo_strike_30 : decode M_Mo_strike.2.1 30 = .ok (.invokestatic 363, 3) := by decide +kernel
theorem d_Mo_strike_33 : decode M_Mo_strike.2.1 33 = .ok (.invokevirtual 115, 3) := by decide +kernel
theorem d_Mo_strike_36 : decode M_Mo_strike.2.1 36 = .ok (.goto 9, 3) := by decide +kernel
theorem d_Mo_strike_39 : decode M_Mo_strike.2.1 39 = .ok (.aload_n 0, 1) := by decide +kernel
theorem d_Mo_strike_40 : decode M_Mo_strike.2.1 40 = .ok (.bipush 7, 2) := by decide +kernel
theorem d_Mo_strike_42 : decode M_Mo_strike.2.1 42 = .ok (.invokevirtual 111, 3) := by decide +kernel
theorem d_Mo_strike_45 : decode M_Mo_strike.2.1 45 = .ok (.ireturn, 1) := by decide +kernel
theorem d_Mo_restore_0 : decode M_Mo_restore.2.1 0 = .ok (.aload_n 0, 1) := by decide +kernel
theorem d_Mo_restore_1 : decode M_Mo_restore.2.1 1 = .ok (.iload_n 1, 1) := by decide +kernel
theorem d_Mo_restore_2 : decode M_Mo_restore.2.1 2 = .ok (.invokevirtual 346, 3) := by decide +kernel
theorem d_Mo_restore_5 : decode M_Mo_restore.2.1 5 = .ok (.ifCond .ne 9, 3) := by decide +kernel
theorem d_Mo_restore_8 : decode M_Mo_restore.2.1 8 = .ok (.aload_n 0, 1) := by decide +kernel
theorem d_Mo_restore_9 : decode M_Mo_restore.2.1 9 = .ok (.iconst 1, 1) := by decide +kernel
theorem d_Mo_restore_10 : decode M_Mo_restore.2.1 10 = .ok (.invokevirtual 111, 3) := by decide +kernel
theorem d_Mo_restore_13 : decode M_Mo_restore.2.1 13 = .ok (.ireturn, 1) := by decide +kernel
theorem d_Mo_restore_14 : decode M_Mo_restore.2.1 14 = .ok (.aload_n 0, 1) := by decide +kernel
theorem d_Mo_restore_15 : decode M_Mo_restore.2.1 15 = .ok (.iload_n 1, 1) := by decide +kernel
theorem d_Mo_restore_16 : decode M_Mo_restore.2.1 16 = .ok (.invokevirtual 366, 3) := by decide +kernel
theorem d_Mo_restore_19 : decode M_Mo_restore.2.1 19 = .ok (.ifCond .eq 20, 3) := by decide +kernel
theorem d_Mo_restore_22 : decode M_Mo_restore.2.1 22 = .ok (.aload_n 0, 1) := by decide +kernel
theorem d_Mo_restore_23 : decode M_Mo_restore.2.1 23 = .ok (.aload_n 0, 1) := by decide +kernel
theorem d_Mo_restore_24 : decode M_Mo_restore.2.1 24 = .ok (.getfield 7, 3) := by decide +kernel
theorem d_Mo_restore_27 : decode M_Mo_restore.2.1 27 = .ok (.bipush 6, 2) := by decide +kernel
theorem d_Mo_restore_29 : decode M_Mo_restore.2.1 29 = .ok (.iaload, 1) := by decide +kernel
theorem d_Mo_restore_30 : decode M_Mo_restore.2.1 30 = .ok (.invokestatic 363, 3) := by decide +kernel
theorem d_Mo_restore_33 : decode M_Mo_restore.2.1 33 = .ok (.invokevirtual 115, 3) := by decide +kernel
theorem d_Mo_restore_36 : decode M_Mo_restore.2.1 36 = .ok (.goto 9, 3) := by decide +kernel
theorem d_Mo_restore_39 : decode M_Mo_restore.2.1 39 = .ok (.aload_n 0, 1) := by decide +kernel
theorem d_Mo_restore_40 : decode M_Mo_restore.2.1 40 = .ok (.bipush 7, 2) := by decide +kernel
theorem d_Mo_restore_42 : decode M_Mo_restore.2.1 42 = .ok (.invokevirtual 111, 3) := by decide +kernel
theorem d_Mo_restore_45 : decode M_Mo_restore.2.1 45 = .ok (.ireturn, 1) := by decide +kernel
theorem d_Mo_believes_0 : decode M_Mo_believes.2.1 0 = .ok (.iload_n 1, 1) := by decide +kernel
theorem d_Mo_believes_1 : decode M_Mo_believes.2.1 1 = .ok (.invokestatic 216, 3) := by decide +kernel
theorem d_Mo_believes_4 : decode M_Mo_believes.2.1 4 = .ok (.istore_n 3, 1) := by decide +kernel
theorem d_Mo_believes_5 : decode M_Mo_believes.2.1 5 = .ok (.aload_n 0, 1) := by decide +kernel
theorem d_Mo_believes_6 : decode M_Mo_believes.2.1 6 = .ok (.getfield 7, 3) := by decide +kernel
theorem d_Mo_believes_9 : decode M_Mo_believes.2.1 9 = .ok (.iload_n 3, 1) := by decide +kernel
theorem d_Mo_believes_10 : decode M_Mo_believes.2.1 10 = .ok (.iload_n 2, 1) := by decide +kernel
theorem d_Mo_believes_11 : decode M_Mo_believes.2.1 11 = .ok (.iconst 4, 1) := by decide +kernel
theorem d_Mo_believes_12 : decode M_Mo_believes.2.1 12 = .ok (.irem, 1) := by decide +kernel
theorem d_Mo_believes_13 : decode M_Mo_believes.2.1 13 = .ok (.iastore, 1) := by decide +kernel
theorem d_Mo_believes_14 : decode M_Mo_believes.2.1 14 = .ok (.aload_n 0, 1) := by decide +kernel
theorem d_Mo_believes_15 : decode M_Mo_believes.2.1 15 = .ok (.getfield 7, 3) := by decide +kernel
theorem d_Mo_believes_18 : decode M_Mo_believes.2.1 18 = .ok (.iload_n 3, 1) := by decide +kernel
theorem d_Mo_believes_19 : decode M_Mo_believes.2.1 19 = .ok (.iconst 1, 1) := by decide +kernel
theorem d_Mo_believes_20 : decode M_Mo_believes.2.1 20 = .ok (.iadd, 1) := by decide +kernel
theorem d_Mo_believes_21 : decode M_Mo_believes.2.1 21 = .ok (.iload_n 2, 1) := by decide +kernel
theorem d_Mo_believes_22 : decode M_Mo_believes.2.1 22 = .ok (.iconst 4, 1) := by decide +kernel
theorem d_Mo_believes_23 : decode M_Mo_believes.2.1 23 = .ok (.idiv, 1) := by decide +kernel
theorem d_Mo_believes_24 : decode M_Mo_believes.2.1 24 = .ok (.iconst 2, 1) := by decide +kernel
theorem d_Mo_believes_25 : decode M_Mo_believes.2.1 25 = .ok (.irem, 1) := by decide +kernel
theorem d_Mo_believes_26 : decode M_Mo_believes.2.1 26 = .ok (.iastore, 1) := by decide +kernel
theorem d_Mo_believes_27 : decode M_Mo_believes.2.1 27 = .ok (.aload_n 0, 1) := by decide +kernel
theorem d_Mo_believes_28 : decode M_Mo_believes.2.1 28 = .ok (.getfield 7, 3) := by decide +kernel
theorem d_Mo_believes_31 : decode M_Mo_believes.2.1 31 = .ok (.iload_n 3, 1) := by decide +kernel
theorem d_Mo_believes_32 : decode M_Mo_believes.2.1 32 = .ok (.iconst 2, 1) := by decide +kernel
theorem d_Mo_believes_33 : decode M_Mo_believes.2.1 33 = .ok (.iadd, 1) := by decide +kernel
theorem d_Mo_believes_34 : decode M_Mo_believes.2.1 34 = .ok (.iconst 1, 1) := by decide +kernel
theorem d_Mo_believes_35 : decode M_Mo_believes.2.1 35 = .ok (.iload_n 2, 1) := by decide +kernel
theorem d_Mo_believes_36 : decode M_Mo_believes.2.1 36 = .ok (.bipush 8, 2) := by decide +kernel
theorem d_Mo_believes_38 : decode M_Mo_believes.2.1 38 = .ok (.idiv, 1) := by decide +kernel
theorem d_Mo_believes_39 : decode M_Mo_believes.2.1 39 = .ok (.iadd, 1) := by decide +kernel
theorem d_Mo_believes_40 : decode M_Mo_believes.2.1 40 = .ok (.iastore, 1) := by decide +kernel
theorem d_Mo_believes_41 : decode M_Mo_believes.2.1 41 = .ok (.return_, 1) := by decide +kernel
theorem d_Mo_believe_0 : decode M_Mo_believe.2.1 0 = .ok (.aload_n 0, 1) := by decide +kernel
theorem d_Mo_believe_1 : decode M_Mo_believe.2.1 1 = .ok (.iload_n 1, 1) := by decide +kernel
theorem d_Mo_believe_2 : decode M_Mo_believe.2.1 2 = .ok (.invokevirtual 340, 3) := by decide +kernel
theorem d_Mo_believe_5 : decode M_Mo_believe.2.1 5 = .ok (.ifCond .eq 15, 3) := by decide +kernel
theorem d_Mo_believe_8 : decode M_Mo_believe.2.1 8 = .ok (.iload_n 2, 1) := by decide +kernel
theorem d_Mo_believe_9 : decode M_Mo_believe.2.1 9 = .ok (.i2l, 1) := by decide +kernel
theorem d_Mo_believe_10 : decode M_Mo_believe.2.1 10 = .ok (.lconst 0, 1) := by decide +kernel
theorem d_Mo_believe_11 : decode M_Mo_believe.2.1 11 = .ok (.ldc2_w 369, 3) := by decide +kernel
theorem d_Mo_believe_14 : decode M_Mo_believe.2.1 14 = .ok (.invokestatic 356, 3) := by decide +kernel
theorem d_Mo_believe_17 : decode M_Mo_believe.2.1 17 = .ok (.ifCond .ne 9, 3) := by decide +kernel
theorem d_Mo_believe_20 : decode M_Mo_believe.2.1 20 = .ok (.aload_n 0, 1) := by decide +kernel
theorem d_Mo_believe_21 : decode M_Mo_believe.2.1 21 = .ok (.iconst 1, 1) := by decide +kernel
theorem d_Mo_believe_22 : decode M_Mo_believe.2.1 22 = .ok (.invokevirtual 111, 3) := by decide +kernel
theorem d_Mo_believe_25 : decode M_Mo_believe.2.1 25 = .ok (.ireturn, 1) := by decide +kernel
theorem d_Mo_believe_26 : decode M_Mo_believe.2.1 26 = .ok (.aload_n 0, 1) := by decide +kernel
theorem d_Mo_believe_27 : decode M_Mo_believe.2.1 27 = .ok (.iload_n 1, 1) := by decide +kernel
theorem d_Mo_believe_28 : decode M_Mo_believe.2.1 28 = .ok (.invokevirtual 343, 3) := by decide +kernel
theorem d_Mo_believe_31 : decode M_Mo_believe.2.1 31 = .ok (.istore_n 3, 1) := by decide +kernel
theorem d_Mo_believe_32 : decode M_Mo_believe.2.1 32 = .ok (.aload_n 0, 1) := by decide +kernel
theorem d_Mo_believe_33 : decode M_Mo_believe.2.1 33 = .ok (.iload_n 1, 1) := by decide +kernel
theorem d_Mo_believe_34 : decode M_Mo_believe.2.1 34 = .ok (.iload_n 2, 1) := by decide +kernel
theorem d_Mo_believe_35 : decode M_Mo_believe.2.1 35 = .ok (.invokevirtual 371, 3) := by decide +kernel
theorem d_Mo_believe_38 : decode M_Mo_believe.2.1 38 = .ok (.aload_n 0, 1) := by decide +kernel
theorem d_Mo_believe_39 : decode M_Mo_believe.2.1 39 = .ok (.iload_n 3, 1) := by decide +kernel
theorem d_Mo_believe_40 : decode M_Mo_believe.2.1 40 = .ok (.invokevirtual 115, 3) := by decide +kernel
theorem d_Mo_believe_43 : decode M_Mo_believe.2.1 43 = .ok (.ireturn, 1) := by decide +kernel
theorem d_Mo_settle_0 : decode M_Mo_settle.2.1 0 = .ok (.aload_n 0, 1) := by decide +kernel
theorem d_Mo_settle_1 : decode M_Mo_settle.2.1 1 = .ok (.getfield 7, 3) := by decide +kernel
theorem d_Mo_settle_4 : decode M_Mo_settle.2.1 4 = .ok (.iconst 0, 1) := by decide +kernel
theorem d_Mo_settle_5 : decode M_Mo_settle.2.1 5 = .ok (.iaload, 1) := by decide +kernel
theorem d_Mo_settle_6 : decode M_Mo_settle.2.1 6 = .ok (.istore_n 1, 1) := by decide +kernel
theorem d_Mo_settle_7 : decode M_Mo_settle.2.1 7 = .ok (.iload_n 1, 1) := by decide +kernel
theorem d_Mo_settle_8 : decode M_Mo_settle.2.1 8 = .ok (.bipush 7, 2) := by decide +kernel
theorem d_Mo_settle_10 : decode M_Mo_settle.2.1 10 = .ok (.if_icmp .ne 9, 3) := by decide +kernel
theorem d_Mo_settle_13 : decode M_Mo_settle.2.1 13 = .ok (.aload_n 0, 1) := by decide +kernel
theorem d_Mo_settle_14 : decode M_Mo_settle.2.1 14 = .ok (.iconst 4, 1) := by decide +kernel
theorem d_Mo_settle_15 : decode M_Mo_settle.2.1 15 = .ok (.invokevirtual 111, 3) := by decide +kernel
theorem d_Mo_settle_18 : decode M_Mo_settle.2.1 18 = .ok (.ireturn, 1) := by decide +kernel
theorem d_Mo_settle_19 : decode M_Mo_settle.2.1 19 = .ok (.iload_n 1, 1) := by decide +kernel
theorem d_Mo_settle_20 : decode M_Mo_settle.2.1 20 = .ok (.ifCond .ne 10, 3) := by decide +kernel
theorem d_Mo_settle_23 : decode M_Mo_settle.2.1 23 = .ok (.aload_n 0, 1) := by decide +kernel
theorem d_Mo_settle_24 : decode M_Mo_settle.2.1 24 = .ok (.getfield 7, 3) := by decide +kernel
theorem d_Mo_settle_27 : decode M_Mo_settle.2.1 27 = .ok (.iconst 4, 1) := by decide +kernel
theorem d_Mo_settle_28 : decode M_Mo_settle.2.1 28 = .ok (.iconst 0, 1) := by decide +kernel
theorem d_Mo_settle_29 : decode M_Mo_settle.2.1 29 = .ok (.iastore, 1) := by decide +kernel
theorem d_Mo_settle_30 : decode M_Mo_settle.2.1 30 = .ok (.aload_n 0, 1) := by decide +kernel
theorem d_Mo_settle_31 : decode M_Mo_settle.2.1 31 = .ok (.getfield 7, 3) := by decide +kernel
theorem d_Mo_settle_34 : decode M_Mo_settle.2.1 34 = .ok (.iconst 0, 1) := by decide +kernel
theorem d_Mo_settle_35 : decode M_Mo_settle.2.1 35 = .ok (.dup2, 1) := by decide +kernel
theorem d_Mo_settle_36 : decode M_Mo_settle.2.1 36 = .ok (.iaload, 1) := by decide +kernel
theorem d_Mo_settle_37 : decode M_Mo_settle.2.1 37 = .ok (.iconst 1, 1) := by decide +kernel
theorem d_Mo_settle_38 : decode M_Mo_settle.2.1 38 = .ok (.iadd, 1) := by decide +kernel
theorem d_Mo_settle_39 : decode M_Mo_settle.2.1 39 = .ok (.iastore, 1) := by decide +kernel
theorem d_Mo_settle_40 : decode M_Mo_settle.2.1 40 = .ok (.aload_n 0, 1) := by decide +kernel
theorem d_Mo_settle_41 : decode M_Mo_settle.2.1 41 = .ok (.getfield 13, 3) := by decide +kernel
theorem d_Mo_settle_44 : decode M_Mo_settle.2.1 44 = .ok (.iload_n 1, 1) := by decide +kernel
theorem d_Mo_settle_45 : decode M_Mo_settle.2.1 45 = .ok (.lconst 0, 1) := by decide +kernel
theorem d_Mo_settle_46 : decode M_Mo_settle.2.1 46 = .ok (.lastore, 1) := by decide +kernel
theorem d_Mo_settle_47 : decode M_Mo_settle.2.1 47 = .ok (.aload_n 0, 1) := by decide +kernel
theorem d_Mo_settle_48 : decode M_Mo_settle.2.1 48 = .ok (.iload_n 1, 1) := by decide +kernel
theorem d_Mo_settle_49 : decode M_Mo_settle.2.1 49 = .ok (.invokevirtual 115, 3) := by decide +kernel
theorem d_Mo_settle_52 : decode M_Mo_settle.2.1 52 = .ok (.ireturn, 1) := by decide +kernel
theorem d_Mo_goesAlong_0 : decode M_Mo_goesAlong.2.1 0 = .ok (.aload_n 0, 1) := by decide +kernel
theorem d_Mo_goesAlong_1 : decode M_Mo_goesAlong.2.1 1 = .ok (.getfield 7, 3) := by decide +kernel
theorem d_Mo_goesAlong_4 : decode M_Mo_goesAlong.2.1 4 = .ok (.iconst 4, 1) := by decide +kernel
theorem d_Mo_goesAlong_5 : decode M_Mo_goesAlong.2.1 5 = .ok (.iaload, 1) := by decide +kernel
theorem d_Mo_goesAlong_6 : decode M_Mo_goesAlong.2.1 6 = .ok (.istore_n 2, 1) := by decide +kernel
theorem d_Mo_goesAlong_7 : decode M_Mo_goesAlong.2.1 7 = .ok (.aload_n 0, 1) := by decide +kernel
theorem d_Mo_goesAlong_8 : decode M_Mo_goesAlong.2.1 8 = .ok (.iload_n 1, 1) := by decide +kernel
theorem d_Mo_goesAlong_9 : decode M_Mo_goesAlong.2.1 9 = .ok (.invokevirtual 300, 3) := by decide +kernel
theorem d_Mo_goesAlong_12 : decode M_Mo_goesAlong.2.1 12 = .ok (.ifCond .eq 23, 3) := by decide +kernel
theorem d_Mo_goesAlong_15 : decode M_Mo_goesAlong.2.1 15 = .ok (.aload_n 0, 1) := by decide +kernel
theorem d_Mo_goesAlong_16 : decode M_Mo_goesAlong.2.1 16 = .ok (.iload_n 1, 1) := by decide +kernel
theorem d_Mo_goesAlong_17 : decode M_Mo_goesAlong.2.1 17 = .ok (.iconst 1, 1) := by decide +kernel
theorem d_Mo_goesAlong_18 : decode M_Mo_goesAlong.2.1 18 = .ok (.invokevirtual 287, 3) := by decide +kernel
theorem d_Mo_goesAlong_21 : decode M_Mo_goesAlong.2.1 21 = .ok (.iload_n 2, 1) := by decide +kernel
theorem d_Mo_goesAlong_22 : decode M_Mo_goesAlong.2.1 22 = .ok (.if_icmp .eq 15, 3) := by decide +kernel
theorem d_Mo_goesAlong_25 : decode M_Mo_goesAlong.2.1 25 = .ok (.aload_n 0, 1) := by decide +kernel
theorem d_Mo_goesAlong_26 : decode M_Mo_goesAlong.2.1 26 = .ok (.iload_n 1, 1) := by decide +kernel
theorem d_Mo_goesAlong_27 : decode M_Mo_goesAlong.2.1 27 = .ok (.iconst 2, 1) := by decide +kernel
theorem d_Mo_goesAlong_28 : decode M_Mo_goesAlong.2.1 28 = .ok (.invokevirtual 287, 3) := by decide +kernel
theorem d_Mo_goesAlong_31 : decode M_Mo_goesAlong.2.1 31 = .ok (.iload_n 2, 1) := by decide +kernel
theorem d_Mo_goesAlong_32 : decode M_Mo_goesAlong.2.1 32 = .ok (.if_icmp .eq 5, 3) := by decide +kernel
theorem d_Mo_goesAlong_35 : decode M_Mo_goesAlong.2.1 35 = .ok (.iconst 0, 1) := by decide +kernel
theorem d_Mo_goesAlong_36 : decode M_Mo_goesAlong.2.1 36 = .ok (.ireturn, 1) := by decide +kernel
theorem d_Mo_goesAlong_37 : decode M_Mo_goesAlong.2.1 37 = .ok (.aload_n 0, 1) := by decide +kernel
theorem d_Mo_goesAlong_38 : decode M_Mo_goesAlong.2.1 38 = .ok (.getfield 7, 3) := by decide +kernel
theorem d_Mo_goesAlong_41 : decode M_Mo_goesAlong.2.1 41 = .ok (.iconst 4, 1) := by decide +kernel
theorem d_Mo_goesAlong_42 : decode M_Mo_goesAlong.2.1 42 = .ok (.aload_n 0, 1) := by decide +kernel
theorem d_Mo_goesAlong_43 : decode M_Mo_goesAlong.2.1 43 = .ok (.iload_n 1, 1) := by decide +kernel
theorem d_Mo_goesAlong_44 : decode M_Mo_goesAlong.2.1 44 = .ok (.iconst 1, 1) := by decide +kernel
theorem d_Mo_goesAlong_45 : decode M_Mo_goesAlong.2.1 45 = .ok (.invokevirtual 287, 3) := by decide +kernel
theorem d_Mo_goesAlong_48 : decode M_Mo_goesAlong.2.1 48 = .ok (.aload_n 0, 1) := by decide +kernel
theorem d_Mo_goesAlong_49 : decode M_Mo_goesAlong.2.1 49 = .ok (.iload_n 1, 1) := by decide +kernel
theorem d_Mo_goesAlong_50 : decode M_Mo_goesAlong.2.1 50 = .ok (.iconst 2, 1) := by decide +kernel
theorem d_Mo_goesAlong_51 : decode M_Mo_goesAlong.2.1 51 = .ok (.invokevirtual 287, 3) := by decide +kernel
theorem d_Mo_goesAlong_54 : decode M_Mo_goesAlong.2.1 54 = .ok (.iadd, 1) := by decide +kernel
theorem d_Mo_goesAlong_55 : decode M_Mo_goesAlong.2.1 55 = .ok (.iload_n 2, 1) := by decide +kernel
theorem d_Mo_goesAlong_56 : decode M_Mo_goesAlong.2.1 56 = .ok (.isub, 1) := by decide +kernel
theorem d_Mo_goesAlong_57 : decode M_Mo_goesAlong.2.1 57 = .ok (.iastore, 1) := by decide +kernel
theorem d_Mo_goesAlong_58 : decode M_Mo_goesAlong.2.1 58 = .ok (.aload_n 0, 1) := by decide +kernel
theorem d_Mo_goesAlong_59 : decode M_Mo_goesAlong.2.1 59 = .ok (.getfield 7, 3) := by decide +kernel
theorem d_Mo_goesAlong_62 : decode M_Mo_goesAlong.2.1 62 = .ok (.iconst 5, 1) := by decide +kernel
theorem d_Mo_goesAlong_63 : decode M_Mo_goesAlong.2.1 63 = .ok (.dup2, 1) := by decide +kernel
theorem d_Mo_goesAlong_64 : decode M_Mo_goesAlong.2.1 64 = .ok (.iaload, 1) := by decide +kernel
theorem d_Mo_goesAlong_65 : decode M_Mo_goesAlong.2.1 65 = .ok (.aload_n 0, 1) := by decide +kernel
theorem d_Mo_goesAlong_66 : decode M_Mo_goesAlong.2.1 66 = .ok (.iload_n 1, 1) := by decide +kernel
theorem d_Mo_goesAlong_67 : decode M_Mo_goesAlong.2.1 67 = .ok (.invokevirtual 375, 3) := by decide +kernel
theorem d_Mo_goesAlong_70 : decode M_Mo_goesAlong.2.1 70 = .ok (.iadd, 1) := by decide +kernel
theorem d_Mo_goesAlong_71 : decode M_Mo_goesAlong.2.1 71 = .ok (.iastore, 1) := by decide +kernel
theorem d_Mo_goesAlong_72 : decode M_Mo_goesAlong.2.1 72 = .ok (.iconst 1, 1) := by decide +kernel
theorem d_Mo_goesAlong_73 : decode M_Mo_goesAlong.2.1 73 = .ok (.ireturn, 1) := by decide +kernel
theorem d_Mo_go_0 : decode M_Mo_go.2.1 0 = .ok (.aload_n 0, 1) := by decide +kernel
theorem d_Mo_go_1 : decode M_Mo_go.2.1 1 = .ok (.iload_n 1, 1) := by decide +kernel
theorem d_Mo_go_2 : decode M_Mo_go.2.1 2 = .ok (.invokevirtual 346, 3) := by decide +kernel
theorem d_Mo_go_5 : decode M_Mo_go.2.1 5 = .ok (.ifCond .ne 9, 3) := by decide +kernel
theorem d_Mo_go_8 : decode M_Mo_go.2.1 8 = .ok (.aload_n 0, 1) := by decide +kernel
theorem d_Mo_go_9 : decode M_Mo_go.2.1 9 = .ok (.iconst 1, 1) := by decide +kernel
theorem d_Mo_go_10 : decode M_Mo_go.2.1 10 = .ok (.invokevirtual 111, 3) := by decide +kernel
theorem d_Mo_go_13 : decode M_Mo_go.2.1 13 = .ok (.ireturn, 1) := by decide +kernel
theorem d_Mo_go_14 : decode M_Mo_go.2.1 14 = .ok (.aload_n 0, 1) := by decide +kernel
theorem d_Mo_go_15 : decode M_Mo_go.2.1 15 = .ok (.iload_n 1, 1) := by decide +kernel
theorem d_Mo_go_16 : decode M_Mo_go.2.1 16 = .ok (.invokevirtual 378, 3) := by decide +kernel
theorem d_Mo_go_19 : decode M_Mo_go.2.1 19 = .ok (.ifCond .eq 16, 3) := by decide +kernel
theorem d_Mo_go_22 : decode M_Mo_go.2.1 22 = .ok (.aload_n 0, 1) := by decide +kernel
theorem d_Mo_go_23 : decode M_Mo_go.2.1 23 = .ok (.aload_n 0, 1) := by decide +kernel
theorem d_Mo_go_24 : decode M_Mo_go.2.1 24 = .ok (.getfield 7, 3) := by decide +kernel
theorem d_Mo_go_27 : decode M_Mo_go.2.1 27 = .ok (.iconst 4, 1) := by decide +kernel
theorem d_Mo_go_28 : decode M_Mo_go.2.1 28 = .ok (.iaload, 1) := by decide +kernel
theorem d_Mo_go_29 : decode M_Mo_go.2.1 29 = .ok (.invokevirtual 115, 3) := by decide +kernel
theorem d_Mo_go_32 : decode M_Mo_go.2.1 32 = .ok (.goto 9, 3) := by decide +kernel
theorem d_Mo_go_35 : decode M_Mo_go.2.1 35 = .ok (.aload_n 0, 1) := by decide +kernel
theorem d_Mo_go_36 : decode M_Mo_go.2.1 36 = .ok (.bipush 7, 2) := by decide +kernel
theorem d_Mo_go_38 : decode M_Mo_go.2.1 38 = .ok (.invokevirtual 111, 3) := by decide +kernel
theorem d_Mo_go_41 : decode M_Mo_go.2.1 41 = .ok (.ireturn, 1) := by decide +kernel
theorem d_Mo_rule_0 : decode M_Mo_rule.2.1 0 = .ok (.iload_n 1, 1) := by decide +kernel
theorem d_Mo_rule_1 : decode M_Mo_rule.2.1 1 = .ok (.i2l, 1) := by decide +kernel
theorem d_Mo_rule_2 : decode M_Mo_rule.2.1 2 = .ok (.lconst 0, 1) := by decide +kernel
theorem d_Mo_rule_3 : decode M_Mo_rule.2.1 3 = .ok (.ldc2_w 381, 3) := by decide +kernel
theorem d_Mo_rule_6 : decode M_Mo_rule.2.1 6 = .ok (.invokestatic 356, 3) := by decide +kernel
theorem d_Mo_rule_9 : decode M_Mo_rule.2.1 9 = .ok (.ifCond .ne 9, 3) := by decide +kernel
theorem d_Mo_rule_12 : decode M_Mo_rule.2.1 12 = .ok (.aload_n 0, 1) := by decide +kernel
theorem d_Mo_rule_13 : decode M_Mo_rule.2.1 13 = .ok (.iconst 1, 1) := by decide +kernel
theorem d_Mo_rule_14 : decode M_Mo_rule.2.1 14 = .ok (.invokevirtual 118, 3) := by decide +kernel
theorem d_Mo_rule_17 : decode M_Mo_rule.2.1 17 = .ok (.ireturn, 1) := by decide +kernel
theorem d_Mo_rule_18 : decode M_Mo_rule.2.1 18 = .ok (.aload_n 0, 1) := by decide +kernel
theorem d_Mo_rule_19 : decode M_Mo_rule.2.1 19 = .ok (.getfield 7, 3) := by decide +kernel
theorem d_Mo_rule_22 : decode M_Mo_rule.2.1 22 = .ok (.iconst 3, 1) := by decide +kernel
theorem d_Mo_rule_23 : decode M_Mo_rule.2.1 23 = .ok (.iload_n 1, 1) := by decide +kernel
theorem d_Mo_rule_24 : decode M_Mo_rule.2.1 24 = .ok (.iastore, 1) := by decide +kernel
theorem d_Mo_rule_25 : decode M_Mo_rule.2.1 25 = .ok (.aload_n 0, 1) := by decide +kernel
theorem d_Mo_rule_26 : decode M_Mo_rule.2.1 26 = .ok (.iconst 0, 1) := by decide +kernel
theorem d_Mo_rule_27 : decode M_Mo_rule.2.1 27 = .ok (.invokevirtual 118, 3) := by decide +kernel
theorem d_Mo_rule_30 : decode M_Mo_rule.2.1 30 = .ok (.ireturn, 1) := by decide +kernel
theorem d_Mo_outBy_0 : decode M_Mo_outBy.2.1 0 = .ok (.aload_n 0, 1) := by decide +kernel
theorem d_Mo_outBy_1 : decode M_Mo_outBy.2.1 1 = .ok (.getfield 7, 3) := by decide +kernel
theorem d_Mo_outBy_4 : decode M_Mo_outBy.2.1 4 = .ok (.bipush 6, 2) := by decide +kernel
theorem d_Mo_outBy_6 : decode M_Mo_outBy.2.1 6 = .ok (.iaload, 1) := by decide +kernel
theorem d_Mo_outBy_7 : decode M_Mo_outBy.2.1 7 = .ok (.istore_n 2, 1) := by decide +kernel
theorem d_Mo_outBy_8 : decode M_Mo_outBy.2.1 8 = .ok (.iconst (-1), 1) := by decide +kernel
theorem d_Mo_outBy_9 : decode M_Mo_outBy.2.1 9 = .ok (.istore_n 3, 1) := by decide +kernel
theorem d_Mo_outBy_10 : decode M_Mo_outBy.2.1 10 = .ok (.iconst 0, 1) := by decide +kernel
theorem d_Mo_outBy_11 : decode M_Mo_outBy.2.1 11 = .ok (.istore 4, 2) := by decide +kernel
theorem d_Mo_outBy_13 : decode M_Mo_outBy.2.1 13 = .ok (.iload 4, 2) := by decide +kernel
theorem d_Mo_outBy_15 : decode M_Mo_outBy.2.1 15 = .ok (.iconst 1, 1) := by decide +kernel
theorem d_Mo_outBy_16 : decode M_Mo_outBy.2.1 16 = .ok (.aload_n 0, 1) := by decide +kernel
theorem d_Mo_outBy_17 : decode M_Mo_outBy.2.1 17 = .ok (.getfield 7, 3) := by decide +kernel
theorem d_Mo_outBy_20 : decode M_Mo_outBy.2.1 20 = .ok (.iconst 2, 1) := by decide +kernel
theorem d_Mo_outBy_21 : decode M_Mo_outBy.2.1 21 = .ok (.iaload, 1) := by decide +kernel
theorem d_Mo_outBy_22 : decode M_Mo_outBy.2.1 22 = .ok (.ishl, 1) := by decide +kernel
theorem d_Mo_outBy_23 : decode M_Mo_outBy.2.1 23 = .ok (.if_icmp .ge 54, 3) := by decide +kernel
theorem d_Mo_outBy_26 : decode M_Mo_outBy.2.1 26 = .ok (.iload_n 3, 1) := by decide +kernel
theorem d_Mo_outBy_27 : decode M_Mo_outBy.2.1 27 = .ok (.iconst (-1), 1) := by decide +kernel
theorem d_Mo_outBy_28 : decode M_Mo_outBy.2.1 28 = .ok (.if_icmp .ne 49, 3) := by decide +kernel
theorem d_Mo_outBy_31 : decode M_Mo_outBy.2.1 31 = .ok (.iload 4, 2) := by decide +kernel
theorem d_Mo_outBy_33 : decode M_Mo_outBy.2.1 33 = .ok (.iload_n 2, 1) := by decide +kernel
theorem d_Mo_outBy_34 : decode M_Mo_outBy.2.1 34 = .ok (.iand, 1) := by decide +kernel
theorem d_Mo_outBy_35 : decode M_Mo_outBy.2.1 35 = .ok (.ifCond .ne 36, 3) := by decide +kernel
theorem d_Mo_outBy_38 : decode M_Mo_outBy.2.1 38 = .ok (.iload 4, 2) := by decide +kernel
theorem d_Mo_outBy_40 : decode M_Mo_outBy.2.1 40 = .ok (.invokestatic 363, 3) := by decide +kernel
theorem d_Mo_outBy_43 : decode M_Mo_outBy.2.1 43 = .ok (.iload_n 1, 1) := by decide +kernel
theorem d_Mo_outBy_44 : decode M_Mo_outBy.2.1 44 = .ok (.if_icmp .eq 6, 3) := by decide +kernel
theorem d_Mo_outBy_47 : decode M_Mo_outBy.2.1 47 = .ok (.goto 24, 3) := by decide +kernel
theorem d_Mo_outBy_50 : decode M_Mo_outBy.2.1 50 = .ok (.aload_n 0, 1) := by decide +kernel
theorem d_Mo_outBy_51 : decode M_Mo_outBy.2.1 51 = .ok (.getfield 7, 3) := by decide +kernel
theorem d_Mo_outBy_54 : decode M_Mo_outBy.2.1 54 = .ok (.bipush 6, 2) := by decide +kernel
theorem d_Mo_outBy_56 : decode M_Mo_outBy.2.1 56 = .ok (.iload_n 2, 1) := by decide +kernel
theorem d_Mo_outBy_57 : decode M_Mo_outBy.2.1 57 = .ok (.iload 4, 2) := by decide +kernel
theorem d_Mo_outBy_59 : decode M_Mo_outBy.2.1 59 = .ok (.ior, 1) := by decide +kernel
theorem d_Mo_outBy_60 : decode M_Mo_outBy.2.1 60 = .ok (.iastore, 1) := by decide +kernel
theorem d_Mo_outBy_61 : decode M_Mo_outBy.2.1 61 = .ok (.aload_n 0, 1) := by decide +kernel
theorem d_Mo_outBy_62 : decode M_Mo_outBy.2.1 62 = .ok (.invokevirtual 337, 3) := by decide +kernel
theorem d_Mo_outBy_65 : decode M_Mo_outBy.2.1 65 = .ok (.ifCond .eq 6, 3) := by decide +kernel
theorem d_Mo_outBy_68 : decode M_Mo_outBy.2.1 68 = .ok (.iload 4, 2) := by decide +kernel
theorem d_Mo_outBy_70 : decode M_Mo_outBy.2.1 70 = .ok (.istore_n 3, 1) := by decide +kernel
theorem d_Mo_outBy_71 : decode M_Mo_outBy.2.1 71 = .ok (.iinc 4 1, 3) := by decide +kernel
theorem d_Mo_outBy_74 : decode M_Mo_outBy.2.1 74 = .ok (.goto (-61), 3) := by decide +kernel
theorem d_Mo_outBy_77 : decode M_Mo_outBy.2.1 77 = .ok (.aload_n 0, 1) := by decide +kernel
theorem d_Mo_outBy_78 : decode M_Mo_outBy.2.1 78 = .ok (.getfield 7, 3) := by decide +kernel
theorem d_Mo_outBy_81 : decode M_Mo_outBy.2.1 81 = .ok (.bipush 6, 2) := by decide +kernel
theorem d_Mo_outBy_83 : decode M_Mo_outBy.2.1 83 = .ok (.iload_n 2, 1) := by decide +kernel
theorem d_Mo_outBy_84 : decode M_Mo_outBy.2.1 84 = .ok (.iastore, 1) := by decide +kernel
theorem d_Mo_outBy_85 : decode M_Mo_outBy.2.1 85 = .ok (.iload_n 3, 1) := by decide +kernel
theorem d_Mo_outBy_86 : decode M_Mo_outBy.2.1 86 = .ok (.ireturn, 1) := by decide +kernel
theorem d_Mo_outOf_0 : decode M_Mo_outOf.2.1 0 = .ok (.iconst (-1), 1) := by decide +kernel
theorem d_Mo_outOf_1 : decode M_Mo_outOf.2.1 1 = .ok (.istore_n 1, 1) := by decide +kernel
theorem d_Mo_outOf_2 : decode M_Mo_outOf.2.1 2 = .ok (.iconst 0, 1) := by decide +kernel
theorem d_Mo_outOf_3 : decode M_Mo_outOf.2.1 3 = .ok (.istore_n 2, 1) := by decide +kernel
theorem d_Mo_outOf_4 : decode M_Mo_outOf.2.1 4 = .ok (.iload_n 2, 1) := by decide +kernel
theorem d_Mo_outOf_5 : decode M_Mo_outOf.2.1 5 = .ok (.iconst 4, 1) := by decide +kernel
theorem d_Mo_outOf_6 : decode M_Mo_outOf.2.1 6 = .ok (.if_icmp .ge 20, 3) := by decide +kernel
theorem d_Mo_outOf_9 : decode M_Mo_outOf.2.1 9 = .ok (.iload_n 1, 1) := by decide +kernel
theorem d_Mo_outOf_10 : decode M_Mo_outOf.2.1 10 = .ok (.iconst (-1), 1) := by decide +kernel
theorem d_Mo_outOf_11 : decode M_Mo_outOf.2.1 11 = .ok (.if_icmp .ne 15, 3) := by decide +kernel
theorem d_Mo_outOf_14 : decode M_Mo_outOf.2.1 14 = .ok (.aload_n 0, 1) := by decide +kernel
theorem d_Mo_outOf_15 : decode M_Mo_outOf.2.1 15 = .ok (.iload_n 2, 1) := by decide +kernel
theorem d_Mo_outOf_16 : decode M_Mo_outOf.2.1 16 = .ok (.invokevirtual 383, 3) := by decide +kernel
theorem d_Mo_outOf_19 : decode M_Mo_outOf.2.1 19 = .ok (.istore_n 1, 1) := by decide +kernel
theorem d_Mo_outOf_20 : decode M_Mo_outOf.2.1 20 = .ok (.iinc 2 1, 3) := by decide +kernel
theorem d_Mo_outOf_23 : decode M_Mo_outOf.2.1 23 = .ok (.goto (-19), 3) := by decide +kernel
theorem d_Mo_outOf_26 : decode M_Mo_outOf.2.1 26 = .ok (.iload_n 1, 1) := by decide +kernel
theorem d_Mo_outOf_27 : decode M_Mo_outOf.2.1 27 = .ok (.ireturn, 1) := by decide +kernel
theorem d_Mo_out_0 : decode M_Mo_out.2.1 0 = .ok (.aload_n 0, 1) := by decide +kernel
theorem d_Mo_out_1 : decode M_Mo_out.2.1 1 = .ok (.invokevirtual 386, 3) := by decide +kernel
theorem d_Mo_out_4 : decode M_Mo_out.2.1 4 = .ok (.istore_n 1, 1) := by decide +kernel
theorem d_Mo_out_5 : decode M_Mo_out.2.1 5 = .ok (.iload_n 1, 1) := by decide +kernel
theorem d_Mo_out_6 : decode M_Mo_out.2.1 6 = .ok (.iconst (-1), 1) := by decide +kernel
theorem d_Mo_out_7 : decode M_Mo_out.2.1 7 = .ok (.if_icmp .ne 12, 3) := by decide +kernel
theorem d_Mo_out_10 : decode M_Mo_out.2.1 10 = .ok (.aload_n 0, 1) := by decide +kernel
theorem d_Mo_out_11 : decode M_Mo_out.2.1 11 = .ok (.bipush 6, 2) := by decide +kernel
theorem d_Mo_out_13 : decode M_Mo_out.2.1 13 = .ok (.invokevirtual 111, 3) := by decide +kernel
theorem d_Mo_out_16 : decode M_Mo_out.2.1 16 = .ok (.goto 11, 3) := by decide +kernel
theorem d_Mo_out_19 : decode M_Mo_out.2.1 19 = .ok (.aload_n 0, 1) := by decide +kernel
theorem d_Mo_out_20 : decode M_Mo_out.2.1 20 = .ok (.iload_n 1, 1) := by decide +kernel
theorem d_Mo_out_21 : decode M_Mo_out.2.1 21 = .ok (.invokestatic 363, 3) := by decide +kernel
theorem d_Mo_out_24 : decode M_Mo_out.2.1 24 = .ok (.invokevirtual 115, 3) := by decide +kernel
theorem d_Mo_out_27 : decode M_Mo_out.2.1 27 = .ok (.ireturn, 1) := by decide +kernel
theorem d_Mo_outSet_0 : decode M_Mo_outSet.2.1 0 = .ok (.aload_n 0, 1) := by decide +kernel
theorem d_Mo_outSet_1 : decode M_Mo_outSet.2.1 1 = .ok (.aload_n 0, 1) := by decide +kernel
theorem d_Mo_outSet_2 : decode M_Mo_outSet.2.1 2 = .ok (.invokevirtual 386, 3) := by decide +kernel
theorem d_Mo_outSet_5 : decode M_Mo_outSet.2.1 5 = .ok (.invokevirtual 325, 3) := by decide +kernel
theorem d_Mo_outSet_8 : decode M_Mo_outSet.2.1 8 = .ok (.ireturn, 1) := by decide +kernel
theorem d_Mo_isSet_0 : decode M_Mo_isSet.2.1 0 = .ok (.iload_n 1, 1) := by decide +kernel
theorem d_Mo_isSet_1 : decode M_Mo_isSet.2.1 1 = .ok (.i2l, 1) := by decide +kernel
theorem d_Mo_isSet_2 : decode M_Mo_isSet.2.1 2 = .ok (.lconst 0, 1) := by decide +kernel
theorem d_Mo_isSet_3 : decode M_Mo_isSet.2.1 3 = .ok (.lconst 1, 1) := by decide +kernel
theorem d_Mo_isSet_4 : decode M_Mo_isSet.2.1 4 = .ok (.aload_n 0, 1) := by decide +kernel
theorem d_Mo_isSet_5 : decode M_Mo_isSet.2.1 5 = .ok (.getfield 7, 3) := by decide +kernel
theorem d_Mo_isSet_8 : decode M_Mo_isSet.2.1 8 = .ok (.iconst 1, 1) := by decide +kernel
theorem d_Mo_isSet_9 : decode M_Mo_isSet.2.1 9 = .ok (.iaload, 1) := by decide +kernel
theorem d_Mo_isSet_10 : decode M_Mo_isSet.2.1 10 = .ok (.lshl, 1) := by decide +kernel
theorem d_Mo_isSet_11 : decode M_Mo_isSet.2.1 11 = .ok (.lconst 1, 1) := by decide +kernel
theorem d_Mo_isSet_12 : decode M_Mo_isSet.2.1 12 = .ok (.lsub, 1) := by decide +kernel
theorem d_Mo_isSet_13 : decode M_Mo_isSet.2.1 13 = .ok (.invokestatic 356, 3) := by decide +kernel
theorem d_Mo_isSet_16 : decode M_Mo_isSet.2.1 16 = .ok (.ifCond .eq 15, 3) := by decide +kernel
theorem d_Mo_isSet_19 : decode M_Mo_isSet.2.1 19 = .ok (.iload_n 1, 1) := by decide +kernel
theorem d_Mo_isSet_20 : decode M_Mo_isSet.2.1 20 = .ok (.invokestatic 363, 3) := by decide +kernel
theorem d_Mo_isSet_23 : decode M_Mo_isSet.2.1 23 = .ok (.iconst 3, 1) := by decide +kernel
theorem d_Mo_isSet_24 : decode M_Mo_isSet.2.1 24 = .ok (.if_icmp .ge 7, 3) := by decide +kernel
theorem d_Mo_isSet_27 : decode M_Mo_isSet.2.1 27 = .ok (.iconst 1, 1) := by decide +kernel
theorem d_Mo_isSet_28 : decode M_Mo_isSet.2.1 28 = .ok (.goto 4, 3) := by decide +kernel
theorem d_Mo_isSet_31 : decode M_Mo_isSet.2.1 31 = .ok (.iconst 0, 1) := by decide +kernel
theorem d_Mo_isSet_32 : decode M_Mo_isSet.2.1 32 = .ok (.ireturn, 1) := by decide +kernel
theorem d_Mo_laysWays_0 : decode M_Mo_laysWays.2.1 0 = .ok (.aload_n 0, 1) := by decide +kernel
theorem d_Mo_laysWays_1 : decode M_Mo_laysWays.2.1 1 = .ok (.iconst (-1), 1) := by decide +kernel
theorem d_Mo_laysWays_2 : decode M_Mo_laysWays.2.1 2 = .ok (.putfield 389, 3) := by decide +kernel
theorem d_Mo_laysWays_5 : decode M_Mo_laysWays.2.1 5 = .ok (.aload_n 0, 1) := by decide +kernel
theorem d_Mo_laysWays_6 : decode M_Mo_laysWays.2.1 6 = .ok (.iconst (-1), 1) := by decide +kernel
theorem d_Mo_laysWays_7 : decode M_Mo_laysWays.2.1 7 = .ok (.putfield 392, 3) := by decide +kernel
theorem d_Mo_laysWays_10 : decode M_Mo_laysWays.2.1 10 = .ok (.iconst 0, 1) := by decide +kernel
theorem d_Mo_laysWays_11 : decode M_Mo_laysWays.2.1 11 = .ok (.istore_n 2, 1) := by decide +kernel
theorem d_Mo_laysWays_12 : decode M_Mo_laysWays.2.1 12 = .ok (.iload_n 2, 1) := by decide +kernel
theorem d_Mo_laysWays_13 : decode M_Mo_laysWays.2.1 13 = .ok (.aload_n 0, 1) := by decide +kernel
theorem d_Mo_laysWays_14 : decode M_Mo_laysWays.2.1 14 = .ok (.getfield 7, 3) := by decide +kernel
theorem d_Mo_laysWays_17 : decode M_Mo_laysWays.2.1 17 = .ok (.iconst 1, 1) := by decide +kernel
theorem d_Mo_laysWays_18 : decode M_Mo_laysWays.2.1 18 = .ok (.iaload, 1) := by decide +kernel
theorem d_Mo_laysWays_19 : decode M_Mo_laysWays.2.1 19 = .ok (.if_icmp .ge 53, 3) := by decide +kernel
theorem d_Mo_laysWays_22 : decode M_Mo_laysWays.2.1 22 = .ok (.aload_n 0, 1) := by decide +kernel
theorem d_Mo_laysWays_23 : decode M_Mo_laysWays.2.1 23 = .ok (.getfield 65, 3) := by decide +kernel
theorem d_Mo_laysWays_26 : decode M_Mo_laysWays.2.1 26 = .ok (.iload_n 2, 1) := by decide +kernel
theorem d_Mo_laysWays_27 : decode M_Mo_laysWays.2.1 27 = .ok (.aload_n 0, 1) := by decide +kernel
theorem d_Mo_laysWays_28 : decode M_Mo_laysWays.2.1 28 = .ok (.iload_n 2, 1) := by decide +kernel
theorem d_Mo_laysWays_29 : decode M_Mo_laysWays.2.1 29 = .ok (.invokevirtual 343, 3) := by decide +kernel
theorem d_Mo_laysWays_32 : decode M_Mo_laysWays.2.1 32 = .ok (.iastore, 1) := by decide +kernel
theorem d_Mo_laysWays_33 : decode M_Mo_laysWays.2.1 33 = .ok (.aload_n 0, 1) := by decide +kernel
theorem d_Mo_laysWays_34 : decode M_Mo_laysWays.2.1 34 = .ok (.iload_n 1, 1) := by decide +kernel
theorem d_Mo_laysWays_35 : decode M_Mo_laysWays.2.1 35 = .ok (.iload_n 2, 1) := by decide +kernel
theorem d_Mo_laysWays_36 : decode M_Mo_laysWays.2.1 36 = .ok (.invokevirtual 281, 3) := by decide +kernel
theorem d_Mo_laysWays_39 : decode M_Mo_laysWays.2.1 39 = .ok (.ifCond .ne 6, 3) := by decide +kernel
theorem d_Mo_laysWays_42 : decode M_Mo_laysWays.2.1 42 = .ok (.goto 24, 3) := by decide +kernel
theorem d_Mo_laysWays_45 : decode M_Mo_laysWays.2.1 45 = .ok (.aload_n 0, 1) := by decide +kernel
theorem d_Mo_laysWays_46 : decode M_Mo_laysWays.2.1 46 = .ok (.getfield 389, 3) := by decide +kernel
theorem d_Mo_laysWays_49 : decode M_Mo_laysWays.2.1 49 = .ok (.iconst (-1), 1) := by decide +kernel
theorem d_Mo_laysWays_50 : decode M_Mo_laysWays.2.1 50 = .ok (.if_icmp .ne 11, 3) := by decide +kernel
theorem d_Mo_laysWays_53 : decode M_Mo_laysWays.2.1 53 = .ok (.aload_n 0, 1) := by decide +kernel
theorem d_Mo_laysWays_54 : decode M_Mo_laysWays.2.1 54 = .ok (.iload_n 2, 1) := by decide +kernel
theorem d_Mo_laysWays_55 : decode M_Mo_laysWays.2.1 55 = .ok (.putfield 389, 3) := by decide +kernel
theorem d_Mo_laysWays_58 : decode M_Mo_laysWays.2.1 58 = .ok (.goto 8, 3) := by decide +kernel
theorem d_Mo_laysWays_61 : decode M_Mo_laysWays.2.1 61 = .ok (.aload_n 0, 1) := by decide +kernel
theorem d_Mo_laysWays_62 : decode M_Mo_laysWays.2.1 62 = .ok (.iload_n 2, 1) := by decide +kernel
theorem d_Mo_laysWays_63 : decode M_Mo_laysWays.2.1 63 = .ok (.putfield 392, 3) := by decide +kernel
theorem d_Mo_laysWays_66 : decode M_Mo_laysWays.2.1 66 = .ok (.iinc 2 1, 3) := by decide +kernel
theorem d_Mo_laysWays_69 : decode M_Mo_laysWays.2.1 69 = .ok (.goto (-57), 3) := by decide +kernel
theorem d_Mo_laysWays_72 : decode M_Mo_laysWays.2.1 72 = .ok (.aload_n 0, 1) := by decide +kernel
theorem d_Mo_laysWays_73 : decode M_Mo_laysWays.2.1 73 = .ok (.iconst 0, 1) := by decide +kernel
theorem d_Mo_laysWays_74 : decode M_Mo_laysWays.2.1 74 = .ok (.putfield 395, 3) := by decide +kernel
theorem d_Mo_laysWays_77 : decode M_Mo_laysWays.2.1 77 = .ok (.aload_n 0, 1) := by decide +kernel
theorem d_Mo_laysWays_78 : decode M_Mo_laysWays.2.1 78 = .ok (.getfield 389, 3) := by decide +kernel
theorem d_Mo_laysWays_81 : decode M_Mo_laysWays.2.1 81 = .ok (.iconst (-1), 1) := by decide +kernel
theorem d_Mo_laysWays_82 : decode M_Mo_laysWays.2.1 82 = .ok (.if_icmp .ne 7, 3) := by decide +kernel
theorem d_Mo_laysWays_85 : decode M_Mo_laysWays.2.1 85 = .ok (.iconst 1, 1) := by decide +kernel
theorem d_Mo_laysWays_86 : decode M_Mo_laysWays.2.1 86 = .ok (.goto 19, 3) := by decide +kernel
theorem d_Mo_laysWays_89 : decode M_Mo_laysWays.2.1 89 = .ok (.aload_n 0, 1) := by decide +kernel
theorem d_Mo_laysWays_90 : decode M_Mo_laysWays.2.1 90 = .ok (.getfield 392, 3) := by decide +kernel
theorem d_Mo_laysWays_93 : decode M_Mo_laysWays.2.1 93 = .ok (.iconst (-1), 1) := by decide +kernel
theorem d_Mo_laysWays_94 : decode M_Mo_laysWays.2.1 94 = .ok (.if_icmp .ne 8, 3) := by decide +kernel
theorem d_Mo_laysWays_97 : decode M_Mo_laysWays.2.1 97 = .ok (.bipush 24, 2) := by decide +kernel
theorem d_Mo_laysWays_99 : decode M_Mo_laysWays.2.1 99 = .ok (.goto 6, 3) := by decide +kernel
theorem d_Mo_laysWays_102 : decode M_Mo_laysWays.2.1 102 = .ok (.sipush 576, 3) := by decide +kernel
theorem d_Mo_laysWays_105 : decode M_Mo_laysWays.2.1 105 = .ok (.istore_n 2, 1) := by decide +kernel
theorem d_Mo_laysWays_106 : decode M_Mo_laysWays.2.1 106 = .ok (.iconst 0, 1) := by decide +kernel
theorem d_Mo_laysWays_107 : decode M_Mo_laysWays.2.1 107 = .ok (.istore_n 3, 1) := by decide +kernel
theorem d_Mo_laysWays_108 : decode M_Mo_laysWays.2.1 108 = .ok (.iload_n 3, 1) := by decide +kernel
theorem d_Mo_laysWays_109 : decode M_Mo_laysWays.2.1 109 = .ok (.iload_n 2, 1) := by decide +kernel
theorem d_Mo_laysWays_110 : decode M_Mo_laysWays.2.1 110 = .ok (.if_icmp .ge 155, 3) := by decide +kernel
theorem d_Mo_laysWays_113 : decode M_Mo_laysWays.2.1 113 = .ok (.aload_n 0, 1) := by decide +kernel
theorem d_Mo_laysWays_114 : decode M_Mo_laysWays.2.1 114 = .ok (.getfield 389, 3) := by decide +kernel
theorem d_Mo_laysWays_117 : decode M_Mo_laysWays.2.1 117 = .ok (.iconst (-1), 1) := by decide +kernel
theorem d_Mo_laysWays_118 : decode M_Mo_laysWays.2.1 118 = .ok (.if_icmp .eq 27, 3) := by decide +kernel
theorem d_Mo_laysWays_121 : decode M_Mo_laysWays.2.1 121 = .ok (.aload_n 0, 1) := by decide +kernel
theorem d_Mo_laysWays_122 : decode M_Mo_laysWays.2.1 122 = .ok (.aload_n 0, 1) := by decide +kernel
theorem d_Mo_laysWays_123 : decode M_Mo_laysWays.2.1 123 = .ok (.getfield 389, 3) := by decide +kernel
theorem d_Mo_laysWays_126 : decode M_Mo_laysWays.2.1 126 = .ok (.aload_n 0, 1) := by decide +kernel
theorem d_Mo_laysWays_127 : decode M_Mo_laysWays.2.1 127 = .ok (.getfield 392, 3) := by decide +kernel
theorem d_Mo_laysWays_130 : decode M_Mo_laysWays.2.1 130 = .ok (.iconst (-1), 1) := by decide +kernel
theorem d_Mo_laysWays_131 : decode M_Mo_laysWays.2.1 131 = .ok (.if_icmp .ne 7, 3) := by decide +kernel
theorem d_Mo_laysWays_134 : decode M_Mo_laysWays.2.1 134 = .ok (.iload_n 3, 1) := by decide +kernel
theorem d_Mo_laysWays_135 : decode M_Mo_laysWays.2.1 135 = .ok (.goto 7, 3) := by decide +kernel
theorem d_Mo_laysWays_138 : decode M_Mo_laysWays.2.1 138 = .ok (.iload_n 3, 1) := by decide +kernel
theorem d_Mo_laysWays_139 : decode M_Mo_laysWays.2.1 139 = .ok (.bipush 24, 2) := by decide +kernel
theorem d_Mo_laysWays_141 : decode M_Mo_laysWays.2.1 141 = .ok (.idiv, 1) := by decide +kernel
theorem d_Mo_laysWays_142 : decode M_Mo_laysWays.2.1 142 = .ok (.invokevirtual 371, 3) := by decide +kernel
theorem d_Mo_laysWays_145 : decode M_Mo_laysWays.2.1 145 = .ok (.aload_n 0, 1) := by decide +kernel
theorem d_Mo_laysWays_146 : decode M_Mo_laysWays.2.1 146 = .ok (.getfield 392, 3) := by decide +kernel
theorem d_Mo_laysWays_149 : decode M_Mo_laysWays.2.1 149 = .ok (.iconst (-1), 1) := by decide +kernel
theorem d_Mo_laysWays_150 : decode M_Mo_laysWays.2.1 150 = .ok (.if_icmp .eq 15, 3) := by decide +kernel
theorem d_Mo_laysWays_153 : decode M_Mo_laysWays.2.1 153 = .ok (.aload_n 0, 1) := by decide +kernel
theorem d_Mo_laysWays_154 : decode M_Mo_laysWays.2.1 154 = .ok (.aload_n 0, 1) := by decide +kernel
theorem d_Mo_laysWays_155 : decode M_Mo_laysWays.2.1 155 = .ok (.getfield 392, 3) := by decide +kernel
theorem d_Mo_laysWays_158 : decode M_Mo_laysWays.2.1 158 = .ok (.iload_n 3, 1) := by decide +kernel
theorem d_Mo_laysWays_159 : decode M_Mo_laysWays.2.1 159 = .ok (.bipush 24, 2) := by decide +kernel
theorem d_Mo_laysWays_161 : decode M_Mo_laysWays.2.1 161 = .ok (.irem, 1) := by decide +kernel
theorem d_Mo_laysWays_162 : decode M_Mo_laysWays.2.1 162 = .ok (.invokevirtual 371, 3) := by decide +kernel
theorem d_Mo_laysWays_165 : decode M_Mo_laysWays.2.1 165 = .ok (.aload_n 0, 1) := by decide +kernel
theorem d_Mo_laysWays_166 : decode M_Mo_laysWays.2.1 166 = .ok (.invokevirtual 337, 3) := by decide +kernel
theorem d_Mo_laysWays_169 : decode M_Mo_laysWays.2.1 169 = .ok (.ifCond .ne 6, 3) := by decide +kernel
theorem d_Mo_laysWays_172 : decode M_Mo_laysWays.2.1 172 = .ok (.goto 87, 3) := by decide +kernel
theorem d_Mo_laysWays_175 : decode M_Mo_laysWays.2.1 175 = .ok (.aload_n 0, 1) := by decide +kernel
theorem d_Mo_laysWays_176 : decode M_Mo_laysWays.2.1 176 = .ok (.getfield 56, 3) := by decide +kernel
theorem d_Mo_laysWays_179 : decode M_Mo_laysWays.2.1 179 = .ok (.aload_n 0, 1) := by decide +kernel
theorem d_Mo_laysWays_180 : decode M_Mo_laysWays.2.1 180 = .ok (.getfield 395, 3) := by decide +kernel
theorem d_Mo_laysWays_183 : decode M_Mo_laysWays.2.1 183 = .ok (.iload_n 3, 1) := by decide +kernel
theorem d_Mo_laysWays_184 : decode M_Mo_laysWays.2.1 184 = .ok (.iastore, 1) := by decide +kernel
theorem d_Mo_laysWays_185 : decode M_Mo_laysWays.2.1 185 = .ok (.iconst 0, 1) := by decide +kernel
theorem d_Mo_laysWays_186 : decode M_Mo_laysWays.2.1 186 = .ok (.istore 4, 2) := by decide +kernel
theorem d_Mo_laysWays_188 : decode M_Mo_laysWays.2.1 188 = .ok (.iload 4, 2) := by decide +kernel
theorem d_Mo_laysWays_190 : decode M_Mo_laysWays.2.1 190 = .ok (.aload_n 0, 1) := by decide +kernel
theorem d_Mo_laysWays_191 : decode M_Mo_laysWays.2.1 191 = .ok (.getfield 7, 3) := by decide +kernel
theorem d_Mo_laysWays_194 : decode M_Mo_laysWays.2.1 194 = .ok (.iconst 0, 1) := by decide +kernel
theorem d_Mo_laysWays_195 : decode M_Mo_laysWays.2.1 195 = .ok (.iaload, 1) := by decide +kernel
theorem d_Mo_laysWays_196 : decode M_Mo_laysWays.2.1 196 = .ok (.if_icmp .ge 53, 3) := by decide +kernel
theorem d_Mo_laysWays_199 : decode M_Mo_laysWays.2.1 199 = .ok (.aload_n 0, 1) := by decide +kernel
theorem d_Mo_laysWays_200 : decode M_Mo_laysWays.2.1 200 = .ok (.getfield 59, 3) := by decide +kernel
theorem d_Mo_laysWays_203 : decode M_Mo_laysWays.2.1 203 = .ok (.bipush 7, 2) := by decide +kernel
theorem d_Mo_laysWays_205 : decode M_Mo_laysWays.2.1 205 = .ok (.aload_n 0, 1) := by decide +kernel
theorem d_Mo_laysWays_206 : decode M_Mo_laysWays.2.1 206 = .ok (.getfield 395, 3) := by decide +kernel
theorem d_Mo_laysWays_209 : decode M_Mo_laysWays.2.1 209 = .ok (.imul, 1) := by decide +kernel
theorem d_Mo_laysWays_210 : decode M_Mo_laysWays.2.1 210 = .ok (.iload 4, 2) := by decide +kernel
theorem d_Mo_laysWays_212 : decode M_Mo_laysWays.2.1 212 = .ok (.iadd, 1) := by decide +kernel
theorem d_Mo_laysWays_213 : decode M_Mo_laysWays.2.1 213 = .ok (.aload_n 0, 1) := by decide +kernel
theorem d_Mo_laysWays_214 : decode M_Mo_laysWays.2.1 214 = .ok (.getfield 47, 3) := by decide +kernel
theorem d_Mo_laysWays_217 : decode M_Mo_laysWays.2.1 217 = .ok (.iload 4, 2) := by decide +kernel
theorem d_Mo_laysWays_219 : decode M_Mo_laysWays.2.1 219 = .ok (.iaload, 1) := by decide +kernel
theorem d_Mo_laysWays_220 : decode M_Mo_laysWays.2.1 220 = .ok (.iastore, 1) := by decide +kernel
theorem d_Mo_laysWays_221 : decode M_Mo_laysWays.2.1 221 = .ok (.aload_n 0, 1) := by decide +kernel
theorem d_Mo_laysWays_222 : decode M_Mo_laysWays.2.1 222 = .ok (.getfield 62, 3) := by decide +kernel
theorem d_Mo_laysWays_225 : decode M_Mo_laysWays.2.1 225 = .ok (.bipush 7, 2) := by decide +kernel
theorem d_Mo_laysWays_227 : decode M_Mo_laysWays.2.1 227 = .ok (.aload_n 0, 1) := by decide +kernel
theorem d_Mo_laysWays_228 : decode M_Mo_laysWays.2.1 228 = .ok (.getfield 395, 3) := by decide +kernel
theorem d_Mo_laysWays_231 : decode M_Mo_laysWays.2.1 231 = .ok (.imul, 1) := by decide +kernel
theorem d_Mo_laysWays_232 : decode M_Mo_laysWays.2.1 232 = .ok (.iload 4, 2) := by decide +kernel
theorem d_Mo_laysWays_234 : decode M_Mo_laysWays.2.1 234 = .ok (.iadd, 1) := by decide +kernel
theorem d_Mo_laysWays_235 : decode M_Mo_laysWays.2.1 235 = .ok (.aload_n 0, 1) := by decide +kernel
theorem d_Mo_laysWays_236 : decode M_Mo_laysWays.2.1 236 = .ok (.getfield 50, 3) := by decide +kernel
theorem d_Mo_laysWays_239 : decode M_Mo_laysWays.2.1 239 = .ok (.iload 4, 2) := by decide +kernel
theorem d_Mo_laysWays_241 : decode M_Mo_laysWays.2.1 241 = .ok (.iaload, 1) := by decide +kernel
theorem d_Mo_laysWays_242 : decode M_Mo_laysWays.2.1 242 = .ok (.iastore, 1) := by decide +kernel
theorem d_Mo_laysWays_243 : decode M_Mo_laysWays.2.1 243 = .ok (.iinc 4 1, 3) := by decide +kernel
theorem d_Mo_laysWays_246 : decode M_Mo_laysWays.2.1 246 = .ok (.goto (-58), 3) := by decide +kernel
theorem d_Mo_laysWays_249 : decode M_Mo_laysWays.2.1 249 = .ok (.aload_n 0, 1) := by decide +kernel
theorem d_Mo_laysWays_250 : decode M_Mo_laysWays.2.1 250 = .ok (.dup, 1) := by decide +kernel
theorem d_Mo_laysWays_251 : decode M_Mo_laysWays.2.1 251 = .ok (.getfield 395, 3) := by decide +kernel
theorem d_Mo_laysWays_254 : decode M_Mo_laysWays.2.1 254 = .ok (.iconst 1, 1) := by decide +kernel
theorem d_Mo_laysWays_255 : decode M_Mo_laysWays.2.1 255 = .ok (.iadd, 1) := by decide +kernel
theorem d_Mo_laysWays_256 : decode M_Mo_laysWays.2.1 256 = .ok (.putfield 395, 3) := by decide +kernel
theorem d_Mo_laysWays_259 : decode M_Mo_laysWays.2.1 259 = .ok (.iinc 3 1, 3) := by decide +kernel
theorem d_Mo_laysWays_262 : decode M_Mo_laysWays.2.1 262 = .ok (.goto (-154), 3) := by decide +kernel
theorem d_Mo_laysWays_265 : decode M_Mo_laysWays.2.1 265 = .ok (.iconst 0, 1) := by decide +kernel
theorem d_Mo_laysWays_266 : decode M_Mo_laysWays.2.1 266 = .ok (.istore_n 3, 1) := by decide +kernel
theorem d_Mo_laysWays_267 : decode M_Mo_laysWays.2.1 267 = .ok (.iload_n 3, 1) := by decide +kernel
theorem d_Mo_laysWays_268 : decode M_Mo_laysWays.2.1 268 = .ok (.aload_n 0, 1) := by decide +kernel
theorem d_Mo_laysWays_269 : decode M_Mo_laysWays.2.1 269 = .ok (.getfield 7, 3) := by decide +kernel
theorem d_Mo_laysWays_272 : decode M_Mo_laysWays.2.1 272 = .ok (.iconst 1, 1) := by decide +kernel
theorem d_Mo_laysWays_273 : decode M_Mo_laysWays.2.1 273 = .ok (.iaload, 1) := by decide +kernel
theorem d_Mo_laysWays_274 : decode M_Mo_laysWays.2.1 274 = .ok (.if_icmp .ge 20, 3) := by decide +kernel
theorem d_Mo_laysWays_277 : decode M_Mo_laysWays.2.1 277 = .ok (.aload_n 0, 1) := by decide +kernel
theorem d_Mo_laysWays_278 : decode M_Mo_laysWays.2.1 278 = .ok (.iload_n 3, 1) := by decide +kernel
theorem d_Mo_laysWays_279 : decode M_Mo_laysWays.2.1 279 = .ok (.aload_n 0, 1) := by decide +kernel
theorem d_Mo_laysWays_280 : decode M_Mo_laysWays.2.1 280 = .ok (.getfield 65, 3) := by decide +kernel
theorem d_Mo_laysWays_283 : decode M_Mo_laysWays.2.1 283 = .ok (.iload_n 3, 1) := by decide +kernel
theorem d_Mo_laysWays_284 : decode M_Mo_laysWays.2.1 284 = .ok (.iaload, 1) := by decide +kernel
theorem d_Mo_laysWays_285 : decode M_Mo_laysWays.2.1 285 = .ok (.invokevirtual 371, 3) := by decide +kernel
theorem d_Mo_laysWays_288 : decode M_Mo_laysWays.2.1 288 = .ok (.iinc 3 1, 3) := by decide +kernel
theorem d_Mo_laysWays_291 : decode M_Mo_laysWays.2.1 291 = .ok (.goto (-24), 3) := by decide +kernel
theorem d_Mo_laysWays_294 : decode M_Mo_laysWays.2.1 294 = .ok (.return_, 1) := by decide +kernel
theorem d_Mo_faultIn_0 : decode M_Mo_faultIn.2.1 0 = .ok (.aload_n 0, 1) := by decide +kernel
theorem d_Mo_faultIn_1 : decode M_Mo_faultIn.2.1 1 = .ok (.getfield 56, 3) := by decide +kernel
theorem d_Mo_faultIn_4 : decode M_Mo_faultIn.2.1 4 = .ok (.iload_n 1, 1) := by decide +kernel
theorem d_Mo_faultIn_5 : decode M_Mo_faultIn.2.1 5 = .ok (.iaload, 1) := by decide +kernel
theorem d_Mo_faultIn_6 : decode M_Mo_faultIn.2.1 6 = .ok (.istore_n 3, 1) := by decide +kernel
theorem d_Mo_faultIn_7 : decode M_Mo_faultIn.2.1 7 = .ok (.aload_n 0, 1) := by decide +kernel
theorem d_Mo_faultIn_8 : decode M_Mo_faultIn.2.1 8 = .ok (.getfield 392, 3) := by decide +kernel
theorem d_Mo_faultIn_11 : decode M_Mo_faultIn.2.1 11 = .ok (.iconst (-1), 1) := by decide +kernel
theorem d_Mo_faultIn_12 : decode M_Mo_faultIn.2.1 12 = .ok (.if_icmp .ne 7, 3) := by decide +kernel
theorem d_Mo_faultIn_15 : decode M_Mo_faultIn.2.1 15 = .ok (.iload_n 3, 1) := by decide +kernel
theorem d_Mo_faultIn_16 : decode M_Mo_faultIn.2.1 16 = .ok (.goto 22, 3) := by decide +kernel
theorem d_Mo_faultIn_19 : decode M_Mo_faultIn.2.1 19 = .ok (.iload_n 2, 1) := by decide +kernel
theorem d_Mo_faultIn_20 : decode M_Mo_faultIn.2.1 20 = .ok (.aload_n 0, 1) := by decide +kernel
theorem d_Mo_faultIn_21 : decode M_Mo_faultIn.2.1 21 = .ok (.getfield 389, 3) := by decide +kernel
theorem d_Mo_faultIn_24 : decode M_Mo_faultIn.2.1 24 = .ok (.if_icmp .ne 10, 3) := by decide +kernel
theorem d_Mo_faultIn_27 : decode M_Mo_faultIn.2.1 27 = .ok (.iload_n 3, 1) := by decide +kernel
theorem d_Mo_faultIn_28 : decode M_Mo_faultIn.2.1 28 = .ok (.bipush 24, 2) := by decide +kernel
theorem d_Mo_faultIn_30 : decode M_Mo_faultIn.2.1 30 = .ok (.idiv, 1) := by decide +kernel
theorem d_Mo_faultIn_31 : decode M_Mo_faultIn.2.1 31 = .ok (.goto 7, 3) := by decide +kernel
theorem d_Mo_faultIn_34 : decode M_Mo_faultIn.2.1 34 = .ok (.iload_n 3, 1) := by decide +kernel
theorem d_Mo_faultIn_35 : decode M_Mo_faultIn.2.1 35 = .ok (.bipush 24, 2) := by decide +kernel
theorem d_Mo_faultIn_37 : decode M_Mo_faultIn.2.1 37 = .ok (.irem, 1) := by decide +kernel
theorem d_Mo_faultIn_38 : decode M_Mo_faultIn.2.1 38 = .ok (.ireturn, 1) := by decide +kernel
theorem d_Mo_fits_0 : decode M_Mo_fits.2.1 0 = .ok (.aload_n 0, 1) := by decide +kernel
theorem d_Mo_fits_1 : decode M_Mo_fits.2.1 1 = .ok (.iload_n 1, 1) := by decide +kernel
theorem d_Mo_fits_2 : decode M_Mo_fits.2.1 2 = .ok (.invokevirtual 398, 3) := by decide +kernel
theorem d_Mo_fits_5 : decode M_Mo_fits.2.1 5 = .ok (.ifCond .ne 9, 3) := by decide +kernel
theorem d_Mo_fits_8 : decode M_Mo_fits.2.1 8 = .ok (.aload_n 0, 1) := by decide +kernel
theorem d_Mo_fits_9 : decode M_Mo_fits.2.1 9 = .ok (.iconst 1, 1) := by decide +kernel
theorem d_Mo_fits_10 : decode M_Mo_fits.2.1 10 = .ok (.invokevirtual 111, 3) := by decide +kernel
theorem d_Mo_fits_13 : decode M_Mo_fits.2.1 13 = .ok (.ireturn, 1) := by decide +kernel
theorem d_Mo_fits_14 : decode M_Mo_fits.2.1 14 = .ok (.aload_n 0, 1) := by decide +kernel
theorem d_Mo_fits_15 : decode M_Mo_fits.2.1 15 = .ok (.iload_n 1, 1) := by decide +kernel
theorem d_Mo_fits_16 : decode M_Mo_fits.2.1 16 = .ok (.invokevirtual 401, 3) := by decide +kernel
theorem d_Mo_fits_19 : decode M_Mo_fits.2.1 19 = .ok (.aload_n 0, 1) := by decide +kernel
theorem d_Mo_fits_20 : decode M_Mo_fits.2.1 20 = .ok (.aload_n 0, 1) := by decide +kernel
theorem d_Mo_fits_21 : decode M_Mo_fits.2.1 21 = .ok (.getfield 395, 3) := by decide +kernel
theorem d_Mo_fits_24 : decode M_Mo_fits.2.1 24 = .ok (.invokevirtual 115, 3) := by decide +kernel
theorem d_Mo_fits_27 : decode M_Mo_fits.2.1 27 = .ok (.ireturn, 1) := by decide +kernel
theorem d_Mo_firstFault_0 : decode M_Mo_firstFault.2.1 0 = .ok (.aload_n 0, 1) := by decide +kernel
theorem d_Mo_firstFault_1 : decode M_Mo_firstFault.2.1 1 = .ok (.iload_n 1, 1) := by decide +kernel
theorem d_Mo_firstFault_2 : decode M_Mo_firstFault.2.1 2 = .ok (.invokevirtual 398, 3) := by decide +kernel
theorem d_Mo_firstFault_5 : decode M_Mo_firstFault.2.1 5 = .ok (.ifCond .eq 11, 3) := by decide +kernel
theorem d_Mo_firstFault_8 : decode M_Mo_firstFault.2.1 8 = .ok (.aload_n 0, 1) := by decide +kernel
theorem d_Mo_firstFault_9 : decode M_Mo_firstFault.2.1 9 = .ok (.iload_n 2, 1) := by decide +kernel
theorem d_Mo_firstFault_10 : decode M_Mo_firstFault.2.1 10 = .ok (.invokevirtual 340, 3) := by decide +kernel
theorem d_Mo_firstFault_13 : decode M_Mo_firstFault.2.1 13 = .ok (.ifCond .ne 9, 3) := by decide +kernel
theorem d_Mo_firstFault_16 : decode M_Mo_firstFault.2.1 16 = .ok (.aload_n 0, 1) := by decide +kernel
theorem d_Mo_firstFault_17 : decode M_Mo_firstFault.2.1 17 = .ok (.iconst 1, 1) := by decide +kernel
theorem d_Mo_firstFault_18 : decode M_Mo_firstFault.2.1 18 = .ok (.invokevirtual 111, 3) := by decide +kernel
theorem d_Mo_firstFault_21 : decode M_Mo_firstFault.2.1 21 = .ok (.ireturn, 1) := by decide +kernel
theorem d_Mo_firstFault_22 : decode M_Mo_firstFault.2.1 22 = .ok (.aload_n 0, 1) := by decide +kernel
theorem d_Mo_firstFault_23 : decode M_Mo_firstFault.2.1 23 = .ok (.iload_n 1, 1) := by decide +kernel
theorem d_Mo_firstFault_24 : decode M_Mo_firstFault.2.1 24 = .ok (.invokevirtual 401, 3) := by decide +kernel
theorem d_Mo_firstFault_27 : decode M_Mo_firstFault.2.1 27 = .ok (.aload_n 0, 1) := by decide +kernel
theorem d_Mo_firstFault_28 : decode M_Mo_firstFault.2.1 28 = .ok (.getfield 395, 3) := by decide +kernel
theorem d_Mo_firstFault_31 : decode M_Mo_firstFault.2.1 31 = .ok (.ifCond .ne 10, 3) := by decide +kernel
theorem d_Mo_firstFault_34 : decode M_Mo_firstFault.2.1 34 = .ok (.aload_n 0, 1) := by decide +kernel
theorem d_Mo_firstFault_35 : decode M_Mo_firstFault.2.1 35 = .ok (.bipush 6, 2) := by decide +kernel
theorem d_Mo_firstFault_37 : decode M_Mo_firstFault.2.1 37 = .ok (.invokevirtual 111, 3) := by decide +kernel
theorem d_Mo_firstFault_40 : decode M_Mo_firstFault.2.1 40 = .ok (.ireturn, 1) := by decide +kernel
theorem d_Mo_firstFault_41 : decode M_Mo_firstFault.2.1 41 = .ok (.aload_n 0, 1) := by decide +kernel
theorem d_Mo_firstFault_42 : decode M_Mo_firstFault.2.1 42 = .ok (.iload_n 1, 1) := by decide +kernel
theorem d_Mo_firstFault_43 : decode M_Mo_firstFault.2.1 43 = .ok (.iload_n 2, 1) := by decide +kernel
theorem d_Mo_firstFault_44 : decode M_Mo_firstFault.2.1 44 = .ok (.invokevirtual 281, 3) := by decide +kernel
theorem d_Mo_firstFault_47 : decode M_Mo_firstFault.2.1 47 = .ok (.ifCond .eq 16, 3) := by decide +kernel
theorem d_Mo_firstFault_50 : decode M_Mo_firstFault.2.1 50 = .ok (.aload_n 0, 1) := by decide +kernel
theorem d_Mo_firstFault_51 : decode M_Mo_firstFault.2.1 51 = .ok (.aload_n 0, 1) := by decide +kernel
theorem d_Mo_firstFault_52 : decode M_Mo_firstFault.2.1 52 = .ok (.iconst 0, 1) := by decide +kernel
theorem d_Mo_firstFault_53 : decode M_Mo_firstFault.2.1 53 = .ok (.iload_n 2, 1) := by decide +kernel
theorem d_Mo_firstFault_54 : decode M_Mo_firstFault.2.1 54 = .ok (.invokevirtual 404, 3) := by decide +kernel
theorem d_Mo_firstFault_57 : decode M_Mo_firstFault.2.1 57 = .ok (.invokevirtual 115, 3) := by decide +kernel
theorem d_Mo_firstFault_60 : decode M_Mo_firstFault.2.1 60 = .ok (.goto 9, 3) := by decide +kernel
theorem d_Mo_firstFault_63 : decode M_Mo_firstFault.2.1 63 = .ok (.aload_n 0, 1) := by decide +kernel
theorem d_Mo_firstFault_64 : decode M_Mo_firstFault.2.1 64 = .ok (.bipush 7, 2) := by decide +kernel
theorem d_Mo_firstFault_66 : decode M_Mo_firstFault.2.1 66 = .ok (.invokevirtual 111, 3) := by decide +kernel
theorem d_Mo_firstFault_69 : decode M_Mo_firstFault.2.1 69 = .ok (.ireturn, 1) := by decide +kernel
theorem d_Mo_oddsThat_0 : decode M_Mo_oddsThat.2.1 0 = .ok (.aload_n 0, 1) := by decide +kernel
theorem d_Mo_oddsThat_1 : decode M_Mo_oddsThat.2.1 1 = .ok (.iload_n 1, 1) := by decide +kernel
theorem d_Mo_oddsThat_2 : decode M_Mo_oddsThat.2.1 2 = .ok (.invokevirtual 398, 3) := by decide +kernel
theorem d_Mo_oddsThat_5 : decode M_Mo_oddsThat.2.1 5 = .ok (.ifCond .eq 23, 3) := by decide +kernel
theorem d_Mo_oddsThat_8 : decode M_Mo_oddsThat.2.1 8 = .ok (.aload_n 0, 1) := by decide +kernel
theorem d_Mo_oddsThat_9 : decode M_Mo_oddsThat.2.1 9 = .ok (.iload_n 2, 1) := by decide +kernel
theorem d_Mo_oddsThat_10 : decode M_Mo_oddsThat.2.1 10 = .ok (.invokevirtual 340, 3) := by decide +kernel
theorem d_Mo_oddsThat_13 : decode M_Mo_oddsThat.2.1 13 = .ok (.ifCond .eq 15, 3) := by decide +kernel
theorem d_Mo_oddsThat_16 : decode M_Mo_oddsThat.2.1 16 = .ok (.iload_n 3, 1) := by decide +kernel
theorem d_Mo_oddsThat_17 : decode M_Mo_oddsThat.2.1 17 = .ok (.i2l, 1) := by decide +kernel
theorem d_Mo_oddsThat_18 : decode M_Mo_oddsThat.2.1 18 = .ok (.lconst 0, 1) := by decide +kernel
theorem d_Mo_oddsThat_19 : decode M_Mo_oddsThat.2.1 19 = .ok (.ldc2_w 369, 3) := by decide +kernel
theorem d_Mo_oddsThat_22 : decode M_Mo_oddsThat.2.1 22 = .ok (.invokestatic 356, 3) := by decide +kernel
theorem d_Mo_oddsThat_25 : decode M_Mo_oddsThat.2.1 25 = .ok (.ifCond .ne 9, 3) := by decide +kernel
theorem d_Mo_oddsThat_28 : decode M_Mo_oddsThat.2.1 28 = .ok (.aload_n 0, 1) := by decide +kernel
theorem d_Mo_oddsThat_29 : decode M_Mo_oddsThat.2.1 29 = .ok (.iconst 1, 1) := by decide +kernel
theorem d_Mo_oddsThat_30 : decode M_Mo_oddsThat.2.1 30 = .ok (.invokevirtual 118, 3) := by decide +kernel
theorem d_Mo_oddsThat_33 : decode M_Mo_oddsThat.2.1 33 = .ok (.ireturn, 1) := by decide +kernel
theorem d_Mo_oddsThat_34 : decode M_Mo_oddsThat.2.1 34 = .ok (.aload_n 0, 1) := by decide +kernel
theorem d_Mo_oddsThat_35 : decode M_Mo_oddsThat.2.1 35 = .ok (.iload_n 1, 1) := by decide +kernel
theorem d_Mo_oddsThat_36 : decode M_Mo_oddsThat.2.1 36 = .ok (.invokevirtual 401, 3) := by decide +kernel
theorem d_Mo_oddsThat_39 : decode M_Mo_oddsThat.2.1 39 = .ok (.aload_n 0, 1) := by decide +kernel
theorem d_Mo_oddsThat_40 : decode M_Mo_oddsThat.2.1 40 = .ok (.getfield 395, 3) := by decide +kernel
theorem d_Mo_oddsThat_43 : decode M_Mo_oddsThat.2.1 43 = .ok (.ifCond .ne 10, 3) := by decide +kernel
theorem d_Mo_oddsThat_46 : decode M_Mo_oddsThat.2.1 46 = .ok (.aload_n 0, 1) := by decide +kernel
theorem d_Mo_oddsThat_47 : decode M_Mo_oddsThat.2.1 47 = .ok (.bipush 6, 2) := by decide +kernel
theorem d_Mo_oddsThat_49 : decode M_Mo_oddsThat.2.1 49 = .ok (.invokevirtual 118, 3) := by decide +kernel
theorem d_Mo_oddsThat_52 : decode M_Mo_oddsThat.2.1 52 = .ok (.ireturn, 1) := by decide +kernel
theorem d_Mo_oddsThat_53 : decode M_Mo_oddsThat.2.1 53 = .ok (.aload_n 0, 1) := by decide +kernel
theorem d_Mo_oddsThat_54 : decode M_Mo_oddsThat.2.1 54 = .ok (.iload_n 1, 1) := by decide +kernel
theorem d_Mo_oddsThat_55 : decode M_Mo_oddsThat.2.1 55 = .ok (.iload_n 2, 1) := by decide +kernel
theorem d_Mo_oddsThat_56 : decode M_Mo_oddsThat.2.1 56 = .ok (.invokevirtual 281, 3) := by decide +kernel
theorem d_Mo_oddsThat_59 : decode M_Mo_oddsThat.2.1 59 = .ok (.ifCond .ne 10, 3) := by decide +kernel
theorem d_Mo_oddsThat_62 : decode M_Mo_oddsThat.2.1 62 = .ok (.aload_n 0, 1) := by decide +kernel
theorem d_Mo_oddsThat_63 : decode M_Mo_oddsThat.2.1 63 = .ok (.bipush 7, 2) := by decide +kernel
theorem d_Mo_oddsThat_65 : decode M_Mo_oddsThat.2.1 65 = .ok (.invokevirtual 118, 3) := by decide +kernel
theorem d_Mo_oddsThat_68 : decode M_Mo_oddsThat.2.1 68 = .ok (.ireturn, 1) := by decide +kernel
theorem d_Mo_oddsThat_69 : decode M_Mo_oddsThat.2.1 69 = .ok (.iconst 0, 1) := by decide +kernel
theorem d_Mo_oddsThat_70 : decode M_Mo_oddsThat.2.1 70 = .ok (.istore 4, 2) := by decide +kernel
theorem d_Mo_oddsThat_72 : decode M_Mo_oddsThat.2.1 72 = .ok (.iconst 0, 1) := by decide +kernel
theorem d_Mo_oddsThat_73 : decode M_Mo_oddsThat.2.1 73 = .ok (.istore 5, 2) := by decide +kernel
theorem d_Mo_oddsThat_75 : decode M_Mo_oddsThat.2.1 75 = .ok (.iload 5, 2) := by decide +kernel
theorem d_Mo_oddsThat_77 : decode M_Mo_oddsThat.2.1 77 = .ok (.aload_n 0, 1) := by decide +kernel
theorem d_Mo_oddsThat_78 : decode M_Mo_oddsThat.2.1 78 = .ok (.getfield 395, 3) := by decide +kernel
theorem d_Mo_oddsThat_81 : decode M_Mo_oddsThat.2.1 81 = .ok (.if_icmp .ge 30, 3) := by decide +kernel
theorem d_Mo_oddsThat_84 : decode M_Mo_oddsThat.2.1 84 = .ok (.iload 4, 2) := by decide +kernel
theorem d_Mo_oddsThat_86 : decode M_Mo_oddsThat.2.1 86 = .ok (.aload_n 0, 1) := by decide +kernel
theorem d_Mo_oddsThat_87 : decode M_Mo_oddsThat.2.1 87 = .ok (.iload 5, 2) := by decide +kernel
theorem d_Mo_oddsThat_89 : decode M_Mo_oddsThat.2.1 89 = .ok (.iload_n 2, 1) := by decide +kernel
theorem d_Mo_oddsThat_90 : decode M_Mo_oddsThat.2.1 90 = .ok (.invokevirtual 404, 3) := by decide +kernel
theorem d_Mo_oddsThat_93 : decode M_Mo_oddsThat.2.1 93 = .ok (.iload_n 3, 1) := by decide +kernel
theorem d_Mo_oddsThat_94 : decode M_Mo_oddsThat.2.1 94 = .ok (.if_icmp .ne 7, 3) := by decide +kernel
theorem d_Mo_oddsThat_97 : decode M_Mo_oddsThat.2.1 97 = .ok (.iconst 1, 1) := by decide +kernel
theorem d_Mo_oddsThat_98 : decode M_Mo_oddsThat.2.1 98 = .ok (.goto 4, 3) := by decide +kernel
theorem d_Mo_oddsThat_101 : decode M_Mo_oddsThat.2.1 101 = .ok (.iconst 0, 1) := by decide +kernel
theorem d_Mo_oddsThat_102 : decode M_Mo_oddsThat.2.1 102 = .ok (.iadd, 1) := by decide +kernel
theorem d_Mo_oddsThat_103 : decode M_Mo_oddsThat.2.1 103 = .ok (.istore 4, 2) := by decide +kernel
theorem d_Mo_oddsThat_105 : decode M_Mo_oddsThat.2.1 105 = .ok (.iinc 5 1, 3) := by decide +kernel
theorem d_Mo_oddsThat_108 : decode M_Mo_oddsThat.2.1 108 = .ok (.goto (-33), 3) := by decide +kernel
theorem d_Mo_oddsThat_111 : decode M_Mo_oddsThat.2.1 111 = .ok (.aload_n 0, 1) := by decide +kernel
theorem d_Mo_oddsThat_112 : decode M_Mo_oddsThat.2.1 112 = .ok (.iload 4, 2) := by decide +kernel
theorem d_Mo_oddsThat_114 : decode M_Mo_oddsThat.2.1 114 = .ok (.i2l, 1) := by decide +kernel
theorem d_Mo_oddsThat_115 : decode M_Mo_oddsThat.2.1 115 = .ok (.aload_n 0, 1) := by decide +kernel
theorem d_Mo_oddsThat_116 : decode M_Mo_oddsThat.2.1 116 = .ok (.getfield 395, 3) := by decide +kernel
theorem d_Mo_oddsThat_119 : decode M_Mo_oddsThat.2.1 119 = .ok (.i2l, 1) := by decide +kernel
theorem d_Mo_oddsThat_120 : decode M_Mo_oddsThat.2.1 120 = .ok (.invokevirtual 407, 3) := by decide +kernel
theorem d_Mo_oddsThat_123 : decode M_Mo_oddsThat.2.1 123 = .ok (.ireturn, 1) := by decide +kernel
theorem d_Mo_isSameIn_0 : decode M_Mo_isSameIn.2.1 0 = .ok (.aload_n 0, 1) := by decide +kernel
theorem d_Mo_isSameIn_1 : decode M_Mo_isSameIn.2.1 1 = .ok (.getfield 59, 3) := by decide +kernel
theorem d_Mo_isSameIn_4 : decode M_Mo_isSameIn.2.1 4 = .ok (.bipush 7, 2) := by decide +kernel
theorem d_Mo_isSameIn_6 : decode M_Mo_isSameIn.2.1 6 = .ok (.iload_n 1, 1) := by decide +kernel
theorem d_Mo_isSameIn_7 : decode M_Mo_isSameIn.2.1 7 = .ok (.imul, 1) := by decide +kernel
theorem d_Mo_isSameIn_8 : decode M_Mo_isSameIn.2.1 8 = .ok (.iload 4, 2) := by decide +kernel
theorem d_Mo_isSameIn_10 : decode M_Mo_isSameIn.2.1 10 = .ok (.iadd, 1) := by decide +kernel
theorem d_Mo_isSameIn_11 : decode M_Mo_isSameIn.2.1 11 = .ok (.iaload, 1) := by decide +kernel
theorem d_Mo_isSameIn_12 : decode M_Mo_isSameIn.2.1 12 = .ok (.aload_n 0, 1) := by decide +kernel
theorem d_Mo_isSameIn_13 : decode M_Mo_isSameIn.2.1 13 = .ok (.getfield 59, 3) := by decide +kernel
theorem d_Mo_isSameIn_16 : decode M_Mo_isSameIn.2.1 16 = .ok (.bipush 7, 2) := by decide +kernel
theorem d_Mo_isSameIn_18 : decode M_Mo_isSameIn.2.1 18 = .ok (.iload_n 1, 1) := by decide +kernel
theorem d_Mo_isSameIn_19 : decode M_Mo_isSameIn.2.1 19 = .ok (.imul, 1) := by decide +kernel
theorem d_Mo_isSameIn_20 : decode M_Mo_isSameIn.2.1 20 = .ok (.iload_n 3, 1) := by decide +kernel
theorem d_Mo_isSameIn_21 : decode M_Mo_isSameIn.2.1 21 = .ok (.iadd, 1) := by decide +kernel
theorem d_Mo_isSameIn_22 : decode M_Mo_isSameIn.2.1 22 = .ok (.iaload, 1) := by decide +kernel
theorem d_Mo_isSameIn_23 : decode M_Mo_isSameIn.2.1 23 = .ok (.isub, 1) := by decide +kernel
theorem d_Mo_isSameIn_24 : decode M_Mo_isSameIn.2.1 24 = .ok (.aload_n 0, 1) := by decide +kernel
theorem d_Mo_isSameIn_25 : decode M_Mo_isSameIn.2.1 25 = .ok (.getfield 59, 3) := by decide +kernel
theorem d_Mo_isSameIn_28 : decode M_Mo_isSameIn.2.1 28 = .ok (.bipush 7, 2) := by decide +kernel
theorem d_Mo_isSameIn_30 : decode M_Mo_isSameIn.2.1 30 = .ok (.iload_n 2, 1) := by decide +kernel
theorem d_Mo_isSameIn_31 : decode M_Mo_isSameIn.2.1 31 = .ok (.imul, 1) := by decide +kernel
theorem d_Mo_isSameIn_32 : decode M_Mo_isSameIn.2.1 32 = .ok (.iload 4, 2) := by decide +kernel
theorem d_Mo_isSameIn_34 : decode M_Mo_isSameIn.2.1 34 = .ok (.iadd, 1) := by decide +kernel
theorem d_Mo_isSameIn_35 : decode M_Mo_isSameIn.2.1 35 = .ok (.iaload, 1) := by decide +kernel
theorem d_Mo_isSameIn_36 : decode M_Mo_isSameIn.2.1 36 = .ok (.isub, 1) := by decide +kernel
theorem d_Mo_isSameIn_37 : decode M_Mo_isSameIn.2.1 37 = .ok (.aload_n 0, 1) := by decide +kernel
theorem d_Mo_isSameIn_38 : decode M_Mo_isSameIn.2.1 38 = .ok (.getfield 59, 3) := by decide +kernel
theorem d_Mo_isSameIn_41 : decode M_Mo_isSameIn.2.1 41 = .ok (.bipush 7, 2) := by decide +kernel
theorem d_Mo_isSameIn_43 : decode M_Mo_isSameIn.2.1 43 = .ok (.iload_n 2, 1) := by decide +kernel
theorem d_Mo_isSameIn_44 : decode M_Mo_isSameIn.2.1 44 = .ok (.imul, 1) := by decide +kernel
theorem d_Mo_isSameIn_45 : decode M_Mo_isSameIn.2.1 45 = .ok (.iload_n 3, 1) := by decide +kernel
theorem d_Mo_isSameIn_46 : decode M_Mo_isSameIn.2.1 46 = .ok (.iadd, 1) := by decide +kernel
theorem d_Mo_isSameIn_47 : decode M_Mo_isSameIn.2.1 47 = .ok (.iaload, 1) := by decide +kernel
theorem d_Mo_isSameIn_48 : decode M_Mo_isSameIn.2.1 48 = .ok (.iadd, 1) := by decide +kernel
theorem d_Mo_isSameIn_49 : decode M_Mo_isSameIn.2.1 49 = .ok (.istore 5, 2) := by decide +kernel
theorem d_Mo_isSameIn_51 : decode M_Mo_isSameIn.2.1 51 = .ok (.aload_n 0, 1) := by decide +kernel
theorem d_Mo_isSameIn_52 : decode M_Mo_isSameIn.2.1 52 = .ok (.getfield 62, 3) := by decide +kernel
theorem d_Mo_isSameIn_55 : decode M_Mo_isSameIn.2.1 55 = .ok (.bipush 7, 2) := by decide +kernel
theorem d_Mo_isSameIn_57 : decode M_Mo_isSameIn.2.1 57 = .ok (.iload_n 1, 1) := by decide +kernel
theorem d_Mo_isSameIn_58 : decode M_Mo_isSameIn.2.1 58 = .ok (.imul, 1) := by decide +kernel
theorem d_Mo_isSameIn_59 : decode M_Mo_isSameIn.2.1 59 = .ok (.iload 4, 2) := by decide +kernel
theorem d_Mo_isSameIn_61 : decode M_Mo_isSameIn.2.1 61 = .ok (.iadd, 1) := by decide +kernel
theorem d_Mo_isSameIn_62 : decode M_Mo_isSameIn.2.1 62 = .ok (.iaload, 1) := by decide +kernel
theorem d_Mo_isSameIn_63 : decode M_Mo_isSameIn.2.1 63 = .ok (.aload_n 0, 1) := by decide +kernel
theorem d_Mo_isSameIn_64 : decode M_Mo_isSameIn.2.1 64 = .ok (.getfield 62, 3) := by decide +kernel
theorem d_Mo_isSameIn_67 : decode M_Mo_isSameIn.2.1 67 = .ok (.bipush 7, 2) := by decide +kernel
theorem d_Mo_isSameIn_69 : decode M_Mo_isSameIn.2.1 69 = .ok (.iload_n 1, 1) := by decide +kernel
theorem d_Mo_isSameIn_70 : decode M_Mo_isSameIn.2.1 70 = .ok (.imul, 1) := by decide +kernel
theorem d_Mo_isSameIn_71 : decode M_Mo_isSameIn.2.1 71 = .ok (.iload_n 3, 1) := by decide +kernel
theorem d_Mo_isSameIn_72 : decode M_Mo_isSameIn.2.1 72 = .ok (.iadd, 1) := by decide +kernel
theorem d_Mo_isSameIn_73 : decode M_Mo_isSameIn.2.1 73 = .ok (.iaload, 1) := by decide +kernel
theorem d_Mo_isSameIn_74 : decode M_Mo_isSameIn.2.1 74 = .ok (.isub, 1) := by decide +kernel
theorem d_Mo_isSameIn_75 : decode M_Mo_isSameIn.2.1 75 = .ok (.aload_n 0, 1) := by decide +kernel
theorem d_Mo_isSameIn_76 : decode M_Mo_isSameIn.2.1 76 = .ok (.getfield 62, 3) := by decide +kernel
theorem d_Mo_isSameIn_79 : decode M_Mo_isSameIn.2.1 79 = .ok (.bipush 7, 2) := by decide +kernel
theorem d_Mo_isSameIn_81 : decode M_Mo_isSameIn.2.1 81 = .ok (.iload_n 2, 1) := by decide +kernel
theorem d_Mo_isSameIn_82 : decode M_Mo_isSameIn.2.1 82 = .ok (.imul, 1) := by decide +kernel
theorem d_Mo_isSameIn_83 : decode M_Mo_isSameIn.2.1 83 = .ok (.iload 4, 2) := by decide +kernel
theorem d_Mo_isSameIn_85 : decode M_Mo_isSameIn.2.1 85 = .ok (.iadd, 1) := by decide +kernel
theorem d_Mo_isSameIn_86 : decode M_Mo_isSameIn.2.1 86 = .ok (.iaload, 1) := by decide +kernel
theorem d_Mo_isSameIn_87 : decode M_Mo_isSameIn.2.1 87 = .ok (.isub, 1) := by decide +kernel
theorem d_Mo_isSameIn_88 : decode M_Mo_isSameIn.2.1 88 = .ok (.aload_n 0, 1) := by decide +kernel
theorem d_Mo_isSameIn_89 : decode M_Mo_isSameIn.2.1 89 = .ok (.getfield 62, 3) := by decide +kernel
theorem d_Mo_isSameIn_92 : decode M_Mo_isSameIn.2.1 92 = .ok (.bipush 7, 2) := by decide +kernel
theorem d_Mo_isSameIn_94 : decode M_Mo_isSameIn.2.1 94 = .ok (.iload_n 2, 1) := by decide +kernel
theorem d_Mo_isSameIn_95 : decode M_Mo_isSameIn.2.1 95 = .ok (.imul, 1) := by decide +kernel
theorem d_Mo_isSameIn_96 : decode M_Mo_isSameIn.2.1 96 = .ok (.iload_n 3, 1) := by decide +kernel
theorem d_Mo_isSameIn_97 : decode M_Mo_isSameIn.2.1 97 = .ok (.iadd, 1) := by decide +kernel
theorem d_Mo_isSameIn_98 : decode M_Mo_isSameIn.2.1 98 = .ok (.iaload, 1) := by decide +kernel
theorem d_Mo_isSameIn_99 : decode M_Mo_isSameIn.2.1 99 = .ok (.iadd, 1) := by decide +kernel
theorem d_Mo_isSameIn_100 : decode M_Mo_isSameIn.2.1 100 = .ok (.istore 6, 2) := by decide +kernel
theorem d_Mo_isSameIn_102 : decode M_Mo_isSameIn.2.1 102 = .ok (.iload 5, 2) := by decide +kernel
theorem d_Mo_isSameIn_104 : decode M_Mo_isSameIn.2.1 104 = .ok (.ifCond .ne 12, 3) := by decide +kernel
theorem d_Mo_isSameIn_107 : decode M_Mo_isSameIn.2.1 107 = .ok (.iload 6, 2) := by decide +kernel
theorem d_Mo_isSameIn_109 : decode M_Mo_isSameIn.2.1 109 = .ok (.ifCond .ne 7, 3) := by decide +kernel
theorem d_Mo_isSameIn_112 : decode M_Mo_isSameIn.2.1 112 = .ok (.iconst 1, 1) := by decide +kernel
theorem d_Mo_isSameIn_113 : decode M_Mo_isSameIn.2.1 113 = .ok (.goto 4, 3) := by decide +kernel
theorem d_Mo_isSameIn_116 : decode M_Mo_isSameIn.2.1 116 = .ok (.iconst 0, 1) := by decide +kernel
theorem d_Mo_isSameIn_117 : decode M_Mo_isSameIn.2.1 117 = .ok (.ireturn, 1) := by decide +kernel
theorem d_Mo_mostAlike_0 : decode M_Mo_mostAlike.2.1 0 = .ok (.iconst 0, 1) := by decide +kernel
theorem d_Mo_mostAlike_1 : decode M_Mo_mostAlike.2.1 1 = .ok (.istore_n 3, 1) := by decide +kernel
theorem d_Mo_mostAlike_2 : decode M_Mo_mostAlike.2.1 2 = .ok (.iconst 0, 1) := by decide +kernel
theorem d_Mo_mostAlike_3 : decode M_Mo_mostAlike.2.1 3 = .ok (.istore 4, 2) := by decide +kernel
theorem d_Mo_mostAlike_5 : decode M_Mo_mostAlike.2.1 5 = .ok (.iload 4, 2) := by decide +kernel
theorem d_Mo_mostAlike_7 : decode M_Mo_mostAlike.2.1 7 = .ok (.aload_n 0, 1) := by decide +kernel
theorem d_Mo_mostAlike_8 : decode M_Mo_mostAlike.2.1 8 = .ok (.getfield 395, 3) := by decide +kernel
theorem d_Mo_mostAlike_11 : decode M_Mo_mostAlike.2.1 11 = .ok (.if_icmp .ge 61, 3) := by decide +kernel
theorem d_Mo_mostAlike_14 : decode M_Mo_mostAlike.2.1 14 = .ok (.iconst 0, 1) := by decide +kernel
theorem d_Mo_mostAlike_15 : decode M_Mo_mostAlike.2.1 15 = .ok (.istore 5, 2) := by decide +kernel
theorem d_Mo_mostAlike_17 : decode M_Mo_mostAlike.2.1 17 = .ok (.iload 4, 2) := by decide +kernel
theorem d_Mo_mostAlike_19 : decode M_Mo_mostAlike.2.1 19 = .ok (.istore 6, 2) := by decide +kernel
theorem d_Mo_mostAlike_21 : decode M_Mo_mostAlike.2.1 21 = .ok (.iload 6, 2) := by decide +kernel
theorem d_Mo_mostAlike_23 : decode M_Mo_mostAlike.2.1 23 = .ok (.aload_n 0, 1) := by decide +kernel
theorem d_Mo_mostAlike_24 : decode M_Mo_mostAlike.2.1 24 = .ok (.getfield 395, 3) := by decide +kernel
theorem d_Mo_mostAlike_27 : decode M_Mo_mostAlike.2.1 27 = .ok (.if_icmp .ge 32, 3) := by decide +kernel
theorem d_Mo_mostAlike_30 : decode M_Mo_mostAlike.2.1 30 = .ok (.iload 5, 2) := by decide +kernel
theorem d_Mo_mostAlike_32 : decode M_Mo_mostAlike.2.1 32 = .ok (.aload_n 0, 1) := by decide +kernel
theorem d_Mo_mostAlike_33 : decode M_Mo_mostAlike.2.1 33 = .ok (.iload 4, 2) := by decide +kernel
theorem d_Mo_mostAlike_35 : decode M_Mo_mostAlike.2.1 35 = .ok (.iload 6, 2) := by decide +kernel
theorem d_Mo_mostAlike_37 : decode M_Mo_mostAlike.2.1 37 = .ok (.iload_n 1, 1) := by decide +kernel
theorem d_Mo_mostAlike_38 : decode M_Mo_mostAlike.2.1 38 = .ok (.iload_n 2, 1) := by decide +kernel
theorem d_Mo_mostAlike_39 : decode M_Mo_mostAlike.2.1 39 = .ok (.invokevirtual 411, 3) := by decide +kernel
theorem d_Mo_mostAlike_42 : decode M_Mo_mostAlike.2.1 42 = .ok (.ifCond .eq 7, 3) := by decide +kernel
theorem d_Mo_mostAlike_45 : decode M_Mo_mostAlike.2.1 45 = .ok (.iconst 1, 1) := by decide +kernel
theorem d_Mo_mostAlike_46 : decode M_Mo_mostAlike.2.1 46 = .ok (.goto 4, 3) := by decide +kernel
theorem d_Mo_mostAlike_49 : decode M_Mo_mostAlike.2.1 49 = .ok (.iconst 0, 1) := by decide +kernel
theorem d_Mo_mostAlike_50 : decode M_Mo_mostAlike.2.1 50 = .ok (.iadd, 1) := by decide +kernel
theorem d_Mo_mostAlike_51 : decode M_Mo_mostAlike.2.1 51 = .ok (.istore 5, 2) := by decide +kernel
theorem d_Mo_mostAlike_53 : decode M_Mo_mostAlike.2.1 53 = .ok (.iinc 6 1, 3) := by decide +kernel
theorem d_Mo_mostAlike_56 : decode M_Mo_mostAlike.2.1 56 = .ok (.goto (-35), 3) := by decide +kernel
theorem d_Mo_mostAlike_59 : decode M_Mo_mostAlike.2.1 59 = .ok (.iload_n 3, 1) := by decide +kernel
theorem d_Mo_mostAlike_60 : decode M_Mo_mostAlike.2.1 60 = .ok (.iload 5, 2) := by decide +kernel
theorem d_Mo_mostAlike_62 : decode M_Mo_mostAlike.2.1 62 = .ok (.invokestatic 284, 3) := by decide +kernel
theorem d_Mo_mostAlike_65 : decode M_Mo_mostAlike.2.1 65 = .ok (.istore_n 3, 1) := by decide +kernel
theorem d_Mo_mostAlike_66 : decode M_Mo_mostAlike.2.1 66 = .ok (.iinc 4 1, 3) := by decide +kernel
theorem d_Mo_mostAlike_69 : decode M_Mo_mostAlike.2.1 69 = .ok (.goto (-64), 3) := by decide +kernel
theorem d_Mo_mostAlike_72 : decode M_Mo_mostAlike.2.1 72 = .ok (.iload_n 3, 1) := by decide +kernel
theorem d_Mo_mostAlike_73 : decode M_Mo_mostAlike.2.1 73 = .ok (.ireturn, 1) := by decide +kernel
theorem d_Mo_ask_0 : decode M_Mo_ask.2.1 0 = .ok (.aload_n 0, 1) := by decide +kernel
theorem d_Mo_ask_1 : decode M_Mo_ask.2.1 1 = .ok (.iload_n 1, 1) := by decide +kernel
theorem d_Mo_ask_2 : decode M_Mo_ask.2.1 2 = .ok (.invokevirtual 398, 3) := by decide +kernel
theorem d_Mo_ask_5 : decode M_Mo_ask.2.1 5 = .ok (.ifCond .eq 12, 3) := by decide +kernel
theorem d_Mo_ask_8 : decode M_Mo_ask.2.1 8 = .ok (.iload_n 2, 1) := by decide +kernel
theorem d_Mo_ask_9 : decode M_Mo_ask.2.1 9 = .ok (.ifCond .lt 8, 3) := by decide +kernel
theorem d_Mo_ask_12 : decode M_Mo_ask.2.1 12 = .ok (.iload_n 2, 1) := by decide +kernel
theorem d_Mo_ask_13 : decode M_Mo_ask.2.1 13 = .ok (.iconst 1, 1) := by decide +kernel
theorem d_Mo_ask_14 : decode M_Mo_ask.2.1 14 = .ok (.if_icmp .le 9, 3) := by decide +kernel
theorem d_Mo_ask_17 : decode M_Mo_ask.2.1 17 = .ok (.aload_n 0, 1) := by decide +kernel
theorem d_Mo_ask_18 : decode M_Mo_ask.2.1 18 = .ok (.iconst 1, 1) := by decide +kernel
theorem d_Mo_ask_19 : decode M_Mo_ask.2.1 19 = .ok (.invokevirtual 111, 3) := by decide +kernel
theorem d_Mo_ask_22 : decode M_Mo_ask.2.1 22 = .ok (.ireturn, 1) := by decide +kernel
theorem d_Mo_ask_23 : decode M_Mo_ask.2.1 23 = .ok (.aload_n 0, 1) := by decide +kernel
theorem d_Mo_ask_24 : decode M_Mo_ask.2.1 24 = .ok (.iload_n 1, 1) := by decide +kernel
theorem d_Mo_ask_25 : decode M_Mo_ask.2.1 25 = .ok (.invokevirtual 401, 3) := by decide +kernel
theorem d_Mo_ask_28 : decode M_Mo_ask.2.1 28 = .ok (.aload_n 0, 1) := by decide +kernel
theorem d_Mo_ask_29 : decode M_Mo_ask.2.1 29 = .ok (.getfield 395, 3) := by decide +kernel
theorem d_Mo_ask_32 : decode M_Mo_ask.2.1 32 = .ok (.iconst 2, 1) := by decide +kernel
theorem d_Mo_ask_33 : decode M_Mo_ask.2.1 33 = .ok (.if_icmp .ge 10, 3) := by decide +kernel
theorem d_Mo_ask_36 : decode M_Mo_ask.2.1 36 = .ok (.aload_n 0, 1) := by decide +kernel
theorem d_Mo_ask_37 : decode M_Mo_ask.2.1 37 = .ok (.bipush 6, 2) := by decide +kernel
theorem d_Mo_ask_39 : decode M_Mo_ask.2.1 39 = .ok (.invokevirtual 111, 3) := by decide +kernel
theorem d_Mo_ask_42 : decode M_Mo_ask.2.1 42 = .ok (.ireturn, 1) := by decide +kernel
theorem d_Mo_ask_43 : decode M_Mo_ask.2.1 43 = .ok (.aload_n 0, 1) := by decide +kernel
theorem d_Mo_ask_44 : decode M_Mo_ask.2.1 44 = .ok (.iconst 1, 1) := by decide +kernel
theorem d_Mo_ask_45 : decode M_Mo_ask.2.1 45 = .ok (.invokevirtual 315, 3) := by decide +kernel
theorem d_Mo_ask_48 : decode M_Mo_ask.2.1 48 = .ok (.iconst (-1), 1) := by decide +kernel
theorem d_Mo_ask_49 : decode M_Mo_ask.2.1 49 = .ok (.istore_n 3, 1) := by decide +kernel
theorem d_Mo_ask_50 : decode M_Mo_ask.2.1 50 = .ok (.aload_n 0, 1) := by decide +kernel
theorem d_Mo_ask_51 : decode M_Mo_ask.2.1 51 = .ok (.getfield 395, 3) := by decide +kernel
theorem d_Mo_ask_54 : decode M_Mo_ask.2.1 54 = .ok (.iconst 1, 1) := by decide +kernel
theorem d_Mo_ask_55 : decode M_Mo_ask.2.1 55 = .ok (.iadd, 1) := by decide +kernel
theorem d_Mo_ask_56 : decode M_Mo_ask.2.1 56 = .ok (.istore 4, 2) := by decide +kernel
theorem d_Mo_ask_58 : decode M_Mo_ask.2.1 58 = .ok (.iconst 0, 1) := by decide +kernel
theorem d_Mo_ask_59 : decode M_Mo_ask.2.1 59 = .ok (.istore 5, 2) := by decide +kernel
theorem d_Mo_ask_61 : decode M_Mo_ask.2.1 61 = .ok (.iload 5, 2) := by decide +kernel
theorem d_Mo_ask_63 : decode M_Mo_ask.2.1 63 = .ok (.aload_n 0, 1) := by decide +kernel
theorem d_Mo_ask_64 : decode M_Mo_ask.2.1 64 = .ok (.getfield 7, 3) := by decide +kernel
theorem d_Mo_ask_67 : decode M_Mo_ask.2.1 67 = .ok (.iconst 0, 1) := by decide +kernel
theorem d_Mo_ask_68 : decode M_Mo_ask.2.1 68 = .ok (.iaload, 1) := by decide +kernel
theorem d_Mo_ask_69 : decode M_Mo_ask.2.1 69 = .ok (.if_icmp .ge 85, 3) := by decide +kernel
theorem d_Mo_ask_72 : decode M_Mo_ask.2.1 72 = .ok (.iload 5, 2) := by decide +kernel
theorem d_Mo_ask_74 : decode M_Mo_ask.2.1 74 = .ok (.iconst 1, 1) := by decide +kernel
theorem d_Mo_ask_75 : decode M_Mo_ask.2.1 75 = .ok (.iadd, 1) := by decide +kernel
theorem d_Mo_ask_76 : decode M_Mo_ask.2.1 76 = .ok (.istore 6, 2) := by decide +kernel
theorem d_Mo_ask_78 : decode M_Mo_ask.2.1 78 = .ok (.iload 6, 2) := by decide +kernel
theorem d_Mo_ask_80 : decode M_Mo_ask.2.1 80 = .ok (.aload_n 0, 1) := by decide +kernel
theorem d_Mo_ask_81 : decode M_Mo_ask.2.1 81 = .ok (.getfield 7, 3) := by decide +kernel
theorem d_Mo_ask_84 : decode M_Mo_ask.2.1 84 = .ok (.iconst 0, 1) := by decide +kernel
theorem d_Mo_ask_85 : decode M_Mo_ask.2.1 85 = .ok (.iaload, 1) := by decide +kernel
theorem d_Mo_ask_86 : decode M_Mo_ask.2.1 86 = .ok (.if_icmp .ge 62, 3) := by decide +kernel
theorem d_Mo_ask_89 : decode M_Mo_ask.2.1 89 = .ok (.aload_n 0, 1) := by decide +kernel
theorem d_Mo_ask_90 : decode M_Mo_ask.2.1 90 = .ok (.getfield 53, 3) := by decide +kernel
theorem d_Mo_ask_93 : decode M_Mo_ask.2.1 93 = .ok (.iload 5, 2) := by decide +kernel
theorem d_Mo_ask_95 : decode M_Mo_ask.2.1 95 = .ok (.iaload, 1) := by decide +kernel
theorem d_Mo_ask_96 : decode M_Mo_ask.2.1 96 = .ok (.aload_n 0, 1) := by decide +kernel
theorem d_Mo_ask_97 : decode M_Mo_ask.2.1 97 = .ok (.getfield 53, 3) := by decide +kernel
theorem d_Mo_ask_100 : decode M_Mo_ask.2.1 100 = .ok (.iload 6, 2) := by decide +kernel
theorem d_Mo_ask_102 : decode M_Mo_ask.2.1 102 = .ok (.iaload, 1) := by decide +kernel
theorem d_Mo_ask_103 : decode M_Mo_ask.2.1 103 = .ok (.if_icmp .eq 6, 3) := by decide +kernel
theorem d_Mo_ask_106 : decode M_Mo_ask.2.1 106 = .ok (.goto 36, 3) := by decide +kernel
theorem d_Mo_ask_109 : decode M_Mo_ask.2.1 109 = .ok (.aload_n 0, 1) := by decide +kernel
theorem d_Mo_ask_110 : decode M_Mo_ask.2.1 110 = .ok (.iload 5, 2) := by decide +kernel
theorem d_Mo_ask_112 : decode M_Mo_ask.2.1 112 = .ok (.iload 6, 2) := by decide +kernel
theorem d_Mo_ask_114 : decode M_Mo_ask.2.1 114 = .ok (.invokevirtual 415, 3) := by decide +kernel
theorem d_Mo_ask_117 : decode M_Mo_ask.2.1 117 = .ok (.istore 7, 2) := by decide +kernel
theorem d_Mo_ask_119 : decode M_Mo_ask.2.1 119 = .ok (.iload 7, 2) := by decide +kernel
theorem d_Mo_ask_121 : decode M_Mo_ask.2.1 121 = .ok (.iload 4, 2) := by decide +kernel
theorem d_Mo_ask_123 : decode M_Mo_ask.2.1 123 = .ok (.if_icmp .lt 6, 3) := by decide +kernel
theorem d_Mo_ask_126 : decode M_Mo_ask.2.1 126 = .ok (.goto 16, 3) := by decide +kernel
theorem d_Mo_ask_129 : decode M_Mo_ask.2.1 129 = .ok (.iload 7, 2) := by decide +kernel
theorem d_Mo_ask_131 : decode M_Mo_ask.2.1 131 = .ok (.istore 4, 2) := by decide +kernel
theorem d_Mo_ask_133 : decode M_Mo_ask.2.1 133 = .ok (.bipush 7, 2) := by decide +kernel
theorem d_Mo_ask_135 : decode M_Mo_ask.2.1 135 = .ok (.iload 5, 2) := by decide +kernel
theorem d_Mo_ask_137 : decode M_Mo_ask.2.1 137 = .ok (.imul, 1) := by decide +kernel
theorem d_Mo_ask_138 : decode M_Mo_ask.2.1 138 = .ok (.iload 6, 2) := by decide +kernel
theorem d_Mo_ask_140 : decode M_Mo_ask.2.1 140 = .ok (.iadd, 1) := by decide +kernel
theorem d_Mo_ask_141 : decode M_Mo_ask.2.1 141 = .ok (.istore_n 3, 1) := by decide +kernel
theorem d_Mo_ask_142 : decode M_Mo_ask.2.1 142 = .ok (.iinc 6 1, 3) := by decide +kernel
theorem d_Mo_ask_145 : decode M_Mo_ask.2.1 145 = .ok (.goto (-67), 3) := by decide +kernel
theorem d_Mo_ask_148 : decode M_Mo_ask.2.1 148 = .ok (.iinc 5 1, 3) := by decide +kernel
theorem d_Mo_ask_151 : decode M_Mo_ask.2.1 151 = .ok (.goto (-90), 3) := by decide +kernel
theorem d_Mo_ask_154 : decode M_Mo_ask.2.1 154 = .ok (.iload_n 3, 1) := by decide +kernel
theorem d_Mo_ask_155 : decode M_Mo_ask.2.1 155 = .ok (.iconst (-1), 1) := by decide +kernel
theorem d_Mo_ask_156 : decode M_Mo_ask.2.1 156 = .ok (.if_icmp .ne 10, 3) := by decide +kernel
theorem d_Mo_ask_159 : decode M_Mo_ask.2.1 159 = .ok (.aload_n 0, 1) := by decide +kernel
theorem d_Mo_ask_160 : decode M_Mo_ask.2.1 160 = .ok (.bipush 6, 2) := by decide +kernel
theorem d_Mo_ask_162 : decode M_Mo_ask.2.1 162 = .ok (.invokevirtual 111, 3) := by decide +kernel
theorem d_Mo_ask_165 : decode M_Mo_ask.2.1 165 = .ok (.ireturn, 1) := by decide +kernel
theorem d_Mo_ask_166 : decode M_Mo_ask.2.1 166 = .ok (.aload_n 0, 1) := by decide +kernel
theorem d_Mo_ask_167 : decode M_Mo_ask.2.1 167 = .ok (.iload_n 2, 1) := by decide +kernel
theorem d_Mo_ask_168 : decode M_Mo_ask.2.1 168 = .ok (.ifCond .ne 10, 3) := by decide +kernel
theorem d_Mo_ask_171 : decode M_Mo_ask.2.1 171 = .ok (.iload_n 3, 1) := by decide +kernel
theorem d_Mo_ask_172 : decode M_Mo_ask.2.1 172 = .ok (.bipush 7, 2) := by decide +kernel
theorem d_Mo_ask_174 : decode M_Mo_ask.2.1 174 = .ok (.idiv, 1) := by decide +kernel
theorem d_Mo_ask_175 : decode M_Mo_ask.2.1 175 = .ok (.goto 7, 3) := by decide +kernel
theorem d_Mo_ask_178 : decode M_Mo_ask.2.1 178 = .ok (.iload_n 3, 1) := by decide +kernel
theorem d_Mo_ask_179 : decode M_Mo_ask.2.1 179 = .ok (.bipush 7, 2) := by decide +kernel
theorem d_Mo_ask_181 : decode M_Mo_ask.2.1 181 = .ok (.irem, 1) := by decide +kernel
theorem d_Mo_ask_182 : decode M_Mo_ask.2.1 182 = .ok (.invokevirtual 115, 3) := by decide +kernel
theorem d_Mo_ask_185 : decode M_Mo_ask.2.1 185 = .ok (.ireturn, 1) := by decide +kernel
theorem d_Mo_otherEnd_0 : decode M_Mo_otherEnd.2.1 0 = .ok (.aload_n 0, 1) := by decide +kernel
theorem d_Mo_otherEnd_1 : decode M_Mo_otherEnd.2.1 1 = .ok (.iload_n 1, 1) := by decide +kernel
theorem d_Mo_otherEnd_2 : decode M_Mo_otherEnd.2.1 2 = .ok (.iconst 1, 1) := by decide +kernel
theorem d_Mo_otherEnd_3 : decode M_Mo_otherEnd.2.1 3 = .ok (.invokevirtual 287, 3) := by decide +kernel
theorem d_Mo_otherEnd_6 : decode M_Mo_otherEnd.2.1 6 = .ok (.iload_n 2, 1) := by decide +kernel
theorem d_Mo_otherEnd_7 : decode M_Mo_otherEnd.2.1 7 = .ok (.if_icmp .ne 12, 3) := by decide +kernel
theorem d_Mo_otherEnd_10 : decode M_Mo_otherEnd.2.1 10 = .ok (.aload_n 0, 1) := by decide +kernel
theorem d_Mo_otherEnd_11 : decode M_Mo_otherEnd.2.1 11 = .ok (.iload_n 1, 1) := by decide +kernel
theorem d_Mo_otherEnd_12 : decode M_Mo_otherEnd.2.1 12 = .ok (.iconst 2, 1) := by decide +kernel
theorem d_Mo_otherEnd_13 : decode M_Mo_otherEnd.2.1 13 = .ok (.invokevirtual 287, 3) := by decide +kernel
theorem d_Mo_otherEnd_16 : decode M_Mo_otherEnd.2.1 16 = .ok (.goto 23, 3) := by decide +kernel
theorem d_Mo_otherEnd_19 : decode M_Mo_otherEnd.2.1 19 = .ok (.aload_n 0, 1) := by decide +kernel
theorem d_Mo_otherEnd_20 : decode M_Mo_otherEnd.2.1 20 = .ok (.iload_n 1, 1) := by decide +kernel
theorem d_Mo_otherEnd_21 : decode M_Mo_otherEnd.2.1 21 = .ok (.iconst 2, 1) := by decide +kernel
theorem d_Mo_otherEnd_22 : decode M_Mo_otherEnd.2.1 22 = .ok (.invokevirtual 287, 3) := by decide +kernel
theorem d_Mo_otherEnd_25 : decode M_Mo_otherEnd.2.1 25 = .ok (.iload_n 2, 1) := by decide +kernel
theorem d_Mo_otherEnd_26 : decode M_Mo_otherEnd.2.1 26 = .ok (.if_icmp .ne 12, 3) := by decide +kernel
theorem d_Mo_otherEnd_29 : decode M_Mo_otherEnd.2.1 29 = .ok (.aload_n 0, 1) := by decide +kernel
theorem d_Mo_otherEnd_30 : decode M_Mo_otherEnd.2.1 30 = .ok (.iload_n 1, 1) := by decide +kernel
theorem d_Mo_otherEnd_31 : decode M_Mo_otherEnd.2.1 31 = .ok (.iconst 1, 1) := by decide +kernel
theorem d_Mo_otherEnd_32 : decode M_Mo_otherEnd.2.1 32 = .ok (.invokevirtual 287, 3) := by decide +kernel
theorem d_Mo_otherEnd_35 : decode M_Mo_otherEnd.2.1 35 = .ok (.goto 4, 3) := by decide +kernel
theorem d_Mo_otherEnd_38 : decode M_Mo_otherEnd.2.1 38 = .ok (.iconst (-1), 1) := by decide +kernel
theorem d_Mo_otherEnd_39 : decode M_Mo_otherEnd.2.1 39 = .ok (.ireturn, 1) := by decide +kernel
theorem d_Mo_laysFar_0 : decode M_Mo_laysFar.2.1 0 = .ok (.iconst 0, 1) := by decide +kernel
theorem d_Mo_laysFar_1 : decode M_Mo_laysFar.2.1 1 = .ok (.istore_n 2, 1) := by decide +kernel
theorem d_Mo_laysFar_2 : decode M_Mo_laysFar.2.1 2 = .ok (.iload_n 2, 1) := by decide +kernel
theorem d_Mo_laysFar_3 : decode M_Mo_laysFar.2.1 3 = .ok (.bipush 7, 2) := by decide +kernel
theorem d_Mo_laysFar_5 : decode M_Mo_laysFar.2.1 5 = .ok (.if_icmp .ge 27, 3) := by decide +kernel
theorem d_Mo_laysFar_8 : decode M_Mo_laysFar.2.1 8 = .ok (.aload_n 0, 1) := by decide +kernel
theorem d_Mo_laysFar_9 : decode M_Mo_laysFar.2.1 9 = .ok (.getfield 68, 3) := by decide +kernel
theorem d_Mo_laysFar_12 : decode M_Mo_laysFar.2.1 12 = .ok (.iload_n 2, 1) := by decide +kernel
theorem d_Mo_laysFar_13 : decode M_Mo_laysFar.2.1 13 = .ok (.iload_n 2, 1) := by decide +kernel
theorem d_Mo_laysFar_14 : decode M_Mo_laysFar.2.1 14 = .ok (.iload_n 1, 1) := by decide +kernel
theorem d_Mo_laysFar_15 : decode M_Mo_laysFar.2.1 15 = .ok (.if_icmp .ne 7, 3) := by decide +kernel
theorem d_Mo_laysFar_18 : decode M_Mo_laysFar.2.1 18 = .ok (.iconst 0, 1) := by decide +kernel
theorem d_Mo_laysFar_19 : decode M_Mo_laysFar.2.1 19 = .ok (.goto 6, 3) := by decide +kernel
theorem d_Mo_laysFar_22 : decode M_Mo_laysFar.2.1 22 = .ok (.ldc_w 418, 3) := by decide +kernel
theorem d_Mo_laysFar_25 : decode M_Mo_laysFar.2.1 25 = .ok (.iastore, 1) := by decide +kernel
theorem d_Mo_laysFar_26 : decode M_Mo_laysFar.2.1 26 = .ok (.iinc 2 1, 3) := by decide +kernel
theorem d_Mo_laysFar_29 : decode M_Mo_laysFar.2.1 29 = .ok (.goto (-27), 3) := by decide +kernel
theorem d_Mo_laysFar_32 : decode M_Mo_laysFar.2.1 32 = .ok (.iconst 0, 1) := by decide +kernel
theorem d_Mo_laysFar_33 : decode M_Mo_laysFar.2.1 33 = .ok (.istore_n 2, 1) := by decide +kernel
theorem d_Mo_laysFar_34 : decode M_Mo_laysFar.2.1 34 = .ok (.iload_n 2, 1) := by decide +kernel
theorem d_Mo_laysFar_35 : decode M_Mo_laysFar.2.1 35 = .ok (.bipush 7, 2) := by decide +kernel
theorem d_Mo_laysFar_37 : decode M_Mo_laysFar.2.1 37 = .ok (.if_icmp .ge 114, 3) := by decide +kernel
theorem d_Mo_laysFar_40 : decode M_Mo_laysFar.2.1 40 = .ok (.iconst 0, 1) := by decide +kernel
theorem d_Mo_laysFar_41 : decode M_Mo_laysFar.2.1 41 = .ok (.istore_n 3, 1) := by decide +kernel
theorem d_Mo_laysFar_42 : decode M_Mo_laysFar.2.1 42 = .ok (.iload_n 3, 1) := by decide +kernel
theorem d_Mo_laysFar_43 : decode M_Mo_laysFar.2.1 43 = .ok (.aload_n 0, 1) := by decide +kernel
theorem d_Mo_laysFar_44 : decode M_Mo_laysFar.2.1 44 = .ok (.getfield 7, 3) := by decide +kernel
theorem d_Mo_laysFar_47 : decode M_Mo_laysFar.2.1 47 = .ok (.iconst 2, 1) := by decide +kernel
theorem d_Mo_laysFar_48 : decode M_Mo_laysFar.2.1 48 = .ok (.iaload, 1) := by decide +kernel
theorem d_Mo_laysFar_49 : decode M_Mo_laysFar.2.1 49 = .ok (.if_icmp .ge 96, 3) := by decide +kernel
theorem d_Mo_laysFar_52 : decode M_Mo_laysFar.2.1 52 = .ok (.aload_n 0, 1) := by decide +kernel
theorem d_Mo_laysFar_53 : decode M_Mo_laysFar.2.1 53 = .ok (.iload_n 3, 1) := by decide +kernel
theorem d_Mo_laysFar_54 : decode M_Mo_laysFar.2.1 54 = .ok (.invokevirtual 300, 3) := by decide +kernel
theorem d_Mo_laysFar_57 : decode M_Mo_laysFar.2.1 57 = .ok (.ifCond .ne 6, 3) := by decide +kernel
theorem d_Mo_laysFar_60 : decode M_Mo_laysFar.2.1 60 = .ok (.goto 79, 3) := by decide +kernel
theorem d_Mo_laysFar_63 : decode M_Mo_laysFar.2.1 63 = .ok (.aload_n 0, 1) := by decide +kernel
theorem d_Mo_laysFar_64 : decode M_Mo_laysFar.2.1 64 = .ok (.iload_n 3, 1) := by decide +kernel
theorem d_Mo_laysFar_65 : decode M_Mo_laysFar.2.1 65 = .ok (.iconst 1, 1) := by decide +kernel
theorem d_Mo_laysFar_66 : decode M_Mo_laysFar.2.1 66 = .ok (.invokevirtual 287, 3) := by decide +kernel
theorem d_Mo_laysFar_69 : decode M_Mo_laysFar.2.1 69 = .ok (.istore 4, 2) := by decide +kernel
theorem d_Mo_laysFar_71 : decode M_Mo_laysFar.2.1 71 = .ok (.aload_n 0, 1) := by decide +kernel
theorem d_Mo_laysFar_72 : decode M_Mo_laysFar.2.1 72 = .ok (.iload_n 3, 1) := by decide +kernel
theorem d_Mo_laysFar_73 : decode M_Mo_laysFar.2.1 73 = .ok (.iconst 2, 1) := by decide +kernel
theorem d_Mo_laysFar_74 : decode M_Mo_laysFar.2.1 74 = .ok (.invokevirtual 287, 3) := by decide +kernel
theorem d_Mo_laysFar_77 : decode M_Mo_laysFar.2.1 77 = .ok (.istore 5, 2) := by decide +kernel
theorem d_Mo_laysFar_79 : decode M_Mo_laysFar.2.1 79 = .ok (.aload_n 0, 1) := by decide +kernel
theorem d_Mo_laysFar_80 : decode M_Mo_laysFar.2.1 80 = .ok (.getfield 68, 3) := by decide +kernel
theorem d_Mo_laysFar_83 : decode M_Mo_laysFar.2.1 83 = .ok (.iload 4, 2) := by decide +kernel
theorem d_Mo_laysFar_85 : decode M_Mo_laysFar.2.1 85 = .ok (.aload_n 0, 1) := by decide +kernel
theorem d_Mo_laysFar_86 : decode M_Mo_laysFar.2.1 86 = .ok (.getfield 68, 3) := by decide +kernel
theorem d_Mo_laysFar_89 : decode M_Mo_laysFar.2.1 89 = .ok (.iload 4, 2) := by decide +kernel
theorem d_Mo_laysFar_91 : decode M_Mo_laysFar.2.1 91 = .ok (.iaload, 1) := by decide +kernel
theorem d_Mo_laysFar_92 : decode M_Mo_laysFar.2.1 92 = .ok (.aload_n 0, 1) := by decide +kernel
theorem d_Mo_laysFar_93 : decode M_Mo_laysFar.2.1 93 = .ok (.getfield 68, 3) := by decide +kernel
theorem d_Mo_laysFar_96 : decode M_Mo_laysFar.2.1 96 = .ok (.iload 5, 2) := by decide +kernel
theorem d_Mo_laysFar_98 : decode M_Mo_laysFar.2.1 98 = .ok (.iaload, 1) := by decide +kernel
theorem d_Mo_laysFar_99 : decode M_Mo_laysFar.2.1 99 = .ok (.aload_n 0, 1) := by decide +kernel
theorem d_Mo_laysFar_100 : decode M_Mo_laysFar.2.1 100 = .ok (.iload_n 3, 1) := by decide +kernel
theorem d_Mo_laysFar_101 : decode M_Mo_laysFar.2.1 101 = .ok (.invokevirtual 375, 3) := by decide +kernel
theorem d_Mo_laysFar_104 : decode M_Mo_laysFar.2.1 104 = .ok (.iadd, 1) := by decide +kernel
theorem d_Mo_laysFar_105 : decode M_Mo_laysFar.2.1 105 = .ok (.invokestatic 166, 3) := by decide +kernel
theorem d_Mo_laysFar_108 : decode M_Mo_laysFar.2.1 108 = .ok (.iastore, 1) := by decide +kernel
theorem d_Mo_laysFar_109 : decode M_Mo_laysFar.2.1 109 = .ok (.aload_n 0, 1) := by decide +kernel
theorem d_Mo_laysFar_110 : decode M_Mo_laysFar.2.1 110 = .ok (.getfield 68, 3) := by decide +kernel
theorem d_Mo_laysFar_113 : decode M_Mo_laysFar.2.1 113 = .ok (.iload 5, 2) := by decide +kernel
theorem d_Mo_laysFar_115 : decode M_Mo_laysFar.2.1 115 = .ok (.aload_n 0, 1) := by decide +kernel
theorem d_Mo_laysFar_116 : decode M_Mo_laysFar.2.1 116 = .ok (.getfield 68, 3) := by decide +kernel
theorem d_Mo_laysFar_119 : decode M_Mo_laysFar.2.1 119 = .ok (.iload 5, 2) := by decide +kernel
theorem d_Mo_laysFar_121 : decode M_Mo_laysFar.2.1 121 = .ok (.iaload, 1) := by decide +kernel
theorem d_Mo_laysFar_122 : decode M_Mo_laysFar.2.1 122 = .ok (.aload_n 0, 1) := by decide +kernel
theorem d_Mo_laysFar_123 : decode M_Mo_laysFar.2.1 123 = .ok (.getfield 68, 3) := by decide +kernel
theorem d_Mo_laysFar_126 : decode M_Mo_laysFar.2.1 126 = .ok (.iload 4, 2) := by decide +kernel
theorem d_Mo_laysFar_128 : decode M_Mo_laysFar.2.1 128 = .ok (.iaload, 1) := by decide +kernel
theorem d_Mo_laysFar_129 : decode M_Mo_laysFar.2.1 129 = .ok (.aload_n 0, 1) := by decide +kernel
theorem d_Mo_laysFar_130 : decode M_Mo_laysFar.2.1 130 = .ok (.iload_n 3, 1) := by decide +kernel
theorem d_Mo_laysFar_131 : decode M_Mo_laysFar.2.1 131 = .ok (.invokevirtual 375, 3) := by decide +kernel
theorem d_Mo_laysFar_134 : decode M_Mo_laysFar.2.1 134 = .ok (.iadd, 1) := by decide +kernel
theorem d_Mo_laysFar_135 : decode M_Mo_laysFar.2.1 135 = .ok (.invokestatic 166, 3) := by decide +kernel
theorem d_Mo_laysFar_138 : decode M_Mo_laysFar.2.1 138 = .ok (.iastore, 1) := by decide +kernel
theorem d_Mo_laysFar_139 : decode M_Mo_laysFar.2.1 139 = .ok (.iinc 3 1, 3) := by decide +kernel
theorem d_Mo_laysFar_142 : decode M_Mo_laysFar.2.1 142 = .ok (.goto (-100), 3) := by decide +kernel
theorem d_Mo_laysFar_145 : decode M_Mo_laysFar.2.1 145 = .ok (.iinc 2 1, 3) := by decide +kernel
theorem d_Mo_laysFar_148 : decode M_Mo_laysFar.2.1 148 = .ok (.goto (-114), 3) := by decide +kernel
theorem d_Mo_laysFar_151 : decode M_Mo_laysFar.2.1 151 = .ok (.return_, 1) := by decide +kernel
theorem d_Mo_betweenBy_0 : decode M_Mo_betweenBy.2.1 0 = .ok (.ldc_w 418, 3) := by decide +kernel
theorem d_Mo_betweenBy_3 : decode M_Mo_betweenBy.2.1 3 = .ok (.istore_n 3, 1) := by decide +kernel
theorem d_Mo_betweenBy_4 : decode M_Mo_betweenBy.2.1 4 = .ok (.iconst 0, 1) := by decide +kernel
theorem d_Mo_betweenBy_5 : decode M_Mo_betweenBy.2.1 5 = .ok (.istore 4, 2) := by decide +kernel
theorem d_Mo_betweenBy_7 : decode M_Mo_betweenBy.2.1 7 = .ok (.iload 4, 2) := by decide +kernel
theorem d_Mo_betweenBy_9 : decode M_Mo_betweenBy.2.1 9 = .ok (.aload_n 0, 1) := by decide +kernel
theorem d_Mo_betweenBy_10 : decode M_Mo_betweenBy.2.1 10 = .ok (.getfield 7, 3) := by decide +kernel
theorem d_Mo_betweenBy_13 : decode M_Mo_betweenBy.2.1 13 = .ok (.iconst 2, 1) := by decide +kernel
theorem d_Mo_betweenBy_14 : decode M_Mo_betweenBy.2.1 14 = .ok (.iaload, 1) := by decide +kernel
theorem d_Mo_betweenBy_15 : decode M_Mo_betweenBy.2.1 15 = .ok (.if_icmp .ge 40, 3) := by decide +kernel
theorem d_Mo_betweenBy_18 : decode M_Mo_betweenBy.2.1 18 = .ok (.aload_n 0, 1) := by decide +kernel
theorem d_Mo_betweenBy_19 : decode M_Mo_betweenBy.2.1 19 = .ok (.iload 4, 2) := by decide +kernel
theorem d_Mo_betweenBy_21 : decode M_Mo_betweenBy.2.1 21 = .ok (.invokevirtual 300, 3) := by decide +kernel
theorem d_Mo_betweenBy_24 : decode M_Mo_betweenBy.2.1 24 = .ok (.ifCond .eq 25, 3) := by decide +kernel
theorem d_Mo_betweenBy_27 : decode M_Mo_betweenBy.2.1 27 = .ok (.aload_n 0, 1) := by decide +kernel
theorem d_Mo_betweenBy_28 : decode M_Mo_betweenBy.2.1 28 = .ok (.iload 4, 2) := by decide +kernel
theorem d_Mo_betweenBy_30 : decode M_Mo_betweenBy.2.1 30 = .ok (.iload_n 1, 1) := by decide +kernel
theorem d_Mo_betweenBy_31 : decode M_Mo_betweenBy.2.1 31 = .ok (.invokevirtual 419, 3) := by decide +kernel
theorem d_Mo_betweenBy_34 : decode M_Mo_betweenBy.2.1 34 = .ok (.iload_n 2, 1) := by decide +kernel
theorem d_Mo_betweenBy_35 : decode M_Mo_betweenBy.2.1 35 = .ok (.if_icmp .ne 14, 3) := by decide +kernel
theorem d_Mo_betweenBy_38 : decode M_Mo_betweenBy.2.1 38 = .ok (.iload_n 3, 1) := by decide +kernel
theorem d_Mo_betweenBy_39 : decode M_Mo_betweenBy.2.1 39 = .ok (.aload_n 0, 1) := by decide +kernel
theorem d_Mo_betweenBy_40 : decode M_Mo_betweenBy.2.1 40 = .ok (.iload 4, 2) := by decide +kernel
theorem d_Mo_betweenBy_42 : decode M_Mo_betweenBy.2.1 42 = .ok (.invokevirtual 375, 3) := by decide +kernel
theorem d_Mo_betweenBy_45 : decode M_Mo_betweenBy.2.1 45 = .ok (.invokestatic 166, 3) := by decide +kernel
theorem d_Mo_betweenBy_48 : decode M_Mo_betweenBy.2.1 48 = .ok (.istore_n 3, 1) := by decide +kernel
theorem d_Mo_betweenBy_49 : decode M_Mo_betweenBy.2.1 49 = .ok (.iinc 4 1, 3) := by decide +kernel
theorem d_Mo_betweenBy_52 : decode M_Mo_betweenBy.2.1 52 = .ok (.goto (-45), 3) := by decide +kernel
