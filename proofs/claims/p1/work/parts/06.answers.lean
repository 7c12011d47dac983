theorem dX4_bestCost_0 : decode cX4_bestCost 0 = .ok (.aload_n 0, 1) := by decide +kernel
theorem dX4_bestCost_1 : decode cX4_bestCost 1 = .ok (.iload_n 1, 1) := by decide +kernel
theorem dX4_bestCost_2 : decode cX4_bestCost 2 = .ok (.iload_n 3, 1) := by decide +kernel
theorem dX4_bestCost_3 : decode cX4_bestCost 3 = .ok (.iconst 0, 1) := by decide +kernel
theorem dX4_bestCost_4 : decode cX4_bestCost 4 = .ok (.ldc 67, 2) := by decide +kernel
theorem dX4_bestCost_6 : decode cX4_bestCost 6 = .ok (.invokevirtual 68, 3) := by decide +kernel
theorem dX4_bestCost_9 : decode cX4_bestCost 9 = .ok (.aload_n 0, 1) := by decide +kernel
theorem dX4_bestCost_10 : decode cX4_bestCost 10 = .ok (.getfield 28, 3) := by decide +kernel
theorem dX4_bestCost_13 : decode cX4_bestCost 13 = .ok (.iload_n 2, 1) := by decide +kernel
theorem dX4_bestCost_14 : decode cX4_bestCost 14 = .ok (.iaload, 1) := by decide +kernel
theorem dX4_bestCost_15 : decode cX4_bestCost 15 = .ok (.ireturn, 1) := by decide +kernel
theorem dX4_nextOnMapWay_0 : decode cX4_nextOnMapWay 0 = .ok (.iconst 0, 1) := by decide +kernel
theorem dX4_nextOnMapWay_1 : decode cX4_nextOnMapWay 1 = .ok (.istore_n 2, 1) := by decide +kernel
theorem dX4_nextOnMapWay_2 : decode cX4_nextOnMapWay 2 = .ok (.iload_n 2, 1) := by decide +kernel
theorem dX4_nextOnMapWay_3 : decode cX4_nextOnMapWay 3 = .ok (.iconst 4, 1) := by decide +kernel
theorem dX4_nextOnMapWay_4 : decode cX4_nextOnMapWay 4 = .ok (.if_icmp .ge 59, 3) := by decide +kernel
theorem dX4_nextOnMapWay_63 : decode cX4_nextOnMapWay 63 = .ok (.iconst (-1), 1) := by decide +kernel
theorem dX4_nextOnMapWay_64 : decode cX4_nextOnMapWay 64 = .ok (.ireturn, 1) := by decide +kernel
theorem dX4_nextOnMapWay_7 : decode cX4_nextOnMapWay 7 = .ok (.aload_n 0, 1) := by decide +kernel
theorem dX4_nextOnMapWay_8 : decode cX4_nextOnMapWay 8 = .ok (.getfield 37, 3) := by decide +kernel
theorem dX4_nextOnMapWay_11 : decode cX4_nextOnMapWay 11 = .ok (.iload_n 1, 1) := by decide +kernel
theorem dX4_nextOnMapWay_12 : decode cX4_nextOnMapWay 12 = .ok (.iconst 4, 1) := by decide +kernel
theorem dX4_nextOnMapWay_13 : decode cX4_nextOnMapWay 13 = .ok (.imul, 1) := by decide +kernel
theorem dX4_nextOnMapWay_14 : decode cX4_nextOnMapWay 14 = .ok (.iload_n 2, 1) := by decide +kernel
theorem dX4_nextOnMapWay_15 : decode cX4_nextOnMapWay 15 = .ok (.iadd, 1) := by decide +kernel
theorem dX4_nextOnMapWay_16 : decode cX4_nextOnMapWay 16 = .ok (.iaload, 1) := by decide +kernel
theorem dX4_nextOnMapWay_17 : decode cX4_nextOnMapWay 17 = .ok (.istore_n 3, 1) := by decide +kernel
theorem dX4_nextOnMapWay_18 : decode cX4_nextOnMapWay 18 = .ok (.iload_n 3, 1) := by decide +kernel
theorem dX4_nextOnMapWay_19 : decode cX4_nextOnMapWay 19 = .ok (.iconst (-1), 1) := by decide +kernel
theorem dX4_nextOnMapWay_20 : decode cX4_nextOnMapWay 20 = .ok (.if_icmp .eq 37, 3) := by decide +kernel
theorem dX4_nextOnMapWay_57 : decode cX4_nextOnMapWay 57 = .ok (.iinc 2 1, 3) := by decide +kernel
theorem dX4_nextOnMapWay_60 : decode cX4_nextOnMapWay 60 = .ok (.goto (-58), 3) := by decide +kernel
theorem dX4_nextOnMapWay_23 : decode cX4_nextOnMapWay 23 = .ok (.aload_n 0, 1) := by decide +kernel
theorem dX4_nextOnMapWay_24 : decode cX4_nextOnMapWay 24 = .ok (.iload_n 3, 1) := by decide +kernel
theorem dX4_nextOnMapWay_25 : decode cX4_nextOnMapWay 25 = .ok (.iconst 1, 1) := by decide +kernel
theorem dX4_nextOnMapWay_26 : decode cX4_nextOnMapWay 26 = .ok (.invokevirtual 79, 3) := by decide +kernel
theorem dX4_nextOnMapWay_29 : decode cX4_nextOnMapWay 29 = .ok (.ifCond .eq 28, 3) := by decide +kernel
theorem dX4_nextOnMapWay_32 : decode cX4_nextOnMapWay 32 = .ok (.aload_n 0, 1) := by decide +kernel
theorem dX4_nextOnMapWay_33 : decode cX4_nextOnMapWay 33 = .ok (.getfield 28, 3) := by decide +kernel
theorem dX4_nextOnMapWay_36 : decode cX4_nextOnMapWay 36 = .ok (.iload_n 3, 1) := by decide +kernel
theorem dX4_nextOnMapWay_37 : decode cX4_nextOnMapWay 37 = .ok (.iaload, 1) := by decide +kernel
theorem dX4_nextOnMapWay_38 : decode cX4_nextOnMapWay 38 = .ok (.aload_n 0, 1) := by decide +kernel
theorem dX4_nextOnMapWay_39 : decode cX4_nextOnMapWay 39 = .ok (.iload_n 1, 1) := by decide +kernel
theorem dX4_nextOnMapWay_40 : decode cX4_nextOnMapWay 40 = .ok (.iload_n 3, 1) := by decide +kernel
theorem dX4_nextOnMapWay_41 : decode cX4_nextOnMapWay 41 = .ok (.iconst 1, 1) := by decide +kernel
theorem dX4_nextOnMapWay_42 : decode cX4_nextOnMapWay 42 = .ok (.invokevirtual 75, 3) := by decide +kernel
theorem dX4_nextOnMapWay_45 : decode cX4_nextOnMapWay 45 = .ok (.iadd, 1) := by decide +kernel
theorem dX4_nextOnMapWay_46 : decode cX4_nextOnMapWay 46 = .ok (.aload_n 0, 1) := by decide +kernel
theorem dX4_nextOnMapWay_47 : decode cX4_nextOnMapWay 47 = .ok (.getfield 28, 3) := by decide +kernel
theorem dX4_nextOnMapWay_50 : decode cX4_nextOnMapWay 50 = .ok (.iload_n 1, 1) := by decide +kernel
theorem dX4_nextOnMapWay_51 : decode cX4_nextOnMapWay 51 = .ok (.iaload, 1) := by decide +kernel
theorem dX4_nextOnMapWay_52 : decode cX4_nextOnMapWay 52 = .ok (.if_icmp .ne 5, 3) := by decide +kernel
theorem dX4_nextOnMapWay_55 : decode cX4_nextOnMapWay 55 = .ok (.iload_n 3, 1) := by decide +kernel
theorem dX4_nextOnMapWay_56 : decode cX4_nextOnMapWay 56 = .ok (.ireturn, 1) := by decide +kernel
theorem dX4_costOfMapWay_0 : decode cX4_costOfMapWay 0 = .ok (.aload_n 0, 1) := by decide +kernel
theorem dX4_costOfMapWay_1 : decode cX4_costOfMapWay 1 = .ok (.iload_n 2, 1) := by decide +kernel
theorem dX4_costOfMapWay_2 : decode cX4_costOfMapWay 2 = .ok (.iconst 1, 1) := by decide +kernel
theorem dX4_costOfMapWay_3 : decode cX4_costOfMapWay 3 = .ok (.iconst 1, 1) := by decide +kernel
theorem dX4_costOfMapWay_4 : decode cX4_costOfMapWay 4 = .ok (.ldc 67, 2) := by decide +kernel
theorem dX4_costOfMapWay_6 : decode cX4_costOfMapWay 6 = .ok (.invokevirtual 68, 3) := by decide +kernel
theorem dX4_costOfMapWay_9 : decode cX4_costOfMapWay 9 = .ok (.aload_n 0, 1) := by decide +kernel
theorem dX4_costOfMapWay_10 : decode cX4_costOfMapWay 10 = .ok (.getfield 28, 3) := by decide +kernel
theorem dX4_costOfMapWay_13 : decode cX4_costOfMapWay 13 = .ok (.iload_n 1, 1) := by decide +kernel
theorem dX4_costOfMapWay_14 : decode cX4_costOfMapWay 14 = .ok (.iaload, 1) := by decide +kernel
theorem dX4_costOfMapWay_15 : decode cX4_costOfMapWay 15 = .ok (.ldc 67, 2) := by decide +kernel
theorem dX4_costOfMapWay_17 : decode cX4_costOfMapWay 17 = .ok (.if_icmp .lt 6, 3) := by decide +kernel
theorem dX4_costOfMapWay_23 : decode cX4_costOfMapWay 23 = .ok (.iload_n 1, 1) := by decide +kernel
theorem dX4_costOfMapWay_24 : decode cX4_costOfMapWay 24 = .ok (.istore_n 3, 1) := by decide +kernel
theorem dX4_costOfMapWay_25 : decode cX4_costOfMapWay 25 = .ok (.iconst 0, 1) := by decide +kernel
theorem dX4_costOfMapWay_26 : decode cX4_costOfMapWay 26 = .ok (.istore 4, 2) := by decide +kernel
theorem dX4_costOfMapWay_28 : decode cX4_costOfMapWay 28 = .ok (.iconst 0, 1) := by decide +kernel
theorem dX4_costOfMapWay_29 : decode cX4_costOfMapWay 29 = .ok (.istore 5, 2) := by decide +kernel
theorem dX4_costOfMapWay_31 : decode cX4_costOfMapWay 31 = .ok (.iload_n 3, 1) := by decide +kernel
theorem dX4_costOfMapWay_32 : decode cX4_costOfMapWay 32 = .ok (.iload_n 2, 1) := by decide +kernel
theorem dX4_costOfMapWay_33 : decode cX4_costOfMapWay 33 = .ok (.if_icmp .eq 61, 3) := by decide +kernel
theorem dX4_costOfMapWay_94 : decode cX4_costOfMapWay 94 = .ok (.iload 4, 2) := by decide +kernel
theorem dX4_costOfMapWay_96 : decode cX4_costOfMapWay 96 = .ok (.ireturn, 1) := by decide +kernel
theorem dX4_costOfMapWay_36 : decode cX4_costOfMapWay 36 = .ok (.iload 5, 2) := by decide +kernel
theorem dX4_costOfMapWay_38 : decode cX4_costOfMapWay 38 = .ok (.sipush 144, 3) := by decide +kernel
theorem dX4_costOfMapWay_41 : decode cX4_costOfMapWay 41 = .ok (.if_icmp .ge 53, 3) := by decide +kernel
theorem dX4_costOfMapWay_44 : decode cX4_costOfMapWay 44 = .ok (.aload_n 0, 1) := by decide +kernel
theorem dX4_costOfMapWay_45 : decode cX4_costOfMapWay 45 = .ok (.iload_n 3, 1) := by decide +kernel
theorem dX4_costOfMapWay_46 : decode cX4_costOfMapWay 46 = .ok (.invokevirtual 72, 3) := by decide +kernel
theorem dX4_costOfMapWay_49 : decode cX4_costOfMapWay 49 = .ok (.istore 6, 2) := by decide +kernel
theorem dX4_costOfMapWay_51 : decode cX4_costOfMapWay 51 = .ok (.iload 6, 2) := by decide +kernel
theorem dX4_costOfMapWay_53 : decode cX4_costOfMapWay 53 = .ok (.iconst (-1), 1) := by decide +kernel
theorem dX4_costOfMapWay_54 : decode cX4_costOfMapWay 54 = .ok (.if_icmp .eq 15, 3) := by decide +kernel
theorem dX4_costOfMapWay_69 : decode cX4_costOfMapWay 69 = .ok (.ldc 67, 2) := by decide +kernel
theorem dX4_costOfMapWay_71 : decode cX4_costOfMapWay 71 = .ok (.ireturn, 1) := by decide +kernel
theorem dX4_costOfMapWay_57 : decode cX4_costOfMapWay 57 = .ok (.aload_n 0, 1) := by decide +kernel
theorem dX4_costOfMapWay_58 : decode cX4_costOfMapWay 58 = .ok (.getfield 18, 3) := by decide +kernel
theorem dX4_costOfMapWay_61 : decode cX4_costOfMapWay 61 = .ok (.iload 6, 2) := by decide +kernel
theorem dX4_costOfMapWay_63 : decode cX4_costOfMapWay 63 = .ok (.caload, 1) := by decide +kernel
theorem dX4_costOfMapWay_64 : decode cX4_costOfMapWay 64 = .ok (.bipush 119, 2) := by decide +kernel
theorem dX4_costOfMapWay_66 : decode cX4_costOfMapWay 66 = .ok (.if_icmp .ne 6, 3) := by decide +kernel
theorem dX4_costOfMapWay_72 : decode cX4_costOfMapWay 72 = .ok (.iload 4, 2) := by decide +kernel
theorem dX4_costOfMapWay_74 : decode cX4_costOfMapWay 74 = .ok (.aload_n 0, 1) := by decide +kernel
theorem dX4_costOfMapWay_75 : decode cX4_costOfMapWay 75 = .ok (.iload_n 3, 1) := by decide +kernel
theorem dX4_costOfMapWay_76 : decode cX4_costOfMapWay 76 = .ok (.iload 6, 2) := by decide +kernel
theorem dX4_costOfMapWay_78 : decode cX4_costOfMapWay 78 = .ok (.iconst 0, 1) := by decide +kernel
theorem dX4_costOfMapWay_79 : decode cX4_costOfMapWay 79 = .ok (.invokevirtual 75, 3) := by decide +kernel
theorem dX4_costOfMapWay_82 : decode cX4_costOfMapWay 82 = .ok (.iadd, 1) := by decide +kernel
theorem dX4_costOfMapWay_83 : decode cX4_costOfMapWay 83 = .ok (.istore 4, 2) := by decide +kernel
theorem dX4_costOfMapWay_85 : decode cX4_costOfMapWay 85 = .ok (.iload 6, 2) := by decide +kernel
theorem dX4_costOfMapWay_87 : decode cX4_costOfMapWay 87 = .ok (.istore_n 3, 1) := by decide +kernel
theorem dX4_costOfMapWay_88 : decode cX4_costOfMapWay 88 = .ok (.iinc 5 1, 3) := by decide +kernel
theorem dX4_costOfMapWay_91 : decode cX4_costOfMapWay 91 = .ok (.goto (-60), 3) := by decide +kernel
theorem dX4_dearestStep_0 : decode cX4_dearestStep 0 = .ok (.iconst 0, 1) := by decide +kernel
theorem dX4_dearestStep_1 : decode cX4_dearestStep 1 = .ok (.istore_n 2, 1) := by decide +kernel
theorem dX4_dearestStep_2 : decode cX4_dearestStep 2 = .ok (.iconst 0, 1) := by decide +kernel
theorem dX4_dearestStep_3 : decode cX4_dearestStep 3 = .ok (.istore_n 3, 1) := by decide +kernel
theorem dX4_dearestStep_4 : decode cX4_dearestStep 4 = .ok (.iload_n 3, 1) := by decide +kernel
theorem dX4_dearestStep_5 : decode cX4_dearestStep 5 = .ok (.iconst 4, 1) := by decide +kernel
theorem dX4_dearestStep_6 : decode cX4_dearestStep 6 = .ok (.if_icmp .ge 50, 3) := by decide +kernel
theorem dX4_dearestStep_56 : decode cX4_dearestStep 56 = .ok (.iload_n 2, 1) := by decide +kernel
theorem dX4_dearestStep_57 : decode cX4_dearestStep 57 = .ok (.ireturn, 1) := by decide +kernel
theorem dX4_dearestStep_9 : decode cX4_dearestStep 9 = .ok (.aload_n 0, 1) := by decide +kernel
theorem dX4_dearestStep_10 : decode cX4_dearestStep 10 = .ok (.getfield 37, 3) := by decide +kernel
theorem dX4_dearestStep_13 : decode cX4_dearestStep 13 = .ok (.iload_n 1, 1) := by decide +kernel
theorem dX4_dearestStep_14 : decode cX4_dearestStep 14 = .ok (.iconst 4, 1) := by decide +kernel
theorem dX4_dearestStep_15 : decode cX4_dearestStep 15 = .ok (.imul, 1) := by decide +kernel
theorem dX4_dearestStep_16 : decode cX4_dearestStep 16 = .ok (.iload_n 3, 1) := by decide +kernel
theorem dX4_dearestStep_17 : decode cX4_dearestStep 17 = .ok (.iadd, 1) := by decide +kernel
theorem dX4_dearestStep_18 : decode cX4_dearestStep 18 = .ok (.iaload, 1) := by decide +kernel
theorem dX4_dearestStep_19 : decode cX4_dearestStep 19 = .ok (.istore 4, 2) := by decide +kernel
theorem dX4_dearestStep_21 : decode cX4_dearestStep 21 = .ok (.iload 4, 2) := by decide +kernel
theorem dX4_dearestStep_23 : decode cX4_dearestStep 23 = .ok (.iconst (-1), 1) := by decide +kernel
theorem dX4_dearestStep_24 : decode cX4_dearestStep 24 = .ok (.if_icmp .eq 26, 3) := by decide +kernel
theorem dX4_dearestStep_50 : decode cX4_dearestStep 50 = .ok (.iinc 3 1, 3) := by decide +kernel
theorem dX4_dearestStep_53 : decode cX4_dearestStep 53 = .ok (.goto (-49), 3) := by decide +kernel
theorem dX4_dearestStep_27 : decode cX4_dearestStep 27 = .ok (.aload_n 0, 1) := by decide +kernel
theorem dX4_dearestStep_28 : decode cX4_dearestStep 28 = .ok (.iload 4, 2) := by decide +kernel
theorem dX4_dearestStep_30 : decode cX4_dearestStep 30 = .ok (.iconst 1, 1) := by decide +kernel
theorem dX4_dearestStep_31 : decode cX4_dearestStep 31 = .ok (.invokevirtual 79, 3) := by decide +kernel
theorem dX4_dearestStep_34 : decode cX4_dearestStep 34 = .ok (.ifCond .eq 16, 3) := by decide +kernel
theorem dX4_dearestStep_37 : decode cX4_dearestStep 37 = .ok (.iload_n 2, 1) := by decide +kernel
theorem dX4_dearestStep_38 : decode cX4_dearestStep 38 = .ok (.aload_n 0, 1) := by decide +kernel
theorem dX4_dearestStep_39 : decode cX4_dearestStep 39 = .ok (.iload_n 1, 1) := by decide +kernel
theorem dX4_dearestStep_40 : decode cX4_dearestStep 40 = .ok (.iload 4, 2) := by decide +kernel
theorem dX4_dearestStep_42 : decode cX4_dearestStep 42 = .ok (.iconst 1, 1) := by decide +kernel
theorem dX4_dearestStep_43 : decode cX4_dearestStep 43 = .ok (.invokevirtual 75, 3) := by decide +kernel
theorem dX4_dearestStep_46 : decode cX4_dearestStep 46 = .ok (.invokestatic 83, 3) := by decide +kernel
theorem dX4_dearestStep_49 : decode cX4_dearestStep 49 = .ok (.istore_n 2, 1) := by decide +kernel
theorem dX4_hasNoDearWay_0 : decode cX4_hasNoDearWay 0 = .ok (.iconst 0, 1) := by decide +kernel
theorem dX4_hasNoDearWay_1 : decode cX4_hasNoDearWay 1 = .ok (.istore_n 1, 1) := by decide +kernel
theorem dX4_hasNoDearWay_2 : decode cX4_hasNoDearWay 2 = .ok (.iload_n 1, 1) := by decide +kernel
theorem dX4_hasNoDearWay_3 : decode cX4_hasNoDearWay 3 = .ok (.aload_n 0, 1) := by decide +kernel
theorem dX4_hasNoDearWay_4 : decode cX4_hasNoDearWay 4 = .ok (.getfield 47, 3) := by decide +kernel
theorem dX4_hasNoDearWay_7 : decode cX4_hasNoDearWay 7 = .ok (.if_icmp .ge 77, 3) := by decide +kernel
theorem dX4_hasNoDearWay_84 : decode cX4_hasNoDearWay 84 = .ok (.iconst 1, 1) := by decide +kernel
theorem dX4_hasNoDearWay_85 : decode cX4_hasNoDearWay 85 = .ok (.ireturn, 1) := by decide +kernel
theorem dX4_hasNoDearWay_10 : decode cX4_hasNoDearWay 10 = .ok (.aload_n 0, 1) := by decide +kernel
theorem dX4_hasNoDearWay_11 : decode cX4_hasNoDearWay 11 = .ok (.iload_n 1, 1) := by decide +kernel
theorem dX4_hasNoDearWay_12 : decode cX4_hasNoDearWay 12 = .ok (.iconst 1, 1) := by decide +kernel
theorem dX4_hasNoDearWay_13 : decode cX4_hasNoDearWay 13 = .ok (.iconst 0, 1) := by decide +kernel
theorem dX4_hasNoDearWay_14 : decode cX4_hasNoDearWay 14 = .ok (.aload_n 0, 1) := by decide +kernel
theorem dX4_hasNoDearWay_15 : decode cX4_hasNoDearWay 15 = .ok (.iload_n 1, 1) := by decide +kernel
theorem dX4_hasNoDearWay_16 : decode cX4_hasNoDearWay 16 = .ok (.invokevirtual 104, 3) := by decide +kernel
theorem dX4_hasNoDearWay_19 : decode cX4_hasNoDearWay 19 = .ok (.invokevirtual 68, 3) := by decide +kernel
theorem dX4_hasNoDearWay_22 : decode cX4_hasNoDearWay 22 = .ok (.iconst 0, 1) := by decide +kernel
theorem dX4_hasNoDearWay_23 : decode cX4_hasNoDearWay 23 = .ok (.istore_n 2, 1) := by decide +kernel
theorem dX4_hasNoDearWay_24 : decode cX4_hasNoDearWay 24 = .ok (.iload_n 2, 1) := by decide +kernel
theorem dX4_hasNoDearWay_25 : decode cX4_hasNoDearWay 25 = .ok (.iconst 4, 1) := by decide +kernel
theorem dX4_hasNoDearWay_26 : decode cX4_hasNoDearWay 26 = .ok (.if_icmp .ge 52, 3) := by decide +kernel
theorem dX4_hasNoDearWay_78 : decode cX4_hasNoDearWay 78 = .ok (.iinc 1 1, 3) := by decide +kernel
theorem dX4_hasNoDearWay_81 : decode cX4_hasNoDearWay 81 = .ok (.goto (-79), 3) := by decide +kernel
theorem dX4_hasNoDearWay_29 : decode cX4_hasNoDearWay 29 = .ok (.aload_n 0, 1) := by decide +kernel
theorem dX4_hasNoDearWay_30 : decode cX4_hasNoDearWay 30 = .ok (.getfield 37, 3) := by decide +kernel
theorem dX4_hasNoDearWay_33 : decode cX4_hasNoDearWay 33 = .ok (.iload_n 1, 1) := by decide +kernel
theorem dX4_hasNoDearWay_34 : decode cX4_hasNoDearWay 34 = .ok (.iconst 4, 1) := by decide +kernel
theorem dX4_hasNoDearWay_35 : decode cX4_hasNoDearWay 35 = .ok (.imul, 1) := by decide +kernel
theorem dX4_hasNoDearWay_36 : decode cX4_hasNoDearWay 36 = .ok (.iload_n 2, 1) := by decide +kernel
theorem dX4_hasNoDearWay_37 : decode cX4_hasNoDearWay 37 = .ok (.iadd, 1) := by decide +kernel
theorem dX4_hasNoDearWay_38 : decode cX4_hasNoDearWay 38 = .ok (.iaload, 1) := by decide +kernel
theorem dX4_hasNoDearWay_39 : decode cX4_hasNoDearWay 39 = .ok (.istore_n 3, 1) := by decide +kernel
theorem dX4_hasNoDearWay_40 : decode cX4_hasNoDearWay 40 = .ok (.iload_n 3, 1) := by decide +kernel
theorem dX4_hasNoDearWay_41 : decode cX4_hasNoDearWay 41 = .ok (.iconst (-1), 1) := by decide +kernel
theorem dX4_hasNoDearWay_42 : decode cX4_hasNoDearWay 42 = .ok (.if_icmp .eq 30, 3) := by decide +kernel
theorem dX4_hasNoDearWay_72 : decode cX4_hasNoDearWay 72 = .ok (.iinc 2 1, 3) := by decide +kernel
theorem dX4_hasNoDearWay_75 : decode cX4_hasNoDearWay 75 = .ok (.goto (-51), 3) := by decide +kernel
theorem dX4_hasNoDearWay_45 : decode cX4_hasNoDearWay 45 = .ok (.aload_n 0, 1) := by decide +kernel
theorem dX4_hasNoDearWay_46 : decode cX4_hasNoDearWay 46 = .ok (.iload_n 3, 1) := by decide +kernel
theorem dX4_hasNoDearWay_47 : decode cX4_hasNoDearWay 47 = .ok (.iconst 1, 1) := by decide +kernel
theorem dX4_hasNoDearWay_48 : decode cX4_hasNoDearWay 48 = .ok (.invokevirtual 79, 3) := by decide +kernel
theorem dX4_hasNoDearWay_51 : decode cX4_hasNoDearWay 51 = .ok (.ifCond .eq 21, 3) := by decide +kernel
theorem dX4_hasNoDearWay_54 : decode cX4_hasNoDearWay 54 = .ok (.aload_n 0, 1) := by decide +kernel
theorem dX4_hasNoDearWay_55 : decode cX4_hasNoDearWay 55 = .ok (.getfield 28, 3) := by decide +kernel
theorem dX4_hasNoDearWay_58 : decode cX4_hasNoDearWay 58 = .ok (.iload_n 3, 1) := by decide +kernel
theorem dX4_hasNoDearWay_59 : decode cX4_hasNoDearWay 59 = .ok (.iaload, 1) := by decide +kernel
theorem dX4_hasNoDearWay_60 : decode cX4_hasNoDearWay 60 = .ok (.aload_n 0, 1) := by decide +kernel
theorem dX4_hasNoDearWay_61 : decode cX4_hasNoDearWay 61 = .ok (.iload_n 1, 1) := by decide +kernel
theorem dX4_hasNoDearWay_62 : decode cX4_hasNoDearWay 62 = .ok (.iload_n 3, 1) := by decide +kernel
theorem dX4_hasNoDearWay_63 : decode cX4_hasNoDearWay 63 = .ok (.iconst 1, 1) := by decide +kernel
theorem dX4_hasNoDearWay_64 : decode cX4_hasNoDearWay 64 = .ok (.invokevirtual 75, 3) := by decide +kernel
theorem dX4_hasNoDearWay_67 : decode cX4_hasNoDearWay 67 = .ok (.if_icmp .le 5, 3) := by decide +kernel
/-! the terrain's answers -/
def us_c_bestCost : List Cond := .code yX4_bestCost cX4_bestCost 4 (some .int) :: (([.constant RX4 67 (1000000), .methodLink RX4 68 yX4_spread, .instanceMethod yX4_spread, .selects RX4 yX4_spread yX4_spread, .initialized RX4, .fieldLink RX4 28 "ControlWood$Terrain" "ways" "[I"] : List Cond) ++ (us_c_spread ++ (wsX40 ++ ([]))))
theorem gw_c_bestCost : ∀ w ∈ us_c_bestCost, goodWord w = true := gw_cons rfl (gw_app (by decide +kernel) (gw_app gw_c_spread (gw_app gwf_X4 (fun _ h => nomatch h))))
set_option maxHeartbeats 4000000 in
set_option maxRecDepth 100000 in
/-- bestCost -/
theorem c_bestCost (l : Launch) (hst : l.stackTraces = false) (D : va_G) (g : Nat) (a1 : Nat) (a2 : Nat) (a3 : Nat) (a4 : Nat) (a5 : Nat) (a6 : Nat) (a7 : Nat) (a8 : Nat) (a9 : Nat) (a10 : Nat) (a11 : Nat) (n : Int32) (hd : Int32) (wt : Int32) (cw : ClassId) (cq : ClassId) (cz : ClassId) (ck : ClassId) (csk : ClassId) (cg : ClassId) (ch : ClassId) (csg : ClassId) (cb : ClassId) (w0 : List Nat) (q : List Nat) (z : List Nat) (o : Nat) (ce : Nat) (mp : Int32) (sz : Nat) (hw0 : w0.length = 144) (hq : okQ q z) (ho : o ≤ 24) (hc : ce ≤ 24) : Met l yX4_bestCost us_c_bestCost { frames := 4, cells := 0, slots := 0, locals := 91 } (pw D [.ref g, .int (nI o), .int (nI ce), .int mp] [(cw, .int), (cq, .int), (cz, .boolean), (ck, .char), (csk, .char), (cg, .int), (ch, .int), (csg, .int), (cb, .int)] [(g, .inr (11, [.int n, .ref a1, .ref a2, .ref a3, .ref a4, .ref a5, .ref a6, .ref a7, .ref a8, .ref a9, .ref a10, .ref a11, .int hd, .int wt])), (a6, .inl (cw, 144, .inl (fL w0))), (a10, .inl (cq, 144, .inl (fL q))), (a11, .inl (cz, 144, .inl (fL z))), (a3, .inl (ck, 144, .inl okF)), (a5, .inl (csk, 144, .inl okF)), (a1, .inl (cg, 144, .inl (fun _ => 0))), (a2, .inl (ch, 144, .inl (fun _ => 0))), (a4, .inl (csg, 144, .inl (fun _ => 0))), (a9, .inl (cb, 576, .inl beF))] sz) (va_Qi (fun (r : Int32) (_ : Unit) => r = nI ((goM 1000000 o q z).1.getD ce 0)) (qb D (va_A [(g, .inr (11, [.int n, .ref a1, .ref a2, .ref a3, .ref a4, .ref a5, .ref a6, .ref a7, .ref a8, .ref a9, .ref a10, .ref a11, .int hd, .int wt])), (a6, .inl (cw, 144, .inl (fL w0))), (a10, .inl (cq, 144, .inl (fL q))), (a11, .inl (cz, 144, .inl (fL z))), (a3, .inl (ck, 144, .inl okF)), (a5, .inl (csk, 144, .inl okF)), (a1, .inl (cg, 144, .inl (fun _ => 0))), (a2, .inl (ch, 144, .inl (fun _ => 0))), (a4, .inl (csg, 144, .inl (fun _ => 0))), (a9, .inl (cb, 576, .inl beF))] sz) (fun _ : Unit => []) (fun _ : Unit => ([] : List (ClassId × FieldType)))) (va_A [(g, .inr (11, [.int n, .ref a1, .ref a2, .ref a3, .ref a4, .ref a5, .ref a6, .ref a7, .ref a8, .ref a9, .ref a10, .ref a11, .int hd, .int wt])), (a6, .inl (cw, 144, .inl (fL w0))), (a10, .inl (cq, 144, .inl (fL q))), (a11, .inl (cz, 144, .inl (fL z))), (a3, .inl (ck, 144, .inl okF)), (a5, .inl (csk, 144, .inl okF)), (a1, .inl (cg, 144, .inl (fun _ => 0))), (a2, .inl (ch, 144, .inl (fun _ => 0))), (a4, .inl (csg, 144, .inl (fun _ => 0))), (a9, .inl (cb, 576, .inl beF))] sz)) 0 0 (va_A [(g, .inr (11, [.int n, .ref a1, .ref a2, .ref a3, .ref a4, .ref a5, .ref a6, .ref a7, .ref a8, .ref a9, .ref a10, .ref a11, .int hd, .int wt])), (a6, .inl (cw, 144, .inl (fL w0))), (a10, .inl (cq, 144, .inl (fL q))), (a11, .inl (cz, 144, .inl (fL z))), (a3, .inl (ck, 144, .inl okF)), (a5, .inl (csk, 144, .inl okF)), (a1, .inl (cg, 144, .inl (fun _ => 0))), (a2, .inl (ch, 144, .inl (fun _ => 0))), (a4, .inl (csg, 144, .inl (fun _ => 0))), (a9, .inl (cb, 576, .inl beF))] sz) := by
  refine op_M (Qc := fun A => (va_Qi (fun (r : Int32) (_ : Unit) => r = nI ((goM 1000000 o q z).1.getD ce 0)) (qb D A (fun _ : Unit => []) (fun _ : Unit => ([] : List (ClassId × FieldType)))) A)) (by decide +kernel) rfl (Nat.le_of_ble_eq_true rfl) ?_
  intro p e s m args below meth c A ls hx hb hr hml hts hown hlocks hmn htab hA hD hS hP hK hE hsz hl
  have hown : s.vm.findClass RX4 = some m.cls := hown
  have hl : lv_has ls 4 [(0, .ref g), (1, .int (nI o)), (2, .int (nI ce)), (3, .int mp)] := hl
  have hw_0 := hts (.constant RX4 67 (1000000)) (List.mem_cons_of_mem _ (List.mem_append_left _ (List.mem_of_getElem? (i := 0) rfl)))
  have hw_1 := hts (.methodLink RX4 68 yX4_spread) (List.mem_cons_of_mem _ (List.mem_append_left _ (List.mem_of_getElem? (i := 1) rfl)))
  have hw_2 := hts (.instanceMethod yX4_spread) (List.mem_cons_of_mem _ (List.mem_append_left _ (List.mem_of_getElem? (i := 2) rfl)))
  have hw_3 := hts (.selects RX4 yX4_spread yX4_spread) (List.mem_cons_of_mem _ (List.mem_append_left _ (List.mem_of_getElem? (i := 3) rfl)))
  have hw_4 := hts (.initialized RX4) (List.mem_cons_of_mem _ (List.mem_append_left _ (List.mem_of_getElem? (i := 4) rfl)))
  have hw_5 := hts (.fieldLink RX4 28 "ControlWood$Terrain" "ways" "[I") (List.mem_cons_of_mem _ (List.mem_append_left _ (List.mem_of_getElem? (i := 5) rfl)))
  have hb_0 : ∀ w ∈ us_c_spread, w ∈ us_c_bestCost := fun w h => List.mem_cons_of_mem _ (List.mem_append_right _ (List.mem_append_left _ h))
  have hb_1 : ∀ w ∈ wsX40, w ∈ us_c_bestCost := fun w h => List.mem_cons_of_mem _ (List.mem_append_right _ (List.mem_append_right _ (List.mem_append_left _ h)))
  refine lv_aload_n hx hb dX4_bestCost_0 rfl (lv_at hl 0 rfl) ?_
  refine lv_iload_n hx hb dX4_bestCost_1 rfl (lv_at hl 1 rfl) ?_
  refine lv_iload_n hx hb dX4_bestCost_2 rfl (lv_at hl 3 rfl) ?_
  refine lv_iconst (v := 0) hx hb dX4_bestCost_3 (by decide) ?_
  refine lv_ldc hx hb hown hw_0 dX4_bestCost_4 ?_
  refine mc_v (wr := []) (va_runV (As := [.int (nI o), .int mp, .int 0, .int 1000000]) (rest := []) ⟨hx, hb, hml, hown, hts⟩ (c_spread l hst D g a1 a2 a3 a4 a5 a6 a7 a8 a9 a10 a11 n hd wt cw cq cz ck csk cg ch csg cb w0 q z o mp 0 1000000 s.heap.size (hw0) (hq) (ho) (by decide)) (cwV 4 hts (gi_c (List.mem_cons_of_mem _ (List.mem_append_left _ (List.mem_of_getElem? (i := 1) rfl))) rfl (gi_c (List.mem_cons_of_mem _ (List.mem_append_left _ (List.mem_of_getElem? (i := 2) rfl))) rfl (gi_c (List.mem_cons_of_mem _ (List.mem_append_left _ (List.mem_of_getElem? (i := 3) rfl))) rfl (gi_c (List.mem_cons_of_mem _ (List.mem_append_left _ (List.mem_of_getElem? (i := 4) rfl))) rfl (goodIn_sub hb_0 (List.all_eq_true.mpr gw_c_spread)))))) rfl rfl rfl (by decide +kernel) ⟨Nat.le_of_ble_eq_true rfl, Nat.le_of_ble_eq_true rfl⟩) (pr_V (As := [.int (nI o), .int mp, .int 0, .int 1000000]) (b := g) (C := RX4) hP hD hK hS hA hE [0, 1, 2, 3, 4, 5, 6, 7, 8, 9] [0, 1, 2, 3, 4, 5, 6, 7, 8] rfl rfl rfl 0 11 rfl rfl rfl) rfl rfl hl.1 rfl (lv_room (Nat.le_of_ble_eq_true rfl)) dX4_bestCost_6 ⟨Nat.le_of_ble_eq_true rfl, Nat.le_of_ble_eq_true rfl⟩) hP hD hK hS hA [0, 1, 2, 3, 4, 5, 6, 7, 8, 9] [] rfl rfl (by decide) (by decide) (fun u1 H locs w2 hP hD hK hS => ?_)
  have hP : va_P D vwCl [(g, .inr (11, [.int n, .ref a1, .ref a2, .ref a3, .ref a4, .ref a5, .ref a6, .ref a7, .ref a8, .ref a9, .ref a10, .ref a11, .int (nI u1.2.2.2.1), .int (nI u1.2.2.2.2)])), (a6, .inl (cw, 144, .inl (fL u1.1))), (a10, .inl (cq, 144, .inl (fL u1.2.1))), (a11, .inl (cz, 144, .inl (fL u1.2.2.1))), (a3, .inl (ck, 144, .inl okF)), (a5, .inl (csk, 144, .inl okF)), (a1, .inl (cg, 144, .inl (fun _ => 0))), (a2, .inl (ch, 144, .inl (fun _ => 0))), (a4, .inl (csg, 144, .inl (fun _ => 0))), (a9, .inl (cb, 576, .inl beF))] H := hP
  have hD : va_D A [(g, .inr (11, [.int n, .ref a1, .ref a2, .ref a3, .ref a4, .ref a5, .ref a6, .ref a7, .ref a8, .ref a9, .ref a10, .ref a11, .int (nI u1.2.2.2.1), .int (nI u1.2.2.2.2)])), (a6, .inl (cw, 144, .inl (fL u1.1))), (a10, .inl (cq, 144, .inl (fL u1.2.1))), (a11, .inl (cz, 144, .inl (fL u1.2.2.1))), (a3, .inl (ck, 144, .inl okF)), (a5, .inl (csk, 144, .inl okF)), (a1, .inl (cg, 144, .inl (fun _ => 0))), (a2, .inl (ch, 144, .inl (fun _ => 0))), (a4, .inl (csg, 144, .inl (fun _ => 0))), (a9, .inl (cb, 576, .inl beF))] := hD
  have hK : va_K D vwCl [(cw, .int), (cq, .int), (cz, .boolean), (ck, .char), (csk, .char), (cg, .int), (ch, .int), (csg, .int), (cb, .int)] s := hK
  obtain ⟨hgo, oku⟩ := w2
  obtain ⟨ok1, ok2, ok3, ok4, ok5, ok6, ok7, ok8⟩ := id oku
  refine lv_aload_n hx hb dX4_bestCost_9 rfl (lv_at hl 0 rfl) ?_
  refine va_get (D := D) (ci := 11) (v := .ref a6) (C := RX4) (T := TX4) (N := 14) hx hb hts hb_1 hown hK hP 0 rfl rfl 6 (by decide) hw_5 (fun _ h9 => h9) rfl dX4_bestCost_10 ?_
  refine lv_iload_n hx hb dX4_bestCost_13 rfl (lv_at hl 2 rfl) ?_
  refine va_iald hx hb hK hP 1 0 rfl rfl (vp_in_nI (n := ce) (by omega) (by decide)) dX4_bestCost_14 ?_
  have b4 := ok6 ce
  refine lv_topi (fun x5 e5 => ?_)
  obtain rfl : x5 = nI (u1.1.getD ce 0) := e5.trans (fL_at (by omega))
  exact mr_i hx hb hr () (by rw [hgo]) (hP.sub [] rfl) (hK.sub [] rfl) (hD.sub [] (by decide) rfl) hS (Nat.le_of_ble_eq_true rfl) (Nat.le_of_ble_eq_true rfl) hlocks dX4_bestCost_15

def us_c_nextOnMapWay : List Cond := .code yX4_nextOnMapWay cX4_nextOnMapWay 4 (some .int) :: (([.fieldLink RX4 37 "ControlWood$Terrain" "besides" "[I", .methodLink RX4 79 yX4_canEnter, .instanceMethod yX4_canEnter, .selects RX4 yX4_canEnter yX4_canEnter, .initialized RX4, .fieldLink RX4 28 "ControlWood$Terrain" "ways" "[I", .methodLink RX4 75 yX4_step, .instanceMethod yX4_step, .selects RX4 yX4_step yX4_step] : List Cond) ++ (wsX40 ++ (us_c_canEnter ++ (us_c_step ++ ([])))))
theorem gw_c_nextOnMapWay : ∀ w ∈ us_c_nextOnMapWay, goodWord w = true := gw_cons rfl (gw_app (by decide +kernel) (gw_app gwf_X4 (gw_app gw_c_canEnter (gw_app gw_c_step (fun _ h => nomatch h)))))
set_option maxHeartbeats 4000000 in
set_option maxRecDepth 100000 in
/-- nextOnMapWay -/
theorem c_nextOnMapWay (l : Launch) (hst : l.stackTraces = false) (D : va_G) (g : Nat) (a1 : Nat) (a2 : Nat) (a3 : Nat) (a4 : Nat) (a5 : Nat) (a6 : Nat) (a7 : Nat) (a8 : Nat) (a9 : Nat) (a10 : Nat) (a11 : Nat) (n : Int32) (hd : Int32) (wt : Int32) (cw : ClassId) (cq : ClassId) (cz : ClassId) (ck : ClassId) (csk : ClassId) (cg : ClassId) (ch : ClassId) (csg : ClassId) (cb : ClassId) (w : List Nat) (q : List Nat) (z : List Nat) (ce : Nat) (sz : Nat) (hc : ce ≤ 24) (hw : ∀ i, w.getD i 0 ≤ 1000000) : Met l yX4_nextOnMapWay us_c_nextOnMapWay { frames := 2, cells := 0, slots := 0, locals := 40 } (pw D [.ref g, .int (nI ce)] [(cw, .int), (cq, .int), (cz, .boolean), (ck, .char), (csk, .char), (cg, .int), (ch, .int), (csg, .int), (cb, .int)] [(g, .inr (11, [.int n, .ref a1, .ref a2, .ref a3, .ref a4, .ref a5, .ref a6, .ref a7, .ref a8, .ref a9, .ref a10, .ref a11, .int hd, .int wt])), (a6, .inl (cw, 144, .inl (fL w))), (a10, .inl (cq, 144, .inl (fL q))), (a11, .inl (cz, 144, .inl (fL z))), (a3, .inl (ck, 144, .inl okF)), (a5, .inl (csk, 144, .inl okF)), (a1, .inl (cg, 144, .inl (fun _ => 0))), (a2, .inl (ch, 144, .inl (fun _ => 0))), (a4, .inl (csg, 144, .inl (fun _ => 0))), (a9, .inl (cb, 576, .inl beF))] sz) (va_Qi (fun (r : Int32) (_ : Unit) => r = (optI (nxF 4 w ce))) (qb D (va_A [(g, .inr (11, [.int n, .ref a1, .ref a2, .ref a3, .ref a4, .ref a5, .ref a6, .ref a7, .ref a8, .ref a9, .ref a10, .ref a11, .int hd, .int wt])), (a6, .inl (cw, 144, .inl (fL w))), (a10, .inl (cq, 144, .inl (fL q))), (a11, .inl (cz, 144, .inl (fL z))), (a3, .inl (ck, 144, .inl okF)), (a5, .inl (csk, 144, .inl okF)), (a1, .inl (cg, 144, .inl (fun _ => 0))), (a2, .inl (ch, 144, .inl (fun _ => 0))), (a4, .inl (csg, 144, .inl (fun _ => 0))), (a9, .inl (cb, 576, .inl beF))] sz) (fun _ : Unit => [(g, .inr (11, [.int n, .ref a1, .ref a2, .ref a3, .ref a4, .ref a5, .ref a6, .ref a7, .ref a8, .ref a9, .ref a10, .ref a11, .int hd, .int wt])), (a6, .inl (cw, 144, .inl (fL w))), (a10, .inl (cq, 144, .inl (fL q))), (a11, .inl (cz, 144, .inl (fL z))), (a3, .inl (ck, 144, .inl okF)), (a5, .inl (csk, 144, .inl okF)), (a1, .inl (cg, 144, .inl (fun _ => 0))), (a2, .inl (ch, 144, .inl (fun _ => 0))), (a4, .inl (csg, 144, .inl (fun _ => 0))), (a9, .inl (cb, 576, .inl beF))]) (fun _ : Unit => ([] : List (ClassId × FieldType)))) (va_A [(g, .inr (11, [.int n, .ref a1, .ref a2, .ref a3, .ref a4, .ref a5, .ref a6, .ref a7, .ref a8, .ref a9, .ref a10, .ref a11, .int hd, .int wt])), (a6, .inl (cw, 144, .inl (fL w))), (a10, .inl (cq, 144, .inl (fL q))), (a11, .inl (cz, 144, .inl (fL z))), (a3, .inl (ck, 144, .inl okF)), (a5, .inl (csk, 144, .inl okF)), (a1, .inl (cg, 144, .inl (fun _ => 0))), (a2, .inl (ch, 144, .inl (fun _ => 0))), (a4, .inl (csg, 144, .inl (fun _ => 0))), (a9, .inl (cb, 576, .inl beF))] sz)) 0 0 (va_A [(g, .inr (11, [.int n, .ref a1, .ref a2, .ref a3, .ref a4, .ref a5, .ref a6, .ref a7, .ref a8, .ref a9, .ref a10, .ref a11, .int hd, .int wt])), (a6, .inl (cw, 144, .inl (fL w))), (a10, .inl (cq, 144, .inl (fL q))), (a11, .inl (cz, 144, .inl (fL z))), (a3, .inl (ck, 144, .inl okF)), (a5, .inl (csk, 144, .inl okF)), (a1, .inl (cg, 144, .inl (fun _ => 0))), (a2, .inl (ch, 144, .inl (fun _ => 0))), (a4, .inl (csg, 144, .inl (fun _ => 0))), (a9, .inl (cb, 576, .inl beF))] sz) := by
  refine op_M (Qc := fun A => (va_Qi (fun (r : Int32) (_ : Unit) => r = (optI (nxF 4 w ce))) (qb D A (fun _ : Unit => [(g, .inr (11, [.int n, .ref a1, .ref a2, .ref a3, .ref a4, .ref a5, .ref a6, .ref a7, .ref a8, .ref a9, .ref a10, .ref a11, .int hd, .int wt])), (a6, .inl (cw, 144, .inl (fL w))), (a10, .inl (cq, 144, .inl (fL q))), (a11, .inl (cz, 144, .inl (fL z))), (a3, .inl (ck, 144, .inl okF)), (a5, .inl (csk, 144, .inl okF)), (a1, .inl (cg, 144, .inl (fun _ => 0))), (a2, .inl (ch, 144, .inl (fun _ => 0))), (a4, .inl (csg, 144, .inl (fun _ => 0))), (a9, .inl (cb, 576, .inl beF))]) (fun _ : Unit => ([] : List (ClassId × FieldType)))) A)) (by decide +kernel) rfl (Nat.le_of_ble_eq_true rfl) ?_
  intro p e s m args below meth c A ls hx hb hr hml hts hown hlocks hmn htab hA hD hS hP hK hE hsz hl
  have hown : s.vm.findClass RX4 = some m.cls := hown
  have hl : lv_has ls 4 [(0, .ref g), (1, .int (nI ce))] := hl
  have hw_0 := hts (.fieldLink RX4 37 "ControlWood$Terrain" "besides" "[I") (List.mem_cons_of_mem _ (List.mem_append_left _ (List.mem_of_getElem? (i := 0) rfl)))
  have hw_1 := hts (.methodLink RX4 79 yX4_canEnter) (List.mem_cons_of_mem _ (List.mem_append_left _ (List.mem_of_getElem? (i := 1) rfl)))
  have hw_2 := hts (.instanceMethod yX4_canEnter) (List.mem_cons_of_mem _ (List.mem_append_left _ (List.mem_of_getElem? (i := 2) rfl)))
  have hw_3 := hts (.selects RX4 yX4_canEnter yX4_canEnter) (List.mem_cons_of_mem _ (List.mem_append_left _ (List.mem_of_getElem? (i := 3) rfl)))
  have hw_4 := hts (.initialized RX4) (List.mem_cons_of_mem _ (List.mem_append_left _ (List.mem_of_getElem? (i := 4) rfl)))
  have hw_5 := hts (.fieldLink RX4 28 "ControlWood$Terrain" "ways" "[I") (List.mem_cons_of_mem _ (List.mem_append_left _ (List.mem_of_getElem? (i := 5) rfl)))
  have hw_6 := hts (.methodLink RX4 75 yX4_step) (List.mem_cons_of_mem _ (List.mem_append_left _ (List.mem_of_getElem? (i := 6) rfl)))
  have hw_7 := hts (.instanceMethod yX4_step) (List.mem_cons_of_mem _ (List.mem_append_left _ (List.mem_of_getElem? (i := 7) rfl)))
  have hw_8 := hts (.selects RX4 yX4_step yX4_step) (List.mem_cons_of_mem _ (List.mem_append_left _ (List.mem_of_getElem? (i := 8) rfl)))
  have hb_0 : ∀ w ∈ wsX40, w ∈ us_c_nextOnMapWay := fun w h => List.mem_cons_of_mem _ (List.mem_append_right _ (List.mem_append_left _ h))
  have hb_1 : ∀ w ∈ us_c_canEnter, w ∈ us_c_nextOnMapWay := fun w h => List.mem_cons_of_mem _ (List.mem_append_right _ (List.mem_append_right _ (List.mem_append_left _ h)))
  have hb_2 : ∀ w ∈ us_c_step, w ∈ us_c_nextOnMapWay := fun w h => List.mem_cons_of_mem _ (List.mem_append_right _ (List.mem_append_right _ (List.mem_append_right _ (List.mem_append_left _ h))))
  refine lv_iconst (v := 0) hx hb dX4_nextOnMapWay_0 (by decide) ?_
  refine lv_istore_n (lv' := [(2, .int 0), (0, .ref g), (1, .int (nI ce))]) hx hb dX4_nextOnMapWay_1 rfl hl (by decide) rfl (fun ls hl => ?_)
  have lp : ∀ (fu : Nat) (i : Nat) (H : Heap) (locs : List Loc) (ls : Array Slot), (i + fu = 4) → (nxF fu w ce = nxF 4 w ce) → lv_has ls 4 [(2, .int (nI i)), (0, .ref g), (1, .int (nI ce))] → va_P D vwCl [(g, .inr (11, [.int n, .ref a1, .ref a2, .ref a3, .ref a4, .ref a5, .ref a6, .ref a7, .ref a8, .ref a9, .ref a10, .ref a11, .int hd, .int wt])), (a6, .inl (cw, 144, .inl (fL w))), (a10, .inl (cq, 144, .inl (fL q))), (a11, .inl (cz, 144, .inl (fL z))), (a3, .inl (ck, 144, .inl okF)), (a5, .inl (csk, 144, .inl okF)), (a1, .inl (cg, 144, .inl (fun _ => 0))), (a2, .inl (ch, 144, .inl (fun _ => 0))), (a4, .inl (csg, 144, .inl (fun _ => 0))), (a9, .inl (cb, 576, .inl beF))] H → va_D A [(g, .inr (11, [.int n, .ref a1, .ref a2, .ref a3, .ref a4, .ref a5, .ref a6, .ref a7, .ref a8, .ref a9, .ref a10, .ref a11, .int hd, .int wt])), (a6, .inl (cw, 144, .inl (fL w))), (a10, .inl (cq, 144, .inl (fL q))), (a11, .inl (cz, 144, .inl (fL z))), (a3, .inl (ck, 144, .inl okF)), (a5, .inl (csk, 144, .inl okF)), (a1, .inl (cg, 144, .inl (fun _ => 0))), (a2, .inl (ch, 144, .inl (fun _ => 0))), (a4, .inl (csg, 144, .inl (fun _ => 0))), (a9, .inl (cb, 576, .inl beF))] → va_S A s.heap H locs → W p l e { frames := 2, cells := 0, slots := 0, locals := 40 } s m args below meth c H locs 0 0 (MQ below (va_Qi (fun (r : Int32) (_ : Unit) => r = (optI (nxF 4 w ce))) (qb D A (fun _ : Unit => [(g, .inr (11, [.int n, .ref a1, .ref a2, .ref a3, .ref a4, .ref a5, .ref a6, .ref a7, .ref a8, .ref a9, .ref a10, .ref a11, .int hd, .int wt])), (a6, .inl (cw, 144, .inl (fL w))), (a10, .inl (cq, 144, .inl (fL q))), (a11, .inl (cz, 144, .inl (fL z))), (a3, .inl (ck, 144, .inl okF)), (a5, .inl (csk, 144, .inl okF)), (a1, .inl (cg, 144, .inl (fun _ => 0))), (a2, .inl (ch, 144, .inl (fun _ => 0))), (a4, .inl (csg, 144, .inl (fun _ => 0))), (a9, .inl (cb, 576, .inl beF))]) (fun _ : Unit => ([] : List (ClassId × FieldType)))) A) args s 0 0 A) (F0 m 2 ls []) := by
    intro fu
    induction fu with
    | zero =>
      intro i H locs ls hi hM hl hP hD hS
      have hi : i + 0 = 4 := hi
      have hM : nxF 0 w ce = nxF 4 w ce := hM
      refine lv_iload_n hx hb dX4_nextOnMapWay_2 rfl (lv_at hl 0 rfl) ?_
      refine lv_iconst (v := 4) hx hb dX4_nextOnMapWay_3 (by decide) ?_
      refine lv_icmp_ge (tgt := 63) hx hb dX4_nextOnMapWay_4 (by decide) (fun h1 => ?_) (fun h1 => absurd (by exact (nI_leI (a := 4) (b := i) (by omega) (by omega)).mpr (by omega)) h1)
      refine lv_iconst (v := -1) hx hb dX4_nextOnMapWay_63 (by decide) ?_
      exact mr_i hx hb hr () (by rw [← hM]; rfl) (hP.sub [0, 1, 2, 3, 4, 5, 6, 7, 8, 9] rfl) (hK.sub [] rfl) (hD.sub [0, 1, 2, 3, 4, 5, 6, 7, 8, 9] (by decide) rfl) hS (Nat.le_of_ble_eq_true rfl) (Nat.le_of_ble_eq_true rfl) hlocks dX4_nextOnMapWay_64
    | succ fu ih =>
      intro i H locs ls hi hM hl hP hD hS
      have hi : i + (fu + 1) = 4 := hi
      have hM : nxF (fu + 1) w ce = nxF 4 w ce := hM
      have hs3 : 3 - fu = i := by omega
      rcases hbm : beM ce i with _ | nx
      · refine lv_iload_n hx hb dX4_nextOnMapWay_2 rfl (lv_at hl 0 rfl) ?_
        refine lv_iconst (v := 4) hx hb dX4_nextOnMapWay_3 (by decide) ?_
        refine lv_icmp_ge (tgt := 63) hx hb dX4_nextOnMapWay_4 (by decide) (fun h2 => absurd h2 (by exact fun q9 => absurd ((nI_leI (a := 4) (b := i) (by omega) (by omega)).mp q9) (by omega))) (fun h2 => ?_)
        refine lv_aload_n hx hb dX4_nextOnMapWay_7 rfl (lv_at hl 1 rfl) ?_
        refine va_get (D := D) (ci := 11) (v := .ref a9) (C := RX4) (T := TX4) (N := 14) hx hb hts hb_0 hown hK hP 0 rfl rfl 9 (by decide) hw_0 (fun _ h9 => h9) rfl dX4_nextOnMapWay_8 ?_
        refine lv_iload_n hx hb dX4_nextOnMapWay_11 rfl (lv_at hl 2 rfl) ?_
        refine lv_iconst (v := 4) hx hb dX4_nextOnMapWay_12 (by decide) ?_
        refine lv_imul hx hb dX4_nextOnMapWay_13 ?_
        refine lv_topi (fun x3 e3 => ?_)
        obtain rfl : x3 = nI (ce * 4) := e3.trans (pk_mul ce 4)
        refine lv_iload_n hx hb dX4_nextOnMapWay_14 rfl (lv_at hl 0 rfl) ?_
        refine lv_iadd hx hb dX4_nextOnMapWay_15 ?_
        refine lv_topi (fun x4 e4 => ?_)
        obtain rfl : x4 = nI ((ce * 4) + i) := e4.trans (nI_add (ce * 4) i)
        refine va_iald hx hb hK hP 9 8 rfl rfl (vp_in_nI (n := (ce * 4) + i) (by omega) (by decide)) dX4_nextOnMapWay_16 ?_
        refine lv_topi (fun x5 e5 => ?_)
        obtain rfl : x5 = (-1) := e5.trans (beF_none hc (by omega) hbm)
        refine lv_istore_n (lv' := [(3, .int (-1)), (2, .int (nI i)), (0, .ref g), (1, .int (nI ce))]) hx hb dX4_nextOnMapWay_17 rfl hl (by decide) rfl (fun ls hl => ?_)
        refine lv_iload_n hx hb dX4_nextOnMapWay_18 rfl (lv_at hl 0 rfl) ?_
        refine lv_iconst (v := -1) hx hb dX4_nextOnMapWay_19 (by decide) ?_
        refine lv_icmp_eq (tgt := 57) hx hb dX4_nextOnMapWay_20 (by decide) (fun h6 => ?_) (fun h6 => absurd (by rfl) h6)
        obtain ⟨x7, e7⟩ : ∃ z : Int32, z = nI i + 1 := ⟨_, rfl⟩
        refine lv_iinc (v := x7) (lv' := [(2, .int x7), (3, .int (-1)), (0, .ref g), (1, .int (nI ce))]) hx hb dX4_nextOnMapWay_57 hl (k := 1) rfl (by rw [e7]; rfl) (by decide) rfl (fun ls hl => ?_)
        obtain rfl : x7 = nI (i + 1) := e7.trans (nI_add i 1)
        refine lv_goto (tgt := 2) hx hb dX4_nextOnMapWay_60 (by decide) ?_
        exact ih  (i + 1) _ _ _ (by omega) (by rw [← hM]; exact (nxF_none (by rw [hs3]; exact hbm)).symm) (lv_sub hl [0, 2, 3] rfl) (hP.sub [0, 1, 2, 3, 4, 5, 6, 7, 8, 9] rfl) (hD.sub [0, 1, 2, 3, 4, 5, 6, 7, 8, 9] (by decide) rfl) hS
      · have hnx : nx ≤ 24 := beM_le hc hbm
        refine lv_iload_n hx hb dX4_nextOnMapWay_2 rfl (lv_at hl 0 rfl) ?_
        refine lv_iconst (v := 4) hx hb dX4_nextOnMapWay_3 (by decide) ?_
        refine lv_icmp_ge (tgt := 63) hx hb dX4_nextOnMapWay_4 (by decide) (fun h8 => absurd h8 (by exact fun q9 => absurd ((nI_leI (a := 4) (b := i) (by omega) (by omega)).mp q9) (by omega))) (fun h8 => ?_)
        refine lv_aload_n hx hb dX4_nextOnMapWay_7 rfl (lv_at hl 1 rfl) ?_
        refine va_get (D := D) (ci := 11) (v := .ref a9) (C := RX4) (T := TX4) (N := 14) hx hb hts hb_0 hown hK hP 0 rfl rfl 9 (by decide) hw_0 (fun _ h9 => h9) rfl dX4_nextOnMapWay_8 ?_
        refine lv_iload_n hx hb dX4_nextOnMapWay_11 rfl (lv_at hl 2 rfl) ?_
        refine lv_iconst (v := 4) hx hb dX4_nextOnMapWay_12 (by decide) ?_
        refine lv_imul hx hb dX4_nextOnMapWay_13 ?_
        refine lv_topi (fun x9 e9 => ?_)
        obtain rfl : x9 = nI (ce * 4) := e9.trans (pk_mul ce 4)
        refine lv_iload_n hx hb dX4_nextOnMapWay_14 rfl (lv_at hl 0 rfl) ?_
        refine lv_iadd hx hb dX4_nextOnMapWay_15 ?_
        refine lv_topi (fun x10 e10 => ?_)
        obtain rfl : x10 = nI ((ce * 4) + i) := e10.trans (nI_add (ce * 4) i)
        refine va_iald hx hb hK hP 9 8 rfl rfl (vp_in_nI (n := (ce * 4) + i) (by omega) (by decide)) dX4_nextOnMapWay_16 ?_
        refine lv_topi (fun x11 e11 => ?_)
        obtain rfl : x11 = nI nx := e11.trans (beF_some hc (by omega) hbm)
        refine lv_istore_n (lv' := [(3, .int (nI nx)), (2, .int (nI i)), (0, .ref g), (1, .int (nI ce))]) hx hb dX4_nextOnMapWay_17 rfl hl (by decide) rfl (fun ls hl => ?_)
        refine lv_iload_n hx hb dX4_nextOnMapWay_18 rfl (lv_at hl 0 rfl) ?_
        refine lv_iconst (v := -1) hx hb dX4_nextOnMapWay_19 (by decide) ?_
        refine lv_icmp_eq (tgt := 57) hx hb dX4_nextOnMapWay_20 (by decide) (fun h12 => absurd h12 (by exact nI_nm1 (by omega))) (fun h12 => ?_)
        refine lv_aload_n hx hb dX4_nextOnMapWay_23 rfl (lv_at hl 2 rfl) ?_
        refine lv_iload_n hx hb dX4_nextOnMapWay_24 rfl (lv_at hl 0 rfl) ?_
        refine lv_iconst (v := 1) hx hb dX4_nextOnMapWay_25 (by decide) ?_
        refine mc_i (wr := [(a6, .inl (cw, 144, .inl (fL w))), (a10, .inl (cq, 144, .inl (fL q))), (a11, .inl (cz, 144, .inl (fL z))), (a1, .inl (cg, 144, .inl (fun _ => 0))), (a2, .inl (ch, 144, .inl (fun _ => 0))), (a4, .inl (csg, 144, .inl (fun _ => 0))), (a9, .inl (cb, 576, .inl beF))]) (va_runV (As := [.int (nI nx), .int 1]) (rest := []) ⟨hx, hb, hml, hown, hts⟩ (c_canEnter l hst D g a1 a2 a3 a4 a5 a6 a7 a8 a9 a10 a11 n hd wt ck csk nx 1 H.size (by omega)) (cwV 2 hts (gi_c (List.mem_cons_of_mem _ (List.mem_append_left _ (List.mem_of_getElem? (i := 1) rfl))) rfl (gi_c (List.mem_cons_of_mem _ (List.mem_append_left _ (List.mem_of_getElem? (i := 2) rfl))) rfl (gi_c (List.mem_cons_of_mem _ (List.mem_append_left _ (List.mem_of_getElem? (i := 3) rfl))) rfl (gi_c (List.mem_cons_of_mem _ (List.mem_append_left _ (List.mem_of_getElem? (i := 4) rfl))) rfl (goodIn_sub hb_1 (List.all_eq_true.mpr gw_c_canEnter)))))) rfl rfl rfl (by decide +kernel) ⟨Nat.le_of_ble_eq_true rfl, Nat.le_of_ble_eq_true rfl⟩) (pr_V (As := [.int (nI nx), .int 1]) (b := g) (C := RX4) hP hD hK hS hA hE [0, 4, 5] [3, 4] rfl rfl rfl 0 11 rfl rfl rfl) rfl rfl hl.1 rfl (lv_room (Nat.le_of_ble_eq_true rfl)) dX4_nextOnMapWay_26 ⟨Nat.le_of_ble_eq_true rfl, Nat.le_of_ble_eq_true rfl⟩) hP hD hK hS hA [0, 4, 5] [1, 2, 3, 6, 7, 8, 9] rfl rfl (by decide) (by decide) (fun r14 _ H locs w13 hP hD hK hS => ?_)
        have hP : va_P D vwCl [(a6, .inl (cw, 144, .inl (fL w))), (a10, .inl (cq, 144, .inl (fL q))), (a11, .inl (cz, 144, .inl (fL z))), (a1, .inl (cg, 144, .inl (fun _ => 0))), (a2, .inl (ch, 144, .inl (fun _ => 0))), (a4, .inl (csg, 144, .inl (fun _ => 0))), (a9, .inl (cb, 576, .inl beF)), (g, .inr (11, [.int n, .ref a1, .ref a2, .ref a3, .ref a4, .ref a5, .ref a6, .ref a7, .ref a8, .ref a9, .ref a10, .ref a11, .int hd, .int wt])), (a3, .inl (ck, 144, .inl okF)), (a5, .inl (csk, 144, .inl okF))] H := hP
        have hD : va_D A [(a6, .inl (cw, 144, .inl (fL w))), (a10, .inl (cq, 144, .inl (fL q))), (a11, .inl (cz, 144, .inl (fL z))), (a1, .inl (cg, 144, .inl (fun _ => 0))), (a2, .inl (ch, 144, .inl (fun _ => 0))), (a4, .inl (csg, 144, .inl (fun _ => 0))), (a9, .inl (cb, 576, .inl beF)), (g, .inr (11, [.int n, .ref a1, .ref a2, .ref a3, .ref a4, .ref a5, .ref a6, .ref a7, .ref a8, .ref a9, .ref a10, .ref a11, .int hd, .int wt])), (a3, .inl (ck, 144, .inl okF)), (a5, .inl (csk, 144, .inl okF))] := hD
        have hK : va_K D vwCl [(cw, .int), (cq, .int), (cz, .boolean), (ck, .char), (csk, .char), (cg, .int), (ch, .int), (csg, .int), (cb, .int)] s := hK
        obtain rfl : r14 = 1 := w13
        refine lv_if_eq (tgt := 57) hx hb dX4_nextOnMapWay_29 (by decide) (fun h15 => absurd h15 (by decide)) (fun h15 => ?_)
        refine lv_aload_n hx hb dX4_nextOnMapWay_32 rfl (lv_at hl 2 rfl) ?_
        refine va_get (D := D) (ci := 11) (v := .ref a6) (C := RX4) (T := TX4) (N := 14) hx hb hts hb_0 hown hK hP 7 rfl rfl 6 (by decide) hw_5 (fun _ h9 => h9) rfl dX4_nextOnMapWay_33 ?_
        refine lv_iload_n hx hb dX4_nextOnMapWay_36 rfl (lv_at hl 0 rfl) ?_
        refine va_iald hx hb hK hP 0 0 rfl rfl (vp_in_nI (n := nx) (by omega) (by decide)) dX4_nextOnMapWay_37 ?_
        have b16 := hw nx
        refine lv_topi (fun x17 e17 => ?_)
        obtain rfl : x17 = nI (w.getD nx 0) := e17.trans (fL_at (by omega))
        refine lv_aload_n hx hb dX4_nextOnMapWay_38 rfl (lv_at hl 2 rfl) ?_
        refine lv_iload_n hx hb dX4_nextOnMapWay_39 rfl (lv_at hl 3 rfl) ?_
        refine lv_iload_n hx hb dX4_nextOnMapWay_40 rfl (lv_at hl 0 rfl) ?_
        refine lv_iconst (v := 1) hx hb dX4_nextOnMapWay_41 (by decide) ?_
        refine mc_i (wr := [(a6, .inl (cw, 144, .inl (fL w))), (a10, .inl (cq, 144, .inl (fL q))), (a11, .inl (cz, 144, .inl (fL z))), (a9, .inl (cb, 576, .inl beF)), (a3, .inl (ck, 144, .inl okF)), (a5, .inl (csk, 144, .inl okF))]) (va_runV (As := [.int (nI ce), .int (nI nx), .int 1]) (rest := [.int (nI (w.getD nx 0))]) ⟨hx, hb, hml, hown, hts⟩ (c_step l hst D g a1 a2 a3 a4 a5 a6 a7 a8 a9 a10 a11 n hd wt cg ch csg ce nx 1 H.size (by omega) (by omega)) (cwV 3 hts (gi_c (List.mem_cons_of_mem _ (List.mem_append_left _ (List.mem_of_getElem? (i := 6) rfl))) rfl (gi_c (List.mem_cons_of_mem _ (List.mem_append_left _ (List.mem_of_getElem? (i := 7) rfl))) rfl (gi_c (List.mem_cons_of_mem _ (List.mem_append_left _ (List.mem_of_getElem? (i := 8) rfl))) rfl (gi_c (List.mem_cons_of_mem _ (List.mem_append_left _ (List.mem_of_getElem? (i := 4) rfl))) rfl (goodIn_sub hb_2 (List.all_eq_true.mpr gw_c_step)))))) rfl rfl rfl (by decide +kernel) ⟨Nat.le_of_ble_eq_true rfl, Nat.le_of_ble_eq_true rfl⟩) (pr_V (As := [.int (nI ce), .int (nI nx), .int 1]) (b := g) (C := RX4) hP hD hK hS hA hE [7, 3, 4, 5] [5, 6, 7] rfl rfl rfl 7 11 rfl rfl rfl) rfl rfl hl.1 rfl (lv_room (Nat.le_of_ble_eq_true rfl)) dX4_nextOnMapWay_42 ⟨Nat.le_of_ble_eq_true rfl, Nat.le_of_ble_eq_true rfl⟩) hP hD hK hS hA [7, 3, 4, 5] [0, 1, 2, 6, 8, 9] rfl rfl (by decide) (by decide) (fun r19 _ H locs w18 hP hD hK hS => ?_)
        have hP : va_P D vwCl [(a6, .inl (cw, 144, .inl (fL w))), (a10, .inl (cq, 144, .inl (fL q))), (a11, .inl (cz, 144, .inl (fL z))), (a9, .inl (cb, 576, .inl beF)), (a3, .inl (ck, 144, .inl okF)), (a5, .inl (csk, 144, .inl okF)), (g, .inr (11, [.int n, .ref a1, .ref a2, .ref a3, .ref a4, .ref a5, .ref a6, .ref a7, .ref a8, .ref a9, .ref a10, .ref a11, .int hd, .int wt])), (a1, .inl (cg, 144, .inl (fun _ => 0))), (a2, .inl (ch, 144, .inl (fun _ => 0))), (a4, .inl (csg, 144, .inl (fun _ => 0)))] H := hP
        have hD : va_D A [(a6, .inl (cw, 144, .inl (fL w))), (a10, .inl (cq, 144, .inl (fL q))), (a11, .inl (cz, 144, .inl (fL z))), (a9, .inl (cb, 576, .inl beF)), (a3, .inl (ck, 144, .inl okF)), (a5, .inl (csk, 144, .inl okF)), (g, .inr (11, [.int n, .ref a1, .ref a2, .ref a3, .ref a4, .ref a5, .ref a6, .ref a7, .ref a8, .ref a9, .ref a10, .ref a11, .int hd, .int wt])), (a1, .inl (cg, 144, .inl (fun _ => 0))), (a2, .inl (ch, 144, .inl (fun _ => 0))), (a4, .inl (csg, 144, .inl (fun _ => 0)))] := hD
        have hK : va_K D vwCl [(cw, .int), (cq, .int), (cz, .boolean), (ck, .char), (csk, .char), (cg, .int), (ch, .int), (csg, .int), (cb, .int)] s := hK
        obtain rfl : r19 = 10 := w18
        refine lv_iadd hx hb dX4_nextOnMapWay_45 ?_
        refine lv_topi (fun x20 e20 => ?_)
        obtain rfl : x20 = nI ((w.getD nx 0) + 10) := e20.trans (nI_add (w.getD nx 0) 10)
        refine lv_aload_n hx hb dX4_nextOnMapWay_46 rfl (lv_at hl 2 rfl) ?_
        refine va_get (D := D) (ci := 11) (v := .ref a6) (C := RX4) (T := TX4) (N := 14) hx hb hts hb_0 hown hK hP 6 rfl rfl 6 (by decide) hw_5 (fun _ h9 => h9) rfl dX4_nextOnMapWay_47 ?_
        refine lv_iload_n hx hb dX4_nextOnMapWay_50 rfl (lv_at hl 3 rfl) ?_
        refine va_iald hx hb hK hP 0 0 rfl rfl (vp_in_nI (n := ce) (by omega) (by decide)) dX4_nextOnMapWay_51 ?_
        have b21 := hw ce
        refine lv_topi (fun x22 e22 => ?_)
        obtain rfl : x22 = nI (w.getD ce 0) := e22.trans (fL_at (by omega))
        refine lv_icmp_ne (tgt := 57) hx hb dX4_nextOnMapWay_52 (by decide) (fun h23 => ?_) (fun h23 => ?_)
        · have n23 : ¬ (((w.getD nx 0) + 10) = (w.getD ce 0)) := fun q9 => h23 ((nI_eq (a := ((w.getD nx 0) + 10)) (b := (w.getD ce 0)) (by omega) (by omega)).mpr q9)
          obtain ⟨x24, e24⟩ : ∃ z : Int32, z = nI i + 1 := ⟨_, rfl⟩
          refine lv_iinc (v := x24) (lv' := [(2, .int x24), (3, .int (nI nx)), (0, .ref g), (1, .int (nI ce))]) hx hb dX4_nextOnMapWay_57 hl (k := 1) rfl (by rw [e24]; rfl) (by decide) rfl (fun ls hl => ?_)
          obtain rfl : x24 = nI (i + 1) := e24.trans (nI_add i 1)
          refine lv_goto (tgt := 2) hx hb dX4_nextOnMapWay_60 (by decide) ?_
          exact ih  (i + 1) _ _ _ (by omega) (by rw [← hM]; exact (nxF_no (by rw [hs3]; exact hbm) n23).symm) (lv_sub hl [0, 2, 3] rfl) (hP.sub [6, 0, 1, 2, 4, 5, 7, 8, 9, 3] rfl) (hD.sub [6, 0, 1, 2, 4, 5, 7, 8, 9, 3] (by decide) rfl) hS
        · have n23 : ((w.getD nx 0) + 10) = (w.getD ce 0) := (nI_eq (a := ((w.getD nx 0) + 10)) (b := (w.getD ce 0)) (by omega) (by omega)).mp h23
          refine lv_iload_n hx hb dX4_nextOnMapWay_55 rfl (lv_at hl 0 rfl) ?_
          exact mr_i hx hb hr () (by rw [← hM, nxF_yes (by rw [hs3]; exact hbm) n23]; rfl) (hP.sub [6, 0, 1, 2, 4, 5, 7, 8, 9, 3] rfl) (hK.sub [] rfl) (hD.sub [6, 0, 1, 2, 4, 5, 7, 8, 9, 3] (by decide) rfl) hS (Nat.le_of_ble_eq_true rfl) (Nat.le_of_ble_eq_true rfl) hlocks dX4_nextOnMapWay_56
  exact lp 4 0 _ _ _ rfl rfl (lv_sub hl [0, 1, 2] rfl) (hP.sub [0, 1, 2, 3, 4, 5, 6, 7, 8, 9] rfl) (hD.sub [0, 1, 2, 3, 4, 5, 6, 7, 8, 9] (by decide) rfl) hS

def us_c_costOfMapWay : List Cond := .code yX4_costOfMapWay cX4_costOfMapWay 7 (some .int) :: (([.constant RX4 67 (1000000), .methodLink RX4 68 yX4_spread, .instanceMethod yX4_spread, .selects RX4 yX4_spread yX4_spread, .initialized RX4, .fieldLink RX4 28 "ControlWood$Terrain" "ways" "[I", .methodLink RX4 72 yX4_nextOnMapWay, .instanceMethod yX4_nextOnMapWay, .selects RX4 yX4_nextOnMapWay yX4_nextOnMapWay, .fieldLink RX4 18 "ControlWood$Terrain" "kinds" "[C", .methodLink RX4 75 yX4_step, .instanceMethod yX4_step, .selects RX4 yX4_step yX4_step] : List Cond) ++ (us_c_spread ++ (wsX40 ++ (us_c_nextOnMapWay ++ (us_c_step ++ ([]))))))
theorem gw_c_costOfMapWay : ∀ w ∈ us_c_costOfMapWay, goodWord w = true := gw_cons rfl (gw_app (by decide +kernel) (gw_app gw_c_spread (gw_app gwf_X4 (gw_app gw_c_nextOnMapWay (gw_app gw_c_step (fun _ h => nomatch h))))))
set_option maxHeartbeats 4000000 in
set_option maxRecDepth 100000 in
/-- costOfMapWay -/
theorem c_costOfMapWay (l : Launch) (hst : l.stackTraces = false) (D : va_G) (g : Nat) (a1 : Nat) (a2 : Nat) (a3 : Nat) (a4 : Nat) (a5 : Nat) (a6 : Nat) (a7 : Nat) (a8 : Nat) (a9 : Nat) (a10 : Nat) (a11 : Nat) (n : Int32) (hd : Int32) (wt : Int32) (cw : ClassId) (cq : ClassId) (cz : ClassId) (ck : ClassId) (csk : ClassId) (cg : ClassId) (ch : ClassId) (csg : ClassId) (cb : ClassId) (w0 : List Nat) (q : List Nat) (z : List Nat) (fr : Nat) (to : Nat) (sz : Nat) (hw0 : w0.length = 144) (hq : okQ q z) (hf : fr ≤ 24) (ht : to ≤ 24) (hlow : (goM 1000000 to q z).1.getD fr 0 < 1000000) : Met l yX4_costOfMapWay us_c_costOfMapWay { frames := 4, cells := 0, slots := 0, locals := 91 } (pw D [.ref g, .int (nI fr), .int (nI to)] [(cw, .int), (cq, .int), (cz, .boolean), (ck, .char), (csk, .char), (cg, .int), (ch, .int), (csg, .int), (cb, .int)] [(g, .inr (11, [.int n, .ref a1, .ref a2, .ref a3, .ref a4, .ref a5, .ref a6, .ref a7, .ref a8, .ref a9, .ref a10, .ref a11, .int hd, .int wt])), (a6, .inl (cw, 144, .inl (fL w0))), (a10, .inl (cq, 144, .inl (fL q))), (a11, .inl (cz, 144, .inl (fL z))), (a3, .inl (ck, 144, .inl okF)), (a5, .inl (csk, 144, .inl okF)), (a1, .inl (cg, 144, .inl (fun _ => 0))), (a2, .inl (ch, 144, .inl (fun _ => 0))), (a4, .inl (csg, 144, .inl (fun _ => 0))), (a9, .inl (cb, 576, .inl beF))] sz) (va_Qi (fun (r : Int32) (_ : Unit) => r = nI (cmM 144 (goM 1000000 to q z).1 fr to 0)) (qb D (va_A [(g, .inr (11, [.int n, .ref a1, .ref a2, .ref a3, .ref a4, .ref a5, .ref a6, .ref a7, .ref a8, .ref a9, .ref a10, .ref a11, .int hd, .int wt])), (a6, .inl (cw, 144, .inl (fL w0))), (a10, .inl (cq, 144, .inl (fL q))), (a11, .inl (cz, 144, .inl (fL z))), (a3, .inl (ck, 144, .inl okF)), (a5, .inl (csk, 144, .inl okF)), (a1, .inl (cg, 144, .inl (fun _ => 0))), (a2, .inl (ch, 144, .inl (fun _ => 0))), (a4, .inl (csg, 144, .inl (fun _ => 0))), (a9, .inl (cb, 576, .inl beF))] sz) (fun _ : Unit => []) (fun _ : Unit => ([] : List (ClassId × FieldType)))) (va_A [(g, .inr (11, [.int n, .ref a1, .ref a2, .ref a3, .ref a4, .ref a5, .ref a6, .ref a7, .ref a8, .ref a9, .ref a10, .ref a11, .int hd, .int wt])), (a6, .inl (cw, 144, .inl (fL w0))), (a10, .inl (cq, 144, .inl (fL q))), (a11, .inl (cz, 144, .inl (fL z))), (a3, .inl (ck, 144, .inl okF)), (a5, .inl (csk, 144, .inl okF)), (a1, .inl (cg, 144, .inl (fun _ => 0))), (a2, .inl (ch, 144, .inl (fun _ => 0))), (a4, .inl (csg, 144, .inl (fun _ => 0))), (a9, .inl (cb, 576, .inl beF))] sz)) 0 0 (va_A [(g, .inr (11, [.int n, .ref a1, .ref a2, .ref a3, .ref a4, .ref a5, .ref a6, .ref a7, .ref a8, .ref a9, .ref a10, .ref a11, .int hd, .int wt])), (a6, .inl (cw, 144, .inl (fL w0))), (a10, .inl (cq, 144, .inl (fL q))), (a11, .inl (cz, 144, .inl (fL z))), (a3, .inl (ck, 144, .inl okF)), (a5, .inl (csk, 144, .inl okF)), (a1, .inl (cg, 144, .inl (fun _ => 0))), (a2, .inl (ch, 144, .inl (fun _ => 0))), (a4, .inl (csg, 144, .inl (fun _ => 0))), (a9, .inl (cb, 576, .inl beF))] sz) := by
  refine op_M (Qc := fun A => (va_Qi (fun (r : Int32) (_ : Unit) => r = nI (cmM 144 (goM 1000000 to q z).1 fr to 0)) (qb D A (fun _ : Unit => []) (fun _ : Unit => ([] : List (ClassId × FieldType)))) A)) (by decide +kernel) rfl (Nat.le_of_ble_eq_true rfl) ?_
  intro p e s m args below meth c A ls hx hb hr hml hts hown hlocks hmn htab hA hD hS hP hK hE hsz hl
  have hown : s.vm.findClass RX4 = some m.cls := hown
  have hl : lv_has ls 7 [(0, .ref g), (1, .int (nI fr)), (2, .int (nI to))] := hl
  have hw_0 := hts (.constant RX4 67 (1000000)) (List.mem_cons_of_mem _ (List.mem_append_left _ (List.mem_of_getElem? (i := 0) rfl)))
  have hw_1 := hts (.methodLink RX4 68 yX4_spread) (List.mem_cons_of_mem _ (List.mem_append_left _ (List.mem_of_getElem? (i := 1) rfl)))
  have hw_2 := hts (.instanceMethod yX4_spread) (List.mem_cons_of_mem _ (List.mem_append_left _ (List.mem_of_getElem? (i := 2) rfl)))
  have hw_3 := hts (.selects RX4 yX4_spread yX4_spread) (List.mem_cons_of_mem _ (List.mem_append_left _ (List.mem_of_getElem? (i := 3) rfl)))
  have hw_4 := hts (.initialized RX4) (List.mem_cons_of_mem _ (List.mem_append_left _ (List.mem_of_getElem? (i := 4) rfl)))
  have hw_5 := hts (.fieldLink RX4 28 "ControlWood$Terrain" "ways" "[I") (List.mem_cons_of_mem _ (List.mem_append_left _ (List.mem_of_getElem? (i := 5) rfl)))
  have hw_6 := hts (.methodLink RX4 72 yX4_nextOnMapWay) (List.mem_cons_of_mem _ (List.mem_append_left _ (List.mem_of_getElem? (i := 6) rfl)))
  have hw_7 := hts (.instanceMethod yX4_nextOnMapWay) (List.mem_cons_of_mem _ (List.mem_append_left _ (List.mem_of_getElem? (i := 7) rfl)))
  have hw_8 := hts (.selects RX4 yX4_nextOnMapWay yX4_nextOnMapWay) (List.mem_cons_of_mem _ (List.mem_append_left _ (List.mem_of_getElem? (i := 8) rfl)))
  have hw_9 := hts (.fieldLink RX4 18 "ControlWood$Terrain" "kinds" "[C") (List.mem_cons_of_mem _ (List.mem_append_left _ (List.mem_of_getElem? (i := 9) rfl)))
  have hw_10 := hts (.methodLink RX4 75 yX4_step) (List.mem_cons_of_mem _ (List.mem_append_left _ (List.mem_of_getElem? (i := 10) rfl)))
  have hw_11 := hts (.instanceMethod yX4_step) (List.mem_cons_of_mem _ (List.mem_append_left _ (List.mem_of_getElem? (i := 11) rfl)))
  have hw_12 := hts (.selects RX4 yX4_step yX4_step) (List.mem_cons_of_mem _ (List.mem_append_left _ (List.mem_of_getElem? (i := 12) rfl)))
  have hb_0 : ∀ w ∈ us_c_spread, w ∈ us_c_costOfMapWay := fun w h => List.mem_cons_of_mem _ (List.mem_append_right _ (List.mem_append_left _ h))
  have hb_1 : ∀ w ∈ wsX40, w ∈ us_c_costOfMapWay := fun w h => List.mem_cons_of_mem _ (List.mem_append_right _ (List.mem_append_right _ (List.mem_append_left _ h)))
  have hb_2 : ∀ w ∈ us_c_nextOnMapWay, w ∈ us_c_costOfMapWay := fun w h => List.mem_cons_of_mem _ (List.mem_append_right _ (List.mem_append_right _ (List.mem_append_right _ (List.mem_append_left _ h))))
  have hb_3 : ∀ w ∈ us_c_step, w ∈ us_c_costOfMapWay := fun w h => List.mem_cons_of_mem _ (List.mem_append_right _ (List.mem_append_right _ (List.mem_append_right _ (List.mem_append_right _ (List.mem_append_left _ h)))))
  refine lv_aload_n hx hb dX4_costOfMapWay_0 rfl (lv_at hl 0 rfl) ?_
  refine lv_iload_n hx hb dX4_costOfMapWay_1 rfl (lv_at hl 2 rfl) ?_
  refine lv_iconst (v := 1) hx hb dX4_costOfMapWay_2 (by decide) ?_
  refine lv_iconst (v := 1) hx hb dX4_costOfMapWay_3 (by decide) ?_
  refine lv_ldc hx hb hown hw_0 dX4_costOfMapWay_4 ?_
  refine mc_v (wr := []) (va_runV (As := [.int (nI to), .int 1, .int 1, .int 1000000]) (rest := []) ⟨hx, hb, hml, hown, hts⟩ (c_spread l hst D g a1 a2 a3 a4 a5 a6 a7 a8 a9 a10 a11 n hd wt cw cq cz ck csk cg ch csg cb w0 q z to 1 1 1000000 s.heap.size (hw0) (hq) (ht) (by decide)) (cwV 4 hts (gi_c (List.mem_cons_of_mem _ (List.mem_append_left _ (List.mem_of_getElem? (i := 1) rfl))) rfl (gi_c (List.mem_cons_of_mem _ (List.mem_append_left _ (List.mem_of_getElem? (i := 2) rfl))) rfl (gi_c (List.mem_cons_of_mem _ (List.mem_append_left _ (List.mem_of_getElem? (i := 3) rfl))) rfl (gi_c (List.mem_cons_of_mem _ (List.mem_append_left _ (List.mem_of_getElem? (i := 4) rfl))) rfl (goodIn_sub hb_0 (List.all_eq_true.mpr gw_c_spread)))))) rfl rfl rfl (by decide +kernel) ⟨Nat.le_of_ble_eq_true rfl, Nat.le_of_ble_eq_true rfl⟩) (pr_V (As := [.int (nI to), .int 1, .int 1, .int 1000000]) (b := g) (C := RX4) hP hD hK hS hA hE [0, 1, 2, 3, 4, 5, 6, 7, 8, 9] [0, 1, 2, 3, 4, 5, 6, 7, 8] rfl rfl rfl 0 11 rfl rfl rfl) rfl rfl hl.1 rfl (lv_room (Nat.le_of_ble_eq_true rfl)) dX4_costOfMapWay_6 ⟨Nat.le_of_ble_eq_true rfl, Nat.le_of_ble_eq_true rfl⟩) hP hD hK hS hA [0, 1, 2, 3, 4, 5, 6, 7, 8, 9] [] rfl rfl (by decide) (by decide) (fun u1 H locs w2 hP hD hK hS => ?_)
  have hP : va_P D vwCl [(g, .inr (11, [.int n, .ref a1, .ref a2, .ref a3, .ref a4, .ref a5, .ref a6, .ref a7, .ref a8, .ref a9, .ref a10, .ref a11, .int (nI u1.2.2.2.1), .int (nI u1.2.2.2.2)])), (a6, .inl (cw, 144, .inl (fL u1.1))), (a10, .inl (cq, 144, .inl (fL u1.2.1))), (a11, .inl (cz, 144, .inl (fL u1.2.2.1))), (a3, .inl (ck, 144, .inl okF)), (a5, .inl (csk, 144, .inl okF)), (a1, .inl (cg, 144, .inl (fun _ => 0))), (a2, .inl (ch, 144, .inl (fun _ => 0))), (a4, .inl (csg, 144, .inl (fun _ => 0))), (a9, .inl (cb, 576, .inl beF))] H := hP
  have hD : va_D A [(g, .inr (11, [.int n, .ref a1, .ref a2, .ref a3, .ref a4, .ref a5, .ref a6, .ref a7, .ref a8, .ref a9, .ref a10, .ref a11, .int (nI u1.2.2.2.1), .int (nI u1.2.2.2.2)])), (a6, .inl (cw, 144, .inl (fL u1.1))), (a10, .inl (cq, 144, .inl (fL u1.2.1))), (a11, .inl (cz, 144, .inl (fL u1.2.2.1))), (a3, .inl (ck, 144, .inl okF)), (a5, .inl (csk, 144, .inl okF)), (a1, .inl (cg, 144, .inl (fun _ => 0))), (a2, .inl (ch, 144, .inl (fun _ => 0))), (a4, .inl (csg, 144, .inl (fun _ => 0))), (a9, .inl (cb, 576, .inl beF))] := hD
  have hK : va_K D vwCl [(cw, .int), (cq, .int), (cz, .boolean), (ck, .char), (csk, .char), (cg, .int), (ch, .int), (csg, .int), (cb, .int)] s := hK
  obtain ⟨hgo, oku⟩ := w2
  obtain ⟨ok1, ok2, ok3, ok4, ok5, ok6, ok7, ok8⟩ := id oku
  refine lv_aload_n hx hb dX4_costOfMapWay_9 rfl (lv_at hl 0 rfl) ?_
  refine va_get (D := D) (ci := 11) (v := .ref a6) (C := RX4) (T := TX4) (N := 14) hx hb hts hb_1 hown hK hP 0 rfl rfl 6 (by decide) hw_5 (fun _ h9 => h9) rfl dX4_costOfMapWay_10 ?_
  refine lv_iload_n hx hb dX4_costOfMapWay_13 rfl (lv_at hl 1 rfl) ?_
  refine va_iald hx hb hK hP 1 0 rfl rfl (vp_in_nI (n := fr) (by omega) (by decide)) dX4_costOfMapWay_14 ?_
  have b4 := ok6 fr
  refine lv_topi (fun x5 e5 => ?_)
  obtain rfl : x5 = nI (u1.1.getD fr 0) := e5.trans (fL_at (by omega))
  refine lv_ldc hx hb hown hw_0 dX4_costOfMapWay_15 ?_
  refine lv_icmp_lt (tgt := 23) hx hb dX4_costOfMapWay_17 (by decide) (fun h6 => ?_) (fun h6 => absurd (by rw [← hgo] at hlow; exact (nI_ltI (by omega) (by decide)).mpr hlow) h6)
  refine lv_iload_n hx hb dX4_costOfMapWay_23 rfl (lv_at hl 1 rfl) ?_
  refine lv_istore_n (lv' := [(3, .int (nI fr)), (0, .ref g), (1, .int (nI fr)), (2, .int (nI to))]) hx hb dX4_costOfMapWay_24 rfl hl (by decide) rfl (fun ls hl => ?_)
  refine lv_iconst (v := 0) hx hb dX4_costOfMapWay_25 (by decide) ?_
  refine lv_istore (lv' := [(4, .int 0), (3, .int (nI fr)), (0, .ref g), (1, .int (nI fr)), (2, .int (nI to))]) hx hb dX4_costOfMapWay_26 hl (by decide) rfl (fun ls hl => ?_)
  refine lv_iconst (v := 0) hx hb dX4_costOfMapWay_28 (by decide) ?_
  refine lv_istore (lv' := [(5, .int 0), (4, .int 0), (3, .int (nI fr)), (0, .ref g), (1, .int (nI fr)), (2, .int (nI to))]) hx hb dX4_costOfMapWay_29 hl (by decide) rfl (fun ls hl => ?_)
  have lp : ∀ (fu : Nat) (i : Nat) (ce : Nat) (su : Nat) (H : Heap) (locs : List Loc) (ls : Array Slot), (i + fu = 144) → (ce ≤ 24) → (su ≤ 10 * i) → (cmM fu u1.1 ce to su = cmM 144 u1.1 fr to 0) → lv_has ls 7 [(5, .int (nI i)), (4, .int (nI su)), (3, .int (nI ce)), (0, .ref g), (1, .int (nI fr)), (2, .int (nI to))] → va_P D vwCl [(g, .inr (11, [.int n, .ref a1, .ref a2, .ref a3, .ref a4, .ref a5, .ref a6, .ref a7, .ref a8, .ref a9, .ref a10, .ref a11, .int (nI u1.2.2.2.1), .int (nI u1.2.2.2.2)])), (a6, .inl (cw, 144, .inl (fL u1.1))), (a10, .inl (cq, 144, .inl (fL u1.2.1))), (a11, .inl (cz, 144, .inl (fL u1.2.2.1))), (a3, .inl (ck, 144, .inl okF)), (a5, .inl (csk, 144, .inl okF)), (a1, .inl (cg, 144, .inl (fun _ => 0))), (a2, .inl (ch, 144, .inl (fun _ => 0))), (a4, .inl (csg, 144, .inl (fun _ => 0))), (a9, .inl (cb, 576, .inl beF))] H → va_D A [(g, .inr (11, [.int n, .ref a1, .ref a2, .ref a3, .ref a4, .ref a5, .ref a6, .ref a7, .ref a8, .ref a9, .ref a10, .ref a11, .int (nI u1.2.2.2.1), .int (nI u1.2.2.2.2)])), (a6, .inl (cw, 144, .inl (fL u1.1))), (a10, .inl (cq, 144, .inl (fL u1.2.1))), (a11, .inl (cz, 144, .inl (fL u1.2.2.1))), (a3, .inl (ck, 144, .inl okF)), (a5, .inl (csk, 144, .inl okF)), (a1, .inl (cg, 144, .inl (fun _ => 0))), (a2, .inl (ch, 144, .inl (fun _ => 0))), (a4, .inl (csg, 144, .inl (fun _ => 0))), (a9, .inl (cb, 576, .inl beF))] → va_S A s.heap H locs → W p l e { frames := 4, cells := 0, slots := 0, locals := 91 } s m args below meth c H locs 0 0 (MQ below (va_Qi (fun (r : Int32) (_ : Unit) => r = nI (cmM 144 (goM 1000000 to q z).1 fr to 0)) (qb D A (fun _ : Unit => []) (fun _ : Unit => ([] : List (ClassId × FieldType)))) A) args s 0 0 A) (F0 m 31 ls []) := by
    intro fu
    induction fu with
    | zero =>
      intro i ce su H locs ls hi hc hs hM hl hP hD hS
      have hi : i + 0 = 144 := hi
      have hc : ce ≤ 24 := hc
      have hs : su ≤ 10 * i := hs
      have hM : cmM 0 u1.1 ce to su = cmM 144 u1.1 fr to 0 := hM
      refine lv_iload_n hx hb dX4_costOfMapWay_31 rfl (lv_at hl 2 rfl) ?_
      refine lv_iload_n hx hb dX4_costOfMapWay_32 rfl (lv_at hl 5 rfl) ?_
      refine lv_icmp_eq (tgt := 94) hx hb dX4_costOfMapWay_33 (by decide) (fun h7 => ?_) (fun h7 => ?_)
      · have n7 : ce = to := (nI_eq (a := ce) (b := to) (by omega) (by omega)).mp h7
        refine lv_iload hx hb dX4_costOfMapWay_94 (lv_at hl 1 rfl) ?_
        exact mr_i hx hb hr () (by rw [← hgo, ← hM]; rfl) (hP.sub [] rfl) (hK.sub [] rfl) (hD.sub [] (by decide) rfl) hS (Nat.le_of_ble_eq_true rfl) (Nat.le_of_ble_eq_true rfl) hlocks dX4_costOfMapWay_96
      · have n7 : ¬ (ce = to) := fun q9 => h7 ((nI_eq (a := ce) (b := to) (by omega) (by omega)).mpr q9)
        refine lv_iload hx hb dX4_costOfMapWay_36 (lv_at hl 0 rfl) ?_
        refine lv_sipush (v := 144) hx hb dX4_costOfMapWay_38 (by decide) ?_
        refine lv_icmp_ge (tgt := 94) hx hb dX4_costOfMapWay_41 (by decide) (fun h8 => ?_) (fun h8 => absurd (by exact (nI_leI (a := 144) (b := i) (by omega) (by omega)).mpr (by omega)) h8)
        refine lv_iload hx hb dX4_costOfMapWay_94 (lv_at hl 1 rfl) ?_
        exact mr_i hx hb hr () (by rw [← hgo, ← hM]; rfl) (hP.sub [] rfl) (hK.sub [] rfl) (hD.sub [] (by decide) rfl) hS (Nat.le_of_ble_eq_true rfl) (Nat.le_of_ble_eq_true rfl) hlocks dX4_costOfMapWay_96
    | succ fu ih =>
      intro i ce su H locs ls hi hc hs hM hl hP hD hS
      have hi : i + (fu + 1) = 144 := hi
      have hc : ce ≤ 24 := hc
      have hs : su ≤ 10 * i := hs
      have hM : cmM (fu + 1) u1.1 ce to su = cmM 144 u1.1 fr to 0 := hM
      refine lv_iload_n hx hb dX4_costOfMapWay_31 rfl (lv_at hl 2 rfl) ?_
      refine lv_iload_n hx hb dX4_costOfMapWay_32 rfl (lv_at hl 5 rfl) ?_
      refine lv_icmp_eq (tgt := 94) hx hb dX4_costOfMapWay_33 (by decide) (fun h9 => ?_) (fun h9 => ?_)
      · have n9 : ce = to := (nI_eq (a := ce) (b := to) (by omega) (by omega)).mp h9
        refine lv_iload hx hb dX4_costOfMapWay_94 (lv_at hl 1 rfl) ?_
        exact mr_i hx hb hr () (by rw [← hgo, ← hM, cmM_eq n9]) (hP.sub [] rfl) (hK.sub [] rfl) (hD.sub [] (by decide) rfl) hS (Nat.le_of_ble_eq_true rfl) (Nat.le_of_ble_eq_true rfl) hlocks dX4_costOfMapWay_96
      · have n9 : ¬ (ce = to) := fun q9 => h9 ((nI_eq (a := ce) (b := to) (by omega) (by omega)).mpr q9)
        refine lv_iload hx hb dX4_costOfMapWay_36 (lv_at hl 0 rfl) ?_
        refine lv_sipush (v := 144) hx hb dX4_costOfMapWay_38 (by decide) ?_
        refine lv_icmp_ge (tgt := 94) hx hb dX4_costOfMapWay_41 (by decide) (fun h10 => absurd h10 (by exact fun q9 => absurd ((nI_leI (a := 144) (b := i) (by omega) (by omega)).mp q9) (by omega))) (fun h10 => ?_)
        refine lv_aload_n hx hb dX4_costOfMapWay_44 rfl (lv_at hl 3 rfl) ?_
        refine lv_iload_n hx hb dX4_costOfMapWay_45 rfl (lv_at hl 2 rfl) ?_
        refine mc_i (wr := []) (va_runV (As := [.int (nI ce)]) (rest := []) ⟨hx, hb, hml, hown, hts⟩ (c_nextOnMapWay l hst D g a1 a2 a3 a4 a5 a6 a7 a8 a9 a10 a11 n (nI u1.2.2.2.1) (nI u1.2.2.2.2) cw cq cz ck csk cg ch csg cb u1.1 u1.2.1 u1.2.2.1 ce H.size (by omega) (ok6)) (cwV 1 hts (gi_c (List.mem_cons_of_mem _ (List.mem_append_left _ (List.mem_of_getElem? (i := 6) rfl))) rfl (gi_c (List.mem_cons_of_mem _ (List.mem_append_left _ (List.mem_of_getElem? (i := 7) rfl))) rfl (gi_c (List.mem_cons_of_mem _ (List.mem_append_left _ (List.mem_of_getElem? (i := 8) rfl))) rfl (gi_c (List.mem_cons_of_mem _ (List.mem_append_left _ (List.mem_of_getElem? (i := 4) rfl))) rfl (goodIn_sub hb_2 (List.all_eq_true.mpr gw_c_nextOnMapWay)))))) rfl rfl rfl (by decide +kernel) ⟨Nat.le_of_ble_eq_true rfl, Nat.le_of_ble_eq_true rfl⟩) (pr_V (As := [.int (nI ce)]) (b := g) (C := RX4) hP hD hK hS hA hE [0, 1, 2, 3, 4, 5, 6, 7, 8, 9] [0, 1, 2, 3, 4, 5, 6, 7, 8] rfl rfl rfl 0 11 rfl rfl rfl) rfl rfl hl.1 rfl (lv_room (Nat.le_of_ble_eq_true rfl)) dX4_costOfMapWay_46 ⟨Nat.le_of_ble_eq_true rfl, Nat.le_of_ble_eq_true rfl⟩) hP hD hK hS hA [0, 1, 2, 3, 4, 5, 6, 7, 8, 9] [] rfl rfl (by decide) (by decide) (fun r12 _ H locs w11 hP hD hK hS => ?_)
        have hP : va_P D vwCl [(g, .inr (11, [.int n, .ref a1, .ref a2, .ref a3, .ref a4, .ref a5, .ref a6, .ref a7, .ref a8, .ref a9, .ref a10, .ref a11, .int (nI u1.2.2.2.1), .int (nI u1.2.2.2.2)])), (a6, .inl (cw, 144, .inl (fL u1.1))), (a10, .inl (cq, 144, .inl (fL u1.2.1))), (a11, .inl (cz, 144, .inl (fL u1.2.2.1))), (a3, .inl (ck, 144, .inl okF)), (a5, .inl (csk, 144, .inl okF)), (a1, .inl (cg, 144, .inl (fun _ => 0))), (a2, .inl (ch, 144, .inl (fun _ => 0))), (a4, .inl (csg, 144, .inl (fun _ => 0))), (a9, .inl (cb, 576, .inl beF))] H := hP
        have hD : va_D A [(g, .inr (11, [.int n, .ref a1, .ref a2, .ref a3, .ref a4, .ref a5, .ref a6, .ref a7, .ref a8, .ref a9, .ref a10, .ref a11, .int (nI u1.2.2.2.1), .int (nI u1.2.2.2.2)])), (a6, .inl (cw, 144, .inl (fL u1.1))), (a10, .inl (cq, 144, .inl (fL u1.2.1))), (a11, .inl (cz, 144, .inl (fL u1.2.2.1))), (a3, .inl (ck, 144, .inl okF)), (a5, .inl (csk, 144, .inl okF)), (a1, .inl (cg, 144, .inl (fun _ => 0))), (a2, .inl (ch, 144, .inl (fun _ => 0))), (a4, .inl (csg, 144, .inl (fun _ => 0))), (a9, .inl (cb, 576, .inl beF))] := hD
        have hK : va_K D vwCl [(cw, .int), (cq, .int), (cz, .boolean), (ck, .char), (csk, .char), (cg, .int), (ch, .int), (csg, .int), (cb, .int)] s := hK
        obtain rfl : r12 = (optI (nxF 4 u1.1 ce)) := w11
        rcases hnx : nxF 4 u1.1 ce with _ | nx
        · refine W.eq (g2 := F0 m 49 ls [.int (-1)]) rfl ?_
          refine lv_istore (lv' := [(6, .int (-1)), (5, .int (nI i)), (4, .int (nI su)), (3, .int (nI ce)), (0, .ref g), (1, .int (nI fr)), (2, .int (nI to))]) hx hb dX4_costOfMapWay_49 hl (by decide) rfl (fun ls hl => ?_)
          refine lv_iload hx hb dX4_costOfMapWay_51 (lv_at hl 0 rfl) ?_
          refine lv_iconst (v := -1) hx hb dX4_costOfMapWay_53 (by decide) ?_
          refine lv_icmp_eq (tgt := 69) hx hb dX4_costOfMapWay_54 (by decide) (fun h13 => ?_) (fun h13 => absurd (by rfl) h13)
          refine lv_ldc hx hb hown hw_0 dX4_costOfMapWay_69 ?_
          exact mr_i hx hb hr () (by rw [← hgo, ← hM, cmM_none n9 hnx]; rfl) (hP.sub [] rfl) (hK.sub [] rfl) (hD.sub [] (by decide) rfl) hS (Nat.le_of_ble_eq_true rfl) (Nat.le_of_ble_eq_true rfl) hlocks dX4_costOfMapWay_71
        · refine W.eq (g2 := F0 m 49 ls [.int (nI nx)]) rfl ?_
          have hn24 : nx ≤ 24 := nxF_le hc hnx
          refine lv_istore (lv' := [(6, .int (nI nx)), (5, .int (nI i)), (4, .int (nI su)), (3, .int (nI ce)), (0, .ref g), (1, .int (nI fr)), (2, .int (nI to))]) hx hb dX4_costOfMapWay_49 hl (by decide) rfl (fun ls hl => ?_)
          refine lv_iload hx hb dX4_costOfMapWay_51 (lv_at hl 0 rfl) ?_
          refine lv_iconst (v := -1) hx hb dX4_costOfMapWay_53 (by decide) ?_
          refine lv_icmp_eq (tgt := 69) hx hb dX4_costOfMapWay_54 (by decide) (fun h14 => absurd h14 (by exact nI_nm1 (by omega))) (fun h14 => ?_)
          refine lv_aload_n hx hb dX4_costOfMapWay_57 rfl (lv_at hl 4 rfl) ?_
          refine va_get (D := D) (ci := 11) (v := .ref a3) (C := RX4) (T := TX4) (N := 14) hx hb hts hb_1 hown hK hP 0 rfl rfl 3 (by decide) hw_9 (fun _ h9 => h9) rfl dX4_costOfMapWay_58 ?_
          refine lv_iload hx hb dX4_costOfMapWay_61 (lv_at hl 0 rfl) ?_
          refine va_cald hx hb hK hP 4 3 rfl rfl (vp_in_nI (n := nx) (by omega) (by decide)) dX4_costOfMapWay_63 ?_
          refine lv_topi (fun x15 e15 => ?_)
          obtain rfl : x15 = 46 := e15.trans (okF_at (by omega))
          refine lv_bipush (v := 119) hx hb dX4_costOfMapWay_64 (by decide) ?_
          refine lv_icmp_ne (tgt := 72) hx hb dX4_costOfMapWay_66 (by decide) (fun h16 => ?_) (fun h16 => absurd h16 (by decide))
          refine lv_iload hx hb dX4_costOfMapWay_72 (lv_at hl 2 rfl) ?_
          refine lv_aload_n hx hb dX4_costOfMapWay_74 rfl (lv_at hl 4 rfl) ?_
          refine lv_iload_n hx hb dX4_costOfMapWay_75 rfl (lv_at hl 3 rfl) ?_
          refine lv_iload hx hb dX4_costOfMapWay_76 (lv_at hl 0 rfl) ?_
          refine lv_iconst (v := 0) hx hb dX4_costOfMapWay_78 (by decide) ?_
          refine mc_i (wr := [(a6, .inl (cw, 144, .inl (fL u1.1))), (a10, .inl (cq, 144, .inl (fL u1.2.1))), (a11, .inl (cz, 144, .inl (fL u1.2.2.1))), (a3, .inl (ck, 144, .inl okF)), (a5, .inl (csk, 144, .inl okF)), (a9, .inl (cb, 576, .inl beF))]) (va_runV (As := [.int (nI ce), .int (nI nx), .int 0]) (rest := [.int (nI su)]) ⟨hx, hb, hml, hown, hts⟩ (c_step l hst D g a1 a2 a3 a4 a5 a6 a7 a8 a9 a10 a11 n (nI u1.2.2.2.1) (nI u1.2.2.2.2) cg ch csg ce nx 0 H.size (by omega) (by omega)) (cwV 3 hts (gi_c (List.mem_cons_of_mem _ (List.mem_append_left _ (List.mem_of_getElem? (i := 10) rfl))) rfl (gi_c (List.mem_cons_of_mem _ (List.mem_append_left _ (List.mem_of_getElem? (i := 11) rfl))) rfl (gi_c (List.mem_cons_of_mem _ (List.mem_append_left _ (List.mem_of_getElem? (i := 12) rfl))) rfl (gi_c (List.mem_cons_of_mem _ (List.mem_append_left _ (List.mem_of_getElem? (i := 4) rfl))) rfl (goodIn_sub hb_3 (List.all_eq_true.mpr gw_c_step)))))) rfl rfl rfl (by decide +kernel) ⟨Nat.le_of_ble_eq_true rfl, Nat.le_of_ble_eq_true rfl⟩) (pr_V (As := [.int (nI ce), .int (nI nx), .int 0]) (b := g) (C := RX4) hP hD hK hS hA hE [0, 6, 7, 8] [5, 6, 7] rfl rfl rfl 0 11 rfl rfl rfl) rfl rfl hl.1 rfl (lv_room (Nat.le_of_ble_eq_true rfl)) dX4_costOfMapWay_79 ⟨Nat.le_of_ble_eq_true rfl, Nat.le_of_ble_eq_true rfl⟩) hP hD hK hS hA [0, 6, 7, 8] [1, 2, 3, 4, 5, 9] rfl rfl (by decide) (by decide) (fun r18 _ H locs w17 hP hD hK hS => ?_)
          have hP : va_P D vwCl [(a6, .inl (cw, 144, .inl (fL u1.1))), (a10, .inl (cq, 144, .inl (fL u1.2.1))), (a11, .inl (cz, 144, .inl (fL u1.2.2.1))), (a3, .inl (ck, 144, .inl okF)), (a5, .inl (csk, 144, .inl okF)), (a9, .inl (cb, 576, .inl beF)), (g, .inr (11, [.int n, .ref a1, .ref a2, .ref a3, .ref a4, .ref a5, .ref a6, .ref a7, .ref a8, .ref a9, .ref a10, .ref a11, .int (nI u1.2.2.2.1), .int (nI u1.2.2.2.2)])), (a1, .inl (cg, 144, .inl (fun _ => 0))), (a2, .inl (ch, 144, .inl (fun _ => 0))), (a4, .inl (csg, 144, .inl (fun _ => 0)))] H := hP
          have hD : va_D A [(a6, .inl (cw, 144, .inl (fL u1.1))), (a10, .inl (cq, 144, .inl (fL u1.2.1))), (a11, .inl (cz, 144, .inl (fL u1.2.2.1))), (a3, .inl (ck, 144, .inl okF)), (a5, .inl (csk, 144, .inl okF)), (a9, .inl (cb, 576, .inl beF)), (g, .inr (11, [.int n, .ref a1, .ref a2, .ref a3, .ref a4, .ref a5, .ref a6, .ref a7, .ref a8, .ref a9, .ref a10, .ref a11, .int (nI u1.2.2.2.1), .int (nI u1.2.2.2.2)])), (a1, .inl (cg, 144, .inl (fun _ => 0))), (a2, .inl (ch, 144, .inl (fun _ => 0))), (a4, .inl (csg, 144, .inl (fun _ => 0)))] := hD
          have hK : va_K D vwCl [(cw, .int), (cq, .int), (cz, .boolean), (ck, .char), (csk, .char), (cg, .int), (ch, .int), (csg, .int), (cb, .int)] s := hK
          obtain rfl : r18 = 10 := w17
          refine lv_iadd hx hb dX4_costOfMapWay_82 ?_
          refine lv_topi (fun x19 e19 => ?_)
          obtain rfl : x19 = nI (su + 10) := e19.trans (nI_add su 10)
          refine lv_istore (lv' := [(4, .int (nI (su + 10))), (6, .int (nI nx)), (5, .int (nI i)), (3, .int (nI ce)), (0, .ref g), (1, .int (nI fr)), (2, .int (nI to))]) hx hb dX4_costOfMapWay_83 hl (by decide) rfl (fun ls hl => ?_)
          refine lv_iload hx hb dX4_costOfMapWay_85 (lv_at hl 1 rfl) ?_
          refine lv_istore_n (lv' := [(3, .int (nI nx)), (4, .int (nI (su + 10))), (6, .int (nI nx)), (5, .int (nI i)), (0, .ref g), (1, .int (nI fr)), (2, .int (nI to))]) hx hb dX4_costOfMapWay_87 rfl hl (by decide) rfl (fun ls hl => ?_)
          obtain ⟨x20, e20⟩ : ∃ z : Int32, z = nI i + 1 := ⟨_, rfl⟩
          refine lv_iinc (v := x20) (lv' := [(5, .int x20), (3, .int (nI nx)), (4, .int (nI (su + 10))), (6, .int (nI nx)), (0, .ref g), (1, .int (nI fr)), (2, .int (nI to))]) hx hb dX4_costOfMapWay_88 hl (k := 3) rfl (by rw [e20]; rfl) (by decide) rfl (fun ls hl => ?_)
          obtain rfl : x20 = nI (i + 1) := e20.trans (nI_add i 1)
          refine lv_goto (tgt := 31) hx hb dX4_costOfMapWay_91 (by decide) ?_
          exact ih  (i + 1) nx (su + 10) _ _ _ (by omega) (by omega) (by omega) (by rw [← hM]; exact (cmM_go n9 hnx).symm) (lv_sub hl [0, 2, 1, 4, 5, 6] rfl) (hP.sub [6, 0, 1, 2, 3, 4, 7, 8, 9, 5] rfl) (hD.sub [6, 0, 1, 2, 3, 4, 7, 8, 9, 5] (by decide) rfl) hS
  exact lp 144 0 fr 0 _ _ _ rfl hf (Nat.le_refl _) rfl (lv_sub hl [0, 1, 2, 3, 4, 5] rfl) (hP.sub [0, 1, 2, 3, 4, 5, 6, 7, 8, 9] rfl) (hD.sub [0, 1, 2, 3, 4, 5, 6, 7, 8, 9] (by decide) rfl) hS

def us_c_dearestStep : List Cond := .code yX4_dearestStep cX4_dearestStep 5 (some .int) :: (([.fieldLink RX4 37 "ControlWood$Terrain" "besides" "[I", .methodLink RX4 79 yX4_canEnter, .instanceMethod yX4_canEnter, .selects RX4 yX4_canEnter yX4_canEnter, .initialized RX4, .methodLink RX4 75 yX4_step, .instanceMethod yX4_step, .selects RX4 yX4_step yX4_step, .methodLink RX4 83 Lib.Math.max.name, .static Lib.Math.max.name, .initialized "java/lang/Math", .code Lib.Math.max.name Lib.Math.max.code 2 (some .int)] : List Cond) ++ (wsX40 ++ (us_c_canEnter ++ (us_c_step ++ ([])))))
theorem gw_c_dearestStep : ∀ w ∈ us_c_dearestStep, goodWord w = true := gw_cons rfl (gw_app (by decide +kernel) (gw_app gwf_X4 (gw_app gw_c_canEnter (gw_app gw_c_step (fun _ h => nomatch h)))))
set_option maxHeartbeats 4000000 in
set_option maxRecDepth 100000 in
/-- dearestStep -/
theorem c_dearestStep (l : Launch) (hst : l.stackTraces = false) (D : va_G) (g : Nat) (a1 : Nat) (a2 : Nat) (a3 : Nat) (a4 : Nat) (a5 : Nat) (a6 : Nat) (a7 : Nat) (a8 : Nat) (a9 : Nat) (a10 : Nat) (a11 : Nat) (n : Int32) (hd : Int32) (wt : Int32) (cw : ClassId) (cq : ClassId) (cz : ClassId) (ck : ClassId) (csk : ClassId) (cg : ClassId) (ch : ClassId) (csg : ClassId) (cb : ClassId) (w : List Nat) (q : List Nat) (z : List Nat) (ce : Nat) (sz : Nat) (hc : ce ≤ 24) : Met l yX4_dearestStep us_c_dearestStep { frames := 2, cells := 0, slots := 0, locals := 40 } (pw D [.ref g, .int (nI ce)] [(cw, .int), (cq, .int), (cz, .boolean), (ck, .char), (csk, .char), (cg, .int), (ch, .int), (csg, .int), (cb, .int)] [(g, .inr (11, [.int n, .ref a1, .ref a2, .ref a3, .ref a4, .ref a5, .ref a6, .ref a7, .ref a8, .ref a9, .ref a10, .ref a11, .int hd, .int wt])), (a6, .inl (cw, 144, .inl (fL w))), (a10, .inl (cq, 144, .inl (fL q))), (a11, .inl (cz, 144, .inl (fL z))), (a3, .inl (ck, 144, .inl okF)), (a5, .inl (csk, 144, .inl okF)), (a1, .inl (cg, 144, .inl (fun _ => 0))), (a2, .inl (ch, 144, .inl (fun _ => 0))), (a4, .inl (csg, 144, .inl (fun _ => 0))), (a9, .inl (cb, 576, .inl beF))] sz) (va_Qi (fun (r : Int32) (_ : Unit) => r = 10) (qb D (va_A [(g, .inr (11, [.int n, .ref a1, .ref a2, .ref a3, .ref a4, .ref a5, .ref a6, .ref a7, .ref a8, .ref a9, .ref a10, .ref a11, .int hd, .int wt])), (a6, .inl (cw, 144, .inl (fL w))), (a10, .inl (cq, 144, .inl (fL q))), (a11, .inl (cz, 144, .inl (fL z))), (a3, .inl (ck, 144, .inl okF)), (a5, .inl (csk, 144, .inl okF)), (a1, .inl (cg, 144, .inl (fun _ => 0))), (a2, .inl (ch, 144, .inl (fun _ => 0))), (a4, .inl (csg, 144, .inl (fun _ => 0))), (a9, .inl (cb, 576, .inl beF))] sz) (fun _ : Unit => [(g, .inr (11, [.int n, .ref a1, .ref a2, .ref a3, .ref a4, .ref a5, .ref a6, .ref a7, .ref a8, .ref a9, .ref a10, .ref a11, .int hd, .int wt])), (a6, .inl (cw, 144, .inl (fL w))), (a10, .inl (cq, 144, .inl (fL q))), (a11, .inl (cz, 144, .inl (fL z))), (a3, .inl (ck, 144, .inl okF)), (a5, .inl (csk, 144, .inl okF)), (a1, .inl (cg, 144, .inl (fun _ => 0))), (a2, .inl (ch, 144, .inl (fun _ => 0))), (a4, .inl (csg, 144, .inl (fun _ => 0))), (a9, .inl (cb, 576, .inl beF))]) (fun _ : Unit => ([] : List (ClassId × FieldType)))) (va_A [(g, .inr (11, [.int n, .ref a1, .ref a2, .ref a3, .ref a4, .ref a5, .ref a6, .ref a7, .ref a8, .ref a9, .ref a10, .ref a11, .int hd, .int wt])), (a6, .inl (cw, 144, .inl (fL w))), (a10, .inl (cq, 144, .inl (fL q))), (a11, .inl (cz, 144, .inl (fL z))), (a3, .inl (ck, 144, .inl okF)), (a5, .inl (csk, 144, .inl okF)), (a1, .inl (cg, 144, .inl (fun _ => 0))), (a2, .inl (ch, 144, .inl (fun _ => 0))), (a4, .inl (csg, 144, .inl (fun _ => 0))), (a9, .inl (cb, 576, .inl beF))] sz)) 0 0 (va_A [(g, .inr (11, [.int n, .ref a1, .ref a2, .ref a3, .ref a4, .ref a5, .ref a6, .ref a7, .ref a8, .ref a9, .ref a10, .ref a11, .int hd, .int wt])), (a6, .inl (cw, 144, .inl (fL w))), (a10, .inl (cq, 144, .inl (fL q))), (a11, .inl (cz, 144, .inl (fL z))), (a3, .inl (ck, 144, .inl okF)), (a5, .inl (csk, 144, .inl okF)), (a1, .inl (cg, 144, .inl (fun _ => 0))), (a2, .inl (ch, 144, .inl (fun _ => 0))), (a4, .inl (csg, 144, .inl (fun _ => 0))), (a9, .inl (cb, 576, .inl beF))] sz) := by
  refine op_M (Qc := fun A => (va_Qi (fun (r : Int32) (_ : Unit) => r = 10) (qb D A (fun _ : Unit => [(g, .inr (11, [.int n, .ref a1, .ref a2, .ref a3, .ref a4, .ref a5, .ref a6, .ref a7, .ref a8, .ref a9, .ref a10, .ref a11, .int hd, .int wt])), (a6, .inl (cw, 144, .inl (fL w))), (a10, .inl (cq, 144, .inl (fL q))), (a11, .inl (cz, 144, .inl (fL z))), (a3, .inl (ck, 144, .inl okF)), (a5, .inl (csk, 144, .inl okF)), (a1, .inl (cg, 144, .inl (fun _ => 0))), (a2, .inl (ch, 144, .inl (fun _ => 0))), (a4, .inl (csg, 144, .inl (fun _ => 0))), (a9, .inl (cb, 576, .inl beF))]) (fun _ : Unit => ([] : List (ClassId × FieldType)))) A)) (by decide +kernel) rfl (Nat.le_of_ble_eq_true rfl) ?_
  intro p e s m args below meth c A ls hx hb hr hml hts hown hlocks hmn htab hA hD hS hP hK hE hsz hl
  have hown : s.vm.findClass RX4 = some m.cls := hown
  have hl : lv_has ls 5 [(0, .ref g), (1, .int (nI ce))] := hl
  have hw_0 := hts (.fieldLink RX4 37 "ControlWood$Terrain" "besides" "[I") (List.mem_cons_of_mem _ (List.mem_append_left _ (List.mem_of_getElem? (i := 0) rfl)))
  have hw_1 := hts (.methodLink RX4 79 yX4_canEnter) (List.mem_cons_of_mem _ (List.mem_append_left _ (List.mem_of_getElem? (i := 1) rfl)))
  have hw_2 := hts (.instanceMethod yX4_canEnter) (List.mem_cons_of_mem _ (List.mem_append_left _ (List.mem_of_getElem? (i := 2) rfl)))
  have hw_3 := hts (.selects RX4 yX4_canEnter yX4_canEnter) (List.mem_cons_of_mem _ (List.mem_append_left _ (List.mem_of_getElem? (i := 3) rfl)))
  have hw_4 := hts (.initialized RX4) (List.mem_cons_of_mem _ (List.mem_append_left _ (List.mem_of_getElem? (i := 4) rfl)))
  have hw_5 := hts (.methodLink RX4 75 yX4_step) (List.mem_cons_of_mem _ (List.mem_append_left _ (List.mem_of_getElem? (i := 5) rfl)))
  have hw_6 := hts (.instanceMethod yX4_step) (List.mem_cons_of_mem _ (List.mem_append_left _ (List.mem_of_getElem? (i := 6) rfl)))
  have hw_7 := hts (.selects RX4 yX4_step yX4_step) (List.mem_cons_of_mem _ (List.mem_append_left _ (List.mem_of_getElem? (i := 7) rfl)))
  have hw_8 := hts (.methodLink RX4 83 Lib.Math.max.name) (List.mem_cons_of_mem _ (List.mem_append_left _ (List.mem_of_getElem? (i := 8) rfl)))
  have hw_9 := hts (.static Lib.Math.max.name) (List.mem_cons_of_mem _ (List.mem_append_left _ (List.mem_of_getElem? (i := 9) rfl)))
  have hw_10 := hts (.initialized "java/lang/Math") (List.mem_cons_of_mem _ (List.mem_append_left _ (List.mem_of_getElem? (i := 10) rfl)))
  have hw_11 := hts (.code Lib.Math.max.name Lib.Math.max.code 2 (some .int)) (List.mem_cons_of_mem _ (List.mem_append_left _ (List.mem_of_getElem? (i := 11) rfl)))
  have hb_0 : ∀ w ∈ wsX40, w ∈ us_c_dearestStep := fun w h => List.mem_cons_of_mem _ (List.mem_append_right _ (List.mem_append_left _ h))
  have hb_1 : ∀ w ∈ us_c_canEnter, w ∈ us_c_dearestStep := fun w h => List.mem_cons_of_mem _ (List.mem_append_right _ (List.mem_append_right _ (List.mem_append_left _ h)))
  have hb_2 : ∀ w ∈ us_c_step, w ∈ us_c_dearestStep := fun w h => List.mem_cons_of_mem _ (List.mem_append_right _ (List.mem_append_right _ (List.mem_append_right _ (List.mem_append_left _ h))))
  refine lv_iconst (v := 0) hx hb dX4_dearestStep_0 (by decide) ?_
  refine lv_istore_n (lv' := [(2, .int 0), (0, .ref g), (1, .int (nI ce))]) hx hb dX4_dearestStep_1 rfl hl (by decide) rfl (fun ls hl => ?_)
  refine lv_iconst (v := 0) hx hb dX4_dearestStep_2 (by decide) ?_
  refine lv_istore_n (lv' := [(3, .int 0), (2, .int 0), (0, .ref g), (1, .int (nI ce))]) hx hb dX4_dearestStep_3 rfl hl (by decide) rfl (fun ls hl => ?_)
  have lp : ∀ (fu : Nat) (i : Nat) (H : Heap) (locs : List Loc) (ls : Array Slot), (i + fu = 4) → lv_has ls 5 [(3, .int (nI i)), (2, .int (nI (dsM i ce))), (0, .ref g), (1, .int (nI ce))] → va_P D vwCl [(g, .inr (11, [.int n, .ref a1, .ref a2, .ref a3, .ref a4, .ref a5, .ref a6, .ref a7, .ref a8, .ref a9, .ref a10, .ref a11, .int hd, .int wt])), (a6, .inl (cw, 144, .inl (fL w))), (a10, .inl (cq, 144, .inl (fL q))), (a11, .inl (cz, 144, .inl (fL z))), (a3, .inl (ck, 144, .inl okF)), (a5, .inl (csk, 144, .inl okF)), (a1, .inl (cg, 144, .inl (fun _ => 0))), (a2, .inl (ch, 144, .inl (fun _ => 0))), (a4, .inl (csg, 144, .inl (fun _ => 0))), (a9, .inl (cb, 576, .inl beF))] H → va_D A [(g, .inr (11, [.int n, .ref a1, .ref a2, .ref a3, .ref a4, .ref a5, .ref a6, .ref a7, .ref a8, .ref a9, .ref a10, .ref a11, .int hd, .int wt])), (a6, .inl (cw, 144, .inl (fL w))), (a10, .inl (cq, 144, .inl (fL q))), (a11, .inl (cz, 144, .inl (fL z))), (a3, .inl (ck, 144, .inl okF)), (a5, .inl (csk, 144, .inl okF)), (a1, .inl (cg, 144, .inl (fun _ => 0))), (a2, .inl (ch, 144, .inl (fun _ => 0))), (a4, .inl (csg, 144, .inl (fun _ => 0))), (a9, .inl (cb, 576, .inl beF))] → va_S A s.heap H locs → W p l e { frames := 2, cells := 0, slots := 0, locals := 40 } s m args below meth c H locs 0 0 (MQ below (va_Qi (fun (r : Int32) (_ : Unit) => r = 10) (qb D A (fun _ : Unit => [(g, .inr (11, [.int n, .ref a1, .ref a2, .ref a3, .ref a4, .ref a5, .ref a6, .ref a7, .ref a8, .ref a9, .ref a10, .ref a11, .int hd, .int wt])), (a6, .inl (cw, 144, .inl (fL w))), (a10, .inl (cq, 144, .inl (fL q))), (a11, .inl (cz, 144, .inl (fL z))), (a3, .inl (ck, 144, .inl okF)), (a5, .inl (csk, 144, .inl okF)), (a1, .inl (cg, 144, .inl (fun _ => 0))), (a2, .inl (ch, 144, .inl (fun _ => 0))), (a4, .inl (csg, 144, .inl (fun _ => 0))), (a9, .inl (cb, 576, .inl beF))]) (fun _ : Unit => ([] : List (ClassId × FieldType)))) A) args s 0 0 A) (F0 m 4 ls []) := by
    intro fu
    induction fu with
    | zero =>
      intro i H locs ls hi hl hP hD hS
      have hi : i + 0 = 4 := hi
      refine lv_iload_n hx hb dX4_dearestStep_4 rfl (lv_at hl 0 rfl) ?_
      refine lv_iconst (v := 4) hx hb dX4_dearestStep_5 (by decide) ?_
      refine lv_icmp_ge (tgt := 56) hx hb dX4_dearestStep_6 (by decide) (fun h1 => ?_) (fun h1 => absurd (by exact (nI_leI (a := 4) (b := i) (by omega) (by omega)).mpr (by omega)) h1)
      refine lv_iload_n hx hb dX4_dearestStep_56 rfl (lv_at hl 1 rfl) ?_
      exact mr_i hx hb hr () (by rw [show i = 4 by omega, dsM_4 ce hc]; rfl) (hP.sub [0, 1, 2, 3, 4, 5, 6, 7, 8, 9] rfl) (hK.sub [] rfl) (hD.sub [0, 1, 2, 3, 4, 5, 6, 7, 8, 9] (by decide) rfl) hS (Nat.le_of_ble_eq_true rfl) (Nat.le_of_ble_eq_true rfl) hlocks dX4_dearestStep_57
    | succ fu ih =>
      intro i H locs ls hi hl hP hD hS
      have hi : i + (fu + 1) = 4 := hi
      rcases hbm : beM ce i with _ | nx
      · refine lv_iload_n hx hb dX4_dearestStep_4 rfl (lv_at hl 0 rfl) ?_
        refine lv_iconst (v := 4) hx hb dX4_dearestStep_5 (by decide) ?_
        refine lv_icmp_ge (tgt := 56) hx hb dX4_dearestStep_6 (by decide) (fun h2 => absurd h2 (by exact fun q9 => absurd ((nI_leI (a := 4) (b := i) (by omega) (by omega)).mp q9) (by omega))) (fun h2 => ?_)
        refine lv_aload_n hx hb dX4_dearestStep_9 rfl (lv_at hl 2 rfl) ?_
        refine va_get (D := D) (ci := 11) (v := .ref a9) (C := RX4) (T := TX4) (N := 14) hx hb hts hb_0 hown hK hP 0 rfl rfl 9 (by decide) hw_0 (fun _ h9 => h9) rfl dX4_dearestStep_10 ?_
        refine lv_iload_n hx hb dX4_dearestStep_13 rfl (lv_at hl 3 rfl) ?_
        refine lv_iconst (v := 4) hx hb dX4_dearestStep_14 (by decide) ?_
        refine lv_imul hx hb dX4_dearestStep_15 ?_
        refine lv_topi (fun x3 e3 => ?_)
        obtain rfl : x3 = nI (ce * 4) := e3.trans (pk_mul ce 4)
        refine lv_iload_n hx hb dX4_dearestStep_16 rfl (lv_at hl 0 rfl) ?_
        refine lv_iadd hx hb dX4_dearestStep_17 ?_
        refine lv_topi (fun x4 e4 => ?_)
        obtain rfl : x4 = nI ((ce * 4) + i) := e4.trans (nI_add (ce * 4) i)
        refine va_iald hx hb hK hP 9 8 rfl rfl (vp_in_nI (n := (ce * 4) + i) (by omega) (by decide)) dX4_dearestStep_18 ?_
        refine lv_topi (fun x5 e5 => ?_)
        obtain rfl : x5 = (-1) := e5.trans (beF_none hc (by omega) hbm)
        refine lv_istore (lv' := [(4, .int (-1)), (3, .int (nI i)), (2, .int (nI (dsM i ce))), (0, .ref g), (1, .int (nI ce))]) hx hb dX4_dearestStep_19 hl (by decide) rfl (fun ls hl => ?_)
        refine lv_iload hx hb dX4_dearestStep_21 (lv_at hl 0 rfl) ?_
        refine lv_iconst (v := -1) hx hb dX4_dearestStep_23 (by decide) ?_
        refine lv_icmp_eq (tgt := 50) hx hb dX4_dearestStep_24 (by decide) (fun h6 => ?_) (fun h6 => absurd (by rfl) h6)
        obtain ⟨x7, e7⟩ : ∃ z : Int32, z = nI i + 1 := ⟨_, rfl⟩
        refine lv_iinc (v := x7) (lv' := [(3, .int x7), (4, .int (-1)), (2, .int (nI (dsM i ce))), (0, .ref g), (1, .int (nI ce))]) hx hb dX4_dearestStep_50 hl (k := 1) rfl (by rw [e7]; rfl) (by decide) rfl (fun ls hl => ?_)
        obtain rfl : x7 = nI (i + 1) := e7.trans (nI_add i 1)
        refine lv_goto (tgt := 4) hx hb dX4_dearestStep_53 (by decide) ?_
        have hd1 : dsM i ce = dsM (i + 1) ce := (dsM_none hbm).symm
        rw [hd1] at hl
        exact ih  (i + 1) _ _ _ (by omega) (lv_sub hl [0, 2, 3, 4] rfl) (hP.sub [0, 1, 2, 3, 4, 5, 6, 7, 8, 9] rfl) (hD.sub [0, 1, 2, 3, 4, 5, 6, 7, 8, 9] (by decide) rfl) hS
      · have hnx : nx ≤ 24 := beM_le hc hbm
        refine lv_iload_n hx hb dX4_dearestStep_4 rfl (lv_at hl 0 rfl) ?_
        refine lv_iconst (v := 4) hx hb dX4_dearestStep_5 (by decide) ?_
        refine lv_icmp_ge (tgt := 56) hx hb dX4_dearestStep_6 (by decide) (fun h8 => absurd h8 (by exact fun q9 => absurd ((nI_leI (a := 4) (b := i) (by omega) (by omega)).mp q9) (by omega))) (fun h8 => ?_)
        refine lv_aload_n hx hb dX4_dearestStep_9 rfl (lv_at hl 2 rfl) ?_
        refine va_get (D := D) (ci := 11) (v := .ref a9) (C := RX4) (T := TX4) (N := 14) hx hb hts hb_0 hown hK hP 0 rfl rfl 9 (by decide) hw_0 (fun _ h9 => h9) rfl dX4_dearestStep_10 ?_
        refine lv_iload_n hx hb dX4_dearestStep_13 rfl (lv_at hl 3 rfl) ?_
        refine lv_iconst (v := 4) hx hb dX4_dearestStep_14 (by decide) ?_
        refine lv_imul hx hb dX4_dearestStep_15 ?_
        refine lv_topi (fun x9 e9 => ?_)
        obtain rfl : x9 = nI (ce * 4) := e9.trans (pk_mul ce 4)
        refine lv_iload_n hx hb dX4_dearestStep_16 rfl (lv_at hl 0 rfl) ?_
        refine lv_iadd hx hb dX4_dearestStep_17 ?_
        refine lv_topi (fun x10 e10 => ?_)
        obtain rfl : x10 = nI ((ce * 4) + i) := e10.trans (nI_add (ce * 4) i)
        refine va_iald hx hb hK hP 9 8 rfl rfl (vp_in_nI (n := (ce * 4) + i) (by omega) (by decide)) dX4_dearestStep_18 ?_
        refine lv_topi (fun x11 e11 => ?_)
        obtain rfl : x11 = nI nx := e11.trans (beF_some hc (by omega) hbm)
        refine lv_istore (lv' := [(4, .int (nI nx)), (3, .int (nI i)), (2, .int (nI (dsM i ce))), (0, .ref g), (1, .int (nI ce))]) hx hb dX4_dearestStep_19 hl (by decide) rfl (fun ls hl => ?_)
        refine lv_iload hx hb dX4_dearestStep_21 (lv_at hl 0 rfl) ?_
        refine lv_iconst (v := -1) hx hb dX4_dearestStep_23 (by decide) ?_
        refine lv_icmp_eq (tgt := 50) hx hb dX4_dearestStep_24 (by decide) (fun h12 => absurd h12 (by exact nI_nm1 (by omega))) (fun h12 => ?_)
        refine lv_aload_n hx hb dX4_dearestStep_27 rfl (lv_at hl 3 rfl) ?_
        refine lv_iload hx hb dX4_dearestStep_28 (lv_at hl 0 rfl) ?_
        refine lv_iconst (v := 1) hx hb dX4_dearestStep_30 (by decide) ?_
        refine mc_i (wr := [(a6, .inl (cw, 144, .inl (fL w))), (a10, .inl (cq, 144, .inl (fL q))), (a11, .inl (cz, 144, .inl (fL z))), (a1, .inl (cg, 144, .inl (fun _ => 0))), (a2, .inl (ch, 144, .inl (fun _ => 0))), (a4, .inl (csg, 144, .inl (fun _ => 0))), (a9, .inl (cb, 576, .inl beF))]) (va_runV (As := [.int (nI nx), .int 1]) (rest := []) ⟨hx, hb, hml, hown, hts⟩ (c_canEnter l hst D g a1 a2 a3 a4 a5 a6 a7 a8 a9 a10 a11 n hd wt ck csk nx 1 H.size (by omega)) (cwV 2 hts (gi_c (List.mem_cons_of_mem _ (List.mem_append_left _ (List.mem_of_getElem? (i := 1) rfl))) rfl (gi_c (List.mem_cons_of_mem _ (List.mem_append_left _ (List.mem_of_getElem? (i := 2) rfl))) rfl (gi_c (List.mem_cons_of_mem _ (List.mem_append_left _ (List.mem_of_getElem? (i := 3) rfl))) rfl (gi_c (List.mem_cons_of_mem _ (List.mem_append_left _ (List.mem_of_getElem? (i := 4) rfl))) rfl (goodIn_sub hb_1 (List.all_eq_true.mpr gw_c_canEnter)))))) rfl rfl rfl (by decide +kernel) ⟨Nat.le_of_ble_eq_true rfl, Nat.le_of_ble_eq_true rfl⟩) (pr_V (As := [.int (nI nx), .int 1]) (b := g) (C := RX4) hP hD hK hS hA hE [0, 4, 5] [3, 4] rfl rfl rfl 0 11 rfl rfl rfl) rfl rfl hl.1 rfl (lv_room (Nat.le_of_ble_eq_true rfl)) dX4_dearestStep_31 ⟨Nat.le_of_ble_eq_true rfl, Nat.le_of_ble_eq_true rfl⟩) hP hD hK hS hA [0, 4, 5] [1, 2, 3, 6, 7, 8, 9] rfl rfl (by decide) (by decide) (fun r14 _ H locs w13 hP hD hK hS => ?_)
        have hP : va_P D vwCl [(a6, .inl (cw, 144, .inl (fL w))), (a10, .inl (cq, 144, .inl (fL q))), (a11, .inl (cz, 144, .inl (fL z))), (a1, .inl (cg, 144, .inl (fun _ => 0))), (a2, .inl (ch, 144, .inl (fun _ => 0))), (a4, .inl (csg, 144, .inl (fun _ => 0))), (a9, .inl (cb, 576, .inl beF)), (g, .inr (11, [.int n, .ref a1, .ref a2, .ref a3, .ref a4, .ref a5, .ref a6, .ref a7, .ref a8, .ref a9, .ref a10, .ref a11, .int hd, .int wt])), (a3, .inl (ck, 144, .inl okF)), (a5, .inl (csk, 144, .inl okF))] H := hP
        have hD : va_D A [(a6, .inl (cw, 144, .inl (fL w))), (a10, .inl (cq, 144, .inl (fL q))), (a11, .inl (cz, 144, .inl (fL z))), (a1, .inl (cg, 144, .inl (fun _ => 0))), (a2, .inl (ch, 144, .inl (fun _ => 0))), (a4, .inl (csg, 144, .inl (fun _ => 0))), (a9, .inl (cb, 576, .inl beF)), (g, .inr (11, [.int n, .ref a1, .ref a2, .ref a3, .ref a4, .ref a5, .ref a6, .ref a7, .ref a8, .ref a9, .ref a10, .ref a11, .int hd, .int wt])), (a3, .inl (ck, 144, .inl okF)), (a5, .inl (csk, 144, .inl okF))] := hD
        have hK : va_K D vwCl [(cw, .int), (cq, .int), (cz, .boolean), (ck, .char), (csk, .char), (cg, .int), (ch, .int), (csg, .int), (cb, .int)] s := hK
        obtain rfl : r14 = 1 := w13
        refine lv_if_eq (tgt := 50) hx hb dX4_dearestStep_34 (by decide) (fun h15 => absurd h15 (by decide)) (fun h15 => ?_)
        refine lv_iload_n hx hb dX4_dearestStep_37 rfl (lv_at hl 2 rfl) ?_
        refine lv_aload_n hx hb dX4_dearestStep_38 rfl (lv_at hl 3 rfl) ?_
        refine lv_iload_n hx hb dX4_dearestStep_39 rfl (lv_at hl 4 rfl) ?_
        refine lv_iload hx hb dX4_dearestStep_40 (lv_at hl 0 rfl) ?_
        refine lv_iconst (v := 1) hx hb dX4_dearestStep_42 (by decide) ?_
        refine mc_i (wr := [(a6, .inl (cw, 144, .inl (fL w))), (a10, .inl (cq, 144, .inl (fL q))), (a11, .inl (cz, 144, .inl (fL z))), (a9, .inl (cb, 576, .inl beF)), (a3, .inl (ck, 144, .inl okF)), (a5, .inl (csk, 144, .inl okF))]) (va_runV (As := [.int (nI ce), .int (nI nx), .int 1]) (rest := [.int (nI (dsM i ce))]) ⟨hx, hb, hml, hown, hts⟩ (c_step l hst D g a1 a2 a3 a4 a5 a6 a7 a8 a9 a10 a11 n hd wt cg ch csg ce nx 1 H.size (by omega) (by omega)) (cwV 3 hts (gi_c (List.mem_cons_of_mem _ (List.mem_append_left _ (List.mem_of_getElem? (i := 5) rfl))) rfl (gi_c (List.mem_cons_of_mem _ (List.mem_append_left _ (List.mem_of_getElem? (i := 6) rfl))) rfl (gi_c (List.mem_cons_of_mem _ (List.mem_append_left _ (List.mem_of_getElem? (i := 7) rfl))) rfl (gi_c (List.mem_cons_of_mem _ (List.mem_append_left _ (List.mem_of_getElem? (i := 4) rfl))) rfl (goodIn_sub hb_2 (List.all_eq_true.mpr gw_c_step)))))) rfl rfl rfl (by decide +kernel) ⟨Nat.le_of_ble_eq_true rfl, Nat.le_of_ble_eq_true rfl⟩) (pr_V (As := [.int (nI ce), .int (nI nx), .int 1]) (b := g) (C := RX4) hP hD hK hS hA hE [7, 3, 4, 5] [5, 6, 7] rfl rfl rfl 7 11 rfl rfl rfl) rfl rfl hl.1 rfl (lv_room (Nat.le_of_ble_eq_true rfl)) dX4_dearestStep_43 ⟨Nat.le_of_ble_eq_true rfl, Nat.le_of_ble_eq_true rfl⟩) hP hD hK hS hA [7, 3, 4, 5] [0, 1, 2, 6, 8, 9] rfl rfl (by decide) (by decide) (fun r17 _ H locs w16 hP hD hK hS => ?_)
        have hP : va_P D vwCl [(a6, .inl (cw, 144, .inl (fL w))), (a10, .inl (cq, 144, .inl (fL q))), (a11, .inl (cz, 144, .inl (fL z))), (a9, .inl (cb, 576, .inl beF)), (a3, .inl (ck, 144, .inl okF)), (a5, .inl (csk, 144, .inl okF)), (g, .inr (11, [.int n, .ref a1, .ref a2, .ref a3, .ref a4, .ref a5, .ref a6, .ref a7, .ref a8, .ref a9, .ref a10, .ref a11, .int hd, .int wt])), (a1, .inl (cg, 144, .inl (fun _ => 0))), (a2, .inl (ch, 144, .inl (fun _ => 0))), (a4, .inl (csg, 144, .inl (fun _ => 0)))] H := hP
        have hD : va_D A [(a6, .inl (cw, 144, .inl (fL w))), (a10, .inl (cq, 144, .inl (fL q))), (a11, .inl (cz, 144, .inl (fL z))), (a9, .inl (cb, 576, .inl beF)), (a3, .inl (ck, 144, .inl okF)), (a5, .inl (csk, 144, .inl okF)), (g, .inr (11, [.int n, .ref a1, .ref a2, .ref a3, .ref a4, .ref a5, .ref a6, .ref a7, .ref a8, .ref a9, .ref a10, .ref a11, .int hd, .int wt])), (a1, .inl (cg, 144, .inl (fun _ => 0))), (a2, .inl (ch, 144, .inl (fun _ => 0))), (a4, .inl (csg, 144, .inl (fun _ => 0)))] := hD
        have hK : va_K D vwCl [(cw, .int), (cq, .int), (cz, .boolean), (ck, .char), (csk, .char), (cg, .int), (ch, .int), (csg, .int), (cb, .int)] s := hK
        obtain rfl : r17 = 10 := w16
        refine va_mmax hx hb (by rw [hml]; exact hl.1.symm) hown hw_8 hw_9 hw_10 hw_11 (Nat.le_of_ble_eq_true rfl) (Nat.le_of_ble_eq_true rfl) (Nat.le_of_ble_eq_true rfl) (Nat.le_of_ble_eq_true rfl) dX4_dearestStep_46 ?_
        refine lv_topi (fun x18 e18 => ?_)
        obtain rfl : x18 = nI (dsM (i + 1) ce) := e18.trans (dsM_some hbm)
        refine lv_istore_n (lv' := [(2, .int (nI (dsM (i + 1) ce))), (4, .int (nI nx)), (3, .int (nI i)), (0, .ref g), (1, .int (nI ce))]) hx hb dX4_dearestStep_49 rfl hl (by decide) rfl (fun ls hl => ?_)
        obtain ⟨x19, e19⟩ : ∃ z : Int32, z = nI i + 1 := ⟨_, rfl⟩
        refine lv_iinc (v := x19) (lv' := [(3, .int x19), (2, .int (nI (dsM (i + 1) ce))), (4, .int (nI nx)), (0, .ref g), (1, .int (nI ce))]) hx hb dX4_dearestStep_50 hl (k := 2) rfl (by rw [e19]; rfl) (by decide) rfl (fun ls hl => ?_)
        obtain rfl : x19 = nI (i + 1) := e19.trans (nI_add i 1)
        refine lv_goto (tgt := 4) hx hb dX4_dearestStep_53 (by decide) ?_
        exact ih  (i + 1) _ _ _ (by omega) (lv_sub hl [0, 1, 3, 4] rfl) (hP.sub [6, 0, 1, 2, 4, 5, 7, 8, 9, 3] rfl) (hD.sub [6, 0, 1, 2, 4, 5, 7, 8, 9, 3] (by decide) rfl) hS
  exact lp 4 0 _ _ _ rfl (lv_sub hl [0, 1, 2, 3] rfl) (hP.sub [0, 1, 2, 3, 4, 5, 6, 7, 8, 9] rfl) (hD.sub [0, 1, 2, 3, 4, 5, 6, 7, 8, 9] (by decide) rfl) hS

def us_c_hasNoDearWay : List Cond := .code yX4_hasNoDearWay cX4_hasNoDearWay 4 (some .boolean) :: (([.fieldLink RX4 47 "ControlWood$Terrain" "cells" "I", .methodLink RX4 104 yX4_dearestStep, .instanceMethod yX4_dearestStep, .selects RX4 yX4_dearestStep yX4_dearestStep, .initialized RX4, .methodLink RX4 68 yX4_spread, .instanceMethod yX4_spread, .selects RX4 yX4_spread yX4_spread, .fieldLink RX4 37 "ControlWood$Terrain" "besides" "[I", .methodLink RX4 79 yX4_canEnter, .instanceMethod yX4_canEnter, .selects RX4 yX4_canEnter yX4_canEnter, .fieldLink RX4 28 "ControlWood$Terrain" "ways" "[I", .methodLink RX4 75 yX4_step, .instanceMethod yX4_step, .selects RX4 yX4_step yX4_step] : List Cond) ++ (wsX40 ++ (us_c_dearestStep ++ (us_c_spread ++ (us_c_canEnter ++ (us_c_step ++ ([])))))))
theorem gw_c_hasNoDearWay : ∀ w ∈ us_c_hasNoDearWay, goodWord w = true := gw_cons rfl (gw_app (by decide +kernel) (gw_app gwf_X4 (gw_app gw_c_dearestStep (gw_app gw_c_spread (gw_app gw_c_canEnter (gw_app gw_c_step (fun _ h => nomatch h)))))))
set_option maxHeartbeats 4000000 in
set_option maxRecDepth 100000 in
/-- hasNoDearWay, on a new land: yes -/
theorem c_hasNoDearWay (l : Launch) (hst : l.stackTraces = false) (D : va_G) (g : Nat) (a1 : Nat) (a2 : Nat) (a3 : Nat) (a4 : Nat) (a5 : Nat) (a6 : Nat) (a7 : Nat) (a8 : Nat) (a9 : Nat) (a10 : Nat) (a11 : Nat) (hd : Int32) (wt : Int32) (cw : ClassId) (cq : ClassId) (cz : ClassId) (ck : ClassId) (csk : ClassId) (cg : ClassId) (ch : ClassId) (csg : ClassId) (cb : ClassId) (w0 : List Nat) (q : List Nat) (z : List Nat) (sz : Nat) (hw0 : w0.length = 144) (hq : okQ q z) (hok : hnOK 25 0 q z = true) : Met l yX4_hasNoDearWay us_c_hasNoDearWay { frames := 4, cells := 0, slots := 0, locals := 91 } (pw D [.ref g] [(cw, .int), (cq, .int), (cz, .boolean), (ck, .char), (csk, .char), (cg, .int), (ch, .int), (csg, .int), (cb, .int)] [(g, .inr (11, [.int 25, .ref a1, .ref a2, .ref a3, .ref a4, .ref a5, .ref a6, .ref a7, .ref a8, .ref a9, .ref a10, .ref a11, .int hd, .int wt])), (a6, .inl (cw, 144, .inl (fL w0))), (a10, .inl (cq, 144, .inl (fL q))), (a11, .inl (cz, 144, .inl (fL z))), (a3, .inl (ck, 144, .inl okF)), (a5, .inl (csk, 144, .inl okF)), (a1, .inl (cg, 144, .inl (fun _ => 0))), (a2, .inl (ch, 144, .inl (fun _ => 0))), (a4, .inl (csg, 144, .inl (fun _ => 0))), (a9, .inl (cb, 576, .inl beF))] sz) (va_Qi (fun (r : Int32) (_ : Unit) => r = 1) (qb D (va_A [(g, .inr (11, [.int 25, .ref a1, .ref a2, .ref a3, .ref a4, .ref a5, .ref a6, .ref a7, .ref a8, .ref a9, .ref a10, .ref a11, .int hd, .int wt])), (a6, .inl (cw, 144, .inl (fL w0))), (a10, .inl (cq, 144, .inl (fL q))), (a11, .inl (cz, 144, .inl (fL z))), (a3, .inl (ck, 144, .inl okF)), (a5, .inl (csk, 144, .inl okF)), (a1, .inl (cg, 144, .inl (fun _ => 0))), (a2, .inl (ch, 144, .inl (fun _ => 0))), (a4, .inl (csg, 144, .inl (fun _ => 0))), (a9, .inl (cb, 576, .inl beF))] sz) (fun _ : Unit => []) (fun _ : Unit => ([] : List (ClassId × FieldType)))) (va_A [(g, .inr (11, [.int 25, .ref a1, .ref a2, .ref a3, .ref a4, .ref a5, .ref a6, .ref a7, .ref a8, .ref a9, .ref a10, .ref a11, .int hd, .int wt])), (a6, .inl (cw, 144, .inl (fL w0))), (a10, .inl (cq, 144, .inl (fL q))), (a11, .inl (cz, 144, .inl (fL z))), (a3, .inl (ck, 144, .inl okF)), (a5, .inl (csk, 144, .inl okF)), (a1, .inl (cg, 144, .inl (fun _ => 0))), (a2, .inl (ch, 144, .inl (fun _ => 0))), (a4, .inl (csg, 144, .inl (fun _ => 0))), (a9, .inl (cb, 576, .inl beF))] sz)) 0 0 (va_A [(g, .inr (11, [.int 25, .ref a1, .ref a2, .ref a3, .ref a4, .ref a5, .ref a6, .ref a7, .ref a8, .ref a9, .ref a10, .ref a11, .int hd, .int wt])), (a6, .inl (cw, 144, .inl (fL w0))), (a10, .inl (cq, 144, .inl (fL q))), (a11, .inl (cz, 144, .inl (fL z))), (a3, .inl (ck, 144, .inl okF)), (a5, .inl (csk, 144, .inl okF)), (a1, .inl (cg, 144, .inl (fun _ => 0))), (a2, .inl (ch, 144, .inl (fun _ => 0))), (a4, .inl (csg, 144, .inl (fun _ => 0))), (a9, .inl (cb, 576, .inl beF))] sz) := by
  refine op_M (Qc := fun A => (va_Qi (fun (r : Int32) (_ : Unit) => r = 1) (qb D A (fun _ : Unit => []) (fun _ : Unit => ([] : List (ClassId × FieldType)))) A)) (by decide +kernel) rfl (Nat.le_of_ble_eq_true rfl) ?_
  intro p e s m args below meth c A ls hx hb hr hml hts hown hlocks hmn htab hA hD hS hP hK hE hsz hl
  have hown : s.vm.findClass RX4 = some m.cls := hown
  have hl : lv_has ls 4 [(0, .ref g)] := hl
  have hw_0 := hts (.fieldLink RX4 47 "ControlWood$Terrain" "cells" "I") (List.mem_cons_of_mem _ (List.mem_append_left _ (List.mem_of_getElem? (i := 0) rfl)))
  have hw_1 := hts (.methodLink RX4 104 yX4_dearestStep) (List.mem_cons_of_mem _ (List.mem_append_left _ (List.mem_of_getElem? (i := 1) rfl)))
  have hw_2 := hts (.instanceMethod yX4_dearestStep) (List.mem_cons_of_mem _ (List.mem_append_left _ (List.mem_of_getElem? (i := 2) rfl)))
  have hw_3 := hts (.selects RX4 yX4_dearestStep yX4_dearestStep) (List.mem_cons_of_mem _ (List.mem_append_left _ (List.mem_of_getElem? (i := 3) rfl)))
  have hw_4 := hts (.initialized RX4) (List.mem_cons_of_mem _ (List.mem_append_left _ (List.mem_of_getElem? (i := 4) rfl)))
  have hw_5 := hts (.methodLink RX4 68 yX4_spread) (List.mem_cons_of_mem _ (List.mem_append_left _ (List.mem_of_getElem? (i := 5) rfl)))
  have hw_6 := hts (.instanceMethod yX4_spread) (List.mem_cons_of_mem _ (List.mem_append_left _ (List.mem_of_getElem? (i := 6) rfl)))
  have hw_7 := hts (.selects RX4 yX4_spread yX4_spread) (List.mem_cons_of_mem _ (List.mem_append_left _ (List.mem_of_getElem? (i := 7) rfl)))
  have hw_8 := hts (.fieldLink RX4 37 "ControlWood$Terrain" "besides" "[I") (List.mem_cons_of_mem _ (List.mem_append_left _ (List.mem_of_getElem? (i := 8) rfl)))
  have hw_9 := hts (.methodLink RX4 79 yX4_canEnter) (List.mem_cons_of_mem _ (List.mem_append_left _ (List.mem_of_getElem? (i := 9) rfl)))
  have hw_10 := hts (.instanceMethod yX4_canEnter) (List.mem_cons_of_mem _ (List.mem_append_left _ (List.mem_of_getElem? (i := 10) rfl)))
  have hw_11 := hts (.selects RX4 yX4_canEnter yX4_canEnter) (List.mem_cons_of_mem _ (List.mem_append_left _ (List.mem_of_getElem? (i := 11) rfl)))
  have hw_12 := hts (.fieldLink RX4 28 "ControlWood$Terrain" "ways" "[I") (List.mem_cons_of_mem _ (List.mem_append_left _ (List.mem_of_getElem? (i := 12) rfl)))
  have hw_13 := hts (.methodLink RX4 75 yX4_step) (List.mem_cons_of_mem _ (List.mem_append_left _ (List.mem_of_getElem? (i := 13) rfl)))
  have hw_14 := hts (.instanceMethod yX4_step) (List.mem_cons_of_mem _ (List.mem_append_left _ (List.mem_of_getElem? (i := 14) rfl)))
  have hw_15 := hts (.selects RX4 yX4_step yX4_step) (List.mem_cons_of_mem _ (List.mem_append_left _ (List.mem_of_getElem? (i := 15) rfl)))
  have hb_0 : ∀ w ∈ wsX40, w ∈ us_c_hasNoDearWay := fun w h => List.mem_cons_of_mem _ (List.mem_append_right _ (List.mem_append_left _ h))
  have hb_1 : ∀ w ∈ us_c_dearestStep, w ∈ us_c_hasNoDearWay := fun w h => List.mem_cons_of_mem _ (List.mem_append_right _ (List.mem_append_right _ (List.mem_append_left _ h)))
  have hb_2 : ∀ w ∈ us_c_spread, w ∈ us_c_hasNoDearWay := fun w h => List.mem_cons_of_mem _ (List.mem_append_right _ (List.mem_append_right _ (List.mem_append_right _ (List.mem_append_left _ h))))
  have hb_3 : ∀ w ∈ us_c_canEnter, w ∈ us_c_hasNoDearWay := fun w h => List.mem_cons_of_mem _ (List.mem_append_right _ (List.mem_append_right _ (List.mem_append_right _ (List.mem_append_right _ (List.mem_append_left _ h)))))
  have hb_4 : ∀ w ∈ us_c_step, w ∈ us_c_hasNoDearWay := fun w h => List.mem_cons_of_mem _ (List.mem_append_right _ (List.mem_append_right _ (List.mem_append_right _ (List.mem_append_right _ (List.mem_append_right _ (List.mem_append_left _ h))))))
  refine lv_iconst (v := 0) hx hb dX4_hasNoDearWay_0 (by decide) ?_
  refine lv_istore_n (lv' := [(1, .int 0), (0, .ref g)]) hx hb dX4_hasNoDearWay_1 rfl hl (by decide) rfl (fun ls hl => ?_)
  have lp : ∀ (fu : Nat) (i : Nat) (w : List Nat) (q : List Nat) (z : List Nat) (hd : Int32) (wt : Int32) (H : Heap) (locs : List Loc) (ls : Array Slot), (i + fu = 25) → (w.length = 144) → (okQ q z) → (hnOK fu i q z = true) → lv_has ls 4 [(1, .int (nI i)), (0, .ref g)] → va_P D vwCl [(g, .inr (11, [.int 25, .ref a1, .ref a2, .ref a3, .ref a4, .ref a5, .ref a6, .ref a7, .ref a8, .ref a9, .ref a10, .ref a11, .int hd, .int wt])), (a6, .inl (cw, 144, .inl (fL w))), (a10, .inl (cq, 144, .inl (fL q))), (a11, .inl (cz, 144, .inl (fL z))), (a3, .inl (ck, 144, .inl okF)), (a5, .inl (csk, 144, .inl okF)), (a1, .inl (cg, 144, .inl (fun _ => 0))), (a2, .inl (ch, 144, .inl (fun _ => 0))), (a4, .inl (csg, 144, .inl (fun _ => 0))), (a9, .inl (cb, 576, .inl beF))] H → va_D A [(g, .inr (11, [.int 25, .ref a1, .ref a2, .ref a3, .ref a4, .ref a5, .ref a6, .ref a7, .ref a8, .ref a9, .ref a10, .ref a11, .int hd, .int wt])), (a6, .inl (cw, 144, .inl (fL w))), (a10, .inl (cq, 144, .inl (fL q))), (a11, .inl (cz, 144, .inl (fL z))), (a3, .inl (ck, 144, .inl okF)), (a5, .inl (csk, 144, .inl okF)), (a1, .inl (cg, 144, .inl (fun _ => 0))), (a2, .inl (ch, 144, .inl (fun _ => 0))), (a4, .inl (csg, 144, .inl (fun _ => 0))), (a9, .inl (cb, 576, .inl beF))] → va_S A s.heap H locs → W p l e { frames := 4, cells := 0, slots := 0, locals := 91 } s m args below meth c H locs 0 0 (MQ below (va_Qi (fun (r : Int32) (_ : Unit) => r = 1) (qb D A (fun _ : Unit => []) (fun _ : Unit => ([] : List (ClassId × FieldType)))) A) args s 0 0 A) (F0 m 2 ls []) := by
    intro fu
    induction fu with
    | zero =>
      intro i w q z hd wt H locs ls hi hw hq hM hl hP hD hS
      have hi : i + 0 = 25 := hi
      have hw : w.length = 144 := hw
      have hq : okQ q z := hq
      have hM : hnOK 0 i q z = true := hM
      refine lv_iload_n hx hb dX4_hasNoDearWay_2 rfl (lv_at hl 0 rfl) ?_
      refine lv_aload_n hx hb dX4_hasNoDearWay_3 rfl (lv_at hl 1 rfl) ?_
      refine va_get (D := D) (ci := 11) (v := .int 25) (C := RX4) (T := TX4) (N := 14) hx hb hts hb_0 hown hK hP 0 rfl rfl 0 (by decide) hw_0 (fun _ h9 => h9) rfl dX4_hasNoDearWay_4 ?_
      refine lv_icmp_ge (tgt := 84) hx hb dX4_hasNoDearWay_7 (by decide) (fun h1 => ?_) (fun h1 => absurd (by exact (nI_leI (a := 25) (b := i) (by omega) (by omega)).mpr (by omega)) h1)
      refine lv_iconst (v := 1) hx hb dX4_hasNoDearWay_84 (by decide) ?_
      exact mr_z (rfl) hx hb hr () (rfl) (hP.sub [] rfl) (hK.sub [] rfl) (hD.sub [] (by decide) rfl) hS (Nat.le_of_ble_eq_true rfl) (Nat.le_of_ble_eq_true rfl) hlocks dX4_hasNoDearWay_85
    | succ fu ih =>
      intro i w q z hd wt H locs ls hi hw hq hM hl hP hD hS
      have hi : i + (fu + 1) = 25 := hi
      have hw : w.length = 144 := hw
      have hq : okQ q z := hq
      have hM : hnOK (fu + 1) i q z = true := hM
      refine lv_iload_n hx hb dX4_hasNoDearWay_2 rfl (lv_at hl 0 rfl) ?_
      refine lv_aload_n hx hb dX4_hasNoDearWay_3 rfl (lv_at hl 1 rfl) ?_
      refine va_get (D := D) (ci := 11) (v := .int 25) (C := RX4) (T := TX4) (N := 14) hx hb hts hb_0 hown hK hP 0 rfl rfl 0 (by decide) hw_0 (fun _ h9 => h9) rfl dX4_hasNoDearWay_4 ?_
      refine lv_icmp_ge (tgt := 84) hx hb dX4_hasNoDearWay_7 (by decide) (fun h2 => absurd h2 (by exact fun q9 => absurd ((nI_leI (a := 25) (b := i) (by omega) (by omega)).mp q9) (by omega))) (fun h2 => ?_)
      refine lv_aload_n hx hb dX4_hasNoDearWay_10 rfl (lv_at hl 1 rfl) ?_
      refine lv_iload_n hx hb dX4_hasNoDearWay_11 rfl (lv_at hl 0 rfl) ?_
      refine lv_iconst (v := 1) hx hb dX4_hasNoDearWay_12 (by decide) ?_
      refine lv_iconst (v := 0) hx hb dX4_hasNoDearWay_13 (by decide) ?_
      refine lv_aload_n hx hb dX4_hasNoDearWay_14 rfl (lv_at hl 1 rfl) ?_
      refine lv_iload_n hx hb dX4_hasNoDearWay_15 rfl (lv_at hl 0 rfl) ?_
      refine mc_i (wr := []) (va_runV (As := [.int (nI i)]) (rest := [.int 0, .int 1, .int (nI i), .ref g]) ⟨hx, hb, hml, hown, hts⟩ (c_dearestStep l hst D g a1 a2 a3 a4 a5 a6 a7 a8 a9 a10 a11 25 hd wt cw cq cz ck csk cg ch csg cb w q z i H.size (by omega)) (cwV 1 hts (gi_c (List.mem_cons_of_mem _ (List.mem_append_left _ (List.mem_of_getElem? (i := 1) rfl))) rfl (gi_c (List.mem_cons_of_mem _ (List.mem_append_left _ (List.mem_of_getElem? (i := 2) rfl))) rfl (gi_c (List.mem_cons_of_mem _ (List.mem_append_left _ (List.mem_of_getElem? (i := 3) rfl))) rfl (gi_c (List.mem_cons_of_mem _ (List.mem_append_left _ (List.mem_of_getElem? (i := 4) rfl))) rfl (goodIn_sub hb_1 (List.all_eq_true.mpr gw_c_dearestStep)))))) rfl rfl rfl (by decide +kernel) ⟨Nat.le_of_ble_eq_true rfl, Nat.le_of_ble_eq_true rfl⟩) (pr_V (As := [.int (nI i)]) (b := g) (C := RX4) hP hD hK hS hA hE [0, 1, 2, 3, 4, 5, 6, 7, 8, 9] [0, 1, 2, 3, 4, 5, 6, 7, 8] rfl rfl rfl 0 11 rfl rfl rfl) rfl rfl hl.1 rfl (lv_room (Nat.le_of_ble_eq_true rfl)) dX4_hasNoDearWay_16 ⟨Nat.le_of_ble_eq_true rfl, Nat.le_of_ble_eq_true rfl⟩) hP hD hK hS hA [0, 1, 2, 3, 4, 5, 6, 7, 8, 9] [] rfl rfl (by decide) (by decide) (fun r4 _ H locs w3 hP hD hK hS => ?_)
      have hP : va_P D vwCl [(g, .inr (11, [.int 25, .ref a1, .ref a2, .ref a3, .ref a4, .ref a5, .ref a6, .ref a7, .ref a8, .ref a9, .ref a10, .ref a11, .int hd, .int wt])), (a6, .inl (cw, 144, .inl (fL w))), (a10, .inl (cq, 144, .inl (fL q))), (a11, .inl (cz, 144, .inl (fL z))), (a3, .inl (ck, 144, .inl okF)), (a5, .inl (csk, 144, .inl okF)), (a1, .inl (cg, 144, .inl (fun _ => 0))), (a2, .inl (ch, 144, .inl (fun _ => 0))), (a4, .inl (csg, 144, .inl (fun _ => 0))), (a9, .inl (cb, 576, .inl beF))] H := hP
      have hD : va_D A [(g, .inr (11, [.int 25, .ref a1, .ref a2, .ref a3, .ref a4, .ref a5, .ref a6, .ref a7, .ref a8, .ref a9, .ref a10, .ref a11, .int hd, .int wt])), (a6, .inl (cw, 144, .inl (fL w))), (a10, .inl (cq, 144, .inl (fL q))), (a11, .inl (cz, 144, .inl (fL z))), (a3, .inl (ck, 144, .inl okF)), (a5, .inl (csk, 144, .inl okF)), (a1, .inl (cg, 144, .inl (fun _ => 0))), (a2, .inl (ch, 144, .inl (fun _ => 0))), (a4, .inl (csg, 144, .inl (fun _ => 0))), (a9, .inl (cb, 576, .inl beF))] := hD
      have hK : va_K D vwCl [(cw, .int), (cq, .int), (cz, .boolean), (ck, .char), (csk, .char), (cg, .int), (ch, .int), (csg, .int), (cb, .int)] s := hK
      obtain rfl : r4 = 10 := w3
      refine mc_v (wr := []) (va_runV (As := [.int (nI i), .int 1, .int 0, .int 10]) (rest := []) ⟨hx, hb, hml, hown, hts⟩ (c_spread l hst D g a1 a2 a3 a4 a5 a6 a7 a8 a9 a10 a11 25 hd wt cw cq cz ck csk cg ch csg cb w q z i 1 0 10 H.size (hw) (hq) (by omega) (by decide)) (cwV 4 hts (gi_c (List.mem_cons_of_mem _ (List.mem_append_left _ (List.mem_of_getElem? (i := 5) rfl))) rfl (gi_c (List.mem_cons_of_mem _ (List.mem_append_left _ (List.mem_of_getElem? (i := 6) rfl))) rfl (gi_c (List.mem_cons_of_mem _ (List.mem_append_left _ (List.mem_of_getElem? (i := 7) rfl))) rfl (gi_c (List.mem_cons_of_mem _ (List.mem_append_left _ (List.mem_of_getElem? (i := 4) rfl))) rfl (goodIn_sub hb_2 (List.all_eq_true.mpr gw_c_spread)))))) rfl rfl rfl (by decide +kernel) ⟨Nat.le_of_ble_eq_true rfl, Nat.le_of_ble_eq_true rfl⟩) (pr_V (As := [.int (nI i), .int 1, .int 0, .int 10]) (b := g) (C := RX4) hP hD hK hS hA hE [0, 1, 2, 3, 4, 5, 6, 7, 8, 9] [0, 1, 2, 3, 4, 5, 6, 7, 8] rfl rfl rfl 0 11 rfl rfl rfl) rfl rfl hl.1 rfl (lv_room (Nat.le_of_ble_eq_true rfl)) dX4_hasNoDearWay_19 ⟨Nat.le_of_ble_eq_true rfl, Nat.le_of_ble_eq_true rfl⟩) hP hD hK hS hA [0, 1, 2, 3, 4, 5, 6, 7, 8, 9] [] rfl rfl (by decide) (by decide) (fun u5 H locs w6 hP hD hK hS => ?_)
      have hP : va_P D vwCl [(g, .inr (11, [.int 25, .ref a1, .ref a2, .ref a3, .ref a4, .ref a5, .ref a6, .ref a7, .ref a8, .ref a9, .ref a10, .ref a11, .int (nI u5.2.2.2.1), .int (nI u5.2.2.2.2)])), (a6, .inl (cw, 144, .inl (fL u5.1))), (a10, .inl (cq, 144, .inl (fL u5.2.1))), (a11, .inl (cz, 144, .inl (fL u5.2.2.1))), (a3, .inl (ck, 144, .inl okF)), (a5, .inl (csk, 144, .inl okF)), (a1, .inl (cg, 144, .inl (fun _ => 0))), (a2, .inl (ch, 144, .inl (fun _ => 0))), (a4, .inl (csg, 144, .inl (fun _ => 0))), (a9, .inl (cb, 576, .inl beF))] H := hP
      have hD : va_D A [(g, .inr (11, [.int 25, .ref a1, .ref a2, .ref a3, .ref a4, .ref a5, .ref a6, .ref a7, .ref a8, .ref a9, .ref a10, .ref a11, .int (nI u5.2.2.2.1), .int (nI u5.2.2.2.2)])), (a6, .inl (cw, 144, .inl (fL u5.1))), (a10, .inl (cq, 144, .inl (fL u5.2.1))), (a11, .inl (cz, 144, .inl (fL u5.2.2.1))), (a3, .inl (ck, 144, .inl okF)), (a5, .inl (csk, 144, .inl okF)), (a1, .inl (cg, 144, .inl (fun _ => 0))), (a2, .inl (ch, 144, .inl (fun _ => 0))), (a4, .inl (csg, 144, .inl (fun _ => 0))), (a9, .inl (cb, 576, .inl beF))] := hD
      have hK : va_K D vwCl [(cw, .int), (cq, .int), (cz, .boolean), (ck, .char), (csk, .char), (cg, .int), (ch, .int), (csg, .int), (cb, .int)] s := hK
      obtain ⟨hgo, oku⟩ := w6
      obtain ⟨ok1, ok2, ok3, ok4, ok5, ok6, ok7, ok8⟩ := id oku
      refine lv_iconst (v := 0) hx hb dX4_hasNoDearWay_22 (by decide) ?_
      refine lv_istore_n (lv' := [(2, .int 0), (1, .int (nI i)), (0, .ref g)]) hx hb dX4_hasNoDearWay_23 rfl hl (by decide) rfl (fun ls hl => ?_)
      obtain ⟨hd, hM2⟩ := hnOK_go hM
      rw [← hgo] at hd hM2
      have li : ∀ (fu2 : Nat) (j : Nat) (H : Heap) (locs : List Loc) (ls : Array Slot), (j + fu2 = 4) → lv_has ls 4 [(2, .int (nI j)), (1, .int (nI i)), (0, .ref g)] → va_P D vwCl [(g, .inr (11, [.int 25, .ref a1, .ref a2, .ref a3, .ref a4, .ref a5, .ref a6, .ref a7, .ref a8, .ref a9, .ref a10, .ref a11, .int (nI u5.2.2.2.1), .int (nI u5.2.2.2.2)])), (a6, .inl (cw, 144, .inl (fL u5.1))), (a10, .inl (cq, 144, .inl (fL u5.2.1))), (a11, .inl (cz, 144, .inl (fL u5.2.2.1))), (a3, .inl (ck, 144, .inl okF)), (a5, .inl (csk, 144, .inl okF)), (a1, .inl (cg, 144, .inl (fun _ => 0))), (a2, .inl (ch, 144, .inl (fun _ => 0))), (a4, .inl (csg, 144, .inl (fun _ => 0))), (a9, .inl (cb, 576, .inl beF))] H → va_D A [(g, .inr (11, [.int 25, .ref a1, .ref a2, .ref a3, .ref a4, .ref a5, .ref a6, .ref a7, .ref a8, .ref a9, .ref a10, .ref a11, .int (nI u5.2.2.2.1), .int (nI u5.2.2.2.2)])), (a6, .inl (cw, 144, .inl (fL u5.1))), (a10, .inl (cq, 144, .inl (fL u5.2.1))), (a11, .inl (cz, 144, .inl (fL u5.2.2.1))), (a3, .inl (ck, 144, .inl okF)), (a5, .inl (csk, 144, .inl okF)), (a1, .inl (cg, 144, .inl (fun _ => 0))), (a2, .inl (ch, 144, .inl (fun _ => 0))), (a4, .inl (csg, 144, .inl (fun _ => 0))), (a9, .inl (cb, 576, .inl beF))] → va_S A s.heap H locs → W p l e { frames := 4, cells := 0, slots := 0, locals := 91 } s m args below meth c H locs 0 0 (MQ below (va_Qi (fun (r : Int32) (_ : Unit) => r = 1) (qb D A (fun _ : Unit => []) (fun _ : Unit => ([] : List (ClassId × FieldType)))) A) args s 0 0 A) (F0 m 24 ls []) := by
        intro fu2
        induction fu2 with
        | zero =>
          intro j H locs ls hj hl hP hD hS
          have hj : j + 0 = 4 := hj
          refine lv_iload_n hx hb dX4_hasNoDearWay_24 rfl (lv_at hl 0 rfl) ?_
          refine lv_iconst (v := 4) hx hb dX4_hasNoDearWay_25 (by decide) ?_
          refine lv_icmp_ge (tgt := 78) hx hb dX4_hasNoDearWay_26 (by decide) (fun h8 => ?_) (fun h8 => absurd (by exact (nI_leI (a := 4) (b := j) (by omega) (by omega)).mpr (by omega)) h8)
          obtain ⟨x9, e9⟩ : ∃ z : Int32, z = nI i + 1 := ⟨_, rfl⟩
          refine lv_iinc (v := x9) (lv' := [(1, .int x9), (2, .int (nI j)), (0, .ref g)]) hx hb dX4_hasNoDearWay_78 hl (k := 1) rfl (by rw [e9]; rfl) (by decide) rfl (fun ls hl => ?_)
          obtain rfl : x9 = nI (i + 1) := e9.trans (nI_add i 1)
          refine lv_goto (tgt := 2) hx hb dX4_hasNoDearWay_81 (by decide) ?_
          exact ih  (i + 1) u5.1 u5.2.1 u5.2.2.1 (nI u5.2.2.2.1) (nI u5.2.2.2.2) _ _ _ (by omega) ok1 (okQ_of oku) hM2 (lv_sub hl [0, 2] rfl) (hP.sub [0, 1, 2, 3, 4, 5, 6, 7, 8, 9] rfl) (hD.sub [0, 1, 2, 3, 4, 5, 6, 7, 8, 9] (by decide) rfl) hS
        | succ fu2 ih2 =>
          intro j H locs ls hj hl hP hD hS
          have hj : j + (fu2 + 1) = 4 := hj
          rcases hbm : beM i j with _ | nx
          · refine lv_iload_n hx hb dX4_hasNoDearWay_24 rfl (lv_at hl 0 rfl) ?_
            refine lv_iconst (v := 4) hx hb dX4_hasNoDearWay_25 (by decide) ?_
            refine lv_icmp_ge (tgt := 78) hx hb dX4_hasNoDearWay_26 (by decide) (fun h10 => absurd h10 (by exact fun q9 => absurd ((nI_leI (a := 4) (b := j) (by omega) (by omega)).mp q9) (by omega))) (fun h10 => ?_)
            refine lv_aload_n hx hb dX4_hasNoDearWay_29 rfl (lv_at hl 2 rfl) ?_
            refine va_get (D := D) (ci := 11) (v := .ref a9) (C := RX4) (T := TX4) (N := 14) hx hb hts hb_0 hown hK hP 0 rfl rfl 9 (by decide) hw_8 (fun _ h9 => h9) rfl dX4_hasNoDearWay_30 ?_
            refine lv_iload_n hx hb dX4_hasNoDearWay_33 rfl (lv_at hl 1 rfl) ?_
            refine lv_iconst (v := 4) hx hb dX4_hasNoDearWay_34 (by decide) ?_
            refine lv_imul hx hb dX4_hasNoDearWay_35 ?_
            refine lv_topi (fun x11 e11 => ?_)
            obtain rfl : x11 = nI (i * 4) := e11.trans (pk_mul i 4)
            refine lv_iload_n hx hb dX4_hasNoDearWay_36 rfl (lv_at hl 0 rfl) ?_
            refine lv_iadd hx hb dX4_hasNoDearWay_37 ?_
            refine lv_topi (fun x12 e12 => ?_)
            obtain rfl : x12 = nI ((i * 4) + j) := e12.trans (nI_add (i * 4) j)
            refine va_iald hx hb hK hP 9 8 rfl rfl (vp_in_nI (n := (i * 4) + j) (by omega) (by decide)) dX4_hasNoDearWay_38 ?_
            refine lv_topi (fun x13 e13 => ?_)
            obtain rfl : x13 = (-1) := e13.trans (beF_none (by omega) (by omega) hbm)
            refine lv_istore_n (lv' := [(3, .int (-1)), (2, .int (nI j)), (1, .int (nI i)), (0, .ref g)]) hx hb dX4_hasNoDearWay_39 rfl hl (by decide) rfl (fun ls hl => ?_)
            refine lv_iload_n hx hb dX4_hasNoDearWay_40 rfl (lv_at hl 0 rfl) ?_
            refine lv_iconst (v := -1) hx hb dX4_hasNoDearWay_41 (by decide) ?_
            refine lv_icmp_eq (tgt := 72) hx hb dX4_hasNoDearWay_42 (by decide) (fun h14 => ?_) (fun h14 => absurd (by rfl) h14)
            obtain ⟨x15, e15⟩ : ∃ z : Int32, z = nI j + 1 := ⟨_, rfl⟩
            refine lv_iinc (v := x15) (lv' := [(2, .int x15), (3, .int (-1)), (1, .int (nI i)), (0, .ref g)]) hx hb dX4_hasNoDearWay_72 hl (k := 1) rfl (by rw [e15]; rfl) (by decide) rfl (fun ls hl => ?_)
            obtain rfl : x15 = nI (j + 1) := e15.trans (nI_add j 1)
            refine lv_goto (tgt := 24) hx hb dX4_hasNoDearWay_75 (by decide) ?_
            exact ih2  (j + 1) _ _ _ (by omega) (lv_sub hl [0, 2, 3] rfl) (hP.sub [0, 1, 2, 3, 4, 5, 6, 7, 8, 9] rfl) (hD.sub [0, 1, 2, 3, 4, 5, 6, 7, 8, 9] (by decide) rfl) hS
          · have hnx : nx ≤ 24 := beM_le (by omega) hbm
            have hdx := hd j (by omega) nx hbm
            refine lv_iload_n hx hb dX4_hasNoDearWay_24 rfl (lv_at hl 0 rfl) ?_
            refine lv_iconst (v := 4) hx hb dX4_hasNoDearWay_25 (by decide) ?_
            refine lv_icmp_ge (tgt := 78) hx hb dX4_hasNoDearWay_26 (by decide) (fun h16 => absurd h16 (by exact fun q9 => absurd ((nI_leI (a := 4) (b := j) (by omega) (by omega)).mp q9) (by omega))) (fun h16 => ?_)
            refine lv_aload_n hx hb dX4_hasNoDearWay_29 rfl (lv_at hl 2 rfl) ?_
            refine va_get (D := D) (ci := 11) (v := .ref a9) (C := RX4) (T := TX4) (N := 14) hx hb hts hb_0 hown hK hP 0 rfl rfl 9 (by decide) hw_8 (fun _ h9 => h9) rfl dX4_hasNoDearWay_30 ?_
            refine lv_iload_n hx hb dX4_hasNoDearWay_33 rfl (lv_at hl 1 rfl) ?_
            refine lv_iconst (v := 4) hx hb dX4_hasNoDearWay_34 (by decide) ?_
            refine lv_imul hx hb dX4_hasNoDearWay_35 ?_
            refine lv_topi (fun x17 e17 => ?_)
            obtain rfl : x17 = nI (i * 4) := e17.trans (pk_mul i 4)
            refine lv_iload_n hx hb dX4_hasNoDearWay_36 rfl (lv_at hl 0 rfl) ?_
            refine lv_iadd hx hb dX4_hasNoDearWay_37 ?_
            refine lv_topi (fun x18 e18 => ?_)
            obtain rfl : x18 = nI ((i * 4) + j) := e18.trans (nI_add (i * 4) j)
            refine va_iald hx hb hK hP 9 8 rfl rfl (vp_in_nI (n := (i * 4) + j) (by omega) (by decide)) dX4_hasNoDearWay_38 ?_
            refine lv_topi (fun x19 e19 => ?_)
            obtain rfl : x19 = nI nx := e19.trans (beF_some (by omega) (by omega) hbm)
            refine lv_istore_n (lv' := [(3, .int (nI nx)), (2, .int (nI j)), (1, .int (nI i)), (0, .ref g)]) hx hb dX4_hasNoDearWay_39 rfl hl (by decide) rfl (fun ls hl => ?_)
            refine lv_iload_n hx hb dX4_hasNoDearWay_40 rfl (lv_at hl 0 rfl) ?_
            refine lv_iconst (v := -1) hx hb dX4_hasNoDearWay_41 (by decide) ?_
            refine lv_icmp_eq (tgt := 72) hx hb dX4_hasNoDearWay_42 (by decide) (fun h20 => absurd h20 (by exact nI_nm1 (by omega))) (fun h20 => ?_)
            refine lv_aload_n hx hb dX4_hasNoDearWay_45 rfl (lv_at hl 3 rfl) ?_
            refine lv_iload_n hx hb dX4_hasNoDearWay_46 rfl (lv_at hl 0 rfl) ?_
            refine lv_iconst (v := 1) hx hb dX4_hasNoDearWay_47 (by decide) ?_
            refine mc_i (wr := [(a6, .inl (cw, 144, .inl (fL u5.1))), (a10, .inl (cq, 144, .inl (fL u5.2.1))), (a11, .inl (cz, 144, .inl (fL u5.2.2.1))), (a1, .inl (cg, 144, .inl (fun _ => 0))), (a2, .inl (ch, 144, .inl (fun _ => 0))), (a4, .inl (csg, 144, .inl (fun _ => 0))), (a9, .inl (cb, 576, .inl beF))]) (va_runV (As := [.int (nI nx), .int 1]) (rest := []) ⟨hx, hb, hml, hown, hts⟩ (c_canEnter l hst D g a1 a2 a3 a4 a5 a6 a7 a8 a9 a10 a11 25 (nI u5.2.2.2.1) (nI u5.2.2.2.2) ck csk nx 1 H.size (by omega)) (cwV 2 hts (gi_c (List.mem_cons_of_mem _ (List.mem_append_left _ (List.mem_of_getElem? (i := 9) rfl))) rfl (gi_c (List.mem_cons_of_mem _ (List.mem_append_left _ (List.mem_of_getElem? (i := 10) rfl))) rfl (gi_c (List.mem_cons_of_mem _ (List.mem_append_left _ (List.mem_of_getElem? (i := 11) rfl))) rfl (gi_c (List.mem_cons_of_mem _ (List.mem_append_left _ (List.mem_of_getElem? (i := 4) rfl))) rfl (goodIn_sub hb_3 (List.all_eq_true.mpr gw_c_canEnter)))))) rfl rfl rfl (by decide +kernel) ⟨Nat.le_of_ble_eq_true rfl, Nat.le_of_ble_eq_true rfl⟩) (pr_V (As := [.int (nI nx), .int 1]) (b := g) (C := RX4) hP hD hK hS hA hE [0, 4, 5] [3, 4] rfl rfl rfl 0 11 rfl rfl rfl) rfl rfl hl.1 rfl (lv_room (Nat.le_of_ble_eq_true rfl)) dX4_hasNoDearWay_48 ⟨Nat.le_of_ble_eq_true rfl, Nat.le_of_ble_eq_true rfl⟩) hP hD hK hS hA [0, 4, 5] [1, 2, 3, 6, 7, 8, 9] rfl rfl (by decide) (by decide) (fun r22 _ H locs w21 hP hD hK hS => ?_)
            have hP : va_P D vwCl [(a6, .inl (cw, 144, .inl (fL u5.1))), (a10, .inl (cq, 144, .inl (fL u5.2.1))), (a11, .inl (cz, 144, .inl (fL u5.2.2.1))), (a1, .inl (cg, 144, .inl (fun _ => 0))), (a2, .inl (ch, 144, .inl (fun _ => 0))), (a4, .inl (csg, 144, .inl (fun _ => 0))), (a9, .inl (cb, 576, .inl beF)), (g, .inr (11, [.int 25, .ref a1, .ref a2, .ref a3, .ref a4, .ref a5, .ref a6, .ref a7, .ref a8, .ref a9, .ref a10, .ref a11, .int (nI u5.2.2.2.1), .int (nI u5.2.2.2.2)])), (a3, .inl (ck, 144, .inl okF)), (a5, .inl (csk, 144, .inl okF))] H := hP
            have hD : va_D A [(a6, .inl (cw, 144, .inl (fL u5.1))), (a10, .inl (cq, 144, .inl (fL u5.2.1))), (a11, .inl (cz, 144, .inl (fL u5.2.2.1))), (a1, .inl (cg, 144, .inl (fun _ => 0))), (a2, .inl (ch, 144, .inl (fun _ => 0))), (a4, .inl (csg, 144, .inl (fun _ => 0))), (a9, .inl (cb, 576, .inl beF)), (g, .inr (11, [.int 25, .ref a1, .ref a2, .ref a3, .ref a4, .ref a5, .ref a6, .ref a7, .ref a8, .ref a9, .ref a10, .ref a11, .int (nI u5.2.2.2.1), .int (nI u5.2.2.2.2)])), (a3, .inl (ck, 144, .inl okF)), (a5, .inl (csk, 144, .inl okF))] := hD
            have hK : va_K D vwCl [(cw, .int), (cq, .int), (cz, .boolean), (ck, .char), (csk, .char), (cg, .int), (ch, .int), (csg, .int), (cb, .int)] s := hK
            obtain rfl : r22 = 1 := w21
            refine lv_if_eq (tgt := 72) hx hb dX4_hasNoDearWay_51 (by decide) (fun h23 => absurd h23 (by decide)) (fun h23 => ?_)
            refine lv_aload_n hx hb dX4_hasNoDearWay_54 rfl (lv_at hl 3 rfl) ?_
            refine va_get (D := D) (ci := 11) (v := .ref a6) (C := RX4) (T := TX4) (N := 14) hx hb hts hb_0 hown hK hP 7 rfl rfl 6 (by decide) hw_12 (fun _ h9 => h9) rfl dX4_hasNoDearWay_55 ?_
            refine lv_iload_n hx hb dX4_hasNoDearWay_58 rfl (lv_at hl 0 rfl) ?_
            refine va_iald hx hb hK hP 0 0 rfl rfl (vp_in_nI (n := nx) (by omega) (by decide)) dX4_hasNoDearWay_59 ?_
            have b24 := ok6 nx
            refine lv_topi (fun x25 e25 => ?_)
            obtain rfl : x25 = nI (u5.1.getD nx 0) := e25.trans (fL_at (by omega))
            refine lv_aload_n hx hb dX4_hasNoDearWay_60 rfl (lv_at hl 3 rfl) ?_
            refine lv_iload_n hx hb dX4_hasNoDearWay_61 rfl (lv_at hl 2 rfl) ?_
            refine lv_iload_n hx hb dX4_hasNoDearWay_62 rfl (lv_at hl 0 rfl) ?_
            refine lv_iconst (v := 1) hx hb dX4_hasNoDearWay_63 (by decide) ?_
            refine mc_i (wr := [(a6, .inl (cw, 144, .inl (fL u5.1))), (a10, .inl (cq, 144, .inl (fL u5.2.1))), (a11, .inl (cz, 144, .inl (fL u5.2.2.1))), (a9, .inl (cb, 576, .inl beF)), (a3, .inl (ck, 144, .inl okF)), (a5, .inl (csk, 144, .inl okF))]) (va_runV (As := [.int (nI i), .int (nI nx), .int 1]) (rest := [.int (nI (u5.1.getD nx 0))]) ⟨hx, hb, hml, hown, hts⟩ (c_step l hst D g a1 a2 a3 a4 a5 a6 a7 a8 a9 a10 a11 25 (nI u5.2.2.2.1) (nI u5.2.2.2.2) cg ch csg i nx 1 H.size (by omega) (by omega)) (cwV 3 hts (gi_c (List.mem_cons_of_mem _ (List.mem_append_left _ (List.mem_of_getElem? (i := 13) rfl))) rfl (gi_c (List.mem_cons_of_mem _ (List.mem_append_left _ (List.mem_of_getElem? (i := 14) rfl))) rfl (gi_c (List.mem_cons_of_mem _ (List.mem_append_left _ (List.mem_of_getElem? (i := 15) rfl))) rfl (gi_c (List.mem_cons_of_mem _ (List.mem_append_left _ (List.mem_of_getElem? (i := 4) rfl))) rfl (goodIn_sub hb_4 (List.all_eq_true.mpr gw_c_step)))))) rfl rfl rfl (by decide +kernel) ⟨Nat.le_of_ble_eq_true rfl, Nat.le_of_ble_eq_true rfl⟩) (pr_V (As := [.int (nI i), .int (nI nx), .int 1]) (b := g) (C := RX4) hP hD hK hS hA hE [7, 3, 4, 5] [5, 6, 7] rfl rfl rfl 7 11 rfl rfl rfl) rfl rfl hl.1 rfl (lv_room (Nat.le_of_ble_eq_true rfl)) dX4_hasNoDearWay_64 ⟨Nat.le_of_ble_eq_true rfl, Nat.le_of_ble_eq_true rfl⟩) hP hD hK hS hA [7, 3, 4, 5] [0, 1, 2, 6, 8, 9] rfl rfl (by decide) (by decide) (fun r27 _ H locs w26 hP hD hK hS => ?_)
            have hP : va_P D vwCl [(a6, .inl (cw, 144, .inl (fL u5.1))), (a10, .inl (cq, 144, .inl (fL u5.2.1))), (a11, .inl (cz, 144, .inl (fL u5.2.2.1))), (a9, .inl (cb, 576, .inl beF)), (a3, .inl (ck, 144, .inl okF)), (a5, .inl (csk, 144, .inl okF)), (g, .inr (11, [.int 25, .ref a1, .ref a2, .ref a3, .ref a4, .ref a5, .ref a6, .ref a7, .ref a8, .ref a9, .ref a10, .ref a11, .int (nI u5.2.2.2.1), .int (nI u5.2.2.2.2)])), (a1, .inl (cg, 144, .inl (fun _ => 0))), (a2, .inl (ch, 144, .inl (fun _ => 0))), (a4, .inl (csg, 144, .inl (fun _ => 0)))] H := hP
            have hD : va_D A [(a6, .inl (cw, 144, .inl (fL u5.1))), (a10, .inl (cq, 144, .inl (fL u5.2.1))), (a11, .inl (cz, 144, .inl (fL u5.2.2.1))), (a9, .inl (cb, 576, .inl beF)), (a3, .inl (ck, 144, .inl okF)), (a5, .inl (csk, 144, .inl okF)), (g, .inr (11, [.int 25, .ref a1, .ref a2, .ref a3, .ref a4, .ref a5, .ref a6, .ref a7, .ref a8, .ref a9, .ref a10, .ref a11, .int (nI u5.2.2.2.1), .int (nI u5.2.2.2.2)])), (a1, .inl (cg, 144, .inl (fun _ => 0))), (a2, .inl (ch, 144, .inl (fun _ => 0))), (a4, .inl (csg, 144, .inl (fun _ => 0)))] := hD
            have hK : va_K D vwCl [(cw, .int), (cq, .int), (cz, .boolean), (ck, .char), (csk, .char), (cg, .int), (ch, .int), (csg, .int), (cb, .int)] s := hK
            obtain rfl : r27 = 10 := w26
            refine lv_icmp_le (tgt := 72) hx hb dX4_hasNoDearWay_67 (by decide) (fun h28 => ?_) (fun h28 => absurd (by exact (nI_leI (a := u5.1.getD nx 0) (b := 10) (by omega) (by omega)).mpr (by omega)) h28)
            obtain ⟨x29, e29⟩ : ∃ z : Int32, z = nI j + 1 := ⟨_, rfl⟩
            refine lv_iinc (v := x29) (lv' := [(2, .int x29), (3, .int (nI nx)), (1, .int (nI i)), (0, .ref g)]) hx hb dX4_hasNoDearWay_72 hl (k := 1) rfl (by rw [e29]; rfl) (by decide) rfl (fun ls hl => ?_)
            obtain rfl : x29 = nI (j + 1) := e29.trans (nI_add j 1)
            refine lv_goto (tgt := 24) hx hb dX4_hasNoDearWay_75 (by decide) ?_
            exact ih2  (j + 1) _ _ _ (by omega) (lv_sub hl [0, 2, 3] rfl) (hP.sub [6, 0, 1, 2, 4, 5, 7, 8, 9, 3] rfl) (hD.sub [6, 0, 1, 2, 4, 5, 7, 8, 9, 3] (by decide) rfl) hS
      exact li 4 0 _ _ _ rfl (lv_sub hl [0, 1, 2] rfl) (hP.sub [0, 1, 2, 3, 4, 5, 6, 7, 8, 9] rfl) (hD.sub [0, 1, 2, 3, 4, 5, 6, 7, 8, 9] (by decide) rfl) hS
  exact lp 25 0 w0 q z hd wt _ _ _ rfl hw0 hq hok (lv_sub hl [0, 1] rfl) (hP.sub [0, 1, 2, 3, 4, 5, 6, 7, 8, 9] rfl) (hD.sub [0, 1, 2, 3, 4, 5, 6, 7, 8, 9] (by decide) rfl) hS
