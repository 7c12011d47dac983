theorem dX4_canEnter_0 : decode cX4_canEnter 0 = .ok (.iload_n 2, 1) := by decide +kernel
theorem dX4_canEnter_1 : decode cX4_canEnter 1 = .ok (.ifCond .eq 22, 3) := by decide +kernel
theorem dX4_canEnter_23 : decode cX4_canEnter 23 = .ok (.aload_n 0, 1) := by decide +kernel
theorem dX4_canEnter_24 : decode cX4_canEnter 24 = .ok (.getfield 18, 3) := by decide +kernel
theorem dX4_canEnter_27 : decode cX4_canEnter 27 = .ok (.iload_n 1, 1) := by decide +kernel
theorem dX4_canEnter_28 : decode cX4_canEnter 28 = .ok (.caload, 1) := by decide +kernel
theorem dX4_canEnter_29 : decode cX4_canEnter 29 = .ok (.bipush 119, 2) := by decide +kernel
theorem dX4_canEnter_31 : decode cX4_canEnter 31 = .ok (.if_icmp .eq 7, 3) := by decide +kernel
theorem dX4_canEnter_34 : decode cX4_canEnter 34 = .ok (.iconst 1, 1) := by decide +kernel
theorem dX4_canEnter_35 : decode cX4_canEnter 35 = .ok (.goto 4, 3) := by decide +kernel
theorem dX4_canEnter_39 : decode cX4_canEnter 39 = .ok (.ireturn, 1) := by decide +kernel
theorem dX4_canEnter_4 : decode cX4_canEnter 4 = .ok (.aload_n 0, 1) := by decide +kernel
theorem dX4_canEnter_5 : decode cX4_canEnter 5 = .ok (.getfield 25, 3) := by decide +kernel
theorem dX4_canEnter_8 : decode cX4_canEnter 8 = .ok (.iload_n 1, 1) := by decide +kernel
theorem dX4_canEnter_9 : decode cX4_canEnter 9 = .ok (.caload, 1) := by decide +kernel
theorem dX4_canEnter_10 : decode cX4_canEnter 10 = .ok (.bipush 46, 2) := by decide +kernel
theorem dX4_canEnter_12 : decode cX4_canEnter 12 = .ok (.if_icmp .ne 7, 3) := by decide +kernel
theorem dX4_canEnter_15 : decode cX4_canEnter 15 = .ok (.iconst 1, 1) := by decide +kernel
theorem dX4_canEnter_16 : decode cX4_canEnter 16 = .ok (.goto 23, 3) := by decide +kernel
theorem dX4_step_0 : decode cX4_step 0 = .ok (.iload_n 3, 1) := by decide +kernel
theorem dX4_step_1 : decode cX4_step 1 = .ok (.ifCond .eq 12, 3) := by decide +kernel
theorem dX4_step_13 : decode cX4_step 13 = .ok (.aload_n 0, 1) := by decide +kernel
theorem dX4_step_14 : decode cX4_step 14 = .ok (.getfield 9, 3) := by decide +kernel
theorem dX4_step_17 : decode cX4_step 17 = .ok (.iload_n 2, 1) := by decide +kernel
theorem dX4_step_18 : decode cX4_step 18 = .ok (.iaload, 1) := by decide +kernel
theorem dX4_step_19 : decode cX4_step 19 = .ok (.istore 4, 2) := by decide +kernel
theorem dX4_step_21 : decode cX4_step 21 = .ok (.iconst 0, 1) := by decide +kernel
theorem dX4_step_22 : decode cX4_step 22 = .ok (.aload_n 0, 1) := by decide +kernel
theorem dX4_step_23 : decode cX4_step 23 = .ok (.getfield 15, 3) := by decide +kernel
theorem dX4_step_26 : decode cX4_step 26 = .ok (.iload_n 2, 1) := by decide +kernel
theorem dX4_step_27 : decode cX4_step 27 = .ok (.iaload, 1) := by decide +kernel
theorem dX4_step_28 : decode cX4_step 28 = .ok (.aload_n 0, 1) := by decide +kernel
theorem dX4_step_29 : decode cX4_step 29 = .ok (.getfield 15, 3) := by decide +kernel
theorem dX4_step_32 : decode cX4_step 32 = .ok (.iload_n 1, 1) := by decide +kernel
theorem dX4_step_33 : decode cX4_step 33 = .ok (.iaload, 1) := by decide +kernel
theorem dX4_step_34 : decode cX4_step 34 = .ok (.isub, 1) := by decide +kernel
theorem dX4_step_35 : decode cX4_step 35 = .ok (.invokestatic 83, 3) := by decide +kernel
theorem dX4_step_38 : decode cX4_step 38 = .ok (.istore 5, 2) := by decide +kernel
theorem dX4_step_40 : decode cX4_step 40 = .ok (.bipush 10, 2) := by decide +kernel
theorem dX4_step_42 : decode cX4_step 42 = .ok (.iconst 5, 1) := by decide +kernel
theorem dX4_step_43 : decode cX4_step 43 = .ok (.iload 4, 2) := by decide +kernel
theorem dX4_step_45 : decode cX4_step 45 = .ok (.imul, 1) := by decide +kernel
theorem dX4_step_46 : decode cX4_step 46 = .ok (.iadd, 1) := by decide +kernel
theorem dX4_step_47 : decode cX4_step 47 = .ok (.bipush 6, 2) := by decide +kernel
theorem dX4_step_49 : decode cX4_step 49 = .ok (.iload 5, 2) := by decide +kernel
theorem dX4_step_51 : decode cX4_step 51 = .ok (.imul, 1) := by decide +kernel
theorem dX4_step_52 : decode cX4_step 52 = .ok (.iadd, 1) := by decide +kernel
theorem dX4_step_53 : decode cX4_step 53 = .ok (.ireturn, 1) := by decide +kernel
theorem dX4_step_4 : decode cX4_step 4 = .ok (.aload_n 0, 1) := by decide +kernel
theorem dX4_step_5 : decode cX4_step 5 = .ok (.getfield 22, 3) := by decide +kernel
theorem dX4_step_8 : decode cX4_step 8 = .ok (.iload_n 2, 1) := by decide +kernel
theorem dX4_step_9 : decode cX4_step 9 = .ok (.iaload, 1) := by decide +kernel
theorem dX4_step_10 : decode cX4_step 10 = .ok (.goto 9, 3) := by decide +kernel
theorem dX4_reach_0 : decode cX4_reach 0 = .ok (.iload_n 2, 1) := by decide +kernel
theorem dX4_reach_1 : decode cX4_reach 1 = .ok (.aload_n 0, 1) := by decide +kernel
theorem dX4_reach_2 : decode cX4_reach 2 = .ok (.getfield 28, 3) := by decide +kernel
theorem dX4_reach_5 : decode cX4_reach 5 = .ok (.iload_n 1, 1) := by decide +kernel
theorem dX4_reach_6 : decode cX4_reach 6 = .ok (.iaload, 1) := by decide +kernel
theorem dX4_reach_7 : decode cX4_reach 7 = .ok (.if_icmp .lt 4, 3) := by decide +kernel
theorem dX4_reach_11 : decode cX4_reach 11 = .ok (.aload_n 0, 1) := by decide +kernel
theorem dX4_reach_12 : decode cX4_reach 12 = .ok (.getfield 28, 3) := by decide +kernel
theorem dX4_reach_15 : decode cX4_reach 15 = .ok (.iload_n 1, 1) := by decide +kernel
theorem dX4_reach_16 : decode cX4_reach 16 = .ok (.iload_n 2, 1) := by decide +kernel
theorem dX4_reach_17 : decode cX4_reach 17 = .ok (.iastore, 1) := by decide +kernel
theorem dX4_reach_18 : decode cX4_reach 18 = .ok (.aload_n 0, 1) := by decide +kernel
theorem dX4_reach_19 : decode cX4_reach 19 = .ok (.getfield 43, 3) := by decide +kernel
theorem dX4_reach_22 : decode cX4_reach 22 = .ok (.iload_n 1, 1) := by decide +kernel
theorem dX4_reach_23 : decode cX4_reach 23 = .ok (.baload, 1) := by decide +kernel
theorem dX4_reach_24 : decode cX4_reach 24 = .ok (.ifCond .ne 62, 3) := by decide +kernel
theorem dX4_reach_86 : decode cX4_reach 86 = .ok (.return_, 1) := by decide +kernel
theorem dX4_reach_27 : decode cX4_reach 27 = .ok (.aload_n 0, 1) := by decide +kernel
theorem dX4_reach_28 : decode cX4_reach 28 = .ok (.getfield 90, 3) := by decide +kernel
theorem dX4_reach_31 : decode cX4_reach 31 = .ok (.sipush 144, 3) := by decide +kernel
theorem dX4_reach_34 : decode cX4_reach 34 = .ok (.if_icmp .ge 52, 3) := by decide +kernel
theorem dX4_reach_37 : decode cX4_reach 37 = .ok (.aload_n 0, 1) := by decide +kernel
theorem dX4_reach_38 : decode cX4_reach 38 = .ok (.getfield 87, 3) := by decide +kernel
theorem dX4_reach_41 : decode cX4_reach 41 = .ok (.aload_n 0, 1) := by decide +kernel
theorem dX4_reach_42 : decode cX4_reach 42 = .ok (.getfield 90, 3) := by decide +kernel
theorem dX4_reach_45 : decode cX4_reach 45 = .ok (.iadd, 1) := by decide +kernel
theorem dX4_reach_46 : decode cX4_reach 46 = .ok (.istore_n 3, 1) := by decide +kernel
theorem dX4_reach_47 : decode cX4_reach 47 = .ok (.aload_n 0, 1) := by decide +kernel
theorem dX4_reach_48 : decode cX4_reach 48 = .ok (.getfield 40, 3) := by decide +kernel
theorem dX4_reach_51 : decode cX4_reach 51 = .ok (.iload_n 3, 1) := by decide +kernel
theorem dX4_reach_52 : decode cX4_reach 52 = .ok (.sipush 144, 3) := by decide +kernel
theorem dX4_reach_55 : decode cX4_reach 55 = .ok (.if_icmp .ge 7, 3) := by decide +kernel
theorem dX4_reach_62 : decode cX4_reach 62 = .ok (.iload_n 3, 1) := by decide +kernel
theorem dX4_reach_63 : decode cX4_reach 63 = .ok (.sipush 144, 3) := by decide +kernel
theorem dX4_reach_66 : decode cX4_reach 66 = .ok (.isub, 1) := by decide +kernel
theorem dX4_reach_67 : decode cX4_reach 67 = .ok (.iload_n 1, 1) := by decide +kernel
theorem dX4_reach_68 : decode cX4_reach 68 = .ok (.iastore, 1) := by decide +kernel
theorem dX4_reach_69 : decode cX4_reach 69 = .ok (.aload_n 0, 1) := by decide +kernel
theorem dX4_reach_70 : decode cX4_reach 70 = .ok (.getfield 43, 3) := by decide +kernel
theorem dX4_reach_73 : decode cX4_reach 73 = .ok (.iload_n 1, 1) := by decide +kernel
theorem dX4_reach_74 : decode cX4_reach 74 = .ok (.iconst 1, 1) := by decide +kernel
theorem dX4_reach_75 : decode cX4_reach 75 = .ok (.bastore, 1) := by decide +kernel
theorem dX4_reach_76 : decode cX4_reach 76 = .ok (.aload_n 0, 1) := by decide +kernel
theorem dX4_reach_77 : decode cX4_reach 77 = .ok (.dup, 1) := by decide +kernel
theorem dX4_reach_78 : decode cX4_reach 78 = .ok (.getfield 90, 3) := by decide +kernel
theorem dX4_reach_81 : decode cX4_reach 81 = .ok (.iconst 1, 1) := by decide +kernel
theorem dX4_reach_82 : decode cX4_reach 82 = .ok (.iadd, 1) := by decide +kernel
theorem dX4_reach_83 : decode cX4_reach 83 = .ok (.putfield 90, 3) := by decide +kernel
theorem dX4_reach_58 : decode cX4_reach 58 = .ok (.iload_n 3, 1) := by decide +kernel
theorem dX4_reach_59 : decode cX4_reach 59 = .ok (.goto 8, 3) := by decide +kernel
theorem dX4_reach_10 : decode cX4_reach 10 = .ok (.return_, 1) := by decide +kernel
theorem dX4_takeFirst_0 : decode cX4_takeFirst 0 = .ok (.aload_n 0, 1) := by decide +kernel
theorem dX4_takeFirst_1 : decode cX4_takeFirst 1 = .ok (.getfield 40, 3) := by decide +kernel
theorem dX4_takeFirst_4 : decode cX4_takeFirst 4 = .ok (.aload_n 0, 1) := by decide +kernel
theorem dX4_takeFirst_5 : decode cX4_takeFirst 5 = .ok (.getfield 87, 3) := by decide +kernel
theorem dX4_takeFirst_8 : decode cX4_takeFirst 8 = .ok (.iaload, 1) := by decide +kernel
theorem dX4_takeFirst_9 : decode cX4_takeFirst 9 = .ok (.istore_n 1, 1) := by decide +kernel
theorem dX4_takeFirst_10 : decode cX4_takeFirst 10 = .ok (.aload_n 0, 1) := by decide +kernel
theorem dX4_takeFirst_11 : decode cX4_takeFirst 11 = .ok (.aload_n 0, 1) := by decide +kernel
theorem dX4_takeFirst_12 : decode cX4_takeFirst 12 = .ok (.getfield 87, 3) := by decide +kernel
theorem dX4_takeFirst_15 : decode cX4_takeFirst 15 = .ok (.iconst 1, 1) := by decide +kernel
theorem dX4_takeFirst_16 : decode cX4_takeFirst 16 = .ok (.iadd, 1) := by decide +kernel
theorem dX4_takeFirst_17 : decode cX4_takeFirst 17 = .ok (.sipush 144, 3) := by decide +kernel
theorem dX4_takeFirst_20 : decode cX4_takeFirst 20 = .ok (.if_icmp .ge 12, 3) := by decide +kernel
theorem dX4_takeFirst_32 : decode cX4_takeFirst 32 = .ok (.iconst 0, 1) := by decide +kernel
theorem dX4_takeFirst_33 : decode cX4_takeFirst 33 = .ok (.putfield 87, 3) := by decide +kernel
theorem dX4_takeFirst_36 : decode cX4_takeFirst 36 = .ok (.aload_n 0, 1) := by decide +kernel
theorem dX4_takeFirst_37 : decode cX4_takeFirst 37 = .ok (.dup, 1) := by decide +kernel
theorem dX4_takeFirst_38 : decode cX4_takeFirst 38 = .ok (.getfield 90, 3) := by decide +kernel
theorem dX4_takeFirst_41 : decode cX4_takeFirst 41 = .ok (.iconst 1, 1) := by decide +kernel
theorem dX4_takeFirst_42 : decode cX4_takeFirst 42 = .ok (.isub, 1) := by decide +kernel
theorem dX4_takeFirst_43 : decode cX4_takeFirst 43 = .ok (.putfield 90, 3) := by decide +kernel
theorem dX4_takeFirst_46 : decode cX4_takeFirst 46 = .ok (.aload_n 0, 1) := by decide +kernel
theorem dX4_takeFirst_47 : decode cX4_takeFirst 47 = .ok (.getfield 43, 3) := by decide +kernel
theorem dX4_takeFirst_50 : decode cX4_takeFirst 50 = .ok (.iload_n 1, 1) := by decide +kernel
theorem dX4_takeFirst_51 : decode cX4_takeFirst 51 = .ok (.iconst 0, 1) := by decide +kernel
theorem dX4_takeFirst_52 : decode cX4_takeFirst 52 = .ok (.bastore, 1) := by decide +kernel
theorem dX4_takeFirst_53 : decode cX4_takeFirst 53 = .ok (.iload_n 1, 1) := by decide +kernel
theorem dX4_takeFirst_54 : decode cX4_takeFirst 54 = .ok (.ireturn, 1) := by decide +kernel
theorem dX4_takeFirst_23 : decode cX4_takeFirst 23 = .ok (.aload_n 0, 1) := by decide +kernel
theorem dX4_takeFirst_24 : decode cX4_takeFirst 24 = .ok (.getfield 87, 3) := by decide +kernel
theorem dX4_takeFirst_27 : decode cX4_takeFirst 27 = .ok (.iconst 1, 1) := by decide +kernel
theorem dX4_takeFirst_28 : decode cX4_takeFirst 28 = .ok (.iadd, 1) := by decide +kernel
theorem dX4_takeFirst_29 : decode cX4_takeFirst 29 = .ok (.goto 4, 3) := by decide +kernel
theorem dJ7_fill_53178_0 : decode cJ7_fill_53178 0 = .ok (.iconst 0, 1) := by decide +kernel
theorem dJ7_fill_53178_1 : decode cJ7_fill_53178 1 = .ok (.istore_n 2, 1) := by decide +kernel
theorem dJ7_fill_53178_2 : decode cJ7_fill_53178 2 = .ok (.aload_n 0, 1) := by decide +kernel
theorem dJ7_fill_53178_3 : decode cJ7_fill_53178 3 = .ok (.arraylength, 1) := by decide +kernel
theorem dJ7_fill_53178_4 : decode cJ7_fill_53178 4 = .ok (.istore_n 3, 1) := by decide +kernel
theorem dJ7_fill_53178_5 : decode cJ7_fill_53178 5 = .ok (.iload_n 2, 1) := by decide +kernel
theorem dJ7_fill_53178_6 : decode cJ7_fill_53178 6 = .ok (.iload_n 3, 1) := by decide +kernel
theorem dJ7_fill_53178_7 : decode cJ7_fill_53178 7 = .ok (.if_icmp .ge 13, 3) := by decide +kernel
theorem dJ7_fill_53178_20 : decode cJ7_fill_53178 20 = .ok (.return_, 1) := by decide +kernel
theorem dJ7_fill_53178_10 : decode cJ7_fill_53178 10 = .ok (.aload_n 0, 1) := by decide +kernel
theorem dJ7_fill_53178_11 : decode cJ7_fill_53178 11 = .ok (.iload_n 2, 1) := by decide +kernel
theorem dJ7_fill_53178_12 : decode cJ7_fill_53178 12 = .ok (.iload_n 1, 1) := by decide +kernel
theorem dJ7_fill_53178_13 : decode cJ7_fill_53178 13 = .ok (.iastore, 1) := by decide +kernel
theorem dJ7_fill_53178_14 : decode cJ7_fill_53178 14 = .ok (.iinc 2 1, 3) := by decide +kernel
theorem dJ7_fill_53178_17 : decode cJ7_fill_53178 17 = .ok (.goto (-12), 3) := by decide +kernel
theorem dX4_spreadFrom_0 : decode cX4_spreadFrom 0 = .ok (.iconst 0, 1) := by decide +kernel
theorem dX4_spreadFrom_1 : decode cX4_spreadFrom 1 = .ok (.istore 4, 2) := by decide +kernel
theorem dX4_spreadFrom_3 : decode cX4_spreadFrom 3 = .ok (.iload 4, 2) := by decide +kernel
theorem dX4_spreadFrom_5 : decode cX4_spreadFrom 5 = .ok (.iconst 4, 1) := by decide +kernel
theorem dX4_spreadFrom_6 : decode cX4_spreadFrom 6 = .ok (.if_icmp .ge 93, 3) := by decide +kernel
theorem dX4_spreadFrom_99 : decode cX4_spreadFrom 99 = .ok (.return_, 1) := by decide +kernel
theorem dX4_spreadFrom_9 : decode cX4_spreadFrom 9 = .ok (.aload_n 0, 1) := by decide +kernel
theorem dX4_spreadFrom_10 : decode cX4_spreadFrom 10 = .ok (.getfield 37, 3) := by decide +kernel
theorem dX4_spreadFrom_13 : decode cX4_spreadFrom 13 = .ok (.iload_n 1, 1) := by decide +kernel
theorem dX4_spreadFrom_14 : decode cX4_spreadFrom 14 = .ok (.iconst 4, 1) := by decide +kernel
theorem dX4_spreadFrom_15 : decode cX4_spreadFrom 15 = .ok (.imul, 1) := by decide +kernel
theorem dX4_spreadFrom_16 : decode cX4_spreadFrom 16 = .ok (.iload 4, 2) := by decide +kernel
theorem dX4_spreadFrom_18 : decode cX4_spreadFrom 18 = .ok (.iadd, 1) := by decide +kernel
theorem dX4_spreadFrom_19 : decode cX4_spreadFrom 19 = .ok (.iaload, 1) := by decide +kernel
theorem dX4_spreadFrom_20 : decode cX4_spreadFrom 20 = .ok (.istore 5, 2) := by decide +kernel
theorem dX4_spreadFrom_22 : decode cX4_spreadFrom 22 = .ok (.iload 5, 2) := by decide +kernel
theorem dX4_spreadFrom_24 : decode cX4_spreadFrom 24 = .ok (.iconst (-1), 1) := by decide +kernel
theorem dX4_spreadFrom_25 : decode cX4_spreadFrom 25 = .ok (.if_icmp .eq 31, 3) := by decide +kernel
theorem dX4_spreadFrom_56 : decode cX4_spreadFrom 56 = .ok (.iload 5, 2) := by decide +kernel
theorem dX4_spreadFrom_58 : decode cX4_spreadFrom 58 = .ok (.iconst (-1), 1) := by decide +kernel
theorem dX4_spreadFrom_59 : decode cX4_spreadFrom 59 = .ok (.if_icmp .eq 34, 3) := by decide +kernel
theorem dX4_spreadFrom_93 : decode cX4_spreadFrom 93 = .ok (.iinc 4 1, 3) := by decide +kernel
theorem dX4_spreadFrom_96 : decode cX4_spreadFrom 96 = .ok (.goto (-93), 3) := by decide +kernel
theorem dX4_spreadFrom_28 : decode cX4_spreadFrom 28 = .ok (.iload_n 3, 1) := by decide +kernel
theorem dX4_spreadFrom_29 : decode cX4_spreadFrom 29 = .ok (.ifCond .eq 27, 3) := by decide +kernel
theorem dX4_spreadFrom_62 : decode cX4_spreadFrom 62 = .ok (.aload_n 0, 1) := by decide +kernel
theorem dX4_spreadFrom_63 : decode cX4_spreadFrom 63 = .ok (.iload 5, 2) := by decide +kernel
theorem dX4_spreadFrom_65 : decode cX4_spreadFrom 65 = .ok (.iload_n 2, 1) := by decide +kernel
theorem dX4_spreadFrom_66 : decode cX4_spreadFrom 66 = .ok (.invokevirtual 79, 3) := by decide +kernel
theorem dX4_spreadFrom_69 : decode cX4_spreadFrom 69 = .ok (.ifCond .eq 24, 3) := by decide +kernel
theorem dX4_spreadFrom_72 : decode cX4_spreadFrom 72 = .ok (.aload_n 0, 1) := by decide +kernel
theorem dX4_spreadFrom_73 : decode cX4_spreadFrom 73 = .ok (.iload 5, 2) := by decide +kernel
theorem dX4_spreadFrom_75 : decode cX4_spreadFrom 75 = .ok (.aload_n 0, 1) := by decide +kernel
theorem dX4_spreadFrom_76 : decode cX4_spreadFrom 76 = .ok (.getfield 28, 3) := by decide +kernel
theorem dX4_spreadFrom_79 : decode cX4_spreadFrom 79 = .ok (.iload_n 1, 1) := by decide +kernel
theorem dX4_spreadFrom_80 : decode cX4_spreadFrom 80 = .ok (.iaload, 1) := by decide +kernel
theorem dX4_spreadFrom_81 : decode cX4_spreadFrom 81 = .ok (.aload_n 0, 1) := by decide +kernel
theorem dX4_spreadFrom_82 : decode cX4_spreadFrom 82 = .ok (.iload_n 1, 1) := by decide +kernel
theorem dX4_spreadFrom_83 : decode cX4_spreadFrom 83 = .ok (.iload 5, 2) := by decide +kernel
theorem dX4_spreadFrom_85 : decode cX4_spreadFrom 85 = .ok (.iload_n 2, 1) := by decide +kernel
theorem dX4_spreadFrom_86 : decode cX4_spreadFrom 86 = .ok (.invokevirtual 75, 3) := by decide +kernel
theorem dX4_spreadFrom_89 : decode cX4_spreadFrom 89 = .ok (.iadd, 1) := by decide +kernel
theorem dX4_spreadFrom_90 : decode cX4_spreadFrom 90 = .ok (.invokevirtual 93, 3) := by decide +kernel
theorem dX4_spreadFrom_32 : decode cX4_spreadFrom 32 = .ok (.aload_n 0, 1) := by decide +kernel
theorem dX4_spreadFrom_33 : decode cX4_spreadFrom 33 = .ok (.iload 5, 2) := by decide +kernel
theorem dX4_spreadFrom_35 : decode cX4_spreadFrom 35 = .ok (.aload_n 0, 1) := by decide +kernel
theorem dX4_spreadFrom_36 : decode cX4_spreadFrom 36 = .ok (.getfield 28, 3) := by decide +kernel
theorem dX4_spreadFrom_39 : decode cX4_spreadFrom 39 = .ok (.iload_n 1, 1) := by decide +kernel
theorem dX4_spreadFrom_40 : decode cX4_spreadFrom 40 = .ok (.iaload, 1) := by decide +kernel
theorem dX4_spreadFrom_41 : decode cX4_spreadFrom 41 = .ok (.aload_n 0, 1) := by decide +kernel
theorem dX4_spreadFrom_42 : decode cX4_spreadFrom 42 = .ok (.iload 5, 2) := by decide +kernel
theorem dX4_spreadFrom_44 : decode cX4_spreadFrom 44 = .ok (.iload_n 1, 1) := by decide +kernel
theorem dX4_spreadFrom_45 : decode cX4_spreadFrom 45 = .ok (.iload_n 2, 1) := by decide +kernel
theorem dX4_spreadFrom_46 : decode cX4_spreadFrom 46 = .ok (.invokevirtual 75, 3) := by decide +kernel
theorem dX4_spreadFrom_49 : decode cX4_spreadFrom 49 = .ok (.iadd, 1) := by decide +kernel
theorem dX4_spreadFrom_50 : decode cX4_spreadFrom 50 = .ok (.invokevirtual 93, 3) := by decide +kernel
theorem dX4_spreadFrom_53 : decode cX4_spreadFrom 53 = .ok (.goto 40, 3) := by decide +kernel
theorem dX4_spread_0 : decode cX4_spread 0 = .ok (.aload_n 0, 1) := by decide +kernel
theorem dX4_spread_1 : decode cX4_spread 1 = .ok (.getfield 28, 3) := by decide +kernel
theorem dX4_spread_4 : decode cX4_spread 4 = .ok (.ldc 67, 2) := by decide +kernel
theorem dX4_spread_6 : decode cX4_spread 6 = .ok (.invokestatic 51, 3) := by decide +kernel
theorem dX4_spread_9 : decode cX4_spread 9 = .ok (.aload_n 0, 1) := by decide +kernel
theorem dX4_spread_10 : decode cX4_spread 10 = .ok (.iconst 0, 1) := by decide +kernel
theorem dX4_spread_11 : decode cX4_spread 11 = .ok (.putfield 87, 3) := by decide +kernel
theorem dX4_spread_14 : decode cX4_spread 14 = .ok (.aload_n 0, 1) := by decide +kernel
theorem dX4_spread_15 : decode cX4_spread 15 = .ok (.iconst 0, 1) := by decide +kernel
theorem dX4_spread_16 : decode cX4_spread 16 = .ok (.putfield 90, 3) := by decide +kernel
theorem dX4_spread_19 : decode cX4_spread 19 = .ok (.aload_n 0, 1) := by decide +kernel
theorem dX4_spread_20 : decode cX4_spread 20 = .ok (.iload_n 1, 1) := by decide +kernel
theorem dX4_spread_21 : decode cX4_spread 21 = .ok (.iconst 0, 1) := by decide +kernel
theorem dX4_spread_22 : decode cX4_spread 22 = .ok (.invokevirtual 93, 3) := by decide +kernel
theorem dX4_spread_25 : decode cX4_spread 25 = .ok (.iconst 0, 1) := by decide +kernel
theorem dX4_spread_26 : decode cX4_spread 26 = .ok (.istore 5, 2) := by decide +kernel
theorem dX4_spread_28 : decode cX4_spread 28 = .ok (.aload_n 0, 1) := by decide +kernel
theorem dX4_spread_29 : decode cX4_spread 29 = .ok (.getfield 90, 3) := by decide +kernel
theorem dX4_spread_32 : decode cX4_spread 32 = .ok (.ifCond .le 57, 3) := by decide +kernel
theorem dX4_spread_89 : decode cX4_spread 89 = .ok (.return_, 1) := by decide +kernel
theorem dX4_spread_35 : decode cX4_spread 35 = .ok (.iload 5, 2) := by decide +kernel
theorem dX4_spread_37 : decode cX4_spread 37 = .ok (.sipush 20736, 3) := by decide +kernel
theorem dX4_spread_40 : decode cX4_spread 40 = .ok (.if_icmp .ge 49, 3) := by decide +kernel
theorem dX4_spread_43 : decode cX4_spread 43 = .ok (.aload_n 0, 1) := by decide +kernel
theorem dX4_spread_44 : decode cX4_spread 44 = .ok (.invokevirtual 97, 3) := by decide +kernel
theorem dX4_spread_47 : decode cX4_spread 47 = .ok (.istore 6, 2) := by decide +kernel
theorem dX4_spread_49 : decode cX4_spread 49 = .ok (.aload_n 0, 1) := by decide +kernel
theorem dX4_spread_50 : decode cX4_spread 50 = .ok (.getfield 28, 3) := by decide +kernel
theorem dX4_spread_53 : decode cX4_spread 53 = .ok (.iload 6, 2) := by decide +kernel
theorem dX4_spread_55 : decode cX4_spread 55 = .ok (.iaload, 1) := by decide +kernel
theorem dX4_spread_56 : decode cX4_spread 56 = .ok (.iload 4, 2) := by decide +kernel
theorem dX4_spread_58 : decode cX4_spread 58 = .ok (.if_icmp .ge 25, 3) := by decide +kernel
theorem dX4_spread_83 : decode cX4_spread 83 = .ok (.iinc 5 1, 3) := by decide +kernel
theorem dX4_spread_86 : decode cX4_spread 86 = .ok (.goto (-58), 3) := by decide +kernel
theorem dX4_spread_61 : decode cX4_spread 61 = .ok (.iload_n 3, 1) := by decide +kernel
theorem dX4_spread_62 : decode cX4_spread 62 = .ok (.ifCond .eq 13, 3) := by decide +kernel
theorem dX4_spread_75 : decode cX4_spread 75 = .ok (.aload_n 0, 1) := by decide +kernel
theorem dX4_spread_76 : decode cX4_spread 76 = .ok (.iload 6, 2) := by decide +kernel
theorem dX4_spread_78 : decode cX4_spread 78 = .ok (.iload_n 2, 1) := by decide +kernel
theorem dX4_spread_79 : decode cX4_spread 79 = .ok (.iload_n 3, 1) := by decide +kernel
theorem dX4_spread_80 : decode cX4_spread 80 = .ok (.invokevirtual 100, 3) := by decide +kernel
theorem dX4_spread_65 : decode cX4_spread 65 = .ok (.aload_n 0, 1) := by decide +kernel
theorem dX4_spread_66 : decode cX4_spread 66 = .ok (.iload 6, 2) := by decide +kernel
theorem dX4_spread_68 : decode cX4_spread 68 = .ok (.iload_n 2, 1) := by decide +kernel
theorem dX4_spread_69 : decode cX4_spread 69 = .ok (.invokevirtual 79, 3) := by decide +kernel
theorem dX4_spread_72 : decode cX4_spread 72 = .ok (.ifCond .eq 11, 3) := by decide +kernel
/-! the terrain's search, method by method -/
/-- kinds: open on the first 25 cells -/
def okF : Nat → Int32 := fun j => if j < 25 then 46 else 0
theorem okF_at {e : Nat} (h : e ≤ 24) : okF (nI e).toNatClampNeg = 46 := by
  rw [nI_clamp (by omega)]
  exact if_pos (by omega)
def us_c_canEnter : List Cond := .code yX4_canEnter cX4_canEnter 3 (some .boolean) :: (([.fieldLink RX4 18 "ControlWood$Terrain" "kinds" "[C", .fieldLink RX4 25 "ControlWood$Terrain" "shownKinds" "[C"] : List Cond) ++ (wsX40 ++ ([])))
theorem gw_c_canEnter : ∀ w ∈ us_c_canEnter, goodWord w = true := gw_cons rfl (gw_app (by decide +kernel) (gw_app gwf_X4 (fun _ h => nomatch h)))
set_option maxHeartbeats 4000000 in
set_option maxRecDepth 100000 in
/-- canEnter, on a land of open cells: yes -/
theorem c_canEnter (l : Launch) (hst : l.stackTraces = false) (D : va_G) (g : Nat) (a1 : Nat) (a2 : Nat) (a3 : Nat) (a4 : Nat) (a5 : Nat) (a6 : Nat) (a7 : Nat) (a8 : Nat) (a9 : Nat) (a10 : Nat) (a11 : Nat) (n : Int32) (hd : Int32) (wt : Int32) (ck : ClassId) (csk : ClassId) (ce : Nat) (mp : Int32) (sz : Nat) (hc : ce ≤ 24) : Met l yX4_canEnter us_c_canEnter { frames := 0, cells := 0, slots := 0, locals := 0 } (pw D [.ref g, .int (nI ce), .int mp] [(ck, .char), (csk, .char)] [(g, .inr (11, [.int n, .ref a1, .ref a2, .ref a3, .ref a4, .ref a5, .ref a6, .ref a7, .ref a8, .ref a9, .ref a10, .ref a11, .int hd, .int wt])), (a3, .inl (ck, 144, .inl okF)), (a5, .inl (csk, 144, .inl okF))] sz) (va_Qi (fun (r : Int32) (_ : Unit) => r = 1) (qb D (va_A [(g, .inr (11, [.int n, .ref a1, .ref a2, .ref a3, .ref a4, .ref a5, .ref a6, .ref a7, .ref a8, .ref a9, .ref a10, .ref a11, .int hd, .int wt])), (a3, .inl (ck, 144, .inl okF)), (a5, .inl (csk, 144, .inl okF))] sz) (fun _ : Unit => [(g, .inr (11, [.int n, .ref a1, .ref a2, .ref a3, .ref a4, .ref a5, .ref a6, .ref a7, .ref a8, .ref a9, .ref a10, .ref a11, .int hd, .int wt])), (a3, .inl (ck, 144, .inl okF)), (a5, .inl (csk, 144, .inl okF))]) (fun _ : Unit => ([] : List (ClassId × FieldType)))) (va_A [(g, .inr (11, [.int n, .ref a1, .ref a2, .ref a3, .ref a4, .ref a5, .ref a6, .ref a7, .ref a8, .ref a9, .ref a10, .ref a11, .int hd, .int wt])), (a3, .inl (ck, 144, .inl okF)), (a5, .inl (csk, 144, .inl okF))] sz)) 0 0 (va_A [(g, .inr (11, [.int n, .ref a1, .ref a2, .ref a3, .ref a4, .ref a5, .ref a6, .ref a7, .ref a8, .ref a9, .ref a10, .ref a11, .int hd, .int wt])), (a3, .inl (ck, 144, .inl okF)), (a5, .inl (csk, 144, .inl okF))] sz) := by
  refine op_M (Qc := fun A => (va_Qi (fun (r : Int32) (_ : Unit) => r = 1) (qb D A (fun _ : Unit => [(g, .inr (11, [.int n, .ref a1, .ref a2, .ref a3, .ref a4, .ref a5, .ref a6, .ref a7, .ref a8, .ref a9, .ref a10, .ref a11, .int hd, .int wt])), (a3, .inl (ck, 144, .inl okF)), (a5, .inl (csk, 144, .inl okF))]) (fun _ : Unit => ([] : List (ClassId × FieldType)))) A)) (by decide +kernel) rfl (Nat.le_of_ble_eq_true rfl) ?_
  intro p e s m args below meth c A ls hx hb hr hml hts hown hlocks hmn htab hA hD hS hP hK hE hsz hl
  have hown : s.vm.findClass RX4 = some m.cls := hown
  have hl : lv_has ls 3 [(0, .ref g), (1, .int (nI ce)), (2, .int mp)] := hl
  have hw_0 := hts (.fieldLink RX4 18 "ControlWood$Terrain" "kinds" "[C") (List.mem_cons_of_mem _ (List.mem_append_left _ (List.mem_of_getElem? (i := 0) rfl)))
  have hw_1 := hts (.fieldLink RX4 25 "ControlWood$Terrain" "shownKinds" "[C") (List.mem_cons_of_mem _ (List.mem_append_left _ (List.mem_of_getElem? (i := 1) rfl)))
  have hb_0 : ∀ w ∈ wsX40, w ∈ us_c_canEnter := fun w h => List.mem_cons_of_mem _ (List.mem_append_right _ (List.mem_append_left _ h))
  refine lv_iload_n hx hb dX4_canEnter_0 rfl (lv_at hl 2 rfl) ?_
  refine lv_if_eq (tgt := 23) hx hb dX4_canEnter_1 (by decide) (fun h1 => ?_) (fun h1 => ?_)
  · refine lv_aload_n hx hb dX4_canEnter_23 rfl (lv_at hl 0 rfl) ?_
    refine va_get (D := D) (ci := 11) (v := .ref a3) (C := RX4) (T := TX4) (N := 14) hx hb hts hb_0 hown hK hP 0 rfl rfl 3 (by decide) hw_0 (fun _ h9 => h9) rfl dX4_canEnter_24 ?_
    refine lv_iload_n hx hb dX4_canEnter_27 rfl (lv_at hl 1 rfl) ?_
    refine va_cald hx hb hK hP 1 0 rfl rfl (vp_in_nI (n := ce) (by omega) (by decide)) dX4_canEnter_28 ?_
    refine lv_topi (fun x2 e2 => ?_)
    obtain rfl : x2 = 46 := e2.trans (okF_at (by omega))
    refine lv_bipush (v := 119) hx hb dX4_canEnter_29 (by decide) ?_
    refine lv_icmp_eq (tgt := 38) hx hb dX4_canEnter_31 (by decide) (fun h3 => absurd h3 (by decide)) (fun h3 => ?_)
    refine lv_iconst (v := 1) hx hb dX4_canEnter_34 (by decide) ?_
    refine lv_goto (tgt := 39) hx hb dX4_canEnter_35 (by decide) ?_
    exact mr_z (rfl) hx hb hr () (rfl) (hP.sub [0, 1, 2] rfl) (hK.sub [] rfl) (hD.sub [0, 1, 2] (by decide) rfl) hS (Nat.le_of_ble_eq_true rfl) (Nat.le_of_ble_eq_true rfl) hlocks dX4_canEnter_39
  · refine lv_aload_n hx hb dX4_canEnter_4 rfl (lv_at hl 0 rfl) ?_
    refine va_get (D := D) (ci := 11) (v := .ref a5) (C := RX4) (T := TX4) (N := 14) hx hb hts hb_0 hown hK hP 0 rfl rfl 5 (by decide) hw_1 (fun _ h9 => h9) rfl dX4_canEnter_5 ?_
    refine lv_iload_n hx hb dX4_canEnter_8 rfl (lv_at hl 1 rfl) ?_
    refine va_cald hx hb hK hP 2 1 rfl rfl (vp_in_nI (n := ce) (by omega) (by decide)) dX4_canEnter_9 ?_
    refine lv_topi (fun x4 e4 => ?_)
    obtain rfl : x4 = 46 := e4.trans (okF_at (by omega))
    refine lv_bipush (v := 46) hx hb dX4_canEnter_10 (by decide) ?_
    refine lv_icmp_ne (tgt := 19) hx hb dX4_canEnter_12 (by decide) (fun h5 => absurd (by decide) h5) (fun h5 => ?_)
    refine lv_iconst (v := 1) hx hb dX4_canEnter_15 (by decide) ?_
    refine lv_goto (tgt := 39) hx hb dX4_canEnter_16 (by decide) ?_
    exact mr_z (rfl) hx hb hr () (rfl) (hP.sub [0, 1, 2] rfl) (hK.sub [] rfl) (hD.sub [0, 1, 2] (by decide) rfl) hS (Nat.le_of_ble_eq_true rfl) (Nat.le_of_ble_eq_true rfl) hlocks dX4_canEnter_39

def us_c_step : List Cond := .code yX4_step cX4_step 6 (some .int) :: (([.fieldLink RX4 9 "ControlWood$Terrain" "growths" "[I", .fieldLink RX4 15 "ControlWood$Terrain" "heights" "[I", .methodLink RX4 83 Lib.Math.max.name, .static Lib.Math.max.name, .initialized "java/lang/Math", .code Lib.Math.max.name Lib.Math.max.code 2 (some .int), .fieldLink RX4 22 "ControlWood$Terrain" "shownGrowths" "[I"] : List Cond) ++ (wsX40 ++ ([])))
theorem gw_c_step : ∀ w ∈ us_c_step, goodWord w = true := gw_cons rfl (gw_app (by decide +kernel) (gw_app gwf_X4 (fun _ h => nomatch h)))
set_option maxHeartbeats 4000000 in
set_option maxRecDepth 100000 in
/-- step, where nothing has grown and all is as high: 10 -/
theorem c_step (l : Launch) (hst : l.stackTraces = false) (D : va_G) (g : Nat) (a1 : Nat) (a2 : Nat) (a3 : Nat) (a4 : Nat) (a5 : Nat) (a6 : Nat) (a7 : Nat) (a8 : Nat) (a9 : Nat) (a10 : Nat) (a11 : Nat) (n : Int32) (hd : Int32) (wt : Int32) (cg : ClassId) (ch : ClassId) (csg : ClassId) (ce : Nat) (cf : Nat) (mp : Int32) (sz : Nat) (hc : ce ≤ 24) (hc2 : cf ≤ 24) : Met l yX4_step us_c_step { frames := 1, cells := 0, slots := 0, locals := 15 } (pw D [.ref g, .int (nI ce), .int (nI cf), .int mp] [(cg, .int), (ch, .int), (csg, .int)] [(g, .inr (11, [.int n, .ref a1, .ref a2, .ref a3, .ref a4, .ref a5, .ref a6, .ref a7, .ref a8, .ref a9, .ref a10, .ref a11, .int hd, .int wt])), (a1, .inl (cg, 144, .inl (fun _ => 0))), (a2, .inl (ch, 144, .inl (fun _ => 0))), (a4, .inl (csg, 144, .inl (fun _ => 0)))] sz) (va_Qi (fun (r : Int32) (_ : Unit) => r = 10) (qb D (va_A [(g, .inr (11, [.int n, .ref a1, .ref a2, .ref a3, .ref a4, .ref a5, .ref a6, .ref a7, .ref a8, .ref a9, .ref a10, .ref a11, .int hd, .int wt])), (a1, .inl (cg, 144, .inl (fun _ => 0))), (a2, .inl (ch, 144, .inl (fun _ => 0))), (a4, .inl (csg, 144, .inl (fun _ => 0)))] sz) (fun _ : Unit => [(g, .inr (11, [.int n, .ref a1, .ref a2, .ref a3, .ref a4, .ref a5, .ref a6, .ref a7, .ref a8, .ref a9, .ref a10, .ref a11, .int hd, .int wt])), (a1, .inl (cg, 144, .inl (fun _ => 0))), (a2, .inl (ch, 144, .inl (fun _ => 0))), (a4, .inl (csg, 144, .inl (fun _ => 0)))]) (fun _ : Unit => ([] : List (ClassId × FieldType)))) (va_A [(g, .inr (11, [.int n, .ref a1, .ref a2, .ref a3, .ref a4, .ref a5, .ref a6, .ref a7, .ref a8, .ref a9, .ref a10, .ref a11, .int hd, .int wt])), (a1, .inl (cg, 144, .inl (fun _ => 0))), (a2, .inl (ch, 144, .inl (fun _ => 0))), (a4, .inl (csg, 144, .inl (fun _ => 0)))] sz)) 0 0 (va_A [(g, .inr (11, [.int n, .ref a1, .ref a2, .ref a3, .ref a4, .ref a5, .ref a6, .ref a7, .ref a8, .ref a9, .ref a10, .ref a11, .int hd, .int wt])), (a1, .inl (cg, 144, .inl (fun _ => 0))), (a2, .inl (ch, 144, .inl (fun _ => 0))), (a4, .inl (csg, 144, .inl (fun _ => 0)))] sz) := by
  refine op_M (Qc := fun A => (va_Qi (fun (r : Int32) (_ : Unit) => r = 10) (qb D A (fun _ : Unit => [(g, .inr (11, [.int n, .ref a1, .ref a2, .ref a3, .ref a4, .ref a5, .ref a6, .ref a7, .ref a8, .ref a9, .ref a10, .ref a11, .int hd, .int wt])), (a1, .inl (cg, 144, .inl (fun _ => 0))), (a2, .inl (ch, 144, .inl (fun _ => 0))), (a4, .inl (csg, 144, .inl (fun _ => 0)))]) (fun _ : Unit => ([] : List (ClassId × FieldType)))) A)) (by decide +kernel) rfl (Nat.le_of_ble_eq_true rfl) ?_
  intro p e s m args below meth c A ls hx hb hr hml hts hown hlocks hmn htab hA hD hS hP hK hE hsz hl
  have hown : s.vm.findClass RX4 = some m.cls := hown
  have hl : lv_has ls 6 [(0, .ref g), (1, .int (nI ce)), (2, .int (nI cf)), (3, .int mp)] := hl
  have hw_0 := hts (.fieldLink RX4 9 "ControlWood$Terrain" "growths" "[I") (List.mem_cons_of_mem _ (List.mem_append_left _ (List.mem_of_getElem? (i := 0) rfl)))
  have hw_1 := hts (.fieldLink RX4 15 "ControlWood$Terrain" "heights" "[I") (List.mem_cons_of_mem _ (List.mem_append_left _ (List.mem_of_getElem? (i := 1) rfl)))
  have hw_2 := hts (.methodLink RX4 83 Lib.Math.max.name) (List.mem_cons_of_mem _ (List.mem_append_left _ (List.mem_of_getElem? (i := 2) rfl)))
  have hw_3 := hts (.static Lib.Math.max.name) (List.mem_cons_of_mem _ (List.mem_append_left _ (List.mem_of_getElem? (i := 3) rfl)))
  have hw_4 := hts (.initialized "java/lang/Math") (List.mem_cons_of_mem _ (List.mem_append_left _ (List.mem_of_getElem? (i := 4) rfl)))
  have hw_5 := hts (.code Lib.Math.max.name Lib.Math.max.code 2 (some .int)) (List.mem_cons_of_mem _ (List.mem_append_left _ (List.mem_of_getElem? (i := 5) rfl)))
  have hw_6 := hts (.fieldLink RX4 22 "ControlWood$Terrain" "shownGrowths" "[I") (List.mem_cons_of_mem _ (List.mem_append_left _ (List.mem_of_getElem? (i := 6) rfl)))
  have hb_0 : ∀ w ∈ wsX40, w ∈ us_c_step := fun w h => List.mem_cons_of_mem _ (List.mem_append_right _ (List.mem_append_left _ h))
  refine lv_iload_n hx hb dX4_step_0 rfl (lv_at hl 3 rfl) ?_
  refine lv_if_eq (tgt := 13) hx hb dX4_step_1 (by decide) (fun h1 => ?_) (fun h1 => ?_)
  · refine lv_aload_n hx hb dX4_step_13 rfl (lv_at hl 0 rfl) ?_
    refine va_get (D := D) (ci := 11) (v := .ref a1) (C := RX4) (T := TX4) (N := 14) hx hb hts hb_0 hown hK hP 0 rfl rfl 1 (by decide) hw_0 (fun _ h9 => h9) rfl dX4_step_14 ?_
    refine lv_iload_n hx hb dX4_step_17 rfl (lv_at hl 2 rfl) ?_
    refine va_iald hx hb hK hP 1 0 rfl rfl (vp_in_nI (n := cf) (by omega) (by decide)) dX4_step_18 ?_
    refine lv_topi (fun x2 e2 => ?_)
    obtain rfl : x2 = 0 := e2
    refine lv_istore (lv' := [(4, .int 0), (0, .ref g), (1, .int (nI ce)), (2, .int (nI cf)), (3, .int mp)]) hx hb dX4_step_19 hl (by decide) rfl (fun ls hl => ?_)
    refine lv_iconst (v := 0) hx hb dX4_step_21 (by decide) ?_
    refine lv_aload_n hx hb dX4_step_22 rfl (lv_at hl 1 rfl) ?_
    refine va_get (D := D) (ci := 11) (v := .ref a2) (C := RX4) (T := TX4) (N := 14) hx hb hts hb_0 hown hK hP 0 rfl rfl 2 (by decide) hw_1 (fun _ h9 => h9) rfl dX4_step_23 ?_
    refine lv_iload_n hx hb dX4_step_26 rfl (lv_at hl 3 rfl) ?_
    refine va_iald hx hb hK hP 2 1 rfl rfl (vp_in_nI (n := cf) (by omega) (by decide)) dX4_step_27 ?_
    refine lv_topi (fun x3 e3 => ?_)
    obtain rfl : x3 = 0 := e3
    refine lv_aload_n hx hb dX4_step_28 rfl (lv_at hl 1 rfl) ?_
    refine va_get (D := D) (ci := 11) (v := .ref a2) (C := RX4) (T := TX4) (N := 14) hx hb hts hb_0 hown hK hP 0 rfl rfl 2 (by decide) hw_1 (fun _ h9 => h9) rfl dX4_step_29 ?_
    refine lv_iload_n hx hb dX4_step_32 rfl (lv_at hl 2 rfl) ?_
    refine va_iald hx hb hK hP 2 1 rfl rfl (vp_in_nI (n := ce) (by omega) (by decide)) dX4_step_33 ?_
    refine lv_topi (fun x4 e4 => ?_)
    obtain rfl : x4 = 0 := e4
    refine lv_isub hx hb dX4_step_34 ?_
    refine lv_topi (fun x5 e5 => ?_)
    obtain rfl : x5 = 0 := e5.trans (by decide)
    refine va_mmax hx hb (by rw [hml]; exact hl.1.symm) hown hw_2 hw_3 hw_4 hw_5 (Nat.le_of_ble_eq_true rfl) (Nat.le_of_ble_eq_true rfl) (Nat.le_of_ble_eq_true rfl) (Nat.le_of_ble_eq_true rfl) dX4_step_35 ?_
    refine lv_topi (fun x6 e6 => ?_)
    obtain rfl : x6 = 0 := e6.trans (by decide)
    refine lv_istore (lv' := [(5, .int 0), (4, .int 0), (0, .ref g), (1, .int (nI ce)), (2, .int (nI cf)), (3, .int mp)]) hx hb dX4_step_38 hl (by decide) rfl (fun ls hl => ?_)
    refine lv_bipush (v := 10) hx hb dX4_step_40 (by decide) ?_
    refine lv_iconst (v := 5) hx hb dX4_step_42 (by decide) ?_
    refine lv_iload hx hb dX4_step_43 (lv_at hl 1 rfl) ?_
    refine lv_imul hx hb dX4_step_45 ?_
    refine lv_topi (fun x7 e7 => ?_)
    obtain rfl : x7 = 0 := e7.trans (by decide)
    refine lv_iadd hx hb dX4_step_46 ?_
    refine lv_topi (fun x8 e8 => ?_)
    obtain rfl : x8 = 10 := e8.trans (by decide)
    refine lv_bipush (v := 6) hx hb dX4_step_47 (by decide) ?_
    refine lv_iload hx hb dX4_step_49 (lv_at hl 0 rfl) ?_
    refine lv_imul hx hb dX4_step_51 ?_
    refine lv_topi (fun x9 e9 => ?_)
    obtain rfl : x9 = 0 := e9.trans (by decide)
    refine lv_iadd hx hb dX4_step_52 ?_
    refine lv_topi (fun x10 e10 => ?_)
    obtain rfl : x10 = 10 := e10.trans (by decide)
    exact mr_i hx hb hr () (rfl) (hP.sub [0, 1, 2, 3] rfl) (hK.sub [] rfl) (hD.sub [0, 1, 2, 3] (by decide) rfl) hS (Nat.le_of_ble_eq_true rfl) (Nat.le_of_ble_eq_true rfl) hlocks dX4_step_53
  · refine lv_aload_n hx hb dX4_step_4 rfl (lv_at hl 0 rfl) ?_
    refine va_get (D := D) (ci := 11) (v := .ref a4) (C := RX4) (T := TX4) (N := 14) hx hb hts hb_0 hown hK hP 0 rfl rfl 4 (by decide) hw_6 (fun _ h9 => h9) rfl dX4_step_5 ?_
    refine lv_iload_n hx hb dX4_step_8 rfl (lv_at hl 2 rfl) ?_
    refine va_iald hx hb hK hP 3 2 rfl rfl (vp_in_nI (n := cf) (by omega) (by decide)) dX4_step_9 ?_
    refine lv_topi (fun x11 e11 => ?_)
    obtain rfl : x11 = 0 := e11
    refine lv_goto (tgt := 19) hx hb dX4_step_10 (by decide) ?_
    refine lv_istore (lv' := [(4, .int 0), (0, .ref g), (1, .int (nI ce)), (2, .int (nI cf)), (3, .int mp)]) hx hb dX4_step_19 hl (by decide) rfl (fun ls hl => ?_)
    refine lv_iconst (v := 0) hx hb dX4_step_21 (by decide) ?_
    refine lv_aload_n hx hb dX4_step_22 rfl (lv_at hl 1 rfl) ?_
    refine va_get (D := D) (ci := 11) (v := .ref a2) (C := RX4) (T := TX4) (N := 14) hx hb hts hb_0 hown hK hP 0 rfl rfl 2 (by decide) hw_1 (fun _ h9 => h9) rfl dX4_step_23 ?_
    refine lv_iload_n hx hb dX4_step_26 rfl (lv_at hl 3 rfl) ?_
    refine va_iald hx hb hK hP 2 1 rfl rfl (vp_in_nI (n := cf) (by omega) (by decide)) dX4_step_27 ?_
    refine lv_topi (fun x12 e12 => ?_)
    obtain rfl : x12 = 0 := e12
    refine lv_aload_n hx hb dX4_step_28 rfl (lv_at hl 1 rfl) ?_
    refine va_get (D := D) (ci := 11) (v := .ref a2) (C := RX4) (T := TX4) (N := 14) hx hb hts hb_0 hown hK hP 0 rfl rfl 2 (by decide) hw_1 (fun _ h9 => h9) rfl dX4_step_29 ?_
    refine lv_iload_n hx hb dX4_step_32 rfl (lv_at hl 2 rfl) ?_
    refine va_iald hx hb hK hP 2 1 rfl rfl (vp_in_nI (n := ce) (by omega) (by decide)) dX4_step_33 ?_
    refine lv_topi (fun x13 e13 => ?_)
    obtain rfl : x13 = 0 := e13
    refine lv_isub hx hb dX4_step_34 ?_
    refine lv_topi (fun x14 e14 => ?_)
    obtain rfl : x14 = 0 := e14.trans (by decide)
    refine va_mmax hx hb (by rw [hml]; exact hl.1.symm) hown hw_2 hw_3 hw_4 hw_5 (Nat.le_of_ble_eq_true rfl) (Nat.le_of_ble_eq_true rfl) (Nat.le_of_ble_eq_true rfl) (Nat.le_of_ble_eq_true rfl) dX4_step_35 ?_
    refine lv_topi (fun x15 e15 => ?_)
    obtain rfl : x15 = 0 := e15.trans (by decide)
    refine lv_istore (lv' := [(5, .int 0), (4, .int 0), (0, .ref g), (1, .int (nI ce)), (2, .int (nI cf)), (3, .int mp)]) hx hb dX4_step_38 hl (by decide) rfl (fun ls hl => ?_)
    refine lv_bipush (v := 10) hx hb dX4_step_40 (by decide) ?_
    refine lv_iconst (v := 5) hx hb dX4_step_42 (by decide) ?_
    refine lv_iload hx hb dX4_step_43 (lv_at hl 1 rfl) ?_
    refine lv_imul hx hb dX4_step_45 ?_
    refine lv_topi (fun x16 e16 => ?_)
    obtain rfl : x16 = 0 := e16.trans (by decide)
    refine lv_iadd hx hb dX4_step_46 ?_
    refine lv_topi (fun x17 e17 => ?_)
    obtain rfl : x17 = 10 := e17.trans (by decide)
    refine lv_bipush (v := 6) hx hb dX4_step_47 (by decide) ?_
    refine lv_iload hx hb dX4_step_49 (lv_at hl 0 rfl) ?_
    refine lv_imul hx hb dX4_step_51 ?_
    refine lv_topi (fun x18 e18 => ?_)
    obtain rfl : x18 = 0 := e18.trans (by decide)
    refine lv_iadd hx hb dX4_step_52 ?_
    refine lv_topi (fun x19 e19 => ?_)
    obtain rfl : x19 = 10 := e19.trans (by decide)
    exact mr_i hx hb hr () (rfl) (hP.sub [0, 1, 2, 3] rfl) (hK.sub [] rfl) (hD.sub [0, 1, 2, 3] (by decide) rfl) hS (Nat.le_of_ble_eq_true rfl) (Nat.le_of_ble_eq_true rfl) hlocks dX4_step_53

def us_c_reach : List Cond := .code yX4_reach cX4_reach 4 none :: (([.fieldLink RX4 28 "ControlWood$Terrain" "ways" "[I", .fieldLink RX4 43 "ControlWood$Terrain" "isQueued" "[Z", .fieldLink RX4 90 "ControlWood$Terrain" "waiting" "I", .fieldLink RX4 87 "ControlWood$Terrain" "head" "I", .fieldLink RX4 40 "ControlWood$Terrain" "queue" "[I"] : List Cond) ++ (wsX40 ++ ([])))
theorem gw_c_reach : ∀ w ∈ us_c_reach, goodWord w = true := gw_cons rfl (gw_app (by decide +kernel) (gw_app gwf_X4 (fun _ h => nomatch h)))
set_option maxHeartbeats 4000000 in
set_option maxRecDepth 100000 in
/-- reach -/
theorem c_reach (l : Launch) (hst : l.stackTraces = false) (D : va_G) (g : Nat) (a1 : Nat) (a2 : Nat) (a3 : Nat) (a4 : Nat) (a5 : Nat) (a6 : Nat) (a7 : Nat) (a8 : Nat) (a9 : Nat) (a10 : Nat) (a11 : Nat) (n : Int32) (cw : ClassId) (cq : ClassId) (cz : ClassId) (w : List Nat) (q : List Nat) (z : List Nat) (h : Nat) (k : Nat) (ce : Nat) (co : Nat) (sz : Nat) (ok : okS w q z h k) (hc : ce ≤ 24) (hco : co < 2 ^ 31) : Met l yX4_reach us_c_reach { frames := 0, cells := 0, slots := 0, locals := 0 } (pw D [.ref g, .int (nI ce), .int (nI co)] [(cw, .int), (cq, .int), (cz, .boolean)] [(g, .inr (11, [.int n, .ref a1, .ref a2, .ref a3, .ref a4, .ref a5, .ref a6, .ref a7, .ref a8, .ref a9, .ref a10, .ref a11, .int (nI h), .int (nI k)])), (a6, .inl (cw, 144, .inl (fL w))), (a10, .inl (cq, 144, .inl (fL q))), (a11, .inl (cz, 144, .inl (fL z)))] sz) (va_Qv (fun u : sS => u = reM w q z h k ce co) (qb D (va_A [(g, .inr (11, [.int n, .ref a1, .ref a2, .ref a3, .ref a4, .ref a5, .ref a6, .ref a7, .ref a8, .ref a9, .ref a10, .ref a11, .int (nI h), .int (nI k)])), (a6, .inl (cw, 144, .inl (fL w))), (a10, .inl (cq, 144, .inl (fL q))), (a11, .inl (cz, 144, .inl (fL z)))] sz) (fun u : sS => [(g, .inr (11, [.int n, .ref a1, .ref a2, .ref a3, .ref a4, .ref a5, .ref a6, .ref a7, .ref a8, .ref a9, .ref a10, .ref a11, .int (nI u.2.2.2.1), .int (nI u.2.2.2.2)])), (a6, .inl (cw, 144, .inl (fL u.1))), (a10, .inl (cq, 144, .inl (fL u.2.1))), (a11, .inl (cz, 144, .inl (fL u.2.2.1)))]) (fun u : sS => ([] : List (ClassId × FieldType)))) (va_A [(g, .inr (11, [.int n, .ref a1, .ref a2, .ref a3, .ref a4, .ref a5, .ref a6, .ref a7, .ref a8, .ref a9, .ref a10, .ref a11, .int (nI h), .int (nI k)])), (a6, .inl (cw, 144, .inl (fL w))), (a10, .inl (cq, 144, .inl (fL q))), (a11, .inl (cz, 144, .inl (fL z)))] sz)) 0 0 (va_A [(g, .inr (11, [.int n, .ref a1, .ref a2, .ref a3, .ref a4, .ref a5, .ref a6, .ref a7, .ref a8, .ref a9, .ref a10, .ref a11, .int (nI h), .int (nI k)])), (a6, .inl (cw, 144, .inl (fL w))), (a10, .inl (cq, 144, .inl (fL q))), (a11, .inl (cz, 144, .inl (fL z)))] sz) := by
  refine op_M (Qc := fun A => (va_Qv (fun u : sS => u = reM w q z h k ce co) (qb D A (fun u : sS => [(g, .inr (11, [.int n, .ref a1, .ref a2, .ref a3, .ref a4, .ref a5, .ref a6, .ref a7, .ref a8, .ref a9, .ref a10, .ref a11, .int (nI u.2.2.2.1), .int (nI u.2.2.2.2)])), (a6, .inl (cw, 144, .inl (fL u.1))), (a10, .inl (cq, 144, .inl (fL u.2.1))), (a11, .inl (cz, 144, .inl (fL u.2.2.1)))]) (fun u : sS => ([] : List (ClassId × FieldType)))) A)) (by decide +kernel) rfl (Nat.le_of_ble_eq_true rfl) ?_
  intro p e s m args below meth c A ls hx hb hr hml hts hown hlocks hmn htab hA hD hS hP hK hE hsz hl
  have hown : s.vm.findClass RX4 = some m.cls := hown
  have hl : lv_has ls 4 [(0, .ref g), (1, .int (nI ce)), (2, .int (nI co))] := hl
  have hw_0 := hts (.fieldLink RX4 28 "ControlWood$Terrain" "ways" "[I") (List.mem_cons_of_mem _ (List.mem_append_left _ (List.mem_of_getElem? (i := 0) rfl)))
  have hw_1 := hts (.fieldLink RX4 43 "ControlWood$Terrain" "isQueued" "[Z") (List.mem_cons_of_mem _ (List.mem_append_left _ (List.mem_of_getElem? (i := 1) rfl)))
  have hw_2 := hts (.fieldLink RX4 90 "ControlWood$Terrain" "waiting" "I") (List.mem_cons_of_mem _ (List.mem_append_left _ (List.mem_of_getElem? (i := 2) rfl)))
  have hw_3 := hts (.fieldLink RX4 87 "ControlWood$Terrain" "head" "I") (List.mem_cons_of_mem _ (List.mem_append_left _ (List.mem_of_getElem? (i := 3) rfl)))
  have hw_4 := hts (.fieldLink RX4 40 "ControlWood$Terrain" "queue" "[I") (List.mem_cons_of_mem _ (List.mem_append_left _ (List.mem_of_getElem? (i := 4) rfl)))
  have hb_0 : ∀ w ∈ wsX40, w ∈ us_c_reach := fun w h => List.mem_cons_of_mem _ (List.mem_append_right _ (List.mem_append_left _ h))
  obtain ⟨ok1, ok2, ok3, ok4, ok5, ok6, ok7, ok8⟩ := ok
  refine lv_iload_n hx hb dX4_reach_0 rfl (lv_at hl 2 rfl) ?_
  refine lv_aload_n hx hb dX4_reach_1 rfl (lv_at hl 0 rfl) ?_
  refine va_get (D := D) (ci := 11) (v := .ref a6) (C := RX4) (T := TX4) (N := 14) hx hb hts hb_0 hown hK hP 0 rfl rfl 6 (by decide) hw_0 (fun _ h9 => h9) rfl dX4_reach_2 ?_
  refine lv_iload_n hx hb dX4_reach_5 rfl (lv_at hl 1 rfl) ?_
  refine va_iald hx hb hK hP 1 0 rfl rfl (vp_in_nI (n := ce) (by omega) (by decide)) dX4_reach_6 ?_
  have b1 := ok6 ce
  refine lv_topi (fun x2 e2 => ?_)
  obtain rfl : x2 = nI (w.getD ce 0) := e2.trans (fL_at (by omega))
  refine lv_icmp_lt (tgt := 11) hx hb dX4_reach_7 (by decide) (fun h3 => ?_) (fun h3 => ?_)
  · have n3 : co < (w.getD ce 0) := (nI_ltI (a := co) (b := (w.getD ce 0)) (by omega) (by omega)).mp h3
    refine lv_aload_n hx hb dX4_reach_11 rfl (lv_at hl 0 rfl) ?_
    refine va_get (D := D) (ci := 11) (v := .ref a6) (C := RX4) (T := TX4) (N := 14) hx hb hts hb_0 hown hK hP 0 rfl rfl 6 (by decide) hw_0 (fun _ h9 => h9) rfl dX4_reach_12 ?_
    refine lv_iload_n hx hb dX4_reach_15 rfl (lv_at hl 1 rfl) ?_
    refine lv_iload_n hx hb dX4_reach_16 rfl (lv_at hl 2 rfl) ?_
    refine va_iast hx hb hK hP hD hS 1 0 rfl rfl (vp_in_nI (n := ce) (by omega) (by decide)) dX4_reach_17 (fun H locs hP hD hS => ?_)
    have hcf : upd (fL w) ((nI ce).toNatClampNeg) (nI co) = fL (w.set ce co) := fL_up (L := w) (k := ce) (v := co) (by omega) (by omega)
    have hP : va_P D vwCl [(g, .inr (11, [.int n, .ref a1, .ref a2, .ref a3, .ref a4, .ref a5, .ref a6, .ref a7, .ref a8, .ref a9, .ref a10, .ref a11, .int (nI h), .int (nI k)])), (a6, .inl (cw, 144, .inl (upd (fL w) ((nI ce).toNatClampNeg) (nI co)))), (a10, .inl (cq, 144, .inl (fL q))), (a11, .inl (cz, 144, .inl (fL z)))] H := hP
    have hD : va_D A [(g, .inr (11, [.int n, .ref a1, .ref a2, .ref a3, .ref a4, .ref a5, .ref a6, .ref a7, .ref a8, .ref a9, .ref a10, .ref a11, .int (nI h), .int (nI k)])), (a6, .inl (cw, 144, .inl (upd (fL w) ((nI ce).toNatClampNeg) (nI co)))), (a10, .inl (cq, 144, .inl (fL q))), (a11, .inl (cz, 144, .inl (fL z)))] := hD
    rw [hcf] at hP hD
    clear hcf
    have hP : va_P D vwCl [(g, .inr (11, [.int n, .ref a1, .ref a2, .ref a3, .ref a4, .ref a5, .ref a6, .ref a7, .ref a8, .ref a9, .ref a10, .ref a11, .int (nI h), .int (nI k)])), (a6, .inl (cw, 144, .inl (fL (w.set ce co)))), (a10, .inl (cq, 144, .inl (fL q))), (a11, .inl (cz, 144, .inl (fL z)))] H := hP
    have hD : va_D A [(g, .inr (11, [.int n, .ref a1, .ref a2, .ref a3, .ref a4, .ref a5, .ref a6, .ref a7, .ref a8, .ref a9, .ref a10, .ref a11, .int (nI h), .int (nI k)])), (a6, .inl (cw, 144, .inl (fL (w.set ce co)))), (a10, .inl (cq, 144, .inl (fL q))), (a11, .inl (cz, 144, .inl (fL z)))] := hD
    refine lv_aload_n hx hb dX4_reach_18 rfl (lv_at hl 0 rfl) ?_
    refine va_get (D := D) (ci := 11) (v := .ref a11) (C := RX4) (T := TX4) (N := 14) hx hb hts hb_0 hown hK hP 0 rfl rfl 11 (by decide) hw_1 (fun _ h9 => h9) rfl dX4_reach_19 ?_
    refine lv_iload_n hx hb dX4_reach_22 rfl (lv_at hl 1 rfl) ?_
    refine va_zald hx hb hK hP 3 2 rfl rfl (vp_in_nI (n := ce) (by omega) (by decide)) dX4_reach_23 ?_
    have b4 := ok8 ce
    refine lv_topi (fun x5 e5 => ?_)
    obtain rfl : x5 = nI (z.getD ce 0) := e5.trans (fL_at (by omega))
    refine lv_if_ne (tgt := 86) hx hb dX4_reach_24 (by decide) (fun h6 => ?_) (fun h6 => ?_)
    · have n6 : ¬ ((z.getD ce 0) = 0) := fun q9 => h6 ((nI_eq (a := (z.getD ce 0)) (b := 0) (by omega) (by omega)).mpr q9)
      exact mr_v hx hb hr (w.set ce co, q, z, h, k) ((re_2 n3 (fun q9 => n6 q9.1))) (hP.sub [0, 1, 2, 3] rfl) (hK.sub [] rfl) (hD.sub [0, 1, 2, 3] (by decide) rfl) hS (Nat.le_of_ble_eq_true rfl) (Nat.le_of_ble_eq_true rfl) hlocks dX4_reach_86
    · have n6 : (z.getD ce 0) = 0 := (nI_eq (a := (z.getD ce 0)) (b := 0) (by omega) (by omega)).mp h6
      refine lv_aload_n hx hb dX4_reach_27 rfl (lv_at hl 0 rfl) ?_
      refine va_get (D := D) (ci := 11) (v := .int (nI k)) (C := RX4) (T := TX4) (N := 14) hx hb hts hb_0 hown hK hP 0 rfl rfl 13 (by decide) hw_2 (fun _ h9 => h9) rfl dX4_reach_28 ?_
      refine lv_sipush (v := 144) hx hb dX4_reach_31 (by decide) ?_
      refine lv_icmp_ge (tgt := 86) hx hb dX4_reach_34 (by decide) (fun h7 => ?_) (fun h7 => ?_)
      · have n7 : 144 ≤ k := (nI_leI (a := 144) (b := k) (by omega) (by omega)).mp h7
        exact mr_v hx hb hr (w.set ce co, q, z, h, k) ((re_2 n3 (fun q9 => absurd q9.2 (by omega)))) (hP.sub [0, 1, 2, 3] rfl) (hK.sub [] rfl) (hD.sub [0, 1, 2, 3] (by decide) rfl) hS (Nat.le_of_ble_eq_true rfl) (Nat.le_of_ble_eq_true rfl) hlocks dX4_reach_86
      · have n7 : ¬ (144 ≤ k) := fun q9 => h7 ((nI_leI (a := 144) (b := k) (by omega) (by omega)).mpr q9)
        refine lv_aload_n hx hb dX4_reach_37 rfl (lv_at hl 0 rfl) ?_
        refine va_get (D := D) (ci := 11) (v := .int (nI h)) (C := RX4) (T := TX4) (N := 14) hx hb hts hb_0 hown hK hP 0 rfl rfl 12 (by decide) hw_3 (fun _ h9 => h9) rfl dX4_reach_38 ?_
        refine lv_aload_n hx hb dX4_reach_41 rfl (lv_at hl 0 rfl) ?_
        refine va_get (D := D) (ci := 11) (v := .int (nI k)) (C := RX4) (T := TX4) (N := 14) hx hb hts hb_0 hown hK hP 0 rfl rfl 13 (by decide) hw_2 (fun _ h9 => h9) rfl dX4_reach_42 ?_
        refine lv_iadd hx hb dX4_reach_45 ?_
        refine lv_topi (fun x8 e8 => ?_)
        obtain rfl : x8 = nI (h + k) := e8.trans (nI_add h k)
        refine lv_istore_n (lv' := [(3, .int (nI (h + k))), (0, .ref g), (1, .int (nI ce)), (2, .int (nI co))]) hx hb dX4_reach_46 rfl hl (by decide) rfl (fun ls hl => ?_)
        refine lv_aload_n hx hb dX4_reach_47 rfl (lv_at hl 1 rfl) ?_
        refine va_get (D := D) (ci := 11) (v := .ref a10) (C := RX4) (T := TX4) (N := 14) hx hb hts hb_0 hown hK hP 0 rfl rfl 10 (by decide) hw_4 (fun _ h9 => h9) rfl dX4_reach_48 ?_
        refine lv_iload_n hx hb dX4_reach_51 rfl (lv_at hl 0 rfl) ?_
        refine lv_sipush (v := 144) hx hb dX4_reach_52 (by decide) ?_
        refine lv_icmp_ge (tgt := 62) hx hb dX4_reach_55 (by decide) (fun h9 => ?_) (fun h9 => ?_)
        · have n9 : 144 ≤ (h + k) := (nI_leI (a := 144) (b := (h + k)) (by omega) (by omega)).mp h9
          refine lv_iload_n hx hb dX4_reach_62 rfl (lv_at hl 0 rfl) ?_
          refine lv_sipush (v := 144) hx hb dX4_reach_63 (by decide) ?_
          refine lv_isub hx hb dX4_reach_66 ?_
          refine lv_topi (fun x10 e10 => ?_)
          obtain rfl : x10 = nI ((h + k) - 144) := e10.trans (pk_sub (a := h + k) (b := 144) (by omega))
          refine lv_iload_n hx hb dX4_reach_67 rfl (lv_at hl 2 rfl) ?_
          refine va_iast hx hb hK hP hD hS 2 1 rfl rfl (vp_in_nI (n := (h + k) - 144) (by omega) (by decide)) dX4_reach_68 (fun H locs hP hD hS => ?_)
          have hcf : upd (fL q) ((nI ((h + k) - 144)).toNatClampNeg) (nI ce) = fL (q.set ((h + k) - 144) ce) := fL_up (L := q) (k := (h + k) - 144) (v := ce) (by omega) (by omega)
          have hP : va_P D vwCl [(g, .inr (11, [.int n, .ref a1, .ref a2, .ref a3, .ref a4, .ref a5, .ref a6, .ref a7, .ref a8, .ref a9, .ref a10, .ref a11, .int (nI h), .int (nI k)])), (a6, .inl (cw, 144, .inl (fL (w.set ce co)))), (a10, .inl (cq, 144, .inl (upd (fL q) ((nI ((h + k) - 144)).toNatClampNeg) (nI ce)))), (a11, .inl (cz, 144, .inl (fL z)))] H := hP
          have hD : va_D A [(g, .inr (11, [.int n, .ref a1, .ref a2, .ref a3, .ref a4, .ref a5, .ref a6, .ref a7, .ref a8, .ref a9, .ref a10, .ref a11, .int (nI h), .int (nI k)])), (a6, .inl (cw, 144, .inl (fL (w.set ce co)))), (a10, .inl (cq, 144, .inl (upd (fL q) ((nI ((h + k) - 144)).toNatClampNeg) (nI ce)))), (a11, .inl (cz, 144, .inl (fL z)))] := hD
          rw [hcf] at hP hD
          clear hcf
          have hP : va_P D vwCl [(g, .inr (11, [.int n, .ref a1, .ref a2, .ref a3, .ref a4, .ref a5, .ref a6, .ref a7, .ref a8, .ref a9, .ref a10, .ref a11, .int (nI h), .int (nI k)])), (a6, .inl (cw, 144, .inl (fL (w.set ce co)))), (a10, .inl (cq, 144, .inl (fL (q.set ((h + k) - 144) ce)))), (a11, .inl (cz, 144, .inl (fL z)))] H := hP
          have hD : va_D A [(g, .inr (11, [.int n, .ref a1, .ref a2, .ref a3, .ref a4, .ref a5, .ref a6, .ref a7, .ref a8, .ref a9, .ref a10, .ref a11, .int (nI h), .int (nI k)])), (a6, .inl (cw, 144, .inl (fL (w.set ce co)))), (a10, .inl (cq, 144, .inl (fL (q.set ((h + k) - 144) ce)))), (a11, .inl (cz, 144, .inl (fL z)))] := hD
          refine lv_aload_n hx hb dX4_reach_69 rfl (lv_at hl 1 rfl) ?_
          refine va_get (D := D) (ci := 11) (v := .ref a11) (C := RX4) (T := TX4) (N := 14) hx hb hts hb_0 hown hK hP 0 rfl rfl 11 (by decide) hw_1 (fun _ h9 => h9) rfl dX4_reach_70 ?_
          refine lv_iload_n hx hb dX4_reach_73 rfl (lv_at hl 2 rfl) ?_
          refine lv_iconst (v := 1) hx hb dX4_reach_74 (by decide) ?_
          refine va_zast hx hb hK hP hD hS 3 2 rfl rfl (vp_in_nI (n := ce) (by omega) (by decide)) dX4_reach_75 (fun H locs hP hD hS => ?_)
          have hcf : upd (fL z) ((nI ce).toNatClampNeg) (vp_nar .boolean 1) = fL (z.set ce 1) := fL_up (L := z) (k := ce) (v := 1) (by omega) (by omega)
          have hP : va_P D vwCl [(g, .inr (11, [.int n, .ref a1, .ref a2, .ref a3, .ref a4, .ref a5, .ref a6, .ref a7, .ref a8, .ref a9, .ref a10, .ref a11, .int (nI h), .int (nI k)])), (a6, .inl (cw, 144, .inl (fL (w.set ce co)))), (a10, .inl (cq, 144, .inl (fL (q.set ((h + k) - 144) ce)))), (a11, .inl (cz, 144, .inl (upd (fL z) ((nI ce).toNatClampNeg) (vp_nar .boolean 1))))] H := hP
          have hD : va_D A [(g, .inr (11, [.int n, .ref a1, .ref a2, .ref a3, .ref a4, .ref a5, .ref a6, .ref a7, .ref a8, .ref a9, .ref a10, .ref a11, .int (nI h), .int (nI k)])), (a6, .inl (cw, 144, .inl (fL (w.set ce co)))), (a10, .inl (cq, 144, .inl (fL (q.set ((h + k) - 144) ce)))), (a11, .inl (cz, 144, .inl (upd (fL z) ((nI ce).toNatClampNeg) (vp_nar .boolean 1))))] := hD
          rw [hcf] at hP hD
          clear hcf
          have hP : va_P D vwCl [(g, .inr (11, [.int n, .ref a1, .ref a2, .ref a3, .ref a4, .ref a5, .ref a6, .ref a7, .ref a8, .ref a9, .ref a10, .ref a11, .int (nI h), .int (nI k)])), (a6, .inl (cw, 144, .inl (fL (w.set ce co)))), (a10, .inl (cq, 144, .inl (fL (q.set ((h + k) - 144) ce)))), (a11, .inl (cz, 144, .inl (fL (z.set ce 1))))] H := hP
          have hD : va_D A [(g, .inr (11, [.int n, .ref a1, .ref a2, .ref a3, .ref a4, .ref a5, .ref a6, .ref a7, .ref a8, .ref a9, .ref a10, .ref a11, .int (nI h), .int (nI k)])), (a6, .inl (cw, 144, .inl (fL (w.set ce co)))), (a10, .inl (cq, 144, .inl (fL (q.set ((h + k) - 144) ce)))), (a11, .inl (cz, 144, .inl (fL (z.set ce 1))))] := hD
          refine lv_aload_n hx hb dX4_reach_76 rfl (lv_at hl 1 rfl) ?_
          refine lv_dup hx hb dX4_reach_77 rfl ?_
          refine va_get (D := D) (ci := 11) (v := .int (nI k)) (C := RX4) (T := TX4) (N := 14) hx hb hts hb_0 hown hK hP 0 rfl rfl 13 (by decide) hw_2 (fun _ h9 => h9) rfl dX4_reach_78 ?_
          refine lv_iconst (v := 1) hx hb dX4_reach_81 (by decide) ?_
          refine lv_iadd hx hb dX4_reach_82 ?_
          refine lv_topi (fun x11 e11 => ?_)
          obtain rfl : x11 = nI (k + 1) := e11.trans (nI_add k 1)
          refine va_put (D := D) (ci := 11) (v := .int (nI (k + 1))) (ty := .int) (C := RX4) (T := TX4) (N := 14) hx hb hts hb_0 tyX4 tyX4_ok nmX4 hown hK hP hD hS 0 rfl rfl 13 (by decide) hw_2 (fun _ h9 => h9) rfl (by decide +kernel) rfl rfl (Nat.le_of_ble_eq_true rfl) dX4_reach_83 (fun H locs hP hD hS => ?_)
          have hP : va_P D vwCl [(g, .inr (11, [.int n, .ref a1, .ref a2, .ref a3, .ref a4, .ref a5, .ref a6, .ref a7, .ref a8, .ref a9, .ref a10, .ref a11, .int (nI h), .int (nI (k + 1))])), (a6, .inl (cw, 144, .inl (fL (w.set ce co)))), (a10, .inl (cq, 144, .inl (fL (q.set ((h + k) - 144) ce)))), (a11, .inl (cz, 144, .inl (fL (z.set ce 1))))] H := hP
          have hD : va_D A [(g, .inr (11, [.int n, .ref a1, .ref a2, .ref a3, .ref a4, .ref a5, .ref a6, .ref a7, .ref a8, .ref a9, .ref a10, .ref a11, .int (nI h), .int (nI (k + 1))])), (a6, .inl (cw, 144, .inl (fL (w.set ce co)))), (a10, .inl (cq, 144, .inl (fL (q.set ((h + k) - 144) ce)))), (a11, .inl (cz, 144, .inl (fL (z.set ce 1))))] := hD
          exact mr_v hx hb hr (w.set ce co, q.set (h + k - 144) ce, z.set ce 1, h, k + 1) ((re_4 n3 n6 (by omega) (by omega))) (hP.sub [0, 1, 2, 3] rfl) (hK.sub [] rfl) (hD.sub [0, 1, 2, 3] (by decide) rfl) hS (Nat.le_of_ble_eq_true rfl) (Nat.le_of_ble_eq_true rfl) hlocks dX4_reach_86
        · have n9 : ¬ (144 ≤ (h + k)) := fun q9 => h9 ((nI_leI (a := 144) (b := (h + k)) (by omega) (by omega)).mpr q9)
          refine lv_iload_n hx hb dX4_reach_58 rfl (lv_at hl 0 rfl) ?_
          refine lv_goto (tgt := 67) hx hb dX4_reach_59 (by decide) ?_
          refine lv_iload_n hx hb dX4_reach_67 rfl (lv_at hl 2 rfl) ?_
          refine va_iast hx hb hK hP hD hS 2 1 rfl rfl (vp_in_nI (n := h + k) (by omega) (by decide)) dX4_reach_68 (fun H locs hP hD hS => ?_)
          have hcf : upd (fL q) ((nI (h + k)).toNatClampNeg) (nI ce) = fL (q.set (h + k) ce) := fL_up (L := q) (k := h + k) (v := ce) (by omega) (by omega)
          have hP : va_P D vwCl [(g, .inr (11, [.int n, .ref a1, .ref a2, .ref a3, .ref a4, .ref a5, .ref a6, .ref a7, .ref a8, .ref a9, .ref a10, .ref a11, .int (nI h), .int (nI k)])), (a6, .inl (cw, 144, .inl (fL (w.set ce co)))), (a10, .inl (cq, 144, .inl (upd (fL q) ((nI (h + k)).toNatClampNeg) (nI ce)))), (a11, .inl (cz, 144, .inl (fL z)))] H := hP
          have hD : va_D A [(g, .inr (11, [.int n, .ref a1, .ref a2, .ref a3, .ref a4, .ref a5, .ref a6, .ref a7, .ref a8, .ref a9, .ref a10, .ref a11, .int (nI h), .int (nI k)])), (a6, .inl (cw, 144, .inl (fL (w.set ce co)))), (a10, .inl (cq, 144, .inl (upd (fL q) ((nI (h + k)).toNatClampNeg) (nI ce)))), (a11, .inl (cz, 144, .inl (fL z)))] := hD
          rw [hcf] at hP hD
          clear hcf
          have hP : va_P D vwCl [(g, .inr (11, [.int n, .ref a1, .ref a2, .ref a3, .ref a4, .ref a5, .ref a6, .ref a7, .ref a8, .ref a9, .ref a10, .ref a11, .int (nI h), .int (nI k)])), (a6, .inl (cw, 144, .inl (fL (w.set ce co)))), (a10, .inl (cq, 144, .inl (fL (q.set (h + k) ce)))), (a11, .inl (cz, 144, .inl (fL z)))] H := hP
          have hD : va_D A [(g, .inr (11, [.int n, .ref a1, .ref a2, .ref a3, .ref a4, .ref a5, .ref a6, .ref a7, .ref a8, .ref a9, .ref a10, .ref a11, .int (nI h), .int (nI k)])), (a6, .inl (cw, 144, .inl (fL (w.set ce co)))), (a10, .inl (cq, 144, .inl (fL (q.set (h + k) ce)))), (a11, .inl (cz, 144, .inl (fL z)))] := hD
          refine lv_aload_n hx hb dX4_reach_69 rfl (lv_at hl 1 rfl) ?_
          refine va_get (D := D) (ci := 11) (v := .ref a11) (C := RX4) (T := TX4) (N := 14) hx hb hts hb_0 hown hK hP 0 rfl rfl 11 (by decide) hw_1 (fun _ h9 => h9) rfl dX4_reach_70 ?_
          refine lv_iload_n hx hb dX4_reach_73 rfl (lv_at hl 2 rfl) ?_
          refine lv_iconst (v := 1) hx hb dX4_reach_74 (by decide) ?_
          refine va_zast hx hb hK hP hD hS 3 2 rfl rfl (vp_in_nI (n := ce) (by omega) (by decide)) dX4_reach_75 (fun H locs hP hD hS => ?_)
          have hcf : upd (fL z) ((nI ce).toNatClampNeg) (vp_nar .boolean 1) = fL (z.set ce 1) := fL_up (L := z) (k := ce) (v := 1) (by omega) (by omega)
          have hP : va_P D vwCl [(g, .inr (11, [.int n, .ref a1, .ref a2, .ref a3, .ref a4, .ref a5, .ref a6, .ref a7, .ref a8, .ref a9, .ref a10, .ref a11, .int (nI h), .int (nI k)])), (a6, .inl (cw, 144, .inl (fL (w.set ce co)))), (a10, .inl (cq, 144, .inl (fL (q.set (h + k) ce)))), (a11, .inl (cz, 144, .inl (upd (fL z) ((nI ce).toNatClampNeg) (vp_nar .boolean 1))))] H := hP
          have hD : va_D A [(g, .inr (11, [.int n, .ref a1, .ref a2, .ref a3, .ref a4, .ref a5, .ref a6, .ref a7, .ref a8, .ref a9, .ref a10, .ref a11, .int (nI h), .int (nI k)])), (a6, .inl (cw, 144, .inl (fL (w.set ce co)))), (a10, .inl (cq, 144, .inl (fL (q.set (h + k) ce)))), (a11, .inl (cz, 144, .inl (upd (fL z) ((nI ce).toNatClampNeg) (vp_nar .boolean 1))))] := hD
          rw [hcf] at hP hD
          clear hcf
          have hP : va_P D vwCl [(g, .inr (11, [.int n, .ref a1, .ref a2, .ref a3, .ref a4, .ref a5, .ref a6, .ref a7, .ref a8, .ref a9, .ref a10, .ref a11, .int (nI h), .int (nI k)])), (a6, .inl (cw, 144, .inl (fL (w.set ce co)))), (a10, .inl (cq, 144, .inl (fL (q.set (h + k) ce)))), (a11, .inl (cz, 144, .inl (fL (z.set ce 1))))] H := hP
          have hD : va_D A [(g, .inr (11, [.int n, .ref a1, .ref a2, .ref a3, .ref a4, .ref a5, .ref a6, .ref a7, .ref a8, .ref a9, .ref a10, .ref a11, .int (nI h), .int (nI k)])), (a6, .inl (cw, 144, .inl (fL (w.set ce co)))), (a10, .inl (cq, 144, .inl (fL (q.set (h + k) ce)))), (a11, .inl (cz, 144, .inl (fL (z.set ce 1))))] := hD
          refine lv_aload_n hx hb dX4_reach_76 rfl (lv_at hl 1 rfl) ?_
          refine lv_dup hx hb dX4_reach_77 rfl ?_
          refine va_get (D := D) (ci := 11) (v := .int (nI k)) (C := RX4) (T := TX4) (N := 14) hx hb hts hb_0 hown hK hP 0 rfl rfl 13 (by decide) hw_2 (fun _ h9 => h9) rfl dX4_reach_78 ?_
          refine lv_iconst (v := 1) hx hb dX4_reach_81 (by decide) ?_
          refine lv_iadd hx hb dX4_reach_82 ?_
          refine lv_topi (fun x12 e12 => ?_)
          obtain rfl : x12 = nI (k + 1) := e12.trans (nI_add k 1)
          refine va_put (D := D) (ci := 11) (v := .int (nI (k + 1))) (ty := .int) (C := RX4) (T := TX4) (N := 14) hx hb hts hb_0 tyX4 tyX4_ok nmX4 hown hK hP hD hS 0 rfl rfl 13 (by decide) hw_2 (fun _ h9 => h9) rfl (by decide +kernel) rfl rfl (Nat.le_of_ble_eq_true rfl) dX4_reach_83 (fun H locs hP hD hS => ?_)
          have hP : va_P D vwCl [(g, .inr (11, [.int n, .ref a1, .ref a2, .ref a3, .ref a4, .ref a5, .ref a6, .ref a7, .ref a8, .ref a9, .ref a10, .ref a11, .int (nI h), .int (nI (k + 1))])), (a6, .inl (cw, 144, .inl (fL (w.set ce co)))), (a10, .inl (cq, 144, .inl (fL (q.set (h + k) ce)))), (a11, .inl (cz, 144, .inl (fL (z.set ce 1))))] H := hP
          have hD : va_D A [(g, .inr (11, [.int n, .ref a1, .ref a2, .ref a3, .ref a4, .ref a5, .ref a6, .ref a7, .ref a8, .ref a9, .ref a10, .ref a11, .int (nI h), .int (nI (k + 1))])), (a6, .inl (cw, 144, .inl (fL (w.set ce co)))), (a10, .inl (cq, 144, .inl (fL (q.set (h + k) ce)))), (a11, .inl (cz, 144, .inl (fL (z.set ce 1))))] := hD
          exact mr_v hx hb hr (w.set ce co, q.set (h + k) ce, z.set ce 1, h, k + 1) ((re_3 n3 n6 (by omega) (by omega))) (hP.sub [0, 1, 2, 3] rfl) (hK.sub [] rfl) (hD.sub [0, 1, 2, 3] (by decide) rfl) hS (Nat.le_of_ble_eq_true rfl) (Nat.le_of_ble_eq_true rfl) hlocks dX4_reach_86
  · have n3 : ¬ (co < (w.getD ce 0)) := fun q9 => h3 ((nI_ltI (a := co) (b := (w.getD ce 0)) (by omega) (by omega)).mpr q9)
    exact mr_v hx hb hr (w, q, z, h, k) ((re_1 n3)) (hP.sub [0, 1, 2, 3] rfl) (hK.sub [] rfl) (hD.sub [0, 1, 2, 3] (by decide) rfl) hS (Nat.le_of_ble_eq_true rfl) (Nat.le_of_ble_eq_true rfl) hlocks dX4_reach_10

def us_c_takeFirst : List Cond := .code yX4_takeFirst cX4_takeFirst 2 (some .int) :: (([.fieldLink RX4 40 "ControlWood$Terrain" "queue" "[I", .fieldLink RX4 87 "ControlWood$Terrain" "head" "I", .fieldLink RX4 90 "ControlWood$Terrain" "waiting" "I", .fieldLink RX4 43 "ControlWood$Terrain" "isQueued" "[Z"] : List Cond) ++ (wsX40 ++ ([])))
theorem gw_c_takeFirst : ∀ w ∈ us_c_takeFirst, goodWord w = true := gw_cons rfl (gw_app (by decide +kernel) (gw_app gwf_X4 (fun _ h => nomatch h)))
set_option maxHeartbeats 4000000 in
set_option maxRecDepth 100000 in
/-- takeFirst -/
theorem c_takeFirst (l : Launch) (hst : l.stackTraces = false) (D : va_G) (g : Nat) (a1 : Nat) (a2 : Nat) (a3 : Nat) (a4 : Nat) (a5 : Nat) (a6 : Nat) (a7 : Nat) (a8 : Nat) (a9 : Nat) (a10 : Nat) (a11 : Nat) (n : Int32) (cw : ClassId) (cq : ClassId) (cz : ClassId) (w : List Nat) (q : List Nat) (z : List Nat) (h : Nat) (k : Nat) (sz : Nat) (ok : okS w q z h k) (hk : 0 < k) : Met l yX4_takeFirst us_c_takeFirst { frames := 0, cells := 0, slots := 0, locals := 0 } (pw D [.ref g] [(cw, .int), (cq, .int), (cz, .boolean)] [(g, .inr (11, [.int n, .ref a1, .ref a2, .ref a3, .ref a4, .ref a5, .ref a6, .ref a7, .ref a8, .ref a9, .ref a10, .ref a11, .int (nI h), .int (nI k)])), (a6, .inl (cw, 144, .inl (fL w))), (a10, .inl (cq, 144, .inl (fL q))), (a11, .inl (cz, 144, .inl (fL z)))] sz) (va_Qi (fun (r : Int32) (u : sS) => r = nI (q.getD h 0) ∧ u = tkM w q z h k) (qb D (va_A [(g, .inr (11, [.int n, .ref a1, .ref a2, .ref a3, .ref a4, .ref a5, .ref a6, .ref a7, .ref a8, .ref a9, .ref a10, .ref a11, .int (nI h), .int (nI k)])), (a6, .inl (cw, 144, .inl (fL w))), (a10, .inl (cq, 144, .inl (fL q))), (a11, .inl (cz, 144, .inl (fL z)))] sz) (fun u : sS => [(g, .inr (11, [.int n, .ref a1, .ref a2, .ref a3, .ref a4, .ref a5, .ref a6, .ref a7, .ref a8, .ref a9, .ref a10, .ref a11, .int (nI u.2.2.2.1), .int (nI u.2.2.2.2)])), (a6, .inl (cw, 144, .inl (fL u.1))), (a10, .inl (cq, 144, .inl (fL u.2.1))), (a11, .inl (cz, 144, .inl (fL u.2.2.1)))]) (fun u : sS => ([] : List (ClassId × FieldType)))) (va_A [(g, .inr (11, [.int n, .ref a1, .ref a2, .ref a3, .ref a4, .ref a5, .ref a6, .ref a7, .ref a8, .ref a9, .ref a10, .ref a11, .int (nI h), .int (nI k)])), (a6, .inl (cw, 144, .inl (fL w))), (a10, .inl (cq, 144, .inl (fL q))), (a11, .inl (cz, 144, .inl (fL z)))] sz)) 0 0 (va_A [(g, .inr (11, [.int n, .ref a1, .ref a2, .ref a3, .ref a4, .ref a5, .ref a6, .ref a7, .ref a8, .ref a9, .ref a10, .ref a11, .int (nI h), .int (nI k)])), (a6, .inl (cw, 144, .inl (fL w))), (a10, .inl (cq, 144, .inl (fL q))), (a11, .inl (cz, 144, .inl (fL z)))] sz) := by
  refine op_M (Qc := fun A => (va_Qi (fun (r : Int32) (u : sS) => r = nI (q.getD h 0) ∧ u = tkM w q z h k) (qb D A (fun u : sS => [(g, .inr (11, [.int n, .ref a1, .ref a2, .ref a3, .ref a4, .ref a5, .ref a6, .ref a7, .ref a8, .ref a9, .ref a10, .ref a11, .int (nI u.2.2.2.1), .int (nI u.2.2.2.2)])), (a6, .inl (cw, 144, .inl (fL u.1))), (a10, .inl (cq, 144, .inl (fL u.2.1))), (a11, .inl (cz, 144, .inl (fL u.2.2.1)))]) (fun u : sS => ([] : List (ClassId × FieldType)))) A)) (by decide +kernel) rfl (Nat.le_of_ble_eq_true rfl) ?_
  intro p e s m args below meth c A ls hx hb hr hml hts hown hlocks hmn htab hA hD hS hP hK hE hsz hl
  have hown : s.vm.findClass RX4 = some m.cls := hown
  have hl : lv_has ls 2 [(0, .ref g)] := hl
  have hw_0 := hts (.fieldLink RX4 40 "ControlWood$Terrain" "queue" "[I") (List.mem_cons_of_mem _ (List.mem_append_left _ (List.mem_of_getElem? (i := 0) rfl)))
  have hw_1 := hts (.fieldLink RX4 87 "ControlWood$Terrain" "head" "I") (List.mem_cons_of_mem _ (List.mem_append_left _ (List.mem_of_getElem? (i := 1) rfl)))
  have hw_2 := hts (.fieldLink RX4 90 "ControlWood$Terrain" "waiting" "I") (List.mem_cons_of_mem _ (List.mem_append_left _ (List.mem_of_getElem? (i := 2) rfl)))
  have hw_3 := hts (.fieldLink RX4 43 "ControlWood$Terrain" "isQueued" "[Z") (List.mem_cons_of_mem _ (List.mem_append_left _ (List.mem_of_getElem? (i := 3) rfl)))
  have hb_0 : ∀ w ∈ wsX40, w ∈ us_c_takeFirst := fun w h => List.mem_cons_of_mem _ (List.mem_append_right _ (List.mem_append_left _ h))
  obtain ⟨ok1, ok2, ok3, ok4, ok5, ok6, ok7, ok8⟩ := ok
  refine lv_aload_n hx hb dX4_takeFirst_0 rfl (lv_at hl 0 rfl) ?_
  refine va_get (D := D) (ci := 11) (v := .ref a10) (C := RX4) (T := TX4) (N := 14) hx hb hts hb_0 hown hK hP 0 rfl rfl 10 (by decide) hw_0 (fun _ h9 => h9) rfl dX4_takeFirst_1 ?_
  refine lv_aload_n hx hb dX4_takeFirst_4 rfl (lv_at hl 0 rfl) ?_
  refine va_get (D := D) (ci := 11) (v := .int (nI h)) (C := RX4) (T := TX4) (N := 14) hx hb hts hb_0 hown hK hP 0 rfl rfl 12 (by decide) hw_1 (fun _ h9 => h9) rfl dX4_takeFirst_5 ?_
  refine va_iald hx hb hK hP 2 1 rfl rfl (vp_in_nI (n := h) (by omega) (by decide)) dX4_takeFirst_8 ?_
  have b1 := ok7 h
  refine lv_topi (fun x2 e2 => ?_)
  obtain rfl : x2 = nI (q.getD h 0) := e2.trans (fL_at (by omega))
  refine lv_istore_n (lv' := [(1, .int (nI (q.getD h 0))), (0, .ref g)]) hx hb dX4_takeFirst_9 rfl hl (by decide) rfl (fun ls hl => ?_)
  refine lv_aload_n hx hb dX4_takeFirst_10 rfl (lv_at hl 1 rfl) ?_
  refine lv_aload_n hx hb dX4_takeFirst_11 rfl (lv_at hl 1 rfl) ?_
  refine va_get (D := D) (ci := 11) (v := .int (nI h)) (C := RX4) (T := TX4) (N := 14) hx hb hts hb_0 hown hK hP 0 rfl rfl 12 (by decide) hw_1 (fun _ h9 => h9) rfl dX4_takeFirst_12 ?_
  refine lv_iconst (v := 1) hx hb dX4_takeFirst_15 (by decide) ?_
  refine lv_iadd hx hb dX4_takeFirst_16 ?_
  refine lv_topi (fun x3 e3 => ?_)
  obtain rfl : x3 = nI (h + 1) := e3.trans (nI_add h 1)
  refine lv_sipush (v := 144) hx hb dX4_takeFirst_17 (by decide) ?_
  refine lv_icmp_ge (tgt := 32) hx hb dX4_takeFirst_20 (by decide) (fun h4 => ?_) (fun h4 => ?_)
  · have n4 : 144 ≤ (h + 1) := (nI_leI (a := 144) (b := (h + 1)) (by omega) (by omega)).mp h4
    refine lv_iconst (v := 0) hx hb dX4_takeFirst_32 (by decide) ?_
    refine va_put (D := D) (ci := 11) (v := .int 0) (ty := .int) (C := RX4) (T := TX4) (N := 14) hx hb hts hb_0 tyX4 tyX4_ok nmX4 hown hK hP hD hS 0 rfl rfl 12 (by decide) hw_1 (fun _ h9 => h9) rfl (by decide +kernel) rfl rfl (Nat.le_of_ble_eq_true rfl) dX4_takeFirst_33 (fun H locs hP hD hS => ?_)
    have hP : va_P D vwCl [(g, .inr (11, [.int n, .ref a1, .ref a2, .ref a3, .ref a4, .ref a5, .ref a6, .ref a7, .ref a8, .ref a9, .ref a10, .ref a11, .int 0, .int (nI k)])), (a6, .inl (cw, 144, .inl (fL w))), (a10, .inl (cq, 144, .inl (fL q))), (a11, .inl (cz, 144, .inl (fL z)))] H := hP
    have hD : va_D A [(g, .inr (11, [.int n, .ref a1, .ref a2, .ref a3, .ref a4, .ref a5, .ref a6, .ref a7, .ref a8, .ref a9, .ref a10, .ref a11, .int 0, .int (nI k)])), (a6, .inl (cw, 144, .inl (fL w))), (a10, .inl (cq, 144, .inl (fL q))), (a11, .inl (cz, 144, .inl (fL z)))] := hD
    refine lv_aload_n hx hb dX4_takeFirst_36 rfl (lv_at hl 1 rfl) ?_
    refine lv_dup hx hb dX4_takeFirst_37 rfl ?_
    refine va_get (D := D) (ci := 11) (v := .int (nI k)) (C := RX4) (T := TX4) (N := 14) hx hb hts hb_0 hown hK hP 0 rfl rfl 13 (by decide) hw_2 (fun _ h9 => h9) rfl dX4_takeFirst_38 ?_
    refine lv_iconst (v := 1) hx hb dX4_takeFirst_41 (by decide) ?_
    refine lv_isub hx hb dX4_takeFirst_42 ?_
    refine lv_topi (fun x5 e5 => ?_)
    obtain rfl : x5 = nI (k - 1) := e5.trans (pk_sub (a := k) (b := 1) (by omega))
    refine va_put (D := D) (ci := 11) (v := .int (nI (k - 1))) (ty := .int) (C := RX4) (T := TX4) (N := 14) hx hb hts hb_0 tyX4 tyX4_ok nmX4 hown hK hP hD hS 0 rfl rfl 13 (by decide) hw_2 (fun _ h9 => h9) rfl (by decide +kernel) rfl rfl (Nat.le_of_ble_eq_true rfl) dX4_takeFirst_43 (fun H locs hP hD hS => ?_)
    have hP : va_P D vwCl [(g, .inr (11, [.int n, .ref a1, .ref a2, .ref a3, .ref a4, .ref a5, .ref a6, .ref a7, .ref a8, .ref a9, .ref a10, .ref a11, .int 0, .int (nI (k - 1))])), (a6, .inl (cw, 144, .inl (fL w))), (a10, .inl (cq, 144, .inl (fL q))), (a11, .inl (cz, 144, .inl (fL z)))] H := hP
    have hD : va_D A [(g, .inr (11, [.int n, .ref a1, .ref a2, .ref a3, .ref a4, .ref a5, .ref a6, .ref a7, .ref a8, .ref a9, .ref a10, .ref a11, .int 0, .int (nI (k - 1))])), (a6, .inl (cw, 144, .inl (fL w))), (a10, .inl (cq, 144, .inl (fL q))), (a11, .inl (cz, 144, .inl (fL z)))] := hD
    refine lv_aload_n hx hb dX4_takeFirst_46 rfl (lv_at hl 1 rfl) ?_
    refine va_get (D := D) (ci := 11) (v := .ref a11) (C := RX4) (T := TX4) (N := 14) hx hb hts hb_0 hown hK hP 0 rfl rfl 11 (by decide) hw_3 (fun _ h9 => h9) rfl dX4_takeFirst_47 ?_
    refine lv_iload_n hx hb dX4_takeFirst_50 rfl (lv_at hl 0 rfl) ?_
    refine lv_iconst (v := 0) hx hb dX4_takeFirst_51 (by decide) ?_
    refine va_zast hx hb hK hP hD hS 3 2 rfl rfl (vp_in_nI (n := q.getD h 0) (by omega) (by decide)) dX4_takeFirst_52 (fun H locs hP hD hS => ?_)
    have hcf : upd (fL z) ((nI (q.getD h 0)).toNatClampNeg) (vp_nar .boolean 0) = fL (z.set (q.getD h 0) 0) := fL_up (L := z) (k := q.getD h 0) (v := 0) (by omega) (by omega)
    have hP : va_P D vwCl [(g, .inr (11, [.int n, .ref a1, .ref a2, .ref a3, .ref a4, .ref a5, .ref a6, .ref a7, .ref a8, .ref a9, .ref a10, .ref a11, .int 0, .int (nI (k - 1))])), (a6, .inl (cw, 144, .inl (fL w))), (a10, .inl (cq, 144, .inl (fL q))), (a11, .inl (cz, 144, .inl (upd (fL z) ((nI (q.getD h 0)).toNatClampNeg) (vp_nar .boolean 0))))] H := hP
    have hD : va_D A [(g, .inr (11, [.int n, .ref a1, .ref a2, .ref a3, .ref a4, .ref a5, .ref a6, .ref a7, .ref a8, .ref a9, .ref a10, .ref a11, .int 0, .int (nI (k - 1))])), (a6, .inl (cw, 144, .inl (fL w))), (a10, .inl (cq, 144, .inl (fL q))), (a11, .inl (cz, 144, .inl (upd (fL z) ((nI (q.getD h 0)).toNatClampNeg) (vp_nar .boolean 0))))] := hD
    rw [hcf] at hP hD
    clear hcf
    have hP : va_P D vwCl [(g, .inr (11, [.int n, .ref a1, .ref a2, .ref a3, .ref a4, .ref a5, .ref a6, .ref a7, .ref a8, .ref a9, .ref a10, .ref a11, .int 0, .int (nI (k - 1))])), (a6, .inl (cw, 144, .inl (fL w))), (a10, .inl (cq, 144, .inl (fL q))), (a11, .inl (cz, 144, .inl (fL (z.set (q.getD h 0) 0))))] H := hP
    have hD : va_D A [(g, .inr (11, [.int n, .ref a1, .ref a2, .ref a3, .ref a4, .ref a5, .ref a6, .ref a7, .ref a8, .ref a9, .ref a10, .ref a11, .int 0, .int (nI (k - 1))])), (a6, .inl (cw, 144, .inl (fL w))), (a10, .inl (cq, 144, .inl (fL q))), (a11, .inl (cz, 144, .inl (fL (z.set (q.getD h 0) 0))))] := hD
    refine lv_iload_n hx hb dX4_takeFirst_53 rfl (lv_at hl 0 rfl) ?_
    exact mr_i hx hb hr (w, q, z.set (q.getD h 0) 0, 0, k - 1) (⟨rfl, tk_2 (by omega)⟩) (hP.sub [0, 1, 2, 3] rfl) (hK.sub [] rfl) (hD.sub [0, 1, 2, 3] (by decide) rfl) hS (Nat.le_of_ble_eq_true rfl) (Nat.le_of_ble_eq_true rfl) hlocks dX4_takeFirst_54
  · have n4 : ¬ (144 ≤ (h + 1)) := fun q9 => h4 ((nI_leI (a := 144) (b := (h + 1)) (by omega) (by omega)).mpr q9)
    refine lv_aload_n hx hb dX4_takeFirst_23 rfl (lv_at hl 1 rfl) ?_
    refine va_get (D := D) (ci := 11) (v := .int (nI h)) (C := RX4) (T := TX4) (N := 14) hx hb hts hb_0 hown hK hP 0 rfl rfl 12 (by decide) hw_1 (fun _ h9 => h9) rfl dX4_takeFirst_24 ?_
    refine lv_iconst (v := 1) hx hb dX4_takeFirst_27 (by decide) ?_
    refine lv_iadd hx hb dX4_takeFirst_28 ?_
    refine lv_topi (fun x6 e6 => ?_)
    obtain rfl : x6 = nI (h + 1) := e6.trans (nI_add h 1)
    refine lv_goto (tgt := 33) hx hb dX4_takeFirst_29 (by decide) ?_
    refine va_put (D := D) (ci := 11) (v := .int (nI (h + 1))) (ty := .int) (C := RX4) (T := TX4) (N := 14) hx hb hts hb_0 tyX4 tyX4_ok nmX4 hown hK hP hD hS 0 rfl rfl 12 (by decide) hw_1 (fun _ h9 => h9) rfl (by decide +kernel) rfl rfl (Nat.le_of_ble_eq_true rfl) dX4_takeFirst_33 (fun H locs hP hD hS => ?_)
    have hP : va_P D vwCl [(g, .inr (11, [.int n, .ref a1, .ref a2, .ref a3, .ref a4, .ref a5, .ref a6, .ref a7, .ref a8, .ref a9, .ref a10, .ref a11, .int (nI (h + 1)), .int (nI k)])), (a6, .inl (cw, 144, .inl (fL w))), (a10, .inl (cq, 144, .inl (fL q))), (a11, .inl (cz, 144, .inl (fL z)))] H := hP
    have hD : va_D A [(g, .inr (11, [.int n, .ref a1, .ref a2, .ref a3, .ref a4, .ref a5, .ref a6, .ref a7, .ref a8, .ref a9, .ref a10, .ref a11, .int (nI (h + 1)), .int (nI k)])), (a6, .inl (cw, 144, .inl (fL w))), (a10, .inl (cq, 144, .inl (fL q))), (a11, .inl (cz, 144, .inl (fL z)))] := hD
    refine lv_aload_n hx hb dX4_takeFirst_36 rfl (lv_at hl 1 rfl) ?_
    refine lv_dup hx hb dX4_takeFirst_37 rfl ?_
    refine va_get (D := D) (ci := 11) (v := .int (nI k)) (C := RX4) (T := TX4) (N := 14) hx hb hts hb_0 hown hK hP 0 rfl rfl 13 (by decide) hw_2 (fun _ h9 => h9) rfl dX4_takeFirst_38 ?_
    refine lv_iconst (v := 1) hx hb dX4_takeFirst_41 (by decide) ?_
    refine lv_isub hx hb dX4_takeFirst_42 ?_
    refine lv_topi (fun x7 e7 => ?_)
    obtain rfl : x7 = nI (k - 1) := e7.trans (pk_sub (a := k) (b := 1) (by omega))
    refine va_put (D := D) (ci := 11) (v := .int (nI (k - 1))) (ty := .int) (C := RX4) (T := TX4) (N := 14) hx hb hts hb_0 tyX4 tyX4_ok nmX4 hown hK hP hD hS 0 rfl rfl 13 (by decide) hw_2 (fun _ h9 => h9) rfl (by decide +kernel) rfl rfl (Nat.le_of_ble_eq_true rfl) dX4_takeFirst_43 (fun H locs hP hD hS => ?_)
    have hP : va_P D vwCl [(g, .inr (11, [.int n, .ref a1, .ref a2, .ref a3, .ref a4, .ref a5, .ref a6, .ref a7, .ref a8, .ref a9, .ref a10, .ref a11, .int (nI (h + 1)), .int (nI (k - 1))])), (a6, .inl (cw, 144, .inl (fL w))), (a10, .inl (cq, 144, .inl (fL q))), (a11, .inl (cz, 144, .inl (fL z)))] H := hP
    have hD : va_D A [(g, .inr (11, [.int n, .ref a1, .ref a2, .ref a3, .ref a4, .ref a5, .ref a6, .ref a7, .ref a8, .ref a9, .ref a10, .ref a11, .int (nI (h + 1)), .int (nI (k - 1))])), (a6, .inl (cw, 144, .inl (fL w))), (a10, .inl (cq, 144, .inl (fL q))), (a11, .inl (cz, 144, .inl (fL z)))] := hD
    refine lv_aload_n hx hb dX4_takeFirst_46 rfl (lv_at hl 1 rfl) ?_
    refine va_get (D := D) (ci := 11) (v := .ref a11) (C := RX4) (T := TX4) (N := 14) hx hb hts hb_0 hown hK hP 0 rfl rfl 11 (by decide) hw_3 (fun _ h9 => h9) rfl dX4_takeFirst_47 ?_
    refine lv_iload_n hx hb dX4_takeFirst_50 rfl (lv_at hl 0 rfl) ?_
    refine lv_iconst (v := 0) hx hb dX4_takeFirst_51 (by decide) ?_
    refine va_zast hx hb hK hP hD hS 3 2 rfl rfl (vp_in_nI (n := q.getD h 0) (by omega) (by decide)) dX4_takeFirst_52 (fun H locs hP hD hS => ?_)
    have hcf : upd (fL z) ((nI (q.getD h 0)).toNatClampNeg) (vp_nar .boolean 0) = fL (z.set (q.getD h 0) 0) := fL_up (L := z) (k := q.getD h 0) (v := 0) (by omega) (by omega)
    have hP : va_P D vwCl [(g, .inr (11, [.int n, .ref a1, .ref a2, .ref a3, .ref a4, .ref a5, .ref a6, .ref a7, .ref a8, .ref a9, .ref a10, .ref a11, .int (nI (h + 1)), .int (nI (k - 1))])), (a6, .inl (cw, 144, .inl (fL w))), (a10, .inl (cq, 144, .inl (fL q))), (a11, .inl (cz, 144, .inl (upd (fL z) ((nI (q.getD h 0)).toNatClampNeg) (vp_nar .boolean 0))))] H := hP
    have hD : va_D A [(g, .inr (11, [.int n, .ref a1, .ref a2, .ref a3, .ref a4, .ref a5, .ref a6, .ref a7, .ref a8, .ref a9, .ref a10, .ref a11, .int (nI (h + 1)), .int (nI (k - 1))])), (a6, .inl (cw, 144, .inl (fL w))), (a10, .inl (cq, 144, .inl (fL q))), (a11, .inl (cz, 144, .inl (upd (fL z) ((nI (q.getD h 0)).toNatClampNeg) (vp_nar .boolean 0))))] := hD
    rw [hcf] at hP hD
    clear hcf
    have hP : va_P D vwCl [(g, .inr (11, [.int n, .ref a1, .ref a2, .ref a3, .ref a4, .ref a5, .ref a6, .ref a7, .ref a8, .ref a9, .ref a10, .ref a11, .int (nI (h + 1)), .int (nI (k - 1))])), (a6, .inl (cw, 144, .inl (fL w))), (a10, .inl (cq, 144, .inl (fL q))), (a11, .inl (cz, 144, .inl (fL (z.set (q.getD h 0) 0))))] H := hP
    have hD : va_D A [(g, .inr (11, [.int n, .ref a1, .ref a2, .ref a3, .ref a4, .ref a5, .ref a6, .ref a7, .ref a8, .ref a9, .ref a10, .ref a11, .int (nI (h + 1)), .int (nI (k - 1))])), (a6, .inl (cw, 144, .inl (fL w))), (a10, .inl (cq, 144, .inl (fL q))), (a11, .inl (cz, 144, .inl (fL (z.set (q.getD h 0) 0))))] := hD
    refine lv_iload_n hx hb dX4_takeFirst_53 rfl (lv_at hl 0 rfl) ?_
    exact mr_i hx hb hr (w, q, z.set (q.getD h 0) 0, h + 1, k - 1) (⟨rfl, tk_1 (by omega)⟩) (hP.sub [0, 1, 2, 3] rfl) (hK.sub [] rfl) (hD.sub [0, 1, 2, 3] (by decide) rfl) hS (Nat.le_of_ble_eq_true rfl) (Nat.le_of_ble_eq_true rfl) hlocks dX4_takeFirst_54

def us_c_fillI : List Cond := .code yJ7_fill_53178 cJ7_fill_53178 4 none :: (([] : List Cond) ++ ([]))
theorem gw_c_fillI : ∀ w ∈ us_c_fillI, goodWord w = true := gw_cons rfl (gw_app (by decide +kernel) (fun _ h => nomatch h))
set_option maxHeartbeats 4000000 in
set_option maxRecDepth 100000 in
/-- Arrays.fill of ints -/
theorem c_fillI (l : Launch) (hst : l.stackTraces = false) (D : va_G) (a : Nat) (cy : ClassId) (n : Nat) (f : Nat → Int32) (v : Int32) (sz : Nat) (hn : n < 2 ^ 31) : Met l yJ7_fill_53178 us_c_fillI { frames := 0, cells := 0, slots := 0, locals := 0 } (pw D [.ref a, .int v] [(cy, .int)] [(a, .inl (cy, n, .inl f))] sz) (va_Qv (fun _ : Unit => True) (qb D (va_A [(a, .inl (cy, n, .inl f))] sz) (fun _ : Unit => [(a, .inl (cy, n, .inl (fa_fill (fun _ => v) f n)))]) (fun _ : Unit => ([] : List (ClassId × FieldType)))) (va_A [(a, .inl (cy, n, .inl f))] sz)) 0 0 (va_A [(a, .inl (cy, n, .inl f))] sz) := by
  refine op_M (Qc := fun A => (va_Qv (fun _ : Unit => True) (qb D A (fun _ : Unit => [(a, .inl (cy, n, .inl (fa_fill (fun _ => v) f n)))]) (fun _ : Unit => ([] : List (ClassId × FieldType)))) A)) (by decide +kernel) rfl (Nat.le_of_ble_eq_true rfl) ?_
  intro p e s m args below meth c A ls hx hb hr hml hts hown hlocks hmn htab hA hD hS hP hK hE hsz hl
  have hown : s.vm.findClass RJ7 = some m.cls := hown
  have hl : lv_has ls 4 [(0, .ref a), (1, .int v)] := hl
  refine lv_iconst (v := 0) hx hb dJ7_fill_53178_0 (by decide) ?_
  refine lv_istore_n (lv' := [(2, .int 0), (0, .ref a), (1, .int v)]) hx hb dJ7_fill_53178_1 rfl hl (by decide) rfl (fun ls hl => ?_)
  refine lv_aload_n hx hb dJ7_fill_53178_2 rfl (lv_at hl 1 rfl) ?_
  refine va_alen hx hb hK hP 0 0 rfl rfl (v := nI n) rfl dJ7_fill_53178_3 ?_
  refine lv_istore_n (lv' := [(3, .int (nI n)), (2, .int 0), (0, .ref a), (1, .int v)]) hx hb dJ7_fill_53178_4 rfl hl (by decide) rfl (fun ls hl => ?_)
  have hcf : ([(a, .inl (cy, n, .inl f))] : va_W) = [(a, .inl (cy, n, .inl (fa_fill (fun _ => v) f 0)))] := congrArg (fun f9 : Nat → Int32 => ([(a, .inl (cy, n, .inl f9))] : va_W)) (show (f : Nat → Int32) = fa_fill (fun _ => v) f 0 from (fa_fill_0 _ _).symm)
  rw [hcf] at hP hD
  clear hcf
  have lp : ∀ (fu : Nat) (i : Nat) (H : Heap) (locs : List Loc) (ls : Array Slot), (i + fu = n) → lv_has ls 4 [(2, .int (nI i)), (3, .int (nI n)), (0, .ref a), (1, .int v)] → va_P D vwCl [(a, .inl (cy, n, .inl (fa_fill (fun _ => v) f i)))] H → va_D A [(a, .inl (cy, n, .inl (fa_fill (fun _ => v) f i)))] → va_S A s.heap H locs → W p l e { frames := 0, cells := 0, slots := 0, locals := 0 } s m args below meth c H locs 0 0 (MQ below (va_Qv (fun _ : Unit => True) (qb D A (fun _ : Unit => [(a, .inl (cy, n, .inl (fa_fill (fun _ => v) f n)))]) (fun _ : Unit => ([] : List (ClassId × FieldType)))) A) args s 0 0 A) (F0 m 5 ls []) := by
    intro fu
    induction fu with
    | zero =>
      intro i H locs ls hi hl hP hD hS
      have hi : i + 0 = n := hi
      refine lv_iload_n hx hb dJ7_fill_53178_5 rfl (lv_at hl 0 rfl) ?_
      refine lv_iload_n hx hb dJ7_fill_53178_6 rfl (lv_at hl 1 rfl) ?_
      refine lv_icmp_ge (tgt := 20) hx hb dJ7_fill_53178_7 (by decide) (fun h1 => ?_) (fun h1 => absurd (by exact (nI_leI (a := n) (b := i) (by omega) (by omega)).mpr (by omega)) h1)
      have hP : va_P D vwCl [(a, .inl (cy, n, .inl (fa_fill (fun _ => v) f i)))] H := hP
      have hD : va_D A [(a, .inl (cy, n, .inl (fa_fill (fun _ => v) f i)))] := hD
      have hcf : ([(a, .inl (cy, n, .inl (fa_fill (fun _ => v) f i)))] : va_W) = [(a, .inl (cy, n, .inl (fa_fill (fun _ => v) f n)))] := congrArg (fun f9 : Nat → Int32 => ([(a, .inl (cy, n, .inl f9))] : va_W)) (show (fa_fill (fun _ => v) f i : Nat → Int32) = fa_fill (fun _ => v) f n from by rw [show i = n by omega])
      rw [hcf] at hP hD
      clear hcf
      have hP : va_P D vwCl [(a, .inl (cy, n, .inl (fa_fill (fun _ => v) f n)))] H := hP
      have hD : va_D A [(a, .inl (cy, n, .inl (fa_fill (fun _ => v) f n)))] := hD
      exact mr_v hx hb hr () (trivial) (hP.sub [0] rfl) (hK.sub [] rfl) (hD.sub [0] (by decide) rfl) hS (Nat.le_of_ble_eq_true rfl) (Nat.le_of_ble_eq_true rfl) hlocks dJ7_fill_53178_20
    | succ fu ih =>
      intro i H locs ls hi hl hP hD hS
      have hi : i + (fu + 1) = n := hi
      refine lv_iload_n hx hb dJ7_fill_53178_5 rfl (lv_at hl 0 rfl) ?_
      refine lv_iload_n hx hb dJ7_fill_53178_6 rfl (lv_at hl 1 rfl) ?_
      refine lv_icmp_ge (tgt := 20) hx hb dJ7_fill_53178_7 (by decide) (fun h2 => absurd h2 (by exact fun q9 => absurd ((nI_leI (a := n) (b := i) (by omega) (by omega)).mp q9) (by omega))) (fun h2 => ?_)
      refine lv_aload_n hx hb dJ7_fill_53178_10 rfl (lv_at hl 2 rfl) ?_
      refine lv_iload_n hx hb dJ7_fill_53178_11 rfl (lv_at hl 0 rfl) ?_
      refine lv_iload_n hx hb dJ7_fill_53178_12 rfl (lv_at hl 3 rfl) ?_
      refine va_iast hx hb hK hP hD hS 0 0 rfl rfl (vp_in_nI (by omega) (by omega)) dJ7_fill_53178_13 (fun H locs hP hD hS => ?_)
      have hcf : upd (fa_fill (fun _ => v) f i) ((nI i).toNatClampNeg) v = fa_fill (fun _ => v) f (i + 1) := by rw [nI_clamp (by omega)]; exact fa_fill_succ (fun _ => v) f i
      have hP : va_P D vwCl [(a, .inl (cy, n, .inl (upd (fa_fill (fun _ => v) f i) ((nI i).toNatClampNeg) v)))] H := hP
      have hD : va_D A [(a, .inl (cy, n, .inl (upd (fa_fill (fun _ => v) f i) ((nI i).toNatClampNeg) v)))] := hD
      rw [hcf] at hP hD
      clear hcf
      have hP : va_P D vwCl [(a, .inl (cy, n, .inl (fa_fill (fun _ => v) f (i + 1))))] H := hP
      have hD : va_D A [(a, .inl (cy, n, .inl (fa_fill (fun _ => v) f (i + 1))))] := hD
      obtain ⟨x3, e3⟩ : ∃ z : Int32, z = nI i + 1 := ⟨_, rfl⟩
      refine lv_iinc (v := x3) (lv' := [(2, .int x3), (3, .int (nI n)), (0, .ref a), (1, .int v)]) hx hb dJ7_fill_53178_14 hl (k := 0) rfl (by rw [e3]; rfl) (by decide) rfl (fun ls hl => ?_)
      obtain rfl : x3 = nI (i + 1) := e3.trans (nI_add i 1)
      refine lv_goto (tgt := 5) hx hb dJ7_fill_53178_17 (by decide) ?_
      exact ih  (i + 1) _ _ _ (by omega) (lv_sub hl [0, 1, 2, 3] rfl) (hP.sub [0] rfl) (hD.sub [0] (by decide) rfl) hS
  exact lp n 0 _ _ _ (by omega) (lv_sub hl [1, 0, 2, 3] rfl) (hP.sub [0] rfl) (hD.sub [0] (by decide) rfl) hS

def us_c_spreadFrom : List Cond := .code yX4_spreadFrom cX4_spreadFrom 6 none :: (([.fieldLink RX4 37 "ControlWood$Terrain" "besides" "[I", .methodLink RX4 79 yX4_canEnter, .instanceMethod yX4_canEnter, .selects RX4 yX4_canEnter yX4_canEnter, .initialized RX4, .fieldLink RX4 28 "ControlWood$Terrain" "ways" "[I", .methodLink RX4 75 yX4_step, .instanceMethod yX4_step, .selects RX4 yX4_step yX4_step, .methodLink RX4 93 yX4_reach, .instanceMethod yX4_reach, .selects RX4 yX4_reach yX4_reach] : List Cond) ++ (wsX40 ++ (us_c_canEnter ++ (us_c_step ++ (us_c_reach ++ ([]))))))
theorem gw_c_spreadFrom : ∀ w ∈ us_c_spreadFrom, goodWord w = true := gw_cons rfl (gw_app (by decide +kernel) (gw_app gwf_X4 (gw_app gw_c_canEnter (gw_app gw_c_step (gw_app gw_c_reach (fun _ h => nomatch h))))))
set_option maxHeartbeats 4000000 in
set_option maxRecDepth 100000 in
/-- spreadFrom -/
theorem c_spreadFrom (l : Launch) (hst : l.stackTraces = false) (D : va_G) (g : Nat) (a1 : Nat) (a2 : Nat) (a3 : Nat) (a4 : Nat) (a5 : Nat) (a6 : Nat) (a7 : Nat) (a8 : Nat) (a9 : Nat) (a10 : Nat) (a11 : Nat) (n : Int32) (cw : ClassId) (cq : ClassId) (cz : ClassId) (ck : ClassId) (csk : ClassId) (cg : ClassId) (ch : ClassId) (csg : ClassId) (cb : ClassId) (w : List Nat) (q : List Nat) (z : List Nat) (h : Nat) (k : Nat) (ce : Nat) (mp : Int32) (bk : Int32) (sz : Nat) (ok : okS w q z h k) (hc : ce ≤ 24) : Met l yX4_spreadFrom us_c_spreadFrom { frames := 2, cells := 0, slots := 0, locals := 40 } (pw D [.ref g, .int (nI ce), .int mp, .int bk] [(cw, .int), (cq, .int), (cz, .boolean), (ck, .char), (csk, .char), (cg, .int), (ch, .int), (csg, .int), (cb, .int)] [(g, .inr (11, [.int n, .ref a1, .ref a2, .ref a3, .ref a4, .ref a5, .ref a6, .ref a7, .ref a8, .ref a9, .ref a10, .ref a11, .int (nI h), .int (nI k)])), (a6, .inl (cw, 144, .inl (fL w))), (a10, .inl (cq, 144, .inl (fL q))), (a11, .inl (cz, 144, .inl (fL z))), (a3, .inl (ck, 144, .inl okF)), (a5, .inl (csk, 144, .inl okF)), (a1, .inl (cg, 144, .inl (fun _ => 0))), (a2, .inl (ch, 144, .inl (fun _ => 0))), (a4, .inl (csg, 144, .inl (fun _ => 0))), (a9, .inl (cb, 576, .inl beF))] sz) (va_Qv (fun u : sS => u = sfM 4 (w, q, z, h, k) ce) (qb D (va_A [(g, .inr (11, [.int n, .ref a1, .ref a2, .ref a3, .ref a4, .ref a5, .ref a6, .ref a7, .ref a8, .ref a9, .ref a10, .ref a11, .int (nI h), .int (nI k)])), (a6, .inl (cw, 144, .inl (fL w))), (a10, .inl (cq, 144, .inl (fL q))), (a11, .inl (cz, 144, .inl (fL z))), (a3, .inl (ck, 144, .inl okF)), (a5, .inl (csk, 144, .inl okF)), (a1, .inl (cg, 144, .inl (fun _ => 0))), (a2, .inl (ch, 144, .inl (fun _ => 0))), (a4, .inl (csg, 144, .inl (fun _ => 0))), (a9, .inl (cb, 576, .inl beF))] sz) (fun u : sS => [(g, .inr (11, [.int n, .ref a1, .ref a2, .ref a3, .ref a4, .ref a5, .ref a6, .ref a7, .ref a8, .ref a9, .ref a10, .ref a11, .int (nI u.2.2.2.1), .int (nI u.2.2.2.2)])), (a6, .inl (cw, 144, .inl (fL u.1))), (a10, .inl (cq, 144, .inl (fL u.2.1))), (a11, .inl (cz, 144, .inl (fL u.2.2.1))), (a3, .inl (ck, 144, .inl okF)), (a5, .inl (csk, 144, .inl okF)), (a1, .inl (cg, 144, .inl (fun _ => 0))), (a2, .inl (ch, 144, .inl (fun _ => 0))), (a4, .inl (csg, 144, .inl (fun _ => 0))), (a9, .inl (cb, 576, .inl beF))]) (fun u : sS => ([] : List (ClassId × FieldType)))) (va_A [(g, .inr (11, [.int n, .ref a1, .ref a2, .ref a3, .ref a4, .ref a5, .ref a6, .ref a7, .ref a8, .ref a9, .ref a10, .ref a11, .int (nI h), .int (nI k)])), (a6, .inl (cw, 144, .inl (fL w))), (a10, .inl (cq, 144, .inl (fL q))), (a11, .inl (cz, 144, .inl (fL z))), (a3, .inl (ck, 144, .inl okF)), (a5, .inl (csk, 144, .inl okF)), (a1, .inl (cg, 144, .inl (fun _ => 0))), (a2, .inl (ch, 144, .inl (fun _ => 0))), (a4, .inl (csg, 144, .inl (fun _ => 0))), (a9, .inl (cb, 576, .inl beF))] sz)) 0 0 (va_A [(g, .inr (11, [.int n, .ref a1, .ref a2, .ref a3, .ref a4, .ref a5, .ref a6, .ref a7, .ref a8, .ref a9, .ref a10, .ref a11, .int (nI h), .int (nI k)])), (a6, .inl (cw, 144, .inl (fL w))), (a10, .inl (cq, 144, .inl (fL q))), (a11, .inl (cz, 144, .inl (fL z))), (a3, .inl (ck, 144, .inl okF)), (a5, .inl (csk, 144, .inl okF)), (a1, .inl (cg, 144, .inl (fun _ => 0))), (a2, .inl (ch, 144, .inl (fun _ => 0))), (a4, .inl (csg, 144, .inl (fun _ => 0))), (a9, .inl (cb, 576, .inl beF))] sz) := by
  refine op_M (Qc := fun A => (va_Qv (fun u : sS => u = sfM 4 (w, q, z, h, k) ce) (qb D A (fun u : sS => [(g, .inr (11, [.int n, .ref a1, .ref a2, .ref a3, .ref a4, .ref a5, .ref a6, .ref a7, .ref a8, .ref a9, .ref a10, .ref a11, .int (nI u.2.2.2.1), .int (nI u.2.2.2.2)])), (a6, .inl (cw, 144, .inl (fL u.1))), (a10, .inl (cq, 144, .inl (fL u.2.1))), (a11, .inl (cz, 144, .inl (fL u.2.2.1))), (a3, .inl (ck, 144, .inl okF)), (a5, .inl (csk, 144, .inl okF)), (a1, .inl (cg, 144, .inl (fun _ => 0))), (a2, .inl (ch, 144, .inl (fun _ => 0))), (a4, .inl (csg, 144, .inl (fun _ => 0))), (a9, .inl (cb, 576, .inl beF))]) (fun u : sS => ([] : List (ClassId × FieldType)))) A)) (by decide +kernel) rfl (Nat.le_of_ble_eq_true rfl) ?_
  intro p e s m args below meth c A ls hx hb hr hml hts hown hlocks hmn htab hA hD hS hP hK hE hsz hl
  have hown : s.vm.findClass RX4 = some m.cls := hown
  have hl : lv_has ls 6 [(0, .ref g), (1, .int (nI ce)), (2, .int mp), (3, .int bk)] := hl
  have hw_0 := hts (.fieldLink RX4 37 "ControlWood$Terrain" "besides" "[I") (List.mem_cons_of_mem _ (List.mem_append_left _ (List.mem_of_getElem? (i := 0) rfl)))
  have hw_1 := hts (.methodLink RX4 79 yX4_canEnter) (List.mem_cons_of_mem _ (List.mem_append_left _ (List.mem_of_getElem? (i := 1) rfl)))
  have hw_2 := hts (.instanceMethod yX4_canEnter) (List.mem_cons_of_mem _ (List.mem_append_left _ (List.mem_of_getElem? (i := 2) rfl)))
  have hw_3 := hts (.selects RX4 yX4_canEnter yX4_canEnter) (List.mem_cons_of_mem _ (List.mem_append_left _ (List.mem_of_getElem? (i := 3) rfl)))
  have hw_4 := hts (.initialized RX4) (List.mem_cons_of_mem _ (List.mem_append_left _ (List.mem_of_getElem? (i := 4) rfl)))
  have hw_5 := hts (.fieldLink RX4 28 "ControlWood$Terrain" "ways" "[I") (List.mem_cons_of_mem _ (List.mem_append_left _ (List.mem_of_getElem? (i := 5) rfl)))
  have hw_6 := hts (.methodLink RX4 75 yX4_step) (List.mem_cons_of_mem _ (List.mem_append_left _ (List.mem_of_getElem? (i := 6) rfl)))
  have hw_7 := hts (.instanceMethod yX4_step) (List.mem_cons_of_mem _ (List.mem_append_left _ (List.mem_of_getElem? (i := 7) rfl)))
  have hw_8 := hts (.selects RX4 yX4_step yX4_step) (List.mem_cons_of_mem _ (List.mem_append_left _ (List.mem_of_getElem? (i := 8) rfl)))
  have hw_9 := hts (.methodLink RX4 93 yX4_reach) (List.mem_cons_of_mem _ (List.mem_append_left _ (List.mem_of_getElem? (i := 9) rfl)))
  have hw_10 := hts (.instanceMethod yX4_reach) (List.mem_cons_of_mem _ (List.mem_append_left _ (List.mem_of_getElem? (i := 10) rfl)))
  have hw_11 := hts (.selects RX4 yX4_reach yX4_reach) (List.mem_cons_of_mem _ (List.mem_append_left _ (List.mem_of_getElem? (i := 11) rfl)))
  have hb_0 : ∀ w ∈ wsX40, w ∈ us_c_spreadFrom := fun w h => List.mem_cons_of_mem _ (List.mem_append_right _ (List.mem_append_left _ h))
  have hb_1 : ∀ w ∈ us_c_canEnter, w ∈ us_c_spreadFrom := fun w h => List.mem_cons_of_mem _ (List.mem_append_right _ (List.mem_append_right _ (List.mem_append_left _ h)))
  have hb_2 : ∀ w ∈ us_c_step, w ∈ us_c_spreadFrom := fun w h => List.mem_cons_of_mem _ (List.mem_append_right _ (List.mem_append_right _ (List.mem_append_right _ (List.mem_append_left _ h))))
  have hb_3 : ∀ w ∈ us_c_reach, w ∈ us_c_spreadFrom := fun w h => List.mem_cons_of_mem _ (List.mem_append_right _ (List.mem_append_right _ (List.mem_append_right _ (List.mem_append_right _ (List.mem_append_left _ h)))))
  refine lv_iconst (v := 0) hx hb dX4_spreadFrom_0 (by decide) ?_
  refine lv_istore (lv' := [(4, .int 0), (0, .ref g), (1, .int (nI ce)), (2, .int mp), (3, .int bk)]) hx hb dX4_spreadFrom_1 hl (by decide) rfl (fun ls hl => ?_)
  have lp : ∀ (fu : Nat) (i : Nat) (st : sS) (H : Heap) (locs : List Loc) (ls : Array Slot), (i + fu = 4) → (okSt st) → (sfM fu st ce = sfM 4 (w, q, z, h, k) ce) → lv_has ls 6 [(4, .int (nI i)), (0, .ref g), (1, .int (nI ce)), (2, .int mp), (3, .int bk)] → va_P D vwCl [(g, .inr (11, [.int n, .ref a1, .ref a2, .ref a3, .ref a4, .ref a5, .ref a6, .ref a7, .ref a8, .ref a9, .ref a10, .ref a11, .int (nI st.2.2.2.1), .int (nI st.2.2.2.2)])), (a6, .inl (cw, 144, .inl (fL st.1))), (a10, .inl (cq, 144, .inl (fL st.2.1))), (a11, .inl (cz, 144, .inl (fL st.2.2.1))), (a3, .inl (ck, 144, .inl okF)), (a5, .inl (csk, 144, .inl okF)), (a1, .inl (cg, 144, .inl (fun _ => 0))), (a2, .inl (ch, 144, .inl (fun _ => 0))), (a4, .inl (csg, 144, .inl (fun _ => 0))), (a9, .inl (cb, 576, .inl beF))] H → va_D A [(g, .inr (11, [.int n, .ref a1, .ref a2, .ref a3, .ref a4, .ref a5, .ref a6, .ref a7, .ref a8, .ref a9, .ref a10, .ref a11, .int (nI st.2.2.2.1), .int (nI st.2.2.2.2)])), (a6, .inl (cw, 144, .inl (fL st.1))), (a10, .inl (cq, 144, .inl (fL st.2.1))), (a11, .inl (cz, 144, .inl (fL st.2.2.1))), (a3, .inl (ck, 144, .inl okF)), (a5, .inl (csk, 144, .inl okF)), (a1, .inl (cg, 144, .inl (fun _ => 0))), (a2, .inl (ch, 144, .inl (fun _ => 0))), (a4, .inl (csg, 144, .inl (fun _ => 0))), (a9, .inl (cb, 576, .inl beF))] → va_S A s.heap H locs → W p l e { frames := 2, cells := 0, slots := 0, locals := 40 } s m args below meth c H locs 0 0 (MQ below (va_Qv (fun u : sS => u = sfM 4 (w, q, z, h, k) ce) (qb D A (fun u : sS => [(g, .inr (11, [.int n, .ref a1, .ref a2, .ref a3, .ref a4, .ref a5, .ref a6, .ref a7, .ref a8, .ref a9, .ref a10, .ref a11, .int (nI u.2.2.2.1), .int (nI u.2.2.2.2)])), (a6, .inl (cw, 144, .inl (fL u.1))), (a10, .inl (cq, 144, .inl (fL u.2.1))), (a11, .inl (cz, 144, .inl (fL u.2.2.1))), (a3, .inl (ck, 144, .inl okF)), (a5, .inl (csk, 144, .inl okF)), (a1, .inl (cg, 144, .inl (fun _ => 0))), (a2, .inl (ch, 144, .inl (fun _ => 0))), (a4, .inl (csg, 144, .inl (fun _ => 0))), (a9, .inl (cb, 576, .inl beF))]) (fun u : sS => ([] : List (ClassId × FieldType)))) A) args s 0 0 A) (F0 m 3 ls []) := by
    intro fu
    induction fu with
    | zero =>
      intro i st H locs ls hi ok hM hl hP hD hS
      have hi : i + 0 = 4 := hi
      have ok : okSt st := ok
      have hM : sfM 0 st ce = sfM 4 (w, q, z, h, k) ce := hM
      refine lv_iload hx hb dX4_spreadFrom_3 (lv_at hl 0 rfl) ?_
      refine lv_iconst (v := 4) hx hb dX4_spreadFrom_5 (by decide) ?_
      refine lv_icmp_ge (tgt := 99) hx hb dX4_spreadFrom_6 (by decide) (fun h1 => ?_) (fun h1 => absurd (by exact (nI_leI (a := 4) (b := i) (by omega) (by omega)).mpr (by omega)) h1)
      exact mr_v hx hb hr st (hM) (hP.sub [0, 1, 2, 3, 4, 5, 6, 7, 8, 9] rfl) (hK.sub [] rfl) (hD.sub [0, 1, 2, 3, 4, 5, 6, 7, 8, 9] (by decide) rfl) hS (Nat.le_of_ble_eq_true rfl) (Nat.le_of_ble_eq_true rfl) hlocks dX4_spreadFrom_99
    | succ fu ih =>
      intro i st H locs ls hi ok hM hl hP hD hS
      have hi : i + (fu + 1) = 4 := hi
      have ok : okSt st := ok
      have hM : sfM (fu + 1) st ce = sfM 4 (w, q, z, h, k) ce := hM
      obtain ⟨ok1, ok2, ok3, ok4, ok5, ok6, ok7, ok8⟩ := id ok
      have hs3 : 3 - fu = i := by omega
      have hM2 : sfM fu (sideM st ce i) ce = sfM 4 (w, q, z, h, k) ce := by rw [← hs3]; exact hM
      rcases hbm : beM ce i with _ | nx
      · refine lv_iload hx hb dX4_spreadFrom_3 (lv_at hl 0 rfl) ?_
        refine lv_iconst (v := 4) hx hb dX4_spreadFrom_5 (by decide) ?_
        refine lv_icmp_ge (tgt := 99) hx hb dX4_spreadFrom_6 (by decide) (fun h2 => absurd h2 (by exact fun q9 => absurd ((nI_leI (a := 4) (b := i) (by omega) (by omega)).mp q9) (by omega))) (fun h2 => ?_)
        refine lv_aload_n hx hb dX4_spreadFrom_9 rfl (lv_at hl 1 rfl) ?_
        refine va_get (D := D) (ci := 11) (v := .ref a9) (C := RX4) (T := TX4) (N := 14) hx hb hts hb_0 hown hK hP 0 rfl rfl 9 (by decide) hw_0 (fun _ h9 => h9) rfl dX4_spreadFrom_10 ?_
        refine lv_iload_n hx hb dX4_spreadFrom_13 rfl (lv_at hl 2 rfl) ?_
        refine lv_iconst (v := 4) hx hb dX4_spreadFrom_14 (by decide) ?_
        refine lv_imul hx hb dX4_spreadFrom_15 ?_
        refine lv_topi (fun x3 e3 => ?_)
        obtain rfl : x3 = nI (ce * 4) := e3.trans (pk_mul ce 4)
        refine lv_iload hx hb dX4_spreadFrom_16 (lv_at hl 0 rfl) ?_
        refine lv_iadd hx hb dX4_spreadFrom_18 ?_
        refine lv_topi (fun x4 e4 => ?_)
        obtain rfl : x4 = nI ((ce * 4) + i) := e4.trans (nI_add (ce * 4) i)
        refine va_iald hx hb hK hP 9 8 rfl rfl (vp_in_nI (n := (ce * 4) + i) (by omega) (by decide)) dX4_spreadFrom_19 ?_
        refine lv_topi (fun x5 e5 => ?_)
        obtain rfl : x5 = (-1) := e5.trans (beF_none hc (by omega) hbm)
        refine lv_istore (lv' := [(5, .int (-1)), (4, .int (nI i)), (0, .ref g), (1, .int (nI ce)), (2, .int mp), (3, .int bk)]) hx hb dX4_spreadFrom_20 hl (by decide) rfl (fun ls hl => ?_)
        refine lv_iload hx hb dX4_spreadFrom_22 (lv_at hl 0 rfl) ?_
        refine lv_iconst (v := -1) hx hb dX4_spreadFrom_24 (by decide) ?_
        refine lv_icmp_eq (tgt := 56) hx hb dX4_spreadFrom_25 (by decide) (fun h6 => ?_) (fun h6 => absurd (by rfl) h6)
        refine lv_iload hx hb dX4_spreadFrom_56 (lv_at hl 0 rfl) ?_
        refine lv_iconst (v := -1) hx hb dX4_spreadFrom_58 (by decide) ?_
        refine lv_icmp_eq (tgt := 93) hx hb dX4_spreadFrom_59 (by decide) (fun h7 => ?_) (fun h7 => absurd (by rfl) h7)
        obtain ⟨x8, e8⟩ : ∃ z : Int32, z = nI i + 1 := ⟨_, rfl⟩
        refine lv_iinc (v := x8) (lv' := [(4, .int x8), (5, .int (-1)), (0, .ref g), (1, .int (nI ce)), (2, .int mp), (3, .int bk)]) hx hb dX4_spreadFrom_93 hl (k := 1) rfl (by rw [e8]; rfl) (by decide) rfl (fun ls hl => ?_)
        obtain rfl : x8 = nI (i + 1) := e8.trans (nI_add i 1)
        refine lv_goto (tgt := 3) hx hb dX4_spreadFrom_96 (by decide) ?_
        exact ih  (i + 1) st _ _ _ (by omega) ok (by rw [side_none hbm] at hM2; exact hM2) (lv_sub hl [0, 2, 3, 4, 5] rfl) (hP.sub [0, 1, 2, 3, 4, 5, 6, 7, 8, 9] rfl) (hD.sub [0, 1, 2, 3, 4, 5, 6, 7, 8, 9] (by decide) rfl) hS
      · have hnx : nx ≤ 24 := beM_le hc hbm
        refine lv_iload hx hb dX4_spreadFrom_3 (lv_at hl 0 rfl) ?_
        refine lv_iconst (v := 4) hx hb dX4_spreadFrom_5 (by decide) ?_
        refine lv_icmp_ge (tgt := 99) hx hb dX4_spreadFrom_6 (by decide) (fun h9 => absurd h9 (by exact fun q9 => absurd ((nI_leI (a := 4) (b := i) (by omega) (by omega)).mp q9) (by omega))) (fun h9 => ?_)
        refine lv_aload_n hx hb dX4_spreadFrom_9 rfl (lv_at hl 1 rfl) ?_
        refine va_get (D := D) (ci := 11) (v := .ref a9) (C := RX4) (T := TX4) (N := 14) hx hb hts hb_0 hown hK hP 0 rfl rfl 9 (by decide) hw_0 (fun _ h9 => h9) rfl dX4_spreadFrom_10 ?_
        refine lv_iload_n hx hb dX4_spreadFrom_13 rfl (lv_at hl 2 rfl) ?_
        refine lv_iconst (v := 4) hx hb dX4_spreadFrom_14 (by decide) ?_
        refine lv_imul hx hb dX4_spreadFrom_15 ?_
        refine lv_topi (fun x10 e10 => ?_)
        obtain rfl : x10 = nI (ce * 4) := e10.trans (pk_mul ce 4)
        refine lv_iload hx hb dX4_spreadFrom_16 (lv_at hl 0 rfl) ?_
        refine lv_iadd hx hb dX4_spreadFrom_18 ?_
        refine lv_topi (fun x11 e11 => ?_)
        obtain rfl : x11 = nI ((ce * 4) + i) := e11.trans (nI_add (ce * 4) i)
        refine va_iald hx hb hK hP 9 8 rfl rfl (vp_in_nI (n := (ce * 4) + i) (by omega) (by decide)) dX4_spreadFrom_19 ?_
        refine lv_topi (fun x12 e12 => ?_)
        obtain rfl : x12 = nI nx := e12.trans (beF_some hc (by omega) hbm)
        refine lv_istore (lv' := [(5, .int (nI nx)), (4, .int (nI i)), (0, .ref g), (1, .int (nI ce)), (2, .int mp), (3, .int bk)]) hx hb dX4_spreadFrom_20 hl (by decide) rfl (fun ls hl => ?_)
        refine lv_iload hx hb dX4_spreadFrom_22 (lv_at hl 0 rfl) ?_
        refine lv_iconst (v := -1) hx hb dX4_spreadFrom_24 (by decide) ?_
        refine lv_icmp_eq (tgt := 56) hx hb dX4_spreadFrom_25 (by decide) (fun h13 => absurd h13 (by exact nI_nm1 (by omega))) (fun h13 => ?_)
        refine lv_iload_n hx hb dX4_spreadFrom_28 rfl (lv_at hl 5 rfl) ?_
        refine lv_if_eq (tgt := 56) hx hb dX4_spreadFrom_29 (by decide) (fun h14 => ?_) (fun h14 => ?_)
        · refine lv_iload hx hb dX4_spreadFrom_56 (lv_at hl 0 rfl) ?_
          refine lv_iconst (v := -1) hx hb dX4_spreadFrom_58 (by decide) ?_
          refine lv_icmp_eq (tgt := 93) hx hb dX4_spreadFrom_59 (by decide) (fun h15 => absurd h15 (by exact nI_nm1 (by omega))) (fun h15 => ?_)
          refine lv_aload_n hx hb dX4_spreadFrom_62 rfl (lv_at hl 2 rfl) ?_
          refine lv_iload hx hb dX4_spreadFrom_63 (lv_at hl 0 rfl) ?_
          refine lv_iload_n hx hb dX4_spreadFrom_65 rfl (lv_at hl 4 rfl) ?_
          refine mc_i (wr := [(a6, .inl (cw, 144, .inl (fL st.1))), (a10, .inl (cq, 144, .inl (fL st.2.1))), (a11, .inl (cz, 144, .inl (fL st.2.2.1))), (a1, .inl (cg, 144, .inl (fun _ => 0))), (a2, .inl (ch, 144, .inl (fun _ => 0))), (a4, .inl (csg, 144, .inl (fun _ => 0))), (a9, .inl (cb, 576, .inl beF))]) (va_runV (As := [.int (nI nx), .int mp]) (rest := []) ⟨hx, hb, hml, hown, hts⟩ (c_canEnter l hst D g a1 a2 a3 a4 a5 a6 a7 a8 a9 a10 a11 n (nI st.2.2.2.1) (nI st.2.2.2.2) ck csk nx mp H.size (by omega)) (cwV 2 hts (gi_c (List.mem_cons_of_mem _ (List.mem_append_left _ (List.mem_of_getElem? (i := 1) rfl))) rfl (gi_c (List.mem_cons_of_mem _ (List.mem_append_left _ (List.mem_of_getElem? (i := 2) rfl))) rfl (gi_c (List.mem_cons_of_mem _ (List.mem_append_left _ (List.mem_of_getElem? (i := 3) rfl))) rfl (gi_c (List.mem_cons_of_mem _ (List.mem_append_left _ (List.mem_of_getElem? (i := 4) rfl))) rfl (goodIn_sub hb_1 (List.all_eq_true.mpr gw_c_canEnter)))))) rfl rfl rfl (by decide +kernel) ⟨Nat.le_of_ble_eq_true rfl, Nat.le_of_ble_eq_true rfl⟩) (pr_V (As := [.int (nI nx), .int mp]) (b := g) (C := RX4) hP hD hK hS hA hE [0, 4, 5] [3, 4] rfl rfl rfl 0 11 rfl rfl rfl) rfl rfl hl.1 rfl (lv_room (Nat.le_of_ble_eq_true rfl)) dX4_spreadFrom_66 ⟨Nat.le_of_ble_eq_true rfl, Nat.le_of_ble_eq_true rfl⟩) hP hD hK hS hA [0, 4, 5] [1, 2, 3, 6, 7, 8, 9] rfl rfl (by decide) (by decide) (fun r17 _ H locs w16 hP hD hK hS => ?_)
          have hP : va_P D vwCl [(a6, .inl (cw, 144, .inl (fL st.1))), (a10, .inl (cq, 144, .inl (fL st.2.1))), (a11, .inl (cz, 144, .inl (fL st.2.2.1))), (a1, .inl (cg, 144, .inl (fun _ => 0))), (a2, .inl (ch, 144, .inl (fun _ => 0))), (a4, .inl (csg, 144, .inl (fun _ => 0))), (a9, .inl (cb, 576, .inl beF)), (g, .inr (11, [.int n, .ref a1, .ref a2, .ref a3, .ref a4, .ref a5, .ref a6, .ref a7, .ref a8, .ref a9, .ref a10, .ref a11, .int (nI st.2.2.2.1), .int (nI st.2.2.2.2)])), (a3, .inl (ck, 144, .inl okF)), (a5, .inl (csk, 144, .inl okF))] H := hP
          have hD : va_D A [(a6, .inl (cw, 144, .inl (fL st.1))), (a10, .inl (cq, 144, .inl (fL st.2.1))), (a11, .inl (cz, 144, .inl (fL st.2.2.1))), (a1, .inl (cg, 144, .inl (fun _ => 0))), (a2, .inl (ch, 144, .inl (fun _ => 0))), (a4, .inl (csg, 144, .inl (fun _ => 0))), (a9, .inl (cb, 576, .inl beF)), (g, .inr (11, [.int n, .ref a1, .ref a2, .ref a3, .ref a4, .ref a5, .ref a6, .ref a7, .ref a8, .ref a9, .ref a10, .ref a11, .int (nI st.2.2.2.1), .int (nI st.2.2.2.2)])), (a3, .inl (ck, 144, .inl okF)), (a5, .inl (csk, 144, .inl okF))] := hD
          have hK : va_K D vwCl [(cw, .int), (cq, .int), (cz, .boolean), (ck, .char), (csk, .char), (cg, .int), (ch, .int), (csg, .int), (cb, .int)] s := hK
          obtain rfl : r17 = 1 := w16
          refine lv_if_eq (tgt := 93) hx hb dX4_spreadFrom_69 (by decide) (fun h18 => absurd h18 (by decide)) (fun h18 => ?_)
          refine lv_aload_n hx hb dX4_spreadFrom_72 rfl (lv_at hl 2 rfl) ?_
          refine lv_iload hx hb dX4_spreadFrom_73 (lv_at hl 0 rfl) ?_
          refine lv_aload_n hx hb dX4_spreadFrom_75 rfl (lv_at hl 2 rfl) ?_
          refine va_get (D := D) (ci := 11) (v := .ref a6) (C := RX4) (T := TX4) (N := 14) hx hb hts hb_0 hown hK hP 7 rfl rfl 6 (by decide) hw_5 (fun _ h9 => h9) rfl dX4_spreadFrom_76 ?_
          refine lv_iload_n hx hb dX4_spreadFrom_79 rfl (lv_at hl 3 rfl) ?_
          refine va_iald hx hb hK hP 0 0 rfl rfl (vp_in_nI (n := ce) (by omega) (by decide)) dX4_spreadFrom_80 ?_
          have b19 := ok6 ce
          refine lv_topi (fun x20 e20 => ?_)
          obtain rfl : x20 = nI (st.1.getD ce 0) := e20.trans (fL_at (by omega))
          refine lv_aload_n hx hb dX4_spreadFrom_81 rfl (lv_at hl 2 rfl) ?_
          refine lv_iload_n hx hb dX4_spreadFrom_82 rfl (lv_at hl 3 rfl) ?_
          refine lv_iload hx hb dX4_spreadFrom_83 (lv_at hl 0 rfl) ?_
          refine lv_iload_n hx hb dX4_spreadFrom_85 rfl (lv_at hl 4 rfl) ?_
          refine mc_i (wr := [(a6, .inl (cw, 144, .inl (fL st.1))), (a10, .inl (cq, 144, .inl (fL st.2.1))), (a11, .inl (cz, 144, .inl (fL st.2.2.1))), (a9, .inl (cb, 576, .inl beF)), (a3, .inl (ck, 144, .inl okF)), (a5, .inl (csk, 144, .inl okF))]) (va_runV (As := [.int (nI ce), .int (nI nx), .int mp]) (rest := [.int (nI (st.1.getD ce 0)), .int (nI nx), .ref g]) ⟨hx, hb, hml, hown, hts⟩ (c_step l hst D g a1 a2 a3 a4 a5 a6 a7 a8 a9 a10 a11 n (nI st.2.2.2.1) (nI st.2.2.2.2) cg ch csg ce nx mp H.size (by omega) (by omega)) (cwV 3 hts (gi_c (List.mem_cons_of_mem _ (List.mem_append_left _ (List.mem_of_getElem? (i := 6) rfl))) rfl (gi_c (List.mem_cons_of_mem _ (List.mem_append_left _ (List.mem_of_getElem? (i := 7) rfl))) rfl (gi_c (List.mem_cons_of_mem _ (List.mem_append_left _ (List.mem_of_getElem? (i := 8) rfl))) rfl (gi_c (List.mem_cons_of_mem _ (List.mem_append_left _ (List.mem_of_getElem? (i := 4) rfl))) rfl (goodIn_sub hb_2 (List.all_eq_true.mpr gw_c_step)))))) rfl rfl rfl (by decide +kernel) ⟨Nat.le_of_ble_eq_true rfl, Nat.le_of_ble_eq_true rfl⟩) (pr_V (As := [.int (nI ce), .int (nI nx), .int mp]) (b := g) (C := RX4) hP hD hK hS hA hE [7, 3, 4, 5] [5, 6, 7] rfl rfl rfl 7 11 rfl rfl rfl) rfl rfl hl.1 rfl (lv_room (Nat.le_of_ble_eq_true rfl)) dX4_spreadFrom_86 ⟨Nat.le_of_ble_eq_true rfl, Nat.le_of_ble_eq_true rfl⟩) hP hD hK hS hA [7, 3, 4, 5] [0, 1, 2, 6, 8, 9] rfl rfl (by decide) (by decide) (fun r22 _ H locs w21 hP hD hK hS => ?_)
          have hP : va_P D vwCl [(a6, .inl (cw, 144, .inl (fL st.1))), (a10, .inl (cq, 144, .inl (fL st.2.1))), (a11, .inl (cz, 144, .inl (fL st.2.2.1))), (a9, .inl (cb, 576, .inl beF)), (a3, .inl (ck, 144, .inl okF)), (a5, .inl (csk, 144, .inl okF)), (g, .inr (11, [.int n, .ref a1, .ref a2, .ref a3, .ref a4, .ref a5, .ref a6, .ref a7, .ref a8, .ref a9, .ref a10, .ref a11, .int (nI st.2.2.2.1), .int (nI st.2.2.2.2)])), (a1, .inl (cg, 144, .inl (fun _ => 0))), (a2, .inl (ch, 144, .inl (fun _ => 0))), (a4, .inl (csg, 144, .inl (fun _ => 0)))] H := hP
          have hD : va_D A [(a6, .inl (cw, 144, .inl (fL st.1))), (a10, .inl (cq, 144, .inl (fL st.2.1))), (a11, .inl (cz, 144, .inl (fL st.2.2.1))), (a9, .inl (cb, 576, .inl beF)), (a3, .inl (ck, 144, .inl okF)), (a5, .inl (csk, 144, .inl okF)), (g, .inr (11, [.int n, .ref a1, .ref a2, .ref a3, .ref a4, .ref a5, .ref a6, .ref a7, .ref a8, .ref a9, .ref a10, .ref a11, .int (nI st.2.2.2.1), .int (nI st.2.2.2.2)])), (a1, .inl (cg, 144, .inl (fun _ => 0))), (a2, .inl (ch, 144, .inl (fun _ => 0))), (a4, .inl (csg, 144, .inl (fun _ => 0)))] := hD
          have hK : va_K D vwCl [(cw, .int), (cq, .int), (cz, .boolean), (ck, .char), (csk, .char), (cg, .int), (ch, .int), (csg, .int), (cb, .int)] s := hK
          obtain rfl : r22 = 10 := w21
          refine lv_iadd hx hb dX4_spreadFrom_89 ?_
          refine lv_topi (fun x23 e23 => ?_)
          obtain rfl : x23 = nI ((st.1.getD ce 0) + 10) := e23.trans (nI_add (st.1.getD ce 0) 10)
          refine mc_v (wr := [(a9, .inl (cb, 576, .inl beF)), (a3, .inl (ck, 144, .inl okF)), (a5, .inl (csk, 144, .inl okF)), (a1, .inl (cg, 144, .inl (fun _ => 0))), (a2, .inl (ch, 144, .inl (fun _ => 0))), (a4, .inl (csg, 144, .inl (fun _ => 0)))]) (va_runV (As := [.int (nI nx), .int (nI ((st.1.getD ce 0) + 10))]) (rest := []) ⟨hx, hb, hml, hown, hts⟩ (c_reach l hst D g a1 a2 a3 a4 a5 a6 a7 a8 a9 a10 a11 n cw cq cz st.1 st.2.1 st.2.2.1 st.2.2.2.1 st.2.2.2.2 nx ((st.1.getD ce 0) + 10) H.size (ok) (by omega) (by omega)) (cwV 2 hts (gi_c (List.mem_cons_of_mem _ (List.mem_append_left _ (List.mem_of_getElem? (i := 9) rfl))) rfl (gi_c (List.mem_cons_of_mem _ (List.mem_append_left _ (List.mem_of_getElem? (i := 10) rfl))) rfl (gi_c (List.mem_cons_of_mem _ (List.mem_append_left _ (List.mem_of_getElem? (i := 11) rfl))) rfl (gi_c (List.mem_cons_of_mem _ (List.mem_append_left _ (List.mem_of_getElem? (i := 4) rfl))) rfl (goodIn_sub hb_3 (List.all_eq_true.mpr gw_c_reach)))))) rfl rfl rfl (by decide +kernel) ⟨Nat.le_of_ble_eq_true rfl, Nat.le_of_ble_eq_true rfl⟩) (pr_V (As := [.int (nI nx), .int (nI ((st.1.getD ce 0) + 10))]) (b := g) (C := RX4) hP hD hK hS hA hE [6, 0, 1, 2] [0, 1, 2] rfl rfl rfl 6 11 rfl rfl rfl) rfl rfl hl.1 rfl (lv_room (Nat.le_of_ble_eq_true rfl)) dX4_spreadFrom_90 ⟨Nat.le_of_ble_eq_true rfl, Nat.le_of_ble_eq_true rfl⟩) hP hD hK hS hA [6, 0, 1, 2] [3, 4, 5, 7, 8, 9] rfl rfl (by decide) (by decide) (fun u24 H locs w25 hP hD hK hS => ?_)
          have hP : va_P D vwCl [(a9, .inl (cb, 576, .inl beF)), (a3, .inl (ck, 144, .inl okF)), (a5, .inl (csk, 144, .inl okF)), (a1, .inl (cg, 144, .inl (fun _ => 0))), (a2, .inl (ch, 144, .inl (fun _ => 0))), (a4, .inl (csg, 144, .inl (fun _ => 0))), (g, .inr (11, [.int n, .ref a1, .ref a2, .ref a3, .ref a4, .ref a5, .ref a6, .ref a7, .ref a8, .ref a9, .ref a10, .ref a11, .int (nI u24.2.2.2.1), .int (nI u24.2.2.2.2)])), (a6, .inl (cw, 144, .inl (fL u24.1))), (a10, .inl (cq, 144, .inl (fL u24.2.1))), (a11, .inl (cz, 144, .inl (fL u24.2.2.1)))] H := hP
          have hD : va_D A [(a9, .inl (cb, 576, .inl beF)), (a3, .inl (ck, 144, .inl okF)), (a5, .inl (csk, 144, .inl okF)), (a1, .inl (cg, 144, .inl (fun _ => 0))), (a2, .inl (ch, 144, .inl (fun _ => 0))), (a4, .inl (csg, 144, .inl (fun _ => 0))), (g, .inr (11, [.int n, .ref a1, .ref a2, .ref a3, .ref a4, .ref a5, .ref a6, .ref a7, .ref a8, .ref a9, .ref a10, .ref a11, .int (nI u24.2.2.2.1), .int (nI u24.2.2.2.2)])), (a6, .inl (cw, 144, .inl (fL u24.1))), (a10, .inl (cq, 144, .inl (fL u24.2.1))), (a11, .inl (cz, 144, .inl (fL u24.2.2.1)))] := hD
          have hK : va_K D vwCl [(cw, .int), (cq, .int), (cz, .boolean), (ck, .char), (csk, .char), (cg, .int), (ch, .int), (csg, .int), (cb, .int)] s := hK
          obtain ⟨x27, e27⟩ : ∃ z : Int32, z = nI i + 1 := ⟨_, rfl⟩
          refine lv_iinc (v := x27) (lv' := [(4, .int x27), (5, .int (nI nx)), (0, .ref g), (1, .int (nI ce)), (2, .int mp), (3, .int bk)]) hx hb dX4_spreadFrom_93 hl (k := 1) rfl (by rw [e27]; rfl) (by decide) rfl (fun ls hl => ?_)
          obtain rfl : x27 = nI (i + 1) := e27.trans (nI_add i 1)
          refine lv_goto (tgt := 3) hx hb dX4_spreadFrom_96 (by decide) ?_
          exact ih  (i + 1) u24 _ _ _ (by omega) (by rw [w25]; exact okS_re ok hnx) (by rw [w25, ← side_some hbm]; exact hM2) (lv_sub hl [0, 2, 3, 4, 5] rfl) (hP.sub [6, 7, 8, 9, 1, 2, 3, 4, 5, 0] rfl) (hD.sub [6, 7, 8, 9, 1, 2, 3, 4, 5, 0] (by decide) rfl) hS
        · refine lv_aload_n hx hb dX4_spreadFrom_32 rfl (lv_at hl 2 rfl) ?_
          refine lv_iload hx hb dX4_spreadFrom_33 (lv_at hl 0 rfl) ?_
          refine lv_aload_n hx hb dX4_spreadFrom_35 rfl (lv_at hl 2 rfl) ?_
          refine va_get (D := D) (ci := 11) (v := .ref a6) (C := RX4) (T := TX4) (N := 14) hx hb hts hb_0 hown hK hP 0 rfl rfl 6 (by decide) hw_5 (fun _ h9 => h9) rfl dX4_spreadFrom_36 ?_
          refine lv_iload_n hx hb dX4_spreadFrom_39 rfl (lv_at hl 3 rfl) ?_
          refine va_iald hx hb hK hP 1 0 rfl rfl (vp_in_nI (n := ce) (by omega) (by decide)) dX4_spreadFrom_40 ?_
          have b28 := ok6 ce
          refine lv_topi (fun x29 e29 => ?_)
          obtain rfl : x29 = nI (st.1.getD ce 0) := e29.trans (fL_at (by omega))
          refine lv_aload_n hx hb dX4_spreadFrom_41 rfl (lv_at hl 2 rfl) ?_
          refine lv_iload hx hb dX4_spreadFrom_42 (lv_at hl 0 rfl) ?_
          refine lv_iload_n hx hb dX4_spreadFrom_44 rfl (lv_at hl 3 rfl) ?_
          refine lv_iload_n hx hb dX4_spreadFrom_45 rfl (lv_at hl 4 rfl) ?_
          refine mc_i (wr := [(a6, .inl (cw, 144, .inl (fL st.1))), (a10, .inl (cq, 144, .inl (fL st.2.1))), (a11, .inl (cz, 144, .inl (fL st.2.2.1))), (a3, .inl (ck, 144, .inl okF)), (a5, .inl (csk, 144, .inl okF)), (a9, .inl (cb, 576, .inl beF))]) (va_runV (As := [.int (nI nx), .int (nI ce), .int mp]) (rest := [.int (nI (st.1.getD ce 0)), .int (nI nx), .ref g]) ⟨hx, hb, hml, hown, hts⟩ (c_step l hst D g a1 a2 a3 a4 a5 a6 a7 a8 a9 a10 a11 n (nI st.2.2.2.1) (nI st.2.2.2.2) cg ch csg nx ce mp H.size (by omega) (by omega)) (cwV 3 hts (gi_c (List.mem_cons_of_mem _ (List.mem_append_left _ (List.mem_of_getElem? (i := 6) rfl))) rfl (gi_c (List.mem_cons_of_mem _ (List.mem_append_left _ (List.mem_of_getElem? (i := 7) rfl))) rfl (gi_c (List.mem_cons_of_mem _ (List.mem_append_left _ (List.mem_of_getElem? (i := 8) rfl))) rfl (gi_c (List.mem_cons_of_mem _ (List.mem_append_left _ (List.mem_of_getElem? (i := 4) rfl))) rfl (goodIn_sub hb_2 (List.all_eq_true.mpr gw_c_step)))))) rfl rfl rfl (by decide +kernel) ⟨Nat.le_of_ble_eq_true rfl, Nat.le_of_ble_eq_true rfl⟩) (pr_V (As := [.int (nI nx), .int (nI ce), .int mp]) (b := g) (C := RX4) hP hD hK hS hA hE [0, 6, 7, 8] [5, 6, 7] rfl rfl rfl 0 11 rfl rfl rfl) rfl rfl hl.1 rfl (lv_room (Nat.le_of_ble_eq_true rfl)) dX4_spreadFrom_46 ⟨Nat.le_of_ble_eq_true rfl, Nat.le_of_ble_eq_true rfl⟩) hP hD hK hS hA [0, 6, 7, 8] [1, 2, 3, 4, 5, 9] rfl rfl (by decide) (by decide) (fun r31 _ H locs w30 hP hD hK hS => ?_)
          have hP : va_P D vwCl [(a6, .inl (cw, 144, .inl (fL st.1))), (a10, .inl (cq, 144, .inl (fL st.2.1))), (a11, .inl (cz, 144, .inl (fL st.2.2.1))), (a3, .inl (ck, 144, .inl okF)), (a5, .inl (csk, 144, .inl okF)), (a9, .inl (cb, 576, .inl beF)), (g, .inr (11, [.int n, .ref a1, .ref a2, .ref a3, .ref a4, .ref a5, .ref a6, .ref a7, .ref a8, .ref a9, .ref a10, .ref a11, .int (nI st.2.2.2.1), .int (nI st.2.2.2.2)])), (a1, .inl (cg, 144, .inl (fun _ => 0))), (a2, .inl (ch, 144, .inl (fun _ => 0))), (a4, .inl (csg, 144, .inl (fun _ => 0)))] H := hP
          have hD : va_D A [(a6, .inl (cw, 144, .inl (fL st.1))), (a10, .inl (cq, 144, .inl (fL st.2.1))), (a11, .inl (cz, 144, .inl (fL st.2.2.1))), (a3, .inl (ck, 144, .inl okF)), (a5, .inl (csk, 144, .inl okF)), (a9, .inl (cb, 576, .inl beF)), (g, .inr (11, [.int n, .ref a1, .ref a2, .ref a3, .ref a4, .ref a5, .ref a6, .ref a7, .ref a8, .ref a9, .ref a10, .ref a11, .int (nI st.2.2.2.1), .int (nI st.2.2.2.2)])), (a1, .inl (cg, 144, .inl (fun _ => 0))), (a2, .inl (ch, 144, .inl (fun _ => 0))), (a4, .inl (csg, 144, .inl (fun _ => 0)))] := hD
          have hK : va_K D vwCl [(cw, .int), (cq, .int), (cz, .boolean), (ck, .char), (csk, .char), (cg, .int), (ch, .int), (csg, .int), (cb, .int)] s := hK
          obtain rfl : r31 = 10 := w30
          refine lv_iadd hx hb dX4_spreadFrom_49 ?_
          refine lv_topi (fun x32 e32 => ?_)
          obtain rfl : x32 = nI ((st.1.getD ce 0) + 10) := e32.trans (nI_add (st.1.getD ce 0) 10)
          refine mc_v (wr := [(a3, .inl (ck, 144, .inl okF)), (a5, .inl (csk, 144, .inl okF)), (a9, .inl (cb, 576, .inl beF)), (a1, .inl (cg, 144, .inl (fun _ => 0))), (a2, .inl (ch, 144, .inl (fun _ => 0))), (a4, .inl (csg, 144, .inl (fun _ => 0)))]) (va_runV (As := [.int (nI nx), .int (nI ((st.1.getD ce 0) + 10))]) (rest := []) ⟨hx, hb, hml, hown, hts⟩ (c_reach l hst D g a1 a2 a3 a4 a5 a6 a7 a8 a9 a10 a11 n cw cq cz st.1 st.2.1 st.2.2.1 st.2.2.2.1 st.2.2.2.2 nx ((st.1.getD ce 0) + 10) H.size (ok) (by omega) (by omega)) (cwV 2 hts (gi_c (List.mem_cons_of_mem _ (List.mem_append_left _ (List.mem_of_getElem? (i := 9) rfl))) rfl (gi_c (List.mem_cons_of_mem _ (List.mem_append_left _ (List.mem_of_getElem? (i := 10) rfl))) rfl (gi_c (List.mem_cons_of_mem _ (List.mem_append_left _ (List.mem_of_getElem? (i := 11) rfl))) rfl (gi_c (List.mem_cons_of_mem _ (List.mem_append_left _ (List.mem_of_getElem? (i := 4) rfl))) rfl (goodIn_sub hb_3 (List.all_eq_true.mpr gw_c_reach)))))) rfl rfl rfl (by decide +kernel) ⟨Nat.le_of_ble_eq_true rfl, Nat.le_of_ble_eq_true rfl⟩) (pr_V (As := [.int (nI nx), .int (nI ((st.1.getD ce 0) + 10))]) (b := g) (C := RX4) hP hD hK hS hA hE [6, 0, 1, 2] [0, 1, 2] rfl rfl rfl 6 11 rfl rfl rfl) rfl rfl hl.1 rfl (lv_room (Nat.le_of_ble_eq_true rfl)) dX4_spreadFrom_50 ⟨Nat.le_of_ble_eq_true rfl, Nat.le_of_ble_eq_true rfl⟩) hP hD hK hS hA [6, 0, 1, 2] [3, 4, 5, 7, 8, 9] rfl rfl (by decide) (by decide) (fun u33 H locs w34 hP hD hK hS => ?_)
          have hP : va_P D vwCl [(a3, .inl (ck, 144, .inl okF)), (a5, .inl (csk, 144, .inl okF)), (a9, .inl (cb, 576, .inl beF)), (a1, .inl (cg, 144, .inl (fun _ => 0))), (a2, .inl (ch, 144, .inl (fun _ => 0))), (a4, .inl (csg, 144, .inl (fun _ => 0))), (g, .inr (11, [.int n, .ref a1, .ref a2, .ref a3, .ref a4, .ref a5, .ref a6, .ref a7, .ref a8, .ref a9, .ref a10, .ref a11, .int (nI u33.2.2.2.1), .int (nI u33.2.2.2.2)])), (a6, .inl (cw, 144, .inl (fL u33.1))), (a10, .inl (cq, 144, .inl (fL u33.2.1))), (a11, .inl (cz, 144, .inl (fL u33.2.2.1)))] H := hP
          have hD : va_D A [(a3, .inl (ck, 144, .inl okF)), (a5, .inl (csk, 144, .inl okF)), (a9, .inl (cb, 576, .inl beF)), (a1, .inl (cg, 144, .inl (fun _ => 0))), (a2, .inl (ch, 144, .inl (fun _ => 0))), (a4, .inl (csg, 144, .inl (fun _ => 0))), (g, .inr (11, [.int n, .ref a1, .ref a2, .ref a3, .ref a4, .ref a5, .ref a6, .ref a7, .ref a8, .ref a9, .ref a10, .ref a11, .int (nI u33.2.2.2.1), .int (nI u33.2.2.2.2)])), (a6, .inl (cw, 144, .inl (fL u33.1))), (a10, .inl (cq, 144, .inl (fL u33.2.1))), (a11, .inl (cz, 144, .inl (fL u33.2.2.1)))] := hD
          have hK : va_K D vwCl [(cw, .int), (cq, .int), (cz, .boolean), (ck, .char), (csk, .char), (cg, .int), (ch, .int), (csg, .int), (cb, .int)] s := hK
          refine lv_goto (tgt := 93) hx hb dX4_spreadFrom_53 (by decide) ?_
          obtain ⟨x36, e36⟩ : ∃ z : Int32, z = nI i + 1 := ⟨_, rfl⟩
          refine lv_iinc (v := x36) (lv' := [(4, .int x36), (5, .int (nI nx)), (0, .ref g), (1, .int (nI ce)), (2, .int mp), (3, .int bk)]) hx hb dX4_spreadFrom_93 hl (k := 1) rfl (by rw [e36]; rfl) (by decide) rfl (fun ls hl => ?_)
          obtain rfl : x36 = nI (i + 1) := e36.trans (nI_add i 1)
          refine lv_goto (tgt := 3) hx hb dX4_spreadFrom_96 (by decide) ?_
          exact ih  (i + 1) u33 _ _ _ (by omega) (by rw [w34]; exact okS_re ok hnx) (by rw [w34, ← side_some hbm]; exact hM2) (lv_sub hl [0, 2, 3, 4, 5] rfl) (hP.sub [6, 7, 8, 9, 0, 1, 3, 4, 5, 2] rfl) (hD.sub [6, 7, 8, 9, 0, 1, 3, 4, 5, 2] (by decide) rfl) hS
  exact lp 4 0 (w, q, z, h, k) _ _ _ rfl ok rfl (lv_sub hl [0, 1, 2, 3, 4] rfl) (hP.sub [0, 1, 2, 3, 4, 5, 6, 7, 8, 9] rfl) (hD.sub [0, 1, 2, 3, 4, 5, 6, 7, 8, 9] (by decide) rfl) hS

def us_c_spread : List Cond := .code yX4_spread cX4_spread 7 none :: (([.fieldLink RX4 28 "ControlWood$Terrain" "ways" "[I", .constant RX4 67 (1000000), .methodLink RX4 51 yJ7_fill_53178, .static yJ7_fill_53178, .initialized RJ7, .fieldLink RX4 87 "ControlWood$Terrain" "head" "I", .fieldLink RX4 90 "ControlWood$Terrain" "waiting" "I", .methodLink RX4 93 yX4_reach, .instanceMethod yX4_reach, .selects RX4 yX4_reach yX4_reach, .initialized RX4, .methodLink RX4 97 yX4_takeFirst, .instanceMethod yX4_takeFirst, .selects RX4 yX4_takeFirst yX4_takeFirst, .methodLink RX4 100 yX4_spreadFrom, .instanceMethod yX4_spreadFrom, .selects RX4 yX4_spreadFrom yX4_spreadFrom, .methodLink RX4 79 yX4_canEnter, .instanceMethod yX4_canEnter, .selects RX4 yX4_canEnter yX4_canEnter] : List Cond) ++ (wsX40 ++ (us_c_fillI ++ (us_c_reach ++ (us_c_takeFirst ++ (us_c_spreadFrom ++ (us_c_canEnter ++ ([]))))))))
theorem gw_c_spread : ∀ w ∈ us_c_spread, goodWord w = true := gw_cons rfl (gw_app (by decide +kernel) (gw_app gwf_X4 (gw_app gw_c_fillI (gw_app gw_c_reach (gw_app gw_c_takeFirst (gw_app gw_c_spreadFrom (gw_app gw_c_canEnter (fun _ h => nomatch h))))))))
set_option maxHeartbeats 4000000 in
set_option maxRecDepth 100000 in
/-- spread -/
theorem c_spread (l : Launch) (hst : l.stackTraces = false) (D : va_G) (g : Nat) (a1 : Nat) (a2 : Nat) (a3 : Nat) (a4 : Nat) (a5 : Nat) (a6 : Nat) (a7 : Nat) (a8 : Nat) (a9 : Nat) (a10 : Nat) (a11 : Nat) (n : Int32) (hd : Int32) (wt : Int32) (cw : ClassId) (cq : ClassId) (cz : ClassId) (ck : ClassId) (csk : ClassId) (cg : ClassId) (ch : ClassId) (csg : ClassId) (cb : ClassId) (w0 : List Nat) (q : List Nat) (z : List Nat) (o : Nat) (mp : Int32) (bk : Int32) (far : Nat) (sz : Nat) (hw0 : w0.length = 144) (hq : okQ q z) (ho : o ≤ 24) (hfar : far < 2 ^ 31) : Met l yX4_spread us_c_spread { frames := 3, cells := 0, slots := 0, locals := 65 } (pw D [.ref g, .int (nI o), .int mp, .int bk, .int (nI far)] [(cw, .int), (cq, .int), (cz, .boolean), (ck, .char), (csk, .char), (cg, .int), (ch, .int), (csg, .int), (cb, .int)] [(g, .inr (11, [.int n, .ref a1, .ref a2, .ref a3, .ref a4, .ref a5, .ref a6, .ref a7, .ref a8, .ref a9, .ref a10, .ref a11, .int hd, .int wt])), (a6, .inl (cw, 144, .inl (fL w0))), (a10, .inl (cq, 144, .inl (fL q))), (a11, .inl (cz, 144, .inl (fL z))), (a3, .inl (ck, 144, .inl okF)), (a5, .inl (csk, 144, .inl okF)), (a1, .inl (cg, 144, .inl (fun _ => 0))), (a2, .inl (ch, 144, .inl (fun _ => 0))), (a4, .inl (csg, 144, .inl (fun _ => 0))), (a9, .inl (cb, 576, .inl beF))] sz) (va_Qv (fun u : sS => u = goM far o q z ∧ okSt u) (qb D (va_A [(g, .inr (11, [.int n, .ref a1, .ref a2, .ref a3, .ref a4, .ref a5, .ref a6, .ref a7, .ref a8, .ref a9, .ref a10, .ref a11, .int hd, .int wt])), (a6, .inl (cw, 144, .inl (fL w0))), (a10, .inl (cq, 144, .inl (fL q))), (a11, .inl (cz, 144, .inl (fL z))), (a3, .inl (ck, 144, .inl okF)), (a5, .inl (csk, 144, .inl okF)), (a1, .inl (cg, 144, .inl (fun _ => 0))), (a2, .inl (ch, 144, .inl (fun _ => 0))), (a4, .inl (csg, 144, .inl (fun _ => 0))), (a9, .inl (cb, 576, .inl beF))] sz) (fun u : sS => [(g, .inr (11, [.int n, .ref a1, .ref a2, .ref a3, .ref a4, .ref a5, .ref a6, .ref a7, .ref a8, .ref a9, .ref a10, .ref a11, .int (nI u.2.2.2.1), .int (nI u.2.2.2.2)])), (a6, .inl (cw, 144, .inl (fL u.1))), (a10, .inl (cq, 144, .inl (fL u.2.1))), (a11, .inl (cz, 144, .inl (fL u.2.2.1))), (a3, .inl (ck, 144, .inl okF)), (a5, .inl (csk, 144, .inl okF)), (a1, .inl (cg, 144, .inl (fun _ => 0))), (a2, .inl (ch, 144, .inl (fun _ => 0))), (a4, .inl (csg, 144, .inl (fun _ => 0))), (a9, .inl (cb, 576, .inl beF))]) (fun u : sS => ([] : List (ClassId × FieldType)))) (va_A [(g, .inr (11, [.int n, .ref a1, .ref a2, .ref a3, .ref a4, .ref a5, .ref a6, .ref a7, .ref a8, .ref a9, .ref a10, .ref a11, .int hd, .int wt])), (a6, .inl (cw, 144, .inl (fL w0))), (a10, .inl (cq, 144, .inl (fL q))), (a11, .inl (cz, 144, .inl (fL z))), (a3, .inl (ck, 144, .inl okF)), (a5, .inl (csk, 144, .inl okF)), (a1, .inl (cg, 144, .inl (fun _ => 0))), (a2, .inl (ch, 144, .inl (fun _ => 0))), (a4, .inl (csg, 144, .inl (fun _ => 0))), (a9, .inl (cb, 576, .inl beF))] sz)) 0 0 (va_A [(g, .inr (11, [.int n, .ref a1, .ref a2, .ref a3, .ref a4, .ref a5, .ref a6, .ref a7, .ref a8, .ref a9, .ref a10, .ref a11, .int hd, .int wt])), (a6, .inl (cw, 144, .inl (fL w0))), (a10, .inl (cq, 144, .inl (fL q))), (a11, .inl (cz, 144, .inl (fL z))), (a3, .inl (ck, 144, .inl okF)), (a5, .inl (csk, 144, .inl okF)), (a1, .inl (cg, 144, .inl (fun _ => 0))), (a2, .inl (ch, 144, .inl (fun _ => 0))), (a4, .inl (csg, 144, .inl (fun _ => 0))), (a9, .inl (cb, 576, .inl beF))] sz) := by
  refine op_M (Qc := fun A => (va_Qv (fun u : sS => u = goM far o q z ∧ okSt u) (qb D A (fun u : sS => [(g, .inr (11, [.int n, .ref a1, .ref a2, .ref a3, .ref a4, .ref a5, .ref a6, .ref a7, .ref a8, .ref a9, .ref a10, .ref a11, .int (nI u.2.2.2.1), .int (nI u.2.2.2.2)])), (a6, .inl (cw, 144, .inl (fL u.1))), (a10, .inl (cq, 144, .inl (fL u.2.1))), (a11, .inl (cz, 144, .inl (fL u.2.2.1))), (a3, .inl (ck, 144, .inl okF)), (a5, .inl (csk, 144, .inl okF)), (a1, .inl (cg, 144, .inl (fun _ => 0))), (a2, .inl (ch, 144, .inl (fun _ => 0))), (a4, .inl (csg, 144, .inl (fun _ => 0))), (a9, .inl (cb, 576, .inl beF))]) (fun u : sS => ([] : List (ClassId × FieldType)))) A)) (by decide +kernel) rfl (Nat.le_of_ble_eq_true rfl) ?_
  intro p e s m args below meth c A ls hx hb hr hml hts hown hlocks hmn htab hA hD hS hP hK hE hsz hl
  have hown : s.vm.findClass RX4 = some m.cls := hown
  have hl : lv_has ls 7 [(0, .ref g), (1, .int (nI o)), (2, .int mp), (3, .int bk), (4, .int (nI far))] := hl
  have hw_0 := hts (.fieldLink RX4 28 "ControlWood$Terrain" "ways" "[I") (List.mem_cons_of_mem _ (List.mem_append_left _ (List.mem_of_getElem? (i := 0) rfl)))
  have hw_1 := hts (.constant RX4 67 (1000000)) (List.mem_cons_of_mem _ (List.mem_append_left _ (List.mem_of_getElem? (i := 1) rfl)))
  have hw_2 := hts (.methodLink RX4 51 yJ7_fill_53178) (List.mem_cons_of_mem _ (List.mem_append_left _ (List.mem_of_getElem? (i := 2) rfl)))
  have hw_3 := hts (.static yJ7_fill_53178) (List.mem_cons_of_mem _ (List.mem_append_left _ (List.mem_of_getElem? (i := 3) rfl)))
  have hw_4 := hts (.initialized RJ7) (List.mem_cons_of_mem _ (List.mem_append_left _ (List.mem_of_getElem? (i := 4) rfl)))
  have hw_5 := hts (.fieldLink RX4 87 "ControlWood$Terrain" "head" "I") (List.mem_cons_of_mem _ (List.mem_append_left _ (List.mem_of_getElem? (i := 5) rfl)))
  have hw_6 := hts (.fieldLink RX4 90 "ControlWood$Terrain" "waiting" "I") (List.mem_cons_of_mem _ (List.mem_append_left _ (List.mem_of_getElem? (i := 6) rfl)))
  have hw_7 := hts (.methodLink RX4 93 yX4_reach) (List.mem_cons_of_mem _ (List.mem_append_left _ (List.mem_of_getElem? (i := 7) rfl)))
  have hw_8 := hts (.instanceMethod yX4_reach) (List.mem_cons_of_mem _ (List.mem_append_left _ (List.mem_of_getElem? (i := 8) rfl)))
  have hw_9 := hts (.selects RX4 yX4_reach yX4_reach) (List.mem_cons_of_mem _ (List.mem_append_left _ (List.mem_of_getElem? (i := 9) rfl)))
  have hw_10 := hts (.initialized RX4) (List.mem_cons_of_mem _ (List.mem_append_left _ (List.mem_of_getElem? (i := 10) rfl)))
  have hw_11 := hts (.methodLink RX4 97 yX4_takeFirst) (List.mem_cons_of_mem _ (List.mem_append_left _ (List.mem_of_getElem? (i := 11) rfl)))
  have hw_12 := hts (.instanceMethod yX4_takeFirst) (List.mem_cons_of_mem _ (List.mem_append_left _ (List.mem_of_getElem? (i := 12) rfl)))
  have hw_13 := hts (.selects RX4 yX4_takeFirst yX4_takeFirst) (List.mem_cons_of_mem _ (List.mem_append_left _ (List.mem_of_getElem? (i := 13) rfl)))
  have hw_14 := hts (.methodLink RX4 100 yX4_spreadFrom) (List.mem_cons_of_mem _ (List.mem_append_left _ (List.mem_of_getElem? (i := 14) rfl)))
  have hw_15 := hts (.instanceMethod yX4_spreadFrom) (List.mem_cons_of_mem _ (List.mem_append_left _ (List.mem_of_getElem? (i := 15) rfl)))
  have hw_16 := hts (.selects RX4 yX4_spreadFrom yX4_spreadFrom) (List.mem_cons_of_mem _ (List.mem_append_left _ (List.mem_of_getElem? (i := 16) rfl)))
  have hw_17 := hts (.methodLink RX4 79 yX4_canEnter) (List.mem_cons_of_mem _ (List.mem_append_left _ (List.mem_of_getElem? (i := 17) rfl)))
  have hw_18 := hts (.instanceMethod yX4_canEnter) (List.mem_cons_of_mem _ (List.mem_append_left _ (List.mem_of_getElem? (i := 18) rfl)))
  have hw_19 := hts (.selects RX4 yX4_canEnter yX4_canEnter) (List.mem_cons_of_mem _ (List.mem_append_left _ (List.mem_of_getElem? (i := 19) rfl)))
  have hb_0 : ∀ w ∈ wsX40, w ∈ us_c_spread := fun w h => List.mem_cons_of_mem _ (List.mem_append_right _ (List.mem_append_left _ h))
  have hb_1 : ∀ w ∈ us_c_fillI, w ∈ us_c_spread := fun w h => List.mem_cons_of_mem _ (List.mem_append_right _ (List.mem_append_right _ (List.mem_append_left _ h)))
  have hb_2 : ∀ w ∈ us_c_reach, w ∈ us_c_spread := fun w h => List.mem_cons_of_mem _ (List.mem_append_right _ (List.mem_append_right _ (List.mem_append_right _ (List.mem_append_left _ h))))
  have hb_3 : ∀ w ∈ us_c_takeFirst, w ∈ us_c_spread := fun w h => List.mem_cons_of_mem _ (List.mem_append_right _ (List.mem_append_right _ (List.mem_append_right _ (List.mem_append_right _ (List.mem_append_left _ h)))))
  have hb_4 : ∀ w ∈ us_c_spreadFrom, w ∈ us_c_spread := fun w h => List.mem_cons_of_mem _ (List.mem_append_right _ (List.mem_append_right _ (List.mem_append_right _ (List.mem_append_right _ (List.mem_append_right _ (List.mem_append_left _ h))))))
  have hb_5 : ∀ w ∈ us_c_canEnter, w ∈ us_c_spread := fun w h => List.mem_cons_of_mem _ (List.mem_append_right _ (List.mem_append_right _ (List.mem_append_right _ (List.mem_append_right _ (List.mem_append_right _ (List.mem_append_right _ (List.mem_append_left _ h)))))))
  refine lv_aload_n hx hb dX4_spread_0 rfl (lv_at hl 0 rfl) ?_
  refine va_get (D := D) (ci := 11) (v := .ref a6) (C := RX4) (T := TX4) (N := 14) hx hb hts hb_0 hown hK hP 0 rfl rfl 6 (by decide) hw_0 (fun _ h9 => h9) rfl dX4_spread_1 ?_
  refine lv_ldc hx hb hown hw_1 dX4_spread_4 ?_
  refine mc_v (wr := [(g, .inr (11, [.int n, .ref a1, .ref a2, .ref a3, .ref a4, .ref a5, .ref a6, .ref a7, .ref a8, .ref a9, .ref a10, .ref a11, .int hd, .int wt])), (a10, .inl (cq, 144, .inl (fL q))), (a11, .inl (cz, 144, .inl (fL z))), (a3, .inl (ck, 144, .inl okF)), (a5, .inl (csk, 144, .inl okF)), (a1, .inl (cg, 144, .inl (fun _ => 0))), (a2, .inl (ch, 144, .inl (fun _ => 0))), (a4, .inl (csg, 144, .inl (fun _ => 0))), (a9, .inl (cb, 576, .inl beF))]) (va_runS (As := [.ref a6, .int 1000000]) (rest := []) ⟨hx, hb, hml, hown, hts⟩ (c_fillI l hst D a6 cw 144 (fL w0) 1000000 s.heap.size (by decide)) (va_cwS 2 hts (gi_c (List.mem_cons_of_mem _ (List.mem_append_left _ (List.mem_of_getElem? (i := 2) rfl))) rfl (gi_c (List.mem_cons_of_mem _ (List.mem_append_left _ (List.mem_of_getElem? (i := 3) rfl))) rfl (gi_c (List.mem_cons_of_mem _ (List.mem_append_left _ (List.mem_of_getElem? (i := 4) rfl))) rfl (goodIn_sub hb_1 (List.all_eq_true.mpr gw_c_fillI))))) rfl rfl rfl (by decide +kernel) ⟨Nat.le_of_ble_eq_true rfl, Nat.le_of_ble_eq_true rfl⟩) (pr_S (As := [.ref a6, .int 1000000]) hP hD hK hS hA hE [1] [0] rfl rfl rfl) rfl rfl hl.1 rfl (lv_room (Nat.le_of_ble_eq_true rfl)) dX4_spread_6 ⟨Nat.le_of_ble_eq_true rfl, Nat.le_of_ble_eq_true rfl⟩) hP hD hK hS hA [1] [0, 2, 3, 4, 5, 6, 7, 8, 9] rfl rfl (by decide) (by decide) (fun _ H locs w1 hP hD hK hS => ?_)
  have hP : va_P D vwCl [(g, .inr (11, [.int n, .ref a1, .ref a2, .ref a3, .ref a4, .ref a5, .ref a6, .ref a7, .ref a8, .ref a9, .ref a10, .ref a11, .int hd, .int wt])), (a10, .inl (cq, 144, .inl (fL q))), (a11, .inl (cz, 144, .inl (fL z))), (a3, .inl (ck, 144, .inl okF)), (a5, .inl (csk, 144, .inl okF)), (a1, .inl (cg, 144, .inl (fun _ => 0))), (a2, .inl (ch, 144, .inl (fun _ => 0))), (a4, .inl (csg, 144, .inl (fun _ => 0))), (a9, .inl (cb, 576, .inl beF)), (a6, .inl (cw, 144, .inl (fa_fill (fun _ => 1000000) (fL w0) 144)))] H := hP
  have hD : va_D A [(g, .inr (11, [.int n, .ref a1, .ref a2, .ref a3, .ref a4, .ref a5, .ref a6, .ref a7, .ref a8, .ref a9, .ref a10, .ref a11, .int hd, .int wt])), (a10, .inl (cq, 144, .inl (fL q))), (a11, .inl (cz, 144, .inl (fL z))), (a3, .inl (ck, 144, .inl okF)), (a5, .inl (csk, 144, .inl okF)), (a1, .inl (cg, 144, .inl (fun _ => 0))), (a2, .inl (ch, 144, .inl (fun _ => 0))), (a4, .inl (csg, 144, .inl (fun _ => 0))), (a9, .inl (cb, 576, .inl beF)), (a6, .inl (cw, 144, .inl (fa_fill (fun _ => 1000000) (fL w0) 144)))] := hD
  have hK : va_K D vwCl [(cw, .int), (cq, .int), (cz, .boolean), (ck, .char), (csk, .char), (cg, .int), (ch, .int), (csg, .int), (cb, .int)] s := hK
  have hP : va_P D vwCl [(g, .inr (11, [.int n, .ref a1, .ref a2, .ref a3, .ref a4, .ref a5, .ref a6, .ref a7, .ref a8, .ref a9, .ref a10, .ref a11, .int hd, .int wt])), (a10, .inl (cq, 144, .inl (fL q))), (a11, .inl (cz, 144, .inl (fL z))), (a3, .inl (ck, 144, .inl okF)), (a5, .inl (csk, 144, .inl okF)), (a1, .inl (cg, 144, .inl (fun _ => 0))), (a2, .inl (ch, 144, .inl (fun _ => 0))), (a4, .inl (csg, 144, .inl (fun _ => 0))), (a9, .inl (cb, 576, .inl beF)), (a6, .inl (cw, 144, .inl (fa_fill (fun _ => 1000000) (fL w0) 144)))] H := hP
  have hD : va_D A [(g, .inr (11, [.int n, .ref a1, .ref a2, .ref a3, .ref a4, .ref a5, .ref a6, .ref a7, .ref a8, .ref a9, .ref a10, .ref a11, .int hd, .int wt])), (a10, .inl (cq, 144, .inl (fL q))), (a11, .inl (cz, 144, .inl (fL z))), (a3, .inl (ck, 144, .inl okF)), (a5, .inl (csk, 144, .inl okF)), (a1, .inl (cg, 144, .inl (fun _ => 0))), (a2, .inl (ch, 144, .inl (fun _ => 0))), (a4, .inl (csg, 144, .inl (fun _ => 0))), (a9, .inl (cb, 576, .inl beF)), (a6, .inl (cw, 144, .inl (fa_fill (fun _ => 1000000) (fL w0) 144)))] := hD
  have hcf : ([(g, .inr (11, [.int n, .ref a1, .ref a2, .ref a3, .ref a4, .ref a5, .ref a6, .ref a7, .ref a8, .ref a9, .ref a10, .ref a11, .int hd, .int wt])), (a10, .inl (cq, 144, .inl (fL q))), (a11, .inl (cz, 144, .inl (fL z))), (a3, .inl (ck, 144, .inl okF)), (a5, .inl (csk, 144, .inl okF)), (a1, .inl (cg, 144, .inl (fun _ => 0))), (a2, .inl (ch, 144, .inl (fun _ => 0))), (a4, .inl (csg, 144, .inl (fun _ => 0))), (a9, .inl (cb, 576, .inl beF)), (a6, .inl (cw, 144, .inl (fa_fill (fun _ => 1000000) (fL w0) 144)))] : va_W) = [(g, .inr (11, [.int n, .ref a1, .ref a2, .ref a3, .ref a4, .ref a5, .ref a6, .ref a7, .ref a8, .ref a9, .ref a10, .ref a11, .int hd, .int wt])), (a10, .inl (cq, 144, .inl (fL q))), (a11, .inl (cz, 144, .inl (fL z))), (a3, .inl (ck, 144, .inl okF)), (a5, .inl (csk, 144, .inl okF)), (a1, .inl (cg, 144, .inl (fun _ => 0))), (a2, .inl (ch, 144, .inl (fun _ => 0))), (a4, .inl (csg, 144, .inl (fun _ => 0))), (a9, .inl (cb, 576, .inl beF)), (a6, .inl (cw, 144, .inl (fL (List.replicate 144 1000000))))] := congrArg (fun f9 : Nat → Int32 => ([(g, .inr (11, [.int n, .ref a1, .ref a2, .ref a3, .ref a4, .ref a5, .ref a6, .ref a7, .ref a8, .ref a9, .ref a10, .ref a11, .int hd, .int wt])), (a10, .inl (cq, 144, .inl (fL q))), (a11, .inl (cz, 144, .inl (fL z))), (a3, .inl (ck, 144, .inl okF)), (a5, .inl (csk, 144, .inl okF)), (a1, .inl (cg, 144, .inl (fun _ => 0))), (a2, .inl (ch, 144, .inl (fun _ => 0))), (a4, .inl (csg, 144, .inl (fun _ => 0))), (a9, .inl (cb, 576, .inl beF)), (a6, .inl (cw, 144, .inl f9))] : va_W)) (show (fa_fill (fun _ => 1000000) (fL w0) 144 : Nat → Int32) = fL (List.replicate 144 1000000) from fill_rep hw0)
  rw [hcf] at hP hD
  clear hcf
  have hP : va_P D vwCl [(g, .inr (11, [.int n, .ref a1, .ref a2, .ref a3, .ref a4, .ref a5, .ref a6, .ref a7, .ref a8, .ref a9, .ref a10, .ref a11, .int hd, .int wt])), (a10, .inl (cq, 144, .inl (fL q))), (a11, .inl (cz, 144, .inl (fL z))), (a3, .inl (ck, 144, .inl okF)), (a5, .inl (csk, 144, .inl okF)), (a1, .inl (cg, 144, .inl (fun _ => 0))), (a2, .inl (ch, 144, .inl (fun _ => 0))), (a4, .inl (csg, 144, .inl (fun _ => 0))), (a9, .inl (cb, 576, .inl beF)), (a6, .inl (cw, 144, .inl (fL (List.replicate 144 1000000))))] H := hP
  have hD : va_D A [(g, .inr (11, [.int n, .ref a1, .ref a2, .ref a3, .ref a4, .ref a5, .ref a6, .ref a7, .ref a8, .ref a9, .ref a10, .ref a11, .int hd, .int wt])), (a10, .inl (cq, 144, .inl (fL q))), (a11, .inl (cz, 144, .inl (fL z))), (a3, .inl (ck, 144, .inl okF)), (a5, .inl (csk, 144, .inl okF)), (a1, .inl (cg, 144, .inl (fun _ => 0))), (a2, .inl (ch, 144, .inl (fun _ => 0))), (a4, .inl (csg, 144, .inl (fun _ => 0))), (a9, .inl (cb, 576, .inl beF)), (a6, .inl (cw, 144, .inl (fL (List.replicate 144 1000000))))] := hD
  refine lv_aload_n hx hb dX4_spread_9 rfl (lv_at hl 0 rfl) ?_
  refine lv_iconst (v := 0) hx hb dX4_spread_10 (by decide) ?_
  refine va_put (D := D) (ci := 11) (v := .int 0) (ty := .int) (C := RX4) (T := TX4) (N := 14) hx hb hts hb_0 tyX4 tyX4_ok nmX4 hown hK hP hD hS 0 rfl rfl 12 (by decide) hw_5 (fun _ h9 => h9) rfl (by decide +kernel) rfl rfl (Nat.le_of_ble_eq_true rfl) dX4_spread_11 (fun H locs hP hD hS => ?_)
  have hP : va_P D vwCl [(g, .inr (11, [.int n, .ref a1, .ref a2, .ref a3, .ref a4, .ref a5, .ref a6, .ref a7, .ref a8, .ref a9, .ref a10, .ref a11, .int 0, .int wt])), (a10, .inl (cq, 144, .inl (fL q))), (a11, .inl (cz, 144, .inl (fL z))), (a3, .inl (ck, 144, .inl okF)), (a5, .inl (csk, 144, .inl okF)), (a1, .inl (cg, 144, .inl (fun _ => 0))), (a2, .inl (ch, 144, .inl (fun _ => 0))), (a4, .inl (csg, 144, .inl (fun _ => 0))), (a9, .inl (cb, 576, .inl beF)), (a6, .inl (cw, 144, .inl (fL (List.replicate 144 1000000))))] H := hP
  have hD : va_D A [(g, .inr (11, [.int n, .ref a1, .ref a2, .ref a3, .ref a4, .ref a5, .ref a6, .ref a7, .ref a8, .ref a9, .ref a10, .ref a11, .int 0, .int wt])), (a10, .inl (cq, 144, .inl (fL q))), (a11, .inl (cz, 144, .inl (fL z))), (a3, .inl (ck, 144, .inl okF)), (a5, .inl (csk, 144, .inl okF)), (a1, .inl (cg, 144, .inl (fun _ => 0))), (a2, .inl (ch, 144, .inl (fun _ => 0))), (a4, .inl (csg, 144, .inl (fun _ => 0))), (a9, .inl (cb, 576, .inl beF)), (a6, .inl (cw, 144, .inl (fL (List.replicate 144 1000000))))] := hD
  refine lv_aload_n hx hb dX4_spread_14 rfl (lv_at hl 0 rfl) ?_
  refine lv_iconst (v := 0) hx hb dX4_spread_15 (by decide) ?_
  refine va_put (D := D) (ci := 11) (v := .int 0) (ty := .int) (C := RX4) (T := TX4) (N := 14) hx hb hts hb_0 tyX4 tyX4_ok nmX4 hown hK hP hD hS 0 rfl rfl 13 (by decide) hw_6 (fun _ h9 => h9) rfl (by decide +kernel) rfl rfl (Nat.le_of_ble_eq_true rfl) dX4_spread_16 (fun H locs hP hD hS => ?_)
  have hP : va_P D vwCl [(g, .inr (11, [.int n, .ref a1, .ref a2, .ref a3, .ref a4, .ref a5, .ref a6, .ref a7, .ref a8, .ref a9, .ref a10, .ref a11, .int 0, .int 0])), (a10, .inl (cq, 144, .inl (fL q))), (a11, .inl (cz, 144, .inl (fL z))), (a3, .inl (ck, 144, .inl okF)), (a5, .inl (csk, 144, .inl okF)), (a1, .inl (cg, 144, .inl (fun _ => 0))), (a2, .inl (ch, 144, .inl (fun _ => 0))), (a4, .inl (csg, 144, .inl (fun _ => 0))), (a9, .inl (cb, 576, .inl beF)), (a6, .inl (cw, 144, .inl (fL (List.replicate 144 1000000))))] H := hP
  have hD : va_D A [(g, .inr (11, [.int n, .ref a1, .ref a2, .ref a3, .ref a4, .ref a5, .ref a6, .ref a7, .ref a8, .ref a9, .ref a10, .ref a11, .int 0, .int 0])), (a10, .inl (cq, 144, .inl (fL q))), (a11, .inl (cz, 144, .inl (fL z))), (a3, .inl (ck, 144, .inl okF)), (a5, .inl (csk, 144, .inl okF)), (a1, .inl (cg, 144, .inl (fun _ => 0))), (a2, .inl (ch, 144, .inl (fun _ => 0))), (a4, .inl (csg, 144, .inl (fun _ => 0))), (a9, .inl (cb, 576, .inl beF)), (a6, .inl (cw, 144, .inl (fL (List.replicate 144 1000000))))] := hD
  refine lv_aload_n hx hb dX4_spread_19 rfl (lv_at hl 0 rfl) ?_
  refine lv_iload_n hx hb dX4_spread_20 rfl (lv_at hl 1 rfl) ?_
  refine lv_iconst (v := 0) hx hb dX4_spread_21 (by decide) ?_
  refine mc_v (wr := [(a3, .inl (ck, 144, .inl okF)), (a5, .inl (csk, 144, .inl okF)), (a1, .inl (cg, 144, .inl (fun _ => 0))), (a2, .inl (ch, 144, .inl (fun _ => 0))), (a4, .inl (csg, 144, .inl (fun _ => 0))), (a9, .inl (cb, 576, .inl beF))]) (va_runV (As := [.int (nI o), .int 0]) (rest := []) ⟨hx, hb, hml, hown, hts⟩ (c_reach l hst D g a1 a2 a3 a4 a5 a6 a7 a8 a9 a10 a11 n cw cq cz (List.replicate 144 1000000) q z 0 0 o 0 H.size (okS_start hq) (ho) (by decide)) (cwV 2 hts (gi_c (List.mem_cons_of_mem _ (List.mem_append_left _ (List.mem_of_getElem? (i := 7) rfl))) rfl (gi_c (List.mem_cons_of_mem _ (List.mem_append_left _ (List.mem_of_getElem? (i := 8) rfl))) rfl (gi_c (List.mem_cons_of_mem _ (List.mem_append_left _ (List.mem_of_getElem? (i := 9) rfl))) rfl (gi_c (List.mem_cons_of_mem _ (List.mem_append_left _ (List.mem_of_getElem? (i := 10) rfl))) rfl (goodIn_sub hb_2 (List.all_eq_true.mpr gw_c_reach)))))) rfl rfl rfl (by decide +kernel) ⟨Nat.le_of_ble_eq_true rfl, Nat.le_of_ble_eq_true rfl⟩) (pr_V (As := [.int (nI o), .int 0]) (b := g) (C := RX4) hP hD hK hS hA hE [0, 9, 1, 2] [0, 1, 2] rfl rfl rfl 0 11 rfl rfl rfl) rfl rfl hl.1 rfl (lv_room (Nat.le_of_ble_eq_true rfl)) dX4_spread_22 ⟨Nat.le_of_ble_eq_true rfl, Nat.le_of_ble_eq_true rfl⟩) hP hD hK hS hA [0, 9, 1, 2] [3, 4, 5, 6, 7, 8] rfl rfl (by decide) (by decide) (fun u3 H locs w4 hP hD hK hS => ?_)
  have hP : va_P D vwCl [(a3, .inl (ck, 144, .inl okF)), (a5, .inl (csk, 144, .inl okF)), (a1, .inl (cg, 144, .inl (fun _ => 0))), (a2, .inl (ch, 144, .inl (fun _ => 0))), (a4, .inl (csg, 144, .inl (fun _ => 0))), (a9, .inl (cb, 576, .inl beF)), (g, .inr (11, [.int n, .ref a1, .ref a2, .ref a3, .ref a4, .ref a5, .ref a6, .ref a7, .ref a8, .ref a9, .ref a10, .ref a11, .int (nI u3.2.2.2.1), .int (nI u3.2.2.2.2)])), (a6, .inl (cw, 144, .inl (fL u3.1))), (a10, .inl (cq, 144, .inl (fL u3.2.1))), (a11, .inl (cz, 144, .inl (fL u3.2.2.1)))] H := hP
  have hD : va_D A [(a3, .inl (ck, 144, .inl okF)), (a5, .inl (csk, 144, .inl okF)), (a1, .inl (cg, 144, .inl (fun _ => 0))), (a2, .inl (ch, 144, .inl (fun _ => 0))), (a4, .inl (csg, 144, .inl (fun _ => 0))), (a9, .inl (cb, 576, .inl beF)), (g, .inr (11, [.int n, .ref a1, .ref a2, .ref a3, .ref a4, .ref a5, .ref a6, .ref a7, .ref a8, .ref a9, .ref a10, .ref a11, .int (nI u3.2.2.2.1), .int (nI u3.2.2.2.2)])), (a6, .inl (cw, 144, .inl (fL u3.1))), (a10, .inl (cq, 144, .inl (fL u3.2.1))), (a11, .inl (cz, 144, .inl (fL u3.2.2.1)))] := hD
  have hK : va_K D vwCl [(cw, .int), (cq, .int), (cz, .boolean), (ck, .char), (csk, .char), (cg, .int), (ch, .int), (csg, .int), (cb, .int)] s := hK
  refine lv_iconst (v := 0) hx hb dX4_spread_25 (by decide) ?_
  refine lv_istore (lv' := [(5, .int 0), (0, .ref g), (1, .int (nI o)), (2, .int mp), (3, .int bk), (4, .int (nI far))]) hx hb dX4_spread_26 hl (by decide) rfl (fun ls hl => ?_)
  have lp : ∀ (fu : Nat) (i : Nat) (st : sS) (H : Heap) (locs : List Loc) (ls : Array Slot), (i + fu = 20736) → (okSt st) → (spM fu far st = goM far o q z) → lv_has ls 7 [(5, .int (nI i)), (0, .ref g), (1, .int (nI o)), (2, .int mp), (3, .int bk), (4, .int (nI far))] → va_P D vwCl [(g, .inr (11, [.int n, .ref a1, .ref a2, .ref a3, .ref a4, .ref a5, .ref a6, .ref a7, .ref a8, .ref a9, .ref a10, .ref a11, .int (nI st.2.2.2.1), .int (nI st.2.2.2.2)])), (a6, .inl (cw, 144, .inl (fL st.1))), (a10, .inl (cq, 144, .inl (fL st.2.1))), (a11, .inl (cz, 144, .inl (fL st.2.2.1))), (a3, .inl (ck, 144, .inl okF)), (a5, .inl (csk, 144, .inl okF)), (a1, .inl (cg, 144, .inl (fun _ => 0))), (a2, .inl (ch, 144, .inl (fun _ => 0))), (a4, .inl (csg, 144, .inl (fun _ => 0))), (a9, .inl (cb, 576, .inl beF))] H → va_D A [(g, .inr (11, [.int n, .ref a1, .ref a2, .ref a3, .ref a4, .ref a5, .ref a6, .ref a7, .ref a8, .ref a9, .ref a10, .ref a11, .int (nI st.2.2.2.1), .int (nI st.2.2.2.2)])), (a6, .inl (cw, 144, .inl (fL st.1))), (a10, .inl (cq, 144, .inl (fL st.2.1))), (a11, .inl (cz, 144, .inl (fL st.2.2.1))), (a3, .inl (ck, 144, .inl okF)), (a5, .inl (csk, 144, .inl okF)), (a1, .inl (cg, 144, .inl (fun _ => 0))), (a2, .inl (ch, 144, .inl (fun _ => 0))), (a4, .inl (csg, 144, .inl (fun _ => 0))), (a9, .inl (cb, 576, .inl beF))] → va_S A s.heap H locs → W p l e { frames := 3, cells := 0, slots := 0, locals := 65 } s m args below meth c H locs 0 0 (MQ below (va_Qv (fun u : sS => u = goM far o q z ∧ okSt u) (qb D A (fun u : sS => [(g, .inr (11, [.int n, .ref a1, .ref a2, .ref a3, .ref a4, .ref a5, .ref a6, .ref a7, .ref a8, .ref a9, .ref a10, .ref a11, .int (nI u.2.2.2.1), .int (nI u.2.2.2.2)])), (a6, .inl (cw, 144, .inl (fL u.1))), (a10, .inl (cq, 144, .inl (fL u.2.1))), (a11, .inl (cz, 144, .inl (fL u.2.2.1))), (a3, .inl (ck, 144, .inl okF)), (a5, .inl (csk, 144, .inl okF)), (a1, .inl (cg, 144, .inl (fun _ => 0))), (a2, .inl (ch, 144, .inl (fun _ => 0))), (a4, .inl (csg, 144, .inl (fun _ => 0))), (a9, .inl (cb, 576, .inl beF))]) (fun u : sS => ([] : List (ClassId × FieldType)))) A) args s 0 0 A) (F0 m 28 ls []) := by
    intro fu
    induction fu with
    | zero =>
      intro i st H locs ls hi ok hM hl hP hD hS
      have hi : i + 0 = 20736 := hi
      have ok : okSt st := ok
      have hM : spM 0 far st = goM far o q z := hM
      obtain ⟨ok1, ok2, ok3, ok4, ok5, ok6, ok7, ok8⟩ := id ok
      refine lv_aload_n hx hb dX4_spread_28 rfl (lv_at hl 1 rfl) ?_
      refine va_get (D := D) (ci := 11) (v := .int (nI st.2.2.2.2)) (C := RX4) (T := TX4) (N := 14) hx hb hts hb_0 hown hK hP 0 rfl rfl 13 (by decide) hw_6 (fun _ h9 => h9) rfl dX4_spread_29 ?_
      refine lv_if_le (tgt := 89) hx hb dX4_spread_32 (by decide) (fun h6 => ?_) (fun h6 => ?_)
      · have n6 : st.2.2.2.2 ≤ 0 := (nI_leI (a := st.2.2.2.2) (b := 0) (by omega) (by omega)).mp h6
        exact mr_v hx hb hr st (⟨hM, ok⟩) (hP.sub [0, 1, 2, 3, 4, 5, 6, 7, 8, 9] rfl) (hK.sub [] rfl) (hD.sub [0, 1, 2, 3, 4, 5, 6, 7, 8, 9] (by decide) rfl) hS (Nat.le_of_ble_eq_true rfl) (Nat.le_of_ble_eq_true rfl) hlocks dX4_spread_89
      · have n6 : ¬ (st.2.2.2.2 ≤ 0) := fun q9 => h6 ((nI_leI (a := st.2.2.2.2) (b := 0) (by omega) (by omega)).mpr q9)
        refine lv_iload hx hb dX4_spread_35 (lv_at hl 0 rfl) ?_
        refine lv_sipush (v := 20736) hx hb dX4_spread_37 (by decide) ?_
        refine lv_icmp_ge (tgt := 89) hx hb dX4_spread_40 (by decide) (fun h7 => ?_) (fun h7 => absurd (by exact (nI_leI (a := 20736) (b := i) (by omega) (by omega)).mpr (by omega)) h7)
        exact mr_v hx hb hr st (⟨hM, ok⟩) (hP.sub [0, 1, 2, 3, 4, 5, 6, 7, 8, 9] rfl) (hK.sub [] rfl) (hD.sub [0, 1, 2, 3, 4, 5, 6, 7, 8, 9] (by decide) rfl) hS (Nat.le_of_ble_eq_true rfl) (Nat.le_of_ble_eq_true rfl) hlocks dX4_spread_89
    | succ fu ih =>
      intro i st H locs ls hi ok hM hl hP hD hS
      have hi : i + (fu + 1) = 20736 := hi
      have ok : okSt st := ok
      have hM : spM (fu + 1) far st = goM far o q z := hM
      obtain ⟨ok1, ok2, ok3, ok4, ok5, ok6, ok7, ok8⟩ := id ok
      refine lv_aload_n hx hb dX4_spread_28 rfl (lv_at hl 1 rfl) ?_
      refine va_get (D := D) (ci := 11) (v := .int (nI st.2.2.2.2)) (C := RX4) (T := TX4) (N := 14) hx hb hts hb_0 hown hK hP 0 rfl rfl 13 (by decide) hw_6 (fun _ h9 => h9) rfl dX4_spread_29 ?_
      refine lv_if_le (tgt := 89) hx hb dX4_spread_32 (by decide) (fun h8 => ?_) (fun h8 => ?_)
      · have n8 : st.2.2.2.2 ≤ 0 := (nI_leI (a := st.2.2.2.2) (b := 0) (by omega) (by omega)).mp h8
        exact mr_v hx hb hr st (⟨(sp_stop (by omega)).symm.trans hM, ok⟩) (hP.sub [0, 1, 2, 3, 4, 5, 6, 7, 8, 9] rfl) (hK.sub [] rfl) (hD.sub [0, 1, 2, 3, 4, 5, 6, 7, 8, 9] (by decide) rfl) hS (Nat.le_of_ble_eq_true rfl) (Nat.le_of_ble_eq_true rfl) hlocks dX4_spread_89
      · have n8 : ¬ (st.2.2.2.2 ≤ 0) := fun q9 => h8 ((nI_leI (a := st.2.2.2.2) (b := 0) (by omega) (by omega)).mpr q9)
        refine lv_iload hx hb dX4_spread_35 (lv_at hl 0 rfl) ?_
        refine lv_sipush (v := 20736) hx hb dX4_spread_37 (by decide) ?_
        refine lv_icmp_ge (tgt := 89) hx hb dX4_spread_40 (by decide) (fun h9 => absurd h9 (by exact fun q9 => absurd ((nI_leI (a := 20736) (b := i) (by omega) (by omega)).mp q9) (by omega))) (fun h9 => ?_)
        refine lv_aload_n hx hb dX4_spread_43 rfl (lv_at hl 1 rfl) ?_
        refine mc_i (wr := [(a3, .inl (ck, 144, .inl okF)), (a5, .inl (csk, 144, .inl okF)), (a1, .inl (cg, 144, .inl (fun _ => 0))), (a2, .inl (ch, 144, .inl (fun _ => 0))), (a4, .inl (csg, 144, .inl (fun _ => 0))), (a9, .inl (cb, 576, .inl beF))]) (va_runV (As := []) (rest := []) ⟨hx, hb, hml, hown, hts⟩ (c_takeFirst l hst D g a1 a2 a3 a4 a5 a6 a7 a8 a9 a10 a11 n cw cq cz st.1 st.2.1 st.2.2.1 st.2.2.2.1 st.2.2.2.2 H.size (ok) (by omega)) (cwV 0 hts (gi_c (List.mem_cons_of_mem _ (List.mem_append_left _ (List.mem_of_getElem? (i := 11) rfl))) rfl (gi_c (List.mem_cons_of_mem _ (List.mem_append_left _ (List.mem_of_getElem? (i := 12) rfl))) rfl (gi_c (List.mem_cons_of_mem _ (List.mem_append_left _ (List.mem_of_getElem? (i := 13) rfl))) rfl (gi_c (List.mem_cons_of_mem _ (List.mem_append_left _ (List.mem_of_getElem? (i := 10) rfl))) rfl (goodIn_sub hb_3 (List.all_eq_true.mpr gw_c_takeFirst)))))) rfl rfl rfl (by decide +kernel) ⟨Nat.le_of_ble_eq_true rfl, Nat.le_of_ble_eq_true rfl⟩) (pr_V (As := []) (b := g) (C := RX4) hP hD hK hS hA hE [0, 1, 2, 3] [0, 1, 2] rfl rfl rfl 0 11 rfl rfl rfl) rfl rfl hl.1 rfl (lv_room (Nat.le_of_ble_eq_true rfl)) dX4_spread_44 ⟨Nat.le_of_ble_eq_true rfl, Nat.le_of_ble_eq_true rfl⟩) hP hD hK hS hA [0, 1, 2, 3] [4, 5, 6, 7, 8, 9] rfl rfl (by decide) (by decide) (fun r12 u10 H locs w11 hP hD hK hS => ?_)
        have hP : va_P D vwCl [(a3, .inl (ck, 144, .inl okF)), (a5, .inl (csk, 144, .inl okF)), (a1, .inl (cg, 144, .inl (fun _ => 0))), (a2, .inl (ch, 144, .inl (fun _ => 0))), (a4, .inl (csg, 144, .inl (fun _ => 0))), (a9, .inl (cb, 576, .inl beF)), (g, .inr (11, [.int n, .ref a1, .ref a2, .ref a3, .ref a4, .ref a5, .ref a6, .ref a7, .ref a8, .ref a9, .ref a10, .ref a11, .int (nI u10.2.2.2.1), .int (nI u10.2.2.2.2)])), (a6, .inl (cw, 144, .inl (fL u10.1))), (a10, .inl (cq, 144, .inl (fL u10.2.1))), (a11, .inl (cz, 144, .inl (fL u10.2.2.1)))] H := hP
        have hD : va_D A [(a3, .inl (ck, 144, .inl okF)), (a5, .inl (csk, 144, .inl okF)), (a1, .inl (cg, 144, .inl (fun _ => 0))), (a2, .inl (ch, 144, .inl (fun _ => 0))), (a4, .inl (csg, 144, .inl (fun _ => 0))), (a9, .inl (cb, 576, .inl beF)), (g, .inr (11, [.int n, .ref a1, .ref a2, .ref a3, .ref a4, .ref a5, .ref a6, .ref a7, .ref a8, .ref a9, .ref a10, .ref a11, .int (nI u10.2.2.2.1), .int (nI u10.2.2.2.2)])), (a6, .inl (cw, 144, .inl (fL u10.1))), (a10, .inl (cq, 144, .inl (fL u10.2.1))), (a11, .inl (cz, 144, .inl (fL u10.2.2.1)))] := hD
        have hK : va_K D vwCl [(cw, .int), (cq, .int), (cz, .boolean), (ck, .char), (csk, .char), (cg, .int), (ch, .int), (csg, .int), (cb, .int)] s := hK
        obtain ⟨rfl, hu⟩ := w11
        have hce := ok7 st.2.2.2.1
        have oku : okSt u10 := by rw [hu]; exact okS_tk ok
        obtain ⟨k1, k2, k3, k4, k5, k6, k7, k8⟩ := id oku
        have hM2 : spM fu far (turnM far st) = goM far o q z := (sp_go (by omega)).symm.trans hM
        refine lv_istore (lv' := [(6, .int (nI (st.2.1.getD st.2.2.2.1 0))), (5, .int (nI i)), (0, .ref g), (1, .int (nI o)), (2, .int mp), (3, .int bk), (4, .int (nI far))]) hx hb dX4_spread_47 hl (by decide) rfl (fun ls hl => ?_)
        refine lv_aload_n hx hb dX4_spread_49 rfl (lv_at hl 2 rfl) ?_
        refine va_get (D := D) (ci := 11) (v := .ref a6) (C := RX4) (T := TX4) (N := 14) hx hb hts hb_0 hown hK hP 6 rfl rfl 6 (by decide) hw_0 (fun _ h9 => h9) rfl dX4_spread_50 ?_
        refine lv_iload hx hb dX4_spread_53 (lv_at hl 0 rfl) ?_
        refine va_iald hx hb hK hP 7 0 rfl rfl (vp_in_nI (n := st.2.1.getD st.2.2.2.1 0) (by omega) (by decide)) dX4_spread_55 ?_
        have b13 := k6 (st.2.1.getD st.2.2.2.1 0)
        refine lv_topi (fun x14 e14 => ?_)
        obtain rfl : x14 = nI (u10.1.getD (st.2.1.getD st.2.2.2.1 0) 0) := e14.trans (fL_at (by omega))
        refine lv_iload hx hb dX4_spread_56 (lv_at hl 6 rfl) ?_
        refine lv_icmp_ge (tgt := 83) hx hb dX4_spread_58 (by decide) (fun h15 => ?_) (fun h15 => ?_)
        · have n15 : far ≤ (u10.1.getD (st.2.1.getD st.2.2.2.1 0) 0) := (nI_leI (a := far) (b := (u10.1.getD (st.2.1.getD st.2.2.2.1 0) 0)) (by omega) (by omega)).mp h15
          obtain ⟨x16, e16⟩ : ∃ z : Int32, z = nI i + 1 := ⟨_, rfl⟩
          refine lv_iinc (v := x16) (lv' := [(5, .int x16), (6, .int (nI (st.2.1.getD st.2.2.2.1 0))), (0, .ref g), (1, .int (nI o)), (2, .int mp), (3, .int bk), (4, .int (nI far))]) hx hb dX4_spread_83 hl (k := 1) rfl (by rw [e16]; rfl) (by decide) rfl (fun ls hl => ?_)
          obtain rfl : x16 = nI (i + 1) := e16.trans (nI_add i 1)
          refine lv_goto (tgt := 28) hx hb dX4_spread_86 (by decide) ?_
          exact ih  (i + 1) u10 _ _ _ (by omega) oku (by rw [← turn_no (far := far) hu (by omega)]; exact hM2) (lv_sub hl [0, 2, 3, 4, 5, 6] rfl) (hP.sub [6, 7, 8, 9, 0, 1, 2, 3, 4, 5] rfl) (hD.sub [6, 7, 8, 9, 0, 1, 2, 3, 4, 5] (by decide) rfl) hS
        · have n15 : ¬ (far ≤ (u10.1.getD (st.2.1.getD st.2.2.2.1 0) 0)) := fun q9 => h15 ((nI_leI (a := far) (b := (u10.1.getD (st.2.1.getD st.2.2.2.1 0) 0)) (by omega) (by omega)).mpr q9)
          refine lv_iload_n hx hb dX4_spread_61 rfl (lv_at hl 5 rfl) ?_
          refine lv_if_eq (tgt := 75) hx hb dX4_spread_62 (by decide) (fun h17 => ?_) (fun h17 => ?_)
          · refine lv_aload_n hx hb dX4_spread_75 rfl (lv_at hl 2 rfl) ?_
            refine lv_iload hx hb dX4_spread_76 (lv_at hl 0 rfl) ?_
            refine lv_iload_n hx hb dX4_spread_78 rfl (lv_at hl 4 rfl) ?_
            refine lv_iload_n hx hb dX4_spread_79 rfl (lv_at hl 5 rfl) ?_
            refine mc_v (wr := []) (va_runV (As := [.int (nI (st.2.1.getD st.2.2.2.1 0)), .int mp, .int bk]) (rest := []) ⟨hx, hb, hml, hown, hts⟩ (c_spreadFrom l hst D g a1 a2 a3 a4 a5 a6 a7 a8 a9 a10 a11 n cw cq cz ck csk cg ch csg cb u10.1 u10.2.1 u10.2.2.1 u10.2.2.2.1 u10.2.2.2.2 (st.2.1.getD st.2.2.2.1 0) mp bk H.size (oku) (by omega)) (cwV 3 hts (gi_c (List.mem_cons_of_mem _ (List.mem_append_left _ (List.mem_of_getElem? (i := 14) rfl))) rfl (gi_c (List.mem_cons_of_mem _ (List.mem_append_left _ (List.mem_of_getElem? (i := 15) rfl))) rfl (gi_c (List.mem_cons_of_mem _ (List.mem_append_left _ (List.mem_of_getElem? (i := 16) rfl))) rfl (gi_c (List.mem_cons_of_mem _ (List.mem_append_left _ (List.mem_of_getElem? (i := 10) rfl))) rfl (goodIn_sub hb_4 (List.all_eq_true.mpr gw_c_spreadFrom)))))) rfl rfl rfl (by decide +kernel) ⟨Nat.le_of_ble_eq_true rfl, Nat.le_of_ble_eq_true rfl⟩) (pr_V (As := [.int (nI (st.2.1.getD st.2.2.2.1 0)), .int mp, .int bk]) (b := g) (C := RX4) hP hD hK hS hA hE [6, 7, 8, 9, 0, 1, 2, 3, 4, 5] [0, 1, 2, 3, 4, 5, 6, 7, 8] rfl rfl rfl 6 11 rfl rfl rfl) rfl rfl hl.1 rfl (lv_room (Nat.le_of_ble_eq_true rfl)) dX4_spread_80 ⟨Nat.le_of_ble_eq_true rfl, Nat.le_of_ble_eq_true rfl⟩) hP hD hK hS hA [6, 7, 8, 9, 0, 1, 2, 3, 4, 5] [] rfl rfl (by decide) (by decide) (fun u18 H locs w19 hP hD hK hS => ?_)
            have hP : va_P D vwCl [(g, .inr (11, [.int n, .ref a1, .ref a2, .ref a3, .ref a4, .ref a5, .ref a6, .ref a7, .ref a8, .ref a9, .ref a10, .ref a11, .int (nI u18.2.2.2.1), .int (nI u18.2.2.2.2)])), (a6, .inl (cw, 144, .inl (fL u18.1))), (a10, .inl (cq, 144, .inl (fL u18.2.1))), (a11, .inl (cz, 144, .inl (fL u18.2.2.1))), (a3, .inl (ck, 144, .inl okF)), (a5, .inl (csk, 144, .inl okF)), (a1, .inl (cg, 144, .inl (fun _ => 0))), (a2, .inl (ch, 144, .inl (fun _ => 0))), (a4, .inl (csg, 144, .inl (fun _ => 0))), (a9, .inl (cb, 576, .inl beF))] H := hP
            have hD : va_D A [(g, .inr (11, [.int n, .ref a1, .ref a2, .ref a3, .ref a4, .ref a5, .ref a6, .ref a7, .ref a8, .ref a9, .ref a10, .ref a11, .int (nI u18.2.2.2.1), .int (nI u18.2.2.2.2)])), (a6, .inl (cw, 144, .inl (fL u18.1))), (a10, .inl (cq, 144, .inl (fL u18.2.1))), (a11, .inl (cz, 144, .inl (fL u18.2.2.1))), (a3, .inl (ck, 144, .inl okF)), (a5, .inl (csk, 144, .inl okF)), (a1, .inl (cg, 144, .inl (fun _ => 0))), (a2, .inl (ch, 144, .inl (fun _ => 0))), (a4, .inl (csg, 144, .inl (fun _ => 0))), (a9, .inl (cb, 576, .inl beF))] := hD
            have hK : va_K D vwCl [(cw, .int), (cq, .int), (cz, .boolean), (ck, .char), (csk, .char), (cg, .int), (ch, .int), (csg, .int), (cb, .int)] s := hK
            obtain ⟨x21, e21⟩ : ∃ z : Int32, z = nI i + 1 := ⟨_, rfl⟩
            refine lv_iinc (v := x21) (lv' := [(5, .int x21), (6, .int (nI (st.2.1.getD st.2.2.2.1 0))), (0, .ref g), (1, .int (nI o)), (2, .int mp), (3, .int bk), (4, .int (nI far))]) hx hb dX4_spread_83 hl (k := 1) rfl (by rw [e21]; rfl) (by decide) rfl (fun ls hl => ?_)
            obtain rfl : x21 = nI (i + 1) := e21.trans (nI_add i 1)
            refine lv_goto (tgt := 28) hx hb dX4_spread_86 (by decide) ?_
            exact ih  (i + 1) u18 _ _ _ (by omega) (by rw [w19]; exact okS_sf (by omega) 4 oku) (by rw [w19, show sfM 4 (u10.1, u10.2.1, u10.2.2.1, u10.2.2.2.1, u10.2.2.2.2) (st.2.1.getD st.2.2.2.1 0) = _ from (turn_yes (far := far) hu (by omega)).symm]; exact hM2) (lv_sub hl [0, 2, 3, 4, 5, 6] rfl) (hP.sub [0, 1, 2, 3, 4, 5, 6, 7, 8, 9] rfl) (hD.sub [0, 1, 2, 3, 4, 5, 6, 7, 8, 9] (by decide) rfl) hS
          · refine lv_aload_n hx hb dX4_spread_65 rfl (lv_at hl 2 rfl) ?_
            refine lv_iload hx hb dX4_spread_66 (lv_at hl 0 rfl) ?_
            refine lv_iload_n hx hb dX4_spread_68 rfl (lv_at hl 4 rfl) ?_
            refine mc_i (wr := [(a1, .inl (cg, 144, .inl (fun _ => 0))), (a2, .inl (ch, 144, .inl (fun _ => 0))), (a4, .inl (csg, 144, .inl (fun _ => 0))), (a9, .inl (cb, 576, .inl beF)), (a6, .inl (cw, 144, .inl (fL u10.1))), (a10, .inl (cq, 144, .inl (fL u10.2.1))), (a11, .inl (cz, 144, .inl (fL u10.2.2.1)))]) (va_runV (As := [.int (nI (st.2.1.getD st.2.2.2.1 0)), .int mp]) (rest := []) ⟨hx, hb, hml, hown, hts⟩ (c_canEnter l hst D g a1 a2 a3 a4 a5 a6 a7 a8 a9 a10 a11 n (nI u10.2.2.2.1) (nI u10.2.2.2.2) ck csk (st.2.1.getD st.2.2.2.1 0) mp H.size (by omega)) (cwV 2 hts (gi_c (List.mem_cons_of_mem _ (List.mem_append_left _ (List.mem_of_getElem? (i := 17) rfl))) rfl (gi_c (List.mem_cons_of_mem _ (List.mem_append_left _ (List.mem_of_getElem? (i := 18) rfl))) rfl (gi_c (List.mem_cons_of_mem _ (List.mem_append_left _ (List.mem_of_getElem? (i := 19) rfl))) rfl (gi_c (List.mem_cons_of_mem _ (List.mem_append_left _ (List.mem_of_getElem? (i := 10) rfl))) rfl (goodIn_sub hb_5 (List.all_eq_true.mpr gw_c_canEnter)))))) rfl rfl rfl (by decide +kernel) ⟨Nat.le_of_ble_eq_true rfl, Nat.le_of_ble_eq_true rfl⟩) (pr_V (As := [.int (nI (st.2.1.getD st.2.2.2.1 0)), .int mp]) (b := g) (C := RX4) hP hD hK hS hA hE [6, 0, 1] [3, 4] rfl rfl rfl 6 11 rfl rfl rfl) rfl rfl hl.1 rfl (lv_room (Nat.le_of_ble_eq_true rfl)) dX4_spread_69 ⟨Nat.le_of_ble_eq_true rfl, Nat.le_of_ble_eq_true rfl⟩) hP hD hK hS hA [6, 0, 1] [2, 3, 4, 5, 7, 8, 9] rfl rfl (by decide) (by decide) (fun r23 _ H locs w22 hP hD hK hS => ?_)
            have hP : va_P D vwCl [(a1, .inl (cg, 144, .inl (fun _ => 0))), (a2, .inl (ch, 144, .inl (fun _ => 0))), (a4, .inl (csg, 144, .inl (fun _ => 0))), (a9, .inl (cb, 576, .inl beF)), (a6, .inl (cw, 144, .inl (fL u10.1))), (a10, .inl (cq, 144, .inl (fL u10.2.1))), (a11, .inl (cz, 144, .inl (fL u10.2.2.1))), (g, .inr (11, [.int n, .ref a1, .ref a2, .ref a3, .ref a4, .ref a5, .ref a6, .ref a7, .ref a8, .ref a9, .ref a10, .ref a11, .int (nI u10.2.2.2.1), .int (nI u10.2.2.2.2)])), (a3, .inl (ck, 144, .inl okF)), (a5, .inl (csk, 144, .inl okF))] H := hP
            have hD : va_D A [(a1, .inl (cg, 144, .inl (fun _ => 0))), (a2, .inl (ch, 144, .inl (fun _ => 0))), (a4, .inl (csg, 144, .inl (fun _ => 0))), (a9, .inl (cb, 576, .inl beF)), (a6, .inl (cw, 144, .inl (fL u10.1))), (a10, .inl (cq, 144, .inl (fL u10.2.1))), (a11, .inl (cz, 144, .inl (fL u10.2.2.1))), (g, .inr (11, [.int n, .ref a1, .ref a2, .ref a3, .ref a4, .ref a5, .ref a6, .ref a7, .ref a8, .ref a9, .ref a10, .ref a11, .int (nI u10.2.2.2.1), .int (nI u10.2.2.2.2)])), (a3, .inl (ck, 144, .inl okF)), (a5, .inl (csk, 144, .inl okF))] := hD
            have hK : va_K D vwCl [(cw, .int), (cq, .int), (cz, .boolean), (ck, .char), (csk, .char), (cg, .int), (ch, .int), (csg, .int), (cb, .int)] s := hK
            obtain rfl : r23 = 1 := w22
            refine lv_if_eq (tgt := 83) hx hb dX4_spread_72 (by decide) (fun h24 => absurd h24 (by decide)) (fun h24 => ?_)
            refine lv_aload_n hx hb dX4_spread_75 rfl (lv_at hl 2 rfl) ?_
            refine lv_iload hx hb dX4_spread_76 (lv_at hl 0 rfl) ?_
            refine lv_iload_n hx hb dX4_spread_78 rfl (lv_at hl 4 rfl) ?_
            refine lv_iload_n hx hb dX4_spread_79 rfl (lv_at hl 5 rfl) ?_
            refine mc_v (wr := []) (va_runV (As := [.int (nI (st.2.1.getD st.2.2.2.1 0)), .int mp, .int bk]) (rest := []) ⟨hx, hb, hml, hown, hts⟩ (c_spreadFrom l hst D g a1 a2 a3 a4 a5 a6 a7 a8 a9 a10 a11 n cw cq cz ck csk cg ch csg cb u10.1 u10.2.1 u10.2.2.1 u10.2.2.2.1 u10.2.2.2.2 (st.2.1.getD st.2.2.2.1 0) mp bk H.size (oku) (by omega)) (cwV 3 hts (gi_c (List.mem_cons_of_mem _ (List.mem_append_left _ (List.mem_of_getElem? (i := 14) rfl))) rfl (gi_c (List.mem_cons_of_mem _ (List.mem_append_left _ (List.mem_of_getElem? (i := 15) rfl))) rfl (gi_c (List.mem_cons_of_mem _ (List.mem_append_left _ (List.mem_of_getElem? (i := 16) rfl))) rfl (gi_c (List.mem_cons_of_mem _ (List.mem_append_left _ (List.mem_of_getElem? (i := 10) rfl))) rfl (goodIn_sub hb_4 (List.all_eq_true.mpr gw_c_spreadFrom)))))) rfl rfl rfl (by decide +kernel) ⟨Nat.le_of_ble_eq_true rfl, Nat.le_of_ble_eq_true rfl⟩) (pr_V (As := [.int (nI (st.2.1.getD st.2.2.2.1 0)), .int mp, .int bk]) (b := g) (C := RX4) hP hD hK hS hA hE [7, 4, 5, 6, 8, 9, 0, 1, 2, 3] [0, 1, 2, 3, 4, 5, 6, 7, 8] rfl rfl rfl 7 11 rfl rfl rfl) rfl rfl hl.1 rfl (lv_room (Nat.le_of_ble_eq_true rfl)) dX4_spread_80 ⟨Nat.le_of_ble_eq_true rfl, Nat.le_of_ble_eq_true rfl⟩) hP hD hK hS hA [7, 4, 5, 6, 8, 9, 0, 1, 2, 3] [] rfl rfl (by decide) (by decide) (fun u25 H locs w26 hP hD hK hS => ?_)
            have hP : va_P D vwCl [(g, .inr (11, [.int n, .ref a1, .ref a2, .ref a3, .ref a4, .ref a5, .ref a6, .ref a7, .ref a8, .ref a9, .ref a10, .ref a11, .int (nI u25.2.2.2.1), .int (nI u25.2.2.2.2)])), (a6, .inl (cw, 144, .inl (fL u25.1))), (a10, .inl (cq, 144, .inl (fL u25.2.1))), (a11, .inl (cz, 144, .inl (fL u25.2.2.1))), (a3, .inl (ck, 144, .inl okF)), (a5, .inl (csk, 144, .inl okF)), (a1, .inl (cg, 144, .inl (fun _ => 0))), (a2, .inl (ch, 144, .inl (fun _ => 0))), (a4, .inl (csg, 144, .inl (fun _ => 0))), (a9, .inl (cb, 576, .inl beF))] H := hP
            have hD : va_D A [(g, .inr (11, [.int n, .ref a1, .ref a2, .ref a3, .ref a4, .ref a5, .ref a6, .ref a7, .ref a8, .ref a9, .ref a10, .ref a11, .int (nI u25.2.2.2.1), .int (nI u25.2.2.2.2)])), (a6, .inl (cw, 144, .inl (fL u25.1))), (a10, .inl (cq, 144, .inl (fL u25.2.1))), (a11, .inl (cz, 144, .inl (fL u25.2.2.1))), (a3, .inl (ck, 144, .inl okF)), (a5, .inl (csk, 144, .inl okF)), (a1, .inl (cg, 144, .inl (fun _ => 0))), (a2, .inl (ch, 144, .inl (fun _ => 0))), (a4, .inl (csg, 144, .inl (fun _ => 0))), (a9, .inl (cb, 576, .inl beF))] := hD
            have hK : va_K D vwCl [(cw, .int), (cq, .int), (cz, .boolean), (ck, .char), (csk, .char), (cg, .int), (ch, .int), (csg, .int), (cb, .int)] s := hK
            obtain ⟨x28, e28⟩ : ∃ z : Int32, z = nI i + 1 := ⟨_, rfl⟩
            refine lv_iinc (v := x28) (lv' := [(5, .int x28), (6, .int (nI (st.2.1.getD st.2.2.2.1 0))), (0, .ref g), (1, .int (nI o)), (2, .int mp), (3, .int bk), (4, .int (nI far))]) hx hb dX4_spread_83 hl (k := 1) rfl (by rw [e28]; rfl) (by decide) rfl (fun ls hl => ?_)
            obtain rfl : x28 = nI (i + 1) := e28.trans (nI_add i 1)
            refine lv_goto (tgt := 28) hx hb dX4_spread_86 (by decide) ?_
            exact ih  (i + 1) u25 _ _ _ (by omega) (by rw [w26]; exact okS_sf (by omega) 4 oku) (by rw [w26, show sfM 4 (u10.1, u10.2.1, u10.2.2.1, u10.2.2.2.1, u10.2.2.2.2) (st.2.1.getD st.2.2.2.1 0) = _ from (turn_yes (far := far) hu (by omega)).symm]; exact hM2) (lv_sub hl [0, 2, 3, 4, 5, 6] rfl) (hP.sub [0, 1, 2, 3, 4, 5, 6, 7, 8, 9] rfl) (hD.sub [0, 1, 2, 3, 4, 5, 6, 7, 8, 9] (by decide) rfl) hS
  exact lp 20736 0 u3 _ _ _ rfl (by rw [w4]; exact okS_re (okS_start hq) ho) (by rw [w4]; rfl) (lv_sub hl [0, 1, 2, 3, 4, 5] rfl) (hP.sub [6, 7, 8, 9, 0, 1, 2, 3, 4, 5] rfl) (hD.sub [6, 7, 8, 9, 0, 1, 2, 3, 4, 5] (by decide) rfl) hS
