theorem dX9_canEnter_0 : decode cX9_canEnter 0 = .ok (.iload_n 2, 1) := by decide +kernel
theorem dX9_canEnter_1 : decode cX9_canEnter 1 = .ok (.ifCond .eq 22, 3) := by decide +kernel
theorem dX9_canEnter_23 : decode cX9_canEnter 23 = .ok (.aload_n 0, 1) := by decide +kernel
theorem dX9_canEnter_24 : decode cX9_canEnter 24 = .ok (.getfield 29, 3) := by decide +kernel
theorem dX9_canEnter_27 : decode cX9_canEnter 27 = .ok (.iload_n 1, 1) := by decide +kernel
theorem dX9_canEnter_28 : decode cX9_canEnter 28 = .ok (.caload, 1) := by decide +kernel
theorem dX9_canEnter_29 : decode cX9_canEnter 29 = .ok (.bipush 119, 2) := by decide +kernel
theorem dX9_canEnter_31 : decode cX9_canEnter 31 = .ok (.if_icmp .eq 7, 3) := by decide +kernel
theorem dX9_canEnter_34 : decode cX9_canEnter 34 = .ok (.iconst 1, 1) := by decide +kernel
theorem dX9_canEnter_35 : decode cX9_canEnter 35 = .ok (.goto 4, 3) := by decide +kernel
theorem dX9_canEnter_39 : decode cX9_canEnter 39 = .ok (.ireturn, 1) := by decide +kernel
theorem dX9_canEnter_4 : decode cX9_canEnter 4 = .ok (.aload_n 0, 1) := by decide +kernel
theorem dX9_canEnter_5 : decode cX9_canEnter 5 = .ok (.getfield 33, 3) := by decide +kernel
theorem dX9_canEnter_8 : decode cX9_canEnter 8 = .ok (.iload_n 1, 1) := by decide +kernel
theorem dX9_canEnter_9 : decode cX9_canEnter 9 = .ok (.caload, 1) := by decide +kernel
theorem dX9_canEnter_10 : decode cX9_canEnter 10 = .ok (.bipush 46, 2) := by decide +kernel
theorem dX9_canEnter_12 : decode cX9_canEnter 12 = .ok (.if_icmp .ne 7, 3) := by decide +kernel
theorem dX9_canEnter_15 : decode cX9_canEnter 15 = .ok (.iconst 1, 1) := by decide +kernel
theorem dX9_canEnter_16 : decode cX9_canEnter 16 = .ok (.goto 23, 3) := by decide +kernel
theorem dX9_step_0 : decode cX9_step 0 = .ok (.bipush 10, 2) := by decide +kernel
theorem dX9_step_2 : decode cX9_step 2 = .ok (.iconst 5, 1) := by decide +kernel
theorem dX9_step_3 : decode cX9_step 3 = .ok (.iload_n 3, 1) := by decide +kernel
theorem dX9_step_4 : decode cX9_step 4 = .ok (.ifCond .eq 12, 3) := by decide +kernel
theorem dX9_step_16 : decode cX9_step 16 = .ok (.aload_n 0, 1) := by decide +kernel
theorem dX9_step_17 : decode cX9_step 17 = .ok (.getfield 19, 3) := by decide +kernel
theorem dX9_step_20 : decode cX9_step 20 = .ok (.iload_n 2, 1) := by decide +kernel
theorem dX9_step_21 : decode cX9_step 21 = .ok (.iaload, 1) := by decide +kernel
theorem dX9_step_22 : decode cX9_step 22 = .ok (.imul, 1) := by decide +kernel
theorem dX9_step_23 : decode cX9_step 23 = .ok (.iadd, 1) := by decide +kernel
theorem dX9_step_24 : decode cX9_step 24 = .ok (.bipush 6, 2) := by decide +kernel
theorem dX9_step_26 : decode cX9_step 26 = .ok (.iconst 0, 1) := by decide +kernel
theorem dX9_step_27 : decode cX9_step 27 = .ok (.aload_n 0, 1) := by decide +kernel
theorem dX9_step_28 : decode cX9_step 28 = .ok (.getfield 23, 3) := by decide +kernel
theorem dX9_step_31 : decode cX9_step 31 = .ok (.iload_n 2, 1) := by decide +kernel
theorem dX9_step_32 : decode cX9_step 32 = .ok (.iaload, 1) := by decide +kernel
theorem dX9_step_33 : decode cX9_step 33 = .ok (.aload_n 0, 1) := by decide +kernel
theorem dX9_step_34 : decode cX9_step 34 = .ok (.getfield 23, 3) := by decide +kernel
theorem dX9_step_37 : decode cX9_step 37 = .ok (.iload_n 1, 1) := by decide +kernel
theorem dX9_step_38 : decode cX9_step 38 = .ok (.iaload, 1) := by decide +kernel
theorem dX9_step_39 : decode cX9_step 39 = .ok (.isub, 1) := by decide +kernel
theorem dX9_step_40 : decode cX9_step 40 = .ok (.invokestatic 105, 3) := by decide +kernel
theorem dX9_step_43 : decode cX9_step 43 = .ok (.imul, 1) := by decide +kernel
theorem dX9_step_44 : decode cX9_step 44 = .ok (.iadd, 1) := by decide +kernel
theorem dX9_step_45 : decode cX9_step 45 = .ok (.ireturn, 1) := by decide +kernel
theorem dX9_step_7 : decode cX9_step 7 = .ok (.aload_n 0, 1) := by decide +kernel
theorem dX9_step_8 : decode cX9_step 8 = .ok (.getfield 26, 3) := by decide +kernel
theorem dX9_step_11 : decode cX9_step 11 = .ok (.iload_n 2, 1) := by decide +kernel
theorem dX9_step_12 : decode cX9_step 12 = .ok (.iaload, 1) := by decide +kernel
theorem dX9_step_13 : decode cX9_step 13 = .ok (.goto 9, 3) := by decide +kernel
theorem dX9_areBeside_0 : decode cX9_areBeside 0 = .ok (.iload_n 1, 1) := by decide +kernel
theorem dX9_areBeside_1 : decode cX9_areBeside 1 = .ok (.aload_n 0, 1) := by decide +kernel
theorem dX9_areBeside_2 : decode cX9_areBeside 2 = .ok (.getfield 7, 3) := by decide +kernel
theorem dX9_areBeside_5 : decode cX9_areBeside 5 = .ok (.irem, 1) := by decide +kernel
theorem dX9_areBeside_6 : decode cX9_areBeside 6 = .ok (.iload_n 2, 1) := by decide +kernel
theorem dX9_areBeside_7 : decode cX9_areBeside 7 = .ok (.aload_n 0, 1) := by decide +kernel
theorem dX9_areBeside_8 : decode cX9_areBeside 8 = .ok (.getfield 7, 3) := by decide +kernel
theorem dX9_areBeside_11 : decode cX9_areBeside 11 = .ok (.irem, 1) := by decide +kernel
theorem dX9_areBeside_12 : decode cX9_areBeside 12 = .ok (.isub, 1) := by decide +kernel
theorem dX9_areBeside_13 : decode cX9_areBeside 13 = .ok (.invokestatic 100, 3) := by decide +kernel
theorem dX9_areBeside_16 : decode cX9_areBeside 16 = .ok (.iload_n 1, 1) := by decide +kernel
theorem dX9_areBeside_17 : decode cX9_areBeside 17 = .ok (.aload_n 0, 1) := by decide +kernel
theorem dX9_areBeside_18 : decode cX9_areBeside 18 = .ok (.getfield 7, 3) := by decide +kernel
theorem dX9_areBeside_21 : decode cX9_areBeside 21 = .ok (.idiv, 1) := by decide +kernel
theorem dX9_areBeside_22 : decode cX9_areBeside 22 = .ok (.iload_n 2, 1) := by decide +kernel
theorem dX9_areBeside_23 : decode cX9_areBeside 23 = .ok (.aload_n 0, 1) := by decide +kernel
theorem dX9_areBeside_24 : decode cX9_areBeside 24 = .ok (.getfield 7, 3) := by decide +kernel
theorem dX9_areBeside_27 : decode cX9_areBeside 27 = .ok (.idiv, 1) := by decide +kernel
theorem dX9_areBeside_28 : decode cX9_areBeside 28 = .ok (.isub, 1) := by decide +kernel
theorem dX9_areBeside_29 : decode cX9_areBeside 29 = .ok (.invokestatic 100, 3) := by decide +kernel
theorem dX9_areBeside_32 : decode cX9_areBeside 32 = .ok (.iadd, 1) := by decide +kernel
theorem dX9_areBeside_33 : decode cX9_areBeside 33 = .ok (.iconst 1, 1) := by decide +kernel
theorem dX9_areBeside_34 : decode cX9_areBeside 34 = .ok (.if_icmp .ne 7, 3) := by decide +kernel
theorem dX9_areBeside_41 : decode cX9_areBeside 41 = .ok (.iconst 0, 1) := by decide +kernel
theorem dX9_areBeside_42 : decode cX9_areBeside 42 = .ok (.ireturn, 1) := by decide +kernel
theorem dX9_areBeside_37 : decode cX9_areBeside 37 = .ok (.iconst 1, 1) := by decide +kernel
theorem dX9_areBeside_38 : decode cX9_areBeside 38 = .ok (.goto 4, 3) := by decide +kernel
theorem dX9_beside_0 : decode cX9_beside 0 = .ok (.iload_n 2, 1) := by decide +kernel
theorem dX9_beside_1 : decode cX9_beside 1 = .ok (.ifCond .ne 12, 3) := by decide +kernel
theorem dX9_beside_4 : decode cX9_beside 4 = .ok (.iload_n 1, 1) := by decide +kernel
theorem dX9_beside_5 : decode cX9_beside 5 = .ok (.aload_n 0, 1) := by decide +kernel
theorem dX9_beside_6 : decode cX9_beside 6 = .ok (.getfield 7, 3) := by decide +kernel
theorem dX9_beside_9 : decode cX9_beside 9 = .ok (.isub, 1) := by decide +kernel
theorem dX9_beside_10 : decode cX9_beside 10 = .ok (.goto 31, 3) := by decide +kernel
theorem dX9_beside_41 : decode cX9_beside 41 = .ok (.istore_n 3, 1) := by decide +kernel
theorem dX9_beside_42 : decode cX9_beside 42 = .ok (.aload_n 0, 1) := by decide +kernel
theorem dX9_beside_43 : decode cX9_beside 43 = .ok (.iload_n 3, 1) := by decide +kernel
theorem dX9_beside_44 : decode cX9_beside 44 = .ok (.invokevirtual 83, 3) := by decide +kernel
theorem dX9_beside_47 : decode cX9_beside 47 = .ok (.ifCond .eq 16, 3) := by decide +kernel
theorem dX9_beside_63 : decode cX9_beside 63 = .ok (.iconst (-1), 1) := by decide +kernel
theorem dX9_beside_64 : decode cX9_beside 64 = .ok (.ireturn, 1) := by decide +kernel
theorem dX9_beside_50 : decode cX9_beside 50 = .ok (.aload_n 0, 1) := by decide +kernel
theorem dX9_beside_51 : decode cX9_beside 51 = .ok (.iload_n 1, 1) := by decide +kernel
theorem dX9_beside_52 : decode cX9_beside 52 = .ok (.iload_n 3, 1) := by decide +kernel
theorem dX9_beside_53 : decode cX9_beside 53 = .ok (.invokevirtual 109, 3) := by decide +kernel
theorem dX9_beside_56 : decode cX9_beside 56 = .ok (.ifCond .eq 7, 3) := by decide +kernel
theorem dX9_beside_59 : decode cX9_beside 59 = .ok (.iload_n 3, 1) := by decide +kernel
theorem dX9_beside_60 : decode cX9_beside 60 = .ok (.goto 4, 3) := by decide +kernel
theorem dX9_beside_13 : decode cX9_beside 13 = .ok (.iload_n 2, 1) := by decide +kernel
theorem dX9_beside_14 : decode cX9_beside 14 = .ok (.iconst 1, 1) := by decide +kernel
theorem dX9_beside_15 : decode cX9_beside 15 = .ok (.if_icmp .ne 9, 3) := by decide +kernel
theorem dX9_beside_18 : decode cX9_beside 18 = .ok (.iload_n 1, 1) := by decide +kernel
theorem dX9_beside_19 : decode cX9_beside 19 = .ok (.iconst 1, 1) := by decide +kernel
theorem dX9_beside_20 : decode cX9_beside 20 = .ok (.isub, 1) := by decide +kernel
theorem dX9_beside_21 : decode cX9_beside 21 = .ok (.goto 20, 3) := by decide +kernel
theorem dX9_beside_24 : decode cX9_beside 24 = .ok (.iload_n 2, 1) := by decide +kernel
theorem dX9_beside_25 : decode cX9_beside 25 = .ok (.iconst 2, 1) := by decide +kernel
theorem dX9_beside_26 : decode cX9_beside 26 = .ok (.if_icmp .ne 9, 3) := by decide +kernel
theorem dX9_beside_29 : decode cX9_beside 29 = .ok (.iload_n 1, 1) := by decide +kernel
theorem dX9_beside_30 : decode cX9_beside 30 = .ok (.iconst 1, 1) := by decide +kernel
theorem dX9_beside_31 : decode cX9_beside 31 = .ok (.iadd, 1) := by decide +kernel
theorem dX9_beside_32 : decode cX9_beside 32 = .ok (.goto 9, 3) := by decide +kernel
theorem dX9_beside_35 : decode cX9_beside 35 = .ok (.iload_n 1, 1) := by decide +kernel
theorem dX9_beside_36 : decode cX9_beside 36 = .ok (.aload_n 0, 1) := by decide +kernel
theorem dX9_beside_37 : decode cX9_beside 37 = .ok (.getfield 7, 3) := by decide +kernel
theorem dX9_beside_40 : decode cX9_beside 40 = .ok (.iadd, 1) := by decide +kernel
theorem dX9_costsTo_0 : decode cX9_costsTo 0 = .ok (.aload_n 0, 1) := by decide +kernel
theorem dX9_costsTo_1 : decode cX9_costsTo 1 = .ok (.getfield 19, 3) := by decide +kernel
theorem dX9_costsTo_4 : decode cX9_costsTo 4 = .ok (.arraylength, 1) := by decide +kernel
theorem dX9_costsTo_5 : decode cX9_costsTo 5 = .ok (.newarray .int, 2) := by decide +kernel
theorem dX9_costsTo_7 : decode cX9_costsTo 7 = .ok (.astore_n 3, 1) := by decide +kernel
theorem dX9_costsTo_8 : decode cX9_costsTo 8 = .ok (.aload_n 3, 1) := by decide +kernel
theorem dX9_costsTo_9 : decode cX9_costsTo 9 = .ok (.ldc 113, 2) := by decide +kernel
theorem dX9_costsTo_11 : decode cX9_costsTo 11 = .ok (.invokestatic 114, 3) := by decide +kernel
theorem dX9_costsTo_14 : decode cX9_costsTo 14 = .ok (.aload_n 3, 1) := by decide +kernel
theorem dX9_costsTo_15 : decode cX9_costsTo 15 = .ok (.iload_n 1, 1) := by decide +kernel
theorem dX9_costsTo_16 : decode cX9_costsTo 16 = .ok (.iconst 0, 1) := by decide +kernel
theorem dX9_costsTo_17 : decode cX9_costsTo 17 = .ok (.iastore, 1) := by decide +kernel
theorem dX9_costsTo_18 : decode cX9_costsTo 18 = .ok (.iconst 1, 1) := by decide +kernel
theorem dX9_costsTo_19 : decode cX9_costsTo 19 = .ok (.istore 4, 2) := by decide +kernel
theorem dX9_costsTo_21 : decode cX9_costsTo 21 = .ok (.iload 4, 2) := by decide +kernel
theorem dX9_costsTo_23 : decode cX9_costsTo 23 = .ok (.ifCond .eq 115, 3) := by decide +kernel
theorem dX9_costsTo_138 : decode cX9_costsTo 138 = .ok (.aload_n 3, 1) := by decide +kernel
theorem dX9_costsTo_139 : decode cX9_costsTo 139 = .ok (.areturn, 1) := by decide +kernel
theorem dX9_costsTo_26 : decode cX9_costsTo 26 = .ok (.iconst 0, 1) := by decide +kernel
theorem dX9_costsTo_27 : decode cX9_costsTo 27 = .ok (.istore 4, 2) := by decide +kernel
theorem dX9_costsTo_29 : decode cX9_costsTo 29 = .ok (.iconst 0, 1) := by decide +kernel
theorem dX9_costsTo_30 : decode cX9_costsTo 30 = .ok (.istore 5, 2) := by decide +kernel
theorem dX9_costsTo_32 : decode cX9_costsTo 32 = .ok (.iload 5, 2) := by decide +kernel
theorem dX9_costsTo_34 : decode cX9_costsTo 34 = .ok (.aload_n 3, 1) := by decide +kernel
theorem dX9_costsTo_35 : decode cX9_costsTo 35 = .ok (.arraylength, 1) := by decide +kernel
theorem dX9_costsTo_36 : decode cX9_costsTo 36 = .ok (.if_icmp .ge 99, 3) := by decide +kernel
theorem dX9_costsTo_135 : decode cX9_costsTo 135 = .ok (.goto (-114), 3) := by decide +kernel
theorem dX9_costsTo_39 : decode cX9_costsTo 39 = .ok (.iconst 0, 1) := by decide +kernel
theorem dX9_costsTo_40 : decode cX9_costsTo 40 = .ok (.istore 6, 2) := by decide +kernel
theorem dX9_costsTo_42 : decode cX9_costsTo 42 = .ok (.iload 6, 2) := by decide +kernel
theorem dX9_costsTo_44 : decode cX9_costsTo 44 = .ok (.iconst 4, 1) := by decide +kernel
theorem dX9_costsTo_45 : decode cX9_costsTo 45 = .ok (.if_icmp .ge 84, 3) := by decide +kernel
theorem dX9_costsTo_129 : decode cX9_costsTo 129 = .ok (.iinc 5 1, 3) := by decide +kernel
theorem dX9_costsTo_132 : decode cX9_costsTo 132 = .ok (.goto (-100), 3) := by decide +kernel
theorem dX9_costsTo_48 : decode cX9_costsTo 48 = .ok (.aload_n 0, 1) := by decide +kernel
theorem dX9_costsTo_49 : decode cX9_costsTo 49 = .ok (.iload 5, 2) := by decide +kernel
theorem dX9_costsTo_51 : decode cX9_costsTo 51 = .ok (.iload 6, 2) := by decide +kernel
theorem dX9_costsTo_53 : decode cX9_costsTo 53 = .ok (.invokevirtual 117, 3) := by decide +kernel
theorem dX9_costsTo_56 : decode cX9_costsTo 56 = .ok (.istore 7, 2) := by decide +kernel
theorem dX9_costsTo_58 : decode cX9_costsTo 58 = .ok (.iload 7, 2) := by decide +kernel
theorem dX9_costsTo_60 : decode cX9_costsTo 60 = .ok (.iconst (-1), 1) := by decide +kernel
theorem dX9_costsTo_61 : decode cX9_costsTo 61 = .ok (.if_icmp .eq 62, 3) := by decide +kernel
theorem dX9_costsTo_123 : decode cX9_costsTo 123 = .ok (.iinc 6 1, 3) := by decide +kernel
theorem dX9_costsTo_126 : decode cX9_costsTo 126 = .ok (.goto (-84), 3) := by decide +kernel
theorem dX9_costsTo_64 : decode cX9_costsTo 64 = .ok (.aload_n 3, 1) := by decide +kernel
theorem dX9_costsTo_65 : decode cX9_costsTo 65 = .ok (.iload 7, 2) := by decide +kernel
theorem dX9_costsTo_67 : decode cX9_costsTo 67 = .ok (.iaload, 1) := by decide +kernel
theorem dX9_costsTo_68 : decode cX9_costsTo 68 = .ok (.ldc 113, 2) := by decide +kernel
theorem dX9_costsTo_70 : decode cX9_costsTo 70 = .ok (.if_icmp .eq 53, 3) := by decide +kernel
theorem dX9_costsTo_73 : decode cX9_costsTo 73 = .ok (.aload_n 0, 1) := by decide +kernel
theorem dX9_costsTo_74 : decode cX9_costsTo 74 = .ok (.iload 7, 2) := by decide +kernel
theorem dX9_costsTo_76 : decode cX9_costsTo 76 = .ok (.iload_n 2, 1) := by decide +kernel
theorem dX9_costsTo_77 : decode cX9_costsTo 77 = .ok (.invokevirtual 120, 3) := by decide +kernel
theorem dX9_costsTo_80 : decode cX9_costsTo 80 = .ok (.ifCond .ne 6, 3) := by decide +kernel
theorem dX9_costsTo_86 : decode cX9_costsTo 86 = .ok (.aload_n 3, 1) := by decide +kernel
theorem dX9_costsTo_87 : decode cX9_costsTo 87 = .ok (.iload 7, 2) := by decide +kernel
theorem dX9_costsTo_89 : decode cX9_costsTo 89 = .ok (.iaload, 1) := by decide +kernel
theorem dX9_costsTo_90 : decode cX9_costsTo 90 = .ok (.aload_n 0, 1) := by decide +kernel
theorem dX9_costsTo_91 : decode cX9_costsTo 91 = .ok (.iload 5, 2) := by decide +kernel
theorem dX9_costsTo_93 : decode cX9_costsTo 93 = .ok (.iload 7, 2) := by decide +kernel
theorem dX9_costsTo_95 : decode cX9_costsTo 95 = .ok (.iload_n 2, 1) := by decide +kernel
theorem dX9_costsTo_96 : decode cX9_costsTo 96 = .ok (.invokevirtual 124, 3) := by decide +kernel
theorem dX9_costsTo_99 : decode cX9_costsTo 99 = .ok (.iadd, 1) := by decide +kernel
theorem dX9_costsTo_100 : decode cX9_costsTo 100 = .ok (.istore 8, 2) := by decide +kernel
theorem dX9_costsTo_102 : decode cX9_costsTo 102 = .ok (.iload 8, 2) := by decide +kernel
theorem dX9_costsTo_104 : decode cX9_costsTo 104 = .ok (.aload_n 3, 1) := by decide +kernel
theorem dX9_costsTo_105 : decode cX9_costsTo 105 = .ok (.iload 5, 2) := by decide +kernel
theorem dX9_costsTo_107 : decode cX9_costsTo 107 = .ok (.iaload, 1) := by decide +kernel
theorem dX9_costsTo_108 : decode cX9_costsTo 108 = .ok (.if_icmp .lt 6, 3) := by decide +kernel
theorem dX9_costsTo_114 : decode cX9_costsTo 114 = .ok (.aload_n 3, 1) := by decide +kernel
theorem dX9_costsTo_115 : decode cX9_costsTo 115 = .ok (.iload 5, 2) := by decide +kernel
theorem dX9_costsTo_117 : decode cX9_costsTo 117 = .ok (.iload 8, 2) := by decide +kernel
theorem dX9_costsTo_119 : decode cX9_costsTo 119 = .ok (.iastore, 1) := by decide +kernel
theorem dX9_costsTo_120 : decode cX9_costsTo 120 = .ok (.iconst 1, 1) := by decide +kernel
theorem dX9_costsTo_121 : decode cX9_costsTo 121 = .ok (.istore 4, 2) := by decide +kernel
theorem dX9_costsTo_111 : decode cX9_costsTo 111 = .ok (.goto 12, 3) := by decide +kernel
theorem dX9_costOf_0 : decode cX9_costOf 0 = .ok (.aload_n 0, 1) := by decide +kernel
theorem dX9_costOf_1 : decode cX9_costOf 1 = .ok (.iload_n 2, 1) := by decide +kernel
theorem dX9_costOf_2 : decode cX9_costOf 2 = .ok (.iload_n 3, 1) := by decide +kernel
theorem dX9_costOf_3 : decode cX9_costOf 3 = .ok (.invokevirtual 128, 3) := by decide +kernel
theorem dX9_costOf_6 : decode cX9_costOf 6 = .ok (.iload_n 1, 1) := by decide +kernel
theorem dX9_costOf_7 : decode cX9_costOf 7 = .ok (.iaload, 1) := by decide +kernel
theorem dX9_costOf_8 : decode cX9_costOf 8 = .ok (.ireturn, 1) := by decide +kernel
theorem dX9_cost_0 : decode cX9_cost 0 = .ok (.aload_n 0, 1) := by decide +kernel
theorem dX9_cost_1 : decode cX9_cost 1 = .ok (.iload_n 1, 1) := by decide +kernel
theorem dX9_cost_2 : decode cX9_cost 2 = .ok (.invokevirtual 83, 3) := by decide +kernel
theorem dX9_cost_5 : decode cX9_cost 5 = .ok (.ifCond .eq 11, 3) := by decide +kernel
theorem dX9_cost_16 : decode cX9_cost 16 = .ok (.aload_n 0, 1) := by decide +kernel
theorem dX9_cost_17 : decode cX9_cost 17 = .ok (.iconst 1, 1) := by decide +kernel
theorem dX9_cost_18 : decode cX9_cost 18 = .ok (.invokevirtual 76, 3) := by decide +kernel
theorem dX9_cost_21 : decode cX9_cost 21 = .ok (.ireturn, 1) := by decide +kernel
theorem dX9_cost_8 : decode cX9_cost 8 = .ok (.aload_n 0, 1) := by decide +kernel
theorem dX9_cost_9 : decode cX9_cost 9 = .ok (.iload_n 2, 1) := by decide +kernel
theorem dX9_cost_10 : decode cX9_cost 10 = .ok (.invokevirtual 83, 3) := by decide +kernel
theorem dX9_cost_13 : decode cX9_cost 13 = .ok (.ifCond .ne 9, 3) := by decide +kernel
theorem dX9_cost_22 : decode cX9_cost 22 = .ok (.aload_n 0, 1) := by decide +kernel
theorem dX9_cost_23 : decode cX9_cost 23 = .ok (.iload_n 1, 1) := by decide +kernel
theorem dX9_cost_24 : decode cX9_cost 24 = .ok (.iload_n 2, 1) := by decide +kernel
theorem dX9_cost_25 : decode cX9_cost 25 = .ok (.iload_n 3, 1) := by decide +kernel
theorem dX9_cost_26 : decode cX9_cost 26 = .ok (.invokevirtual 132, 3) := by decide +kernel
theorem dX9_cost_29 : decode cX9_cost 29 = .ok (.istore 4, 2) := by decide +kernel
theorem dX9_cost_31 : decode cX9_cost 31 = .ok (.iload 4, 2) := by decide +kernel
theorem dX9_cost_33 : decode cX9_cost 33 = .ok (.ldc 113, 2) := by decide +kernel
theorem dX9_cost_35 : decode cX9_cost 35 = .ok (.if_icmp .ne 11, 3) := by decide +kernel
theorem dX9_cost_46 : decode cX9_cost 46 = .ok (.aload_n 0, 1) := by decide +kernel
theorem dX9_cost_47 : decode cX9_cost 47 = .ok (.iload 4, 2) := by decide +kernel
theorem dX9_cost_49 : decode cX9_cost 49 = .ok (.invokevirtual 80, 3) := by decide +kernel
theorem dX9_cost_52 : decode cX9_cost 52 = .ok (.ireturn, 1) := by decide +kernel
/-! the reference's ways -/
theorem fK5_at {e : Nat} (h : e ≤ 24) : fK5 (nI e).toNatClampNeg = 46 := by
  rw [nI_clamp (by omega)]
  exact if_pos (by omega)
theorem bsF_0 {ce : Nat} (h : ce ≤ 24) : bsF (nI ce) 0 = optI (beM ce 0) := bsF_all ce (by omega) 0 (by decide)
theorem bsF_1 {ce : Nat} (h : ce ≤ 24) : bsF (nI ce) 1 = optI (beM ce 1) := bsF_all ce (by omega) 1 (by decide)
theorem bsF_2 {ce : Nat} (h : ce ≤ 24) : bsF (nI ce) 2 = optI (beM ce 2) := bsF_all ce (by omega) 2 (by decide)
theorem bsF_3 {ce : Nat} (h : ce ≤ 24) : bsF (nI ce) 3 = optI (beM ce 3) := bsF_all ce (by omega) 3 (by decide)
theorem dis_sym (a b : Nat) : dis a b = dis b a := by
  unfold dis
  split <;> split <;> split <;> split <;> omega
def us_c_mcan : List Cond := .code yX9_canEnter cX9_canEnter 3 (some .boolean) :: (([.fieldLink RX9 29 "ControlWoodModel" "kind" "[C", .fieldLink RX9 33 "ControlWoodModel" "shownKind" "[C"] : List Cond) ++ (wsX90 ++ ([])))
theorem gw_c_mcan : ∀ w ∈ us_c_mcan, goodWord w = true := gw_cons rfl (gw_app (by decide +kernel) (gw_app gwf_X9 (fun _ h => nomatch h)))
set_option maxHeartbeats 4000000 in
set_option maxRecDepth 100000 in
/-- the reference: canEnter -/
theorem c_mcan (l : Launch) (hst : l.stackTraces = false) (D : va_G) (mo : Nat) (th : Int32) (m1 : Nat) (m2 : Nat) (m3 : Nat) (m4 : Nat) (m5 : Nat) (l1 : Nat) (l2 : Nat) (l3 : Nat) (l4 : Nat) (cm4 : ClassId) (cm5 : ClassId) (ce : Nat) (mp : Int32) (sz : Nat) (hc : ce ≤ 24) : Met l yX9_canEnter us_c_mcan { frames := 0, cells := 0, slots := 0, locals := 0 } (pw D [.ref mo, .int (nI ce), .int mp] [(cm4, .char), (cm5, .char)] [(mo, .inr (16, [.int 5, .int 5, .int th, .ref m1, .ref m2, .ref m3, .ref m4, .ref m5, .ref l1, .ref l2, .ref l3, .int (-1), .ref l4])), (m4, .inl (cm4, 25, .inl fK5)), (m5, .inl (cm5, 25, .inl fK5))] sz) (va_Qi (fun (r : Int32) (_ : Unit) => r = 1) (qb D (va_A [(mo, .inr (16, [.int 5, .int 5, .int th, .ref m1, .ref m2, .ref m3, .ref m4, .ref m5, .ref l1, .ref l2, .ref l3, .int (-1), .ref l4])), (m4, .inl (cm4, 25, .inl fK5)), (m5, .inl (cm5, 25, .inl fK5))] sz) (fun _ : Unit => [(mo, .inr (16, [.int 5, .int 5, .int th, .ref m1, .ref m2, .ref m3, .ref m4, .ref m5, .ref l1, .ref l2, .ref l3, .int (-1), .ref l4])), (m4, .inl (cm4, 25, .inl fK5)), (m5, .inl (cm5, 25, .inl fK5))]) (fun _ : Unit => ([] : List (ClassId × FieldType)))) (va_A [(mo, .inr (16, [.int 5, .int 5, .int th, .ref m1, .ref m2, .ref m3, .ref m4, .ref m5, .ref l1, .ref l2, .ref l3, .int (-1), .ref l4])), (m4, .inl (cm4, 25, .inl fK5)), (m5, .inl (cm5, 25, .inl fK5))] sz)) 0 0 (va_A [(mo, .inr (16, [.int 5, .int 5, .int th, .ref m1, .ref m2, .ref m3, .ref m4, .ref m5, .ref l1, .ref l2, .ref l3, .int (-1), .ref l4])), (m4, .inl (cm4, 25, .inl fK5)), (m5, .inl (cm5, 25, .inl fK5))] sz) := by
  refine op_M (Qc := fun A => (va_Qi (fun (r : Int32) (_ : Unit) => r = 1) (qb D A (fun _ : Unit => [(mo, .inr (16, [.int 5, .int 5, .int th, .ref m1, .ref m2, .ref m3, .ref m4, .ref m5, .ref l1, .ref l2, .ref l3, .int (-1), .ref l4])), (m4, .inl (cm4, 25, .inl fK5)), (m5, .inl (cm5, 25, .inl fK5))]) (fun _ : Unit => ([] : List (ClassId × FieldType)))) A)) (by decide +kernel) rfl (Nat.le_of_ble_eq_true rfl) ?_
  intro p e s m args below meth c A ls hx hb hr hml hts hown hlocks hmn htab hA hD hS hP hK hE hsz hl
  have hown : s.vm.findClass RX9 = some m.cls := hown
  have hl : lv_has ls 3 [(0, .ref mo), (1, .int (nI ce)), (2, .int mp)] := hl
  have hw_0 := hts (.fieldLink RX9 29 "ControlWoodModel" "kind" "[C") (List.mem_cons_of_mem _ (List.mem_append_left _ (List.mem_of_getElem? (i := 0) rfl)))
  have hw_1 := hts (.fieldLink RX9 33 "ControlWoodModel" "shownKind" "[C") (List.mem_cons_of_mem _ (List.mem_append_left _ (List.mem_of_getElem? (i := 1) rfl)))
  have hb_0 : ∀ w ∈ wsX90, w ∈ us_c_mcan := fun w h => List.mem_cons_of_mem _ (List.mem_append_right _ (List.mem_append_left _ h))
  refine lv_iload_n hx hb dX9_canEnter_0 rfl (lv_at hl 2 rfl) ?_
  refine lv_if_eq (tgt := 23) hx hb dX9_canEnter_1 (by decide) (fun h1 => ?_) (fun h1 => ?_)
  · refine lv_aload_n hx hb dX9_canEnter_23 rfl (lv_at hl 0 rfl) ?_
    refine va_get (D := D) (ci := 16) (v := .ref m4) (C := RX9) (T := TX9) (N := 13) hx hb hts hb_0 hown hK hP 0 rfl rfl 6 (by decide) hw_0 (fun _ h9 => h9) rfl dX9_canEnter_24 ?_
    refine lv_iload_n hx hb dX9_canEnter_27 rfl (lv_at hl 1 rfl) ?_
    refine va_cald hx hb hK hP 1 0 rfl rfl (vp_in_nI (n := ce) (by omega) (by decide)) dX9_canEnter_28 ?_
    refine lv_topi (fun x2 e2 => ?_)
    obtain rfl : x2 = 46 := e2.trans (fK5_at (by omega))
    refine lv_bipush (v := 119) hx hb dX9_canEnter_29 (by decide) ?_
    refine lv_icmp_eq (tgt := 38) hx hb dX9_canEnter_31 (by decide) (fun h3 => absurd h3 (by decide)) (fun h3 => ?_)
    refine lv_iconst (v := 1) hx hb dX9_canEnter_34 (by decide) ?_
    refine lv_goto (tgt := 39) hx hb dX9_canEnter_35 (by decide) ?_
    exact mr_z (rfl) hx hb hr () (rfl) (hP.sub [0, 1, 2] rfl) (hK.sub [] rfl) (hD.sub [0, 1, 2] (by decide) rfl) hS (Nat.le_of_ble_eq_true rfl) (Nat.le_of_ble_eq_true rfl) hlocks dX9_canEnter_39
  · refine lv_aload_n hx hb dX9_canEnter_4 rfl (lv_at hl 0 rfl) ?_
    refine va_get (D := D) (ci := 16) (v := .ref m5) (C := RX9) (T := TX9) (N := 13) hx hb hts hb_0 hown hK hP 0 rfl rfl 7 (by decide) hw_1 (fun _ h9 => h9) rfl dX9_canEnter_5 ?_
    refine lv_iload_n hx hb dX9_canEnter_8 rfl (lv_at hl 1 rfl) ?_
    refine va_cald hx hb hK hP 2 1 rfl rfl (vp_in_nI (n := ce) (by omega) (by decide)) dX9_canEnter_9 ?_
    refine lv_topi (fun x4 e4 => ?_)
    obtain rfl : x4 = 46 := e4.trans (fK5_at (by omega))
    refine lv_bipush (v := 46) hx hb dX9_canEnter_10 (by decide) ?_
    refine lv_icmp_ne (tgt := 19) hx hb dX9_canEnter_12 (by decide) (fun h5 => absurd (by decide) h5) (fun h5 => ?_)
    refine lv_iconst (v := 1) hx hb dX9_canEnter_15 (by decide) ?_
    refine lv_goto (tgt := 39) hx hb dX9_canEnter_16 (by decide) ?_
    exact mr_z (rfl) hx hb hr () (rfl) (hP.sub [0, 1, 2] rfl) (hK.sub [] rfl) (hD.sub [0, 1, 2] (by decide) rfl) hS (Nat.le_of_ble_eq_true rfl) (Nat.le_of_ble_eq_true rfl) hlocks dX9_canEnter_39

def us_c_mstep : List Cond := .code yX9_step cX9_step 4 (some .int) :: (([.fieldLink RX9 19 "ControlWoodModel" "growth" "[I", .fieldLink RX9 23 "ControlWoodModel" "height" "[I", .methodLink RX9 105 Lib.Math.max.name, .static Lib.Math.max.name, .initialized "java/lang/Math", .code Lib.Math.max.name Lib.Math.max.code 2 (some .int), .fieldLink RX9 26 "ControlWoodModel" "shown" "[I"] : List Cond) ++ (wsX90 ++ ([])))
theorem gw_c_mstep : ∀ w ∈ us_c_mstep, goodWord w = true := gw_cons rfl (gw_app (by decide +kernel) (gw_app gwf_X9 (fun _ h => nomatch h)))
set_option maxHeartbeats 4000000 in
set_option maxRecDepth 100000 in
/-- the reference: step -/
theorem c_mstep (l : Launch) (hst : l.stackTraces = false) (D : va_G) (mo : Nat) (th : Int32) (m1 : Nat) (m2 : Nat) (m3 : Nat) (m4 : Nat) (m5 : Nat) (l1 : Nat) (l2 : Nat) (l3 : Nat) (l4 : Nat) (cm1 : ClassId) (cm2 : ClassId) (cm3 : ClassId) (ce : Nat) (cf : Nat) (mp : Int32) (sz : Nat) (hc : ce ≤ 24) (hc2 : cf ≤ 24) : Met l yX9_step us_c_mstep { frames := 1, cells := 0, slots := 0, locals := 17 } (pw D [.ref mo, .int (nI ce), .int (nI cf), .int mp] [(cm1, .int), (cm2, .int), (cm3, .int)] [(mo, .inr (16, [.int 5, .int 5, .int th, .ref m1, .ref m2, .ref m3, .ref m4, .ref m5, .ref l1, .ref l2, .ref l3, .int (-1), .ref l4])), (m1, .inl (cm1, 25, .inl (fun _ => 0))), (m2, .inl (cm2, 25, .inl (fun _ => 0))), (m3, .inl (cm3, 25, .inl (fun _ => 0)))] sz) (va_Qi (fun (r : Int32) (_ : Unit) => r = 10) (qb D (va_A [(mo, .inr (16, [.int 5, .int 5, .int th, .ref m1, .ref m2, .ref m3, .ref m4, .ref m5, .ref l1, .ref l2, .ref l3, .int (-1), .ref l4])), (m1, .inl (cm1, 25, .inl (fun _ => 0))), (m2, .inl (cm2, 25, .inl (fun _ => 0))), (m3, .inl (cm3, 25, .inl (fun _ => 0)))] sz) (fun _ : Unit => [(mo, .inr (16, [.int 5, .int 5, .int th, .ref m1, .ref m2, .ref m3, .ref m4, .ref m5, .ref l1, .ref l2, .ref l3, .int (-1), .ref l4])), (m1, .inl (cm1, 25, .inl (fun _ => 0))), (m2, .inl (cm2, 25, .inl (fun _ => 0))), (m3, .inl (cm3, 25, .inl (fun _ => 0)))]) (fun _ : Unit => ([] : List (ClassId × FieldType)))) (va_A [(mo, .inr (16, [.int 5, .int 5, .int th, .ref m1, .ref m2, .ref m3, .ref m4, .ref m5, .ref l1, .ref l2, .ref l3, .int (-1), .ref l4])), (m1, .inl (cm1, 25, .inl (fun _ => 0))), (m2, .inl (cm2, 25, .inl (fun _ => 0))), (m3, .inl (cm3, 25, .inl (fun _ => 0)))] sz)) 0 0 (va_A [(mo, .inr (16, [.int 5, .int 5, .int th, .ref m1, .ref m2, .ref m3, .ref m4, .ref m5, .ref l1, .ref l2, .ref l3, .int (-1), .ref l4])), (m1, .inl (cm1, 25, .inl (fun _ => 0))), (m2, .inl (cm2, 25, .inl (fun _ => 0))), (m3, .inl (cm3, 25, .inl (fun _ => 0)))] sz) := by
  refine op_M (Qc := fun A => (va_Qi (fun (r : Int32) (_ : Unit) => r = 10) (qb D A (fun _ : Unit => [(mo, .inr (16, [.int 5, .int 5, .int th, .ref m1, .ref m2, .ref m3, .ref m4, .ref m5, .ref l1, .ref l2, .ref l3, .int (-1), .ref l4])), (m1, .inl (cm1, 25, .inl (fun _ => 0))), (m2, .inl (cm2, 25, .inl (fun _ => 0))), (m3, .inl (cm3, 25, .inl (fun _ => 0)))]) (fun _ : Unit => ([] : List (ClassId × FieldType)))) A)) (by decide +kernel) rfl (Nat.le_of_ble_eq_true rfl) ?_
  intro p e s m args below meth c A ls hx hb hr hml hts hown hlocks hmn htab hA hD hS hP hK hE hsz hl
  have hown : s.vm.findClass RX9 = some m.cls := hown
  have hl : lv_has ls 4 [(0, .ref mo), (1, .int (nI ce)), (2, .int (nI cf)), (3, .int mp)] := hl
  have hw_0 := hts (.fieldLink RX9 19 "ControlWoodModel" "growth" "[I") (List.mem_cons_of_mem _ (List.mem_append_left _ (List.mem_of_getElem? (i := 0) rfl)))
  have hw_1 := hts (.fieldLink RX9 23 "ControlWoodModel" "height" "[I") (List.mem_cons_of_mem _ (List.mem_append_left _ (List.mem_of_getElem? (i := 1) rfl)))
  have hw_2 := hts (.methodLink RX9 105 Lib.Math.max.name) (List.mem_cons_of_mem _ (List.mem_append_left _ (List.mem_of_getElem? (i := 2) rfl)))
  have hw_3 := hts (.static Lib.Math.max.name) (List.mem_cons_of_mem _ (List.mem_append_left _ (List.mem_of_getElem? (i := 3) rfl)))
  have hw_4 := hts (.initialized "java/lang/Math") (List.mem_cons_of_mem _ (List.mem_append_left _ (List.mem_of_getElem? (i := 4) rfl)))
  have hw_5 := hts (.code Lib.Math.max.name Lib.Math.max.code 2 (some .int)) (List.mem_cons_of_mem _ (List.mem_append_left _ (List.mem_of_getElem? (i := 5) rfl)))
  have hw_6 := hts (.fieldLink RX9 26 "ControlWoodModel" "shown" "[I") (List.mem_cons_of_mem _ (List.mem_append_left _ (List.mem_of_getElem? (i := 6) rfl)))
  have hb_0 : ∀ w ∈ wsX90, w ∈ us_c_mstep := fun w h => List.mem_cons_of_mem _ (List.mem_append_right _ (List.mem_append_left _ h))
  refine lv_bipush (v := 10) hx hb dX9_step_0 (by decide) ?_
  refine lv_iconst (v := 5) hx hb dX9_step_2 (by decide) ?_
  refine lv_iload_n hx hb dX9_step_3 rfl (lv_at hl 3 rfl) ?_
  refine lv_if_eq (tgt := 16) hx hb dX9_step_4 (by decide) (fun h1 => ?_) (fun h1 => ?_)
  · refine lv_aload_n hx hb dX9_step_16 rfl (lv_at hl 0 rfl) ?_
    refine va_get (D := D) (ci := 16) (v := .ref m1) (C := RX9) (T := TX9) (N := 13) hx hb hts hb_0 hown hK hP 0 rfl rfl 3 (by decide) hw_0 (fun _ h9 => h9) rfl dX9_step_17 ?_
    refine lv_iload_n hx hb dX9_step_20 rfl (lv_at hl 2 rfl) ?_
    refine va_iald hx hb hK hP 1 0 rfl rfl (vp_in_nI (n := cf) (by omega) (by decide)) dX9_step_21 ?_
    refine lv_topi (fun x2 e2 => ?_)
    obtain rfl : x2 = 0 := e2
    refine lv_imul hx hb dX9_step_22 ?_
    refine lv_topi (fun x3 e3 => ?_)
    obtain rfl : x3 = 0 := e3.trans (by decide)
    refine lv_iadd hx hb dX9_step_23 ?_
    refine lv_topi (fun x4 e4 => ?_)
    obtain rfl : x4 = 10 := e4.trans (by decide)
    refine lv_bipush (v := 6) hx hb dX9_step_24 (by decide) ?_
    refine lv_iconst (v := 0) hx hb dX9_step_26 (by decide) ?_
    refine lv_aload_n hx hb dX9_step_27 rfl (lv_at hl 0 rfl) ?_
    refine va_get (D := D) (ci := 16) (v := .ref m2) (C := RX9) (T := TX9) (N := 13) hx hb hts hb_0 hown hK hP 0 rfl rfl 4 (by decide) hw_1 (fun _ h9 => h9) rfl dX9_step_28 ?_
    refine lv_iload_n hx hb dX9_step_31 rfl (lv_at hl 2 rfl) ?_
    refine va_iald hx hb hK hP 2 1 rfl rfl (vp_in_nI (n := cf) (by omega) (by decide)) dX9_step_32 ?_
    refine lv_topi (fun x5 e5 => ?_)
    obtain rfl : x5 = 0 := e5
    refine lv_aload_n hx hb dX9_step_33 rfl (lv_at hl 0 rfl) ?_
    refine va_get (D := D) (ci := 16) (v := .ref m2) (C := RX9) (T := TX9) (N := 13) hx hb hts hb_0 hown hK hP 0 rfl rfl 4 (by decide) hw_1 (fun _ h9 => h9) rfl dX9_step_34 ?_
    refine lv_iload_n hx hb dX9_step_37 rfl (lv_at hl 1 rfl) ?_
    refine va_iald hx hb hK hP 2 1 rfl rfl (vp_in_nI (n := ce) (by omega) (by decide)) dX9_step_38 ?_
    refine lv_topi (fun x6 e6 => ?_)
    obtain rfl : x6 = 0 := e6
    refine lv_isub hx hb dX9_step_39 ?_
    refine lv_topi (fun x7 e7 => ?_)
    obtain rfl : x7 = 0 := e7.trans (by decide)
    refine va_mmax hx hb (by rw [hml]; exact hl.1.symm) hown hw_2 hw_3 hw_4 hw_5 (Nat.le_of_ble_eq_true rfl) (Nat.le_of_ble_eq_true rfl) (Nat.le_of_ble_eq_true rfl) (Nat.le_of_ble_eq_true rfl) dX9_step_40 ?_
    refine lv_topi (fun x8 e8 => ?_)
    obtain rfl : x8 = 0 := e8.trans (by decide)
    refine lv_imul hx hb dX9_step_43 ?_
    refine lv_topi (fun x9 e9 => ?_)
    obtain rfl : x9 = 0 := e9.trans (by decide)
    refine lv_iadd hx hb dX9_step_44 ?_
    refine lv_topi (fun x10 e10 => ?_)
    obtain rfl : x10 = 10 := e10.trans (by decide)
    exact mr_i hx hb hr () (rfl) (hP.sub [0, 1, 2, 3] rfl) (hK.sub [] rfl) (hD.sub [0, 1, 2, 3] (by decide) rfl) hS (Nat.le_of_ble_eq_true rfl) (Nat.le_of_ble_eq_true rfl) hlocks dX9_step_45
  · refine lv_aload_n hx hb dX9_step_7 rfl (lv_at hl 0 rfl) ?_
    refine va_get (D := D) (ci := 16) (v := .ref m3) (C := RX9) (T := TX9) (N := 13) hx hb hts hb_0 hown hK hP 0 rfl rfl 5 (by decide) hw_6 (fun _ h9 => h9) rfl dX9_step_8 ?_
    refine lv_iload_n hx hb dX9_step_11 rfl (lv_at hl 2 rfl) ?_
    refine va_iald hx hb hK hP 3 2 rfl rfl (vp_in_nI (n := cf) (by omega) (by decide)) dX9_step_12 ?_
    refine lv_topi (fun x11 e11 => ?_)
    obtain rfl : x11 = 0 := e11
    refine lv_goto (tgt := 22) hx hb dX9_step_13 (by decide) ?_
    refine lv_imul hx hb dX9_step_22 ?_
    refine lv_topi (fun x12 e12 => ?_)
    obtain rfl : x12 = 0 := e12.trans (by decide)
    refine lv_iadd hx hb dX9_step_23 ?_
    refine lv_topi (fun x13 e13 => ?_)
    obtain rfl : x13 = 10 := e13.trans (by decide)
    refine lv_bipush (v := 6) hx hb dX9_step_24 (by decide) ?_
    refine lv_iconst (v := 0) hx hb dX9_step_26 (by decide) ?_
    refine lv_aload_n hx hb dX9_step_27 rfl (lv_at hl 0 rfl) ?_
    refine va_get (D := D) (ci := 16) (v := .ref m2) (C := RX9) (T := TX9) (N := 13) hx hb hts hb_0 hown hK hP 0 rfl rfl 4 (by decide) hw_1 (fun _ h9 => h9) rfl dX9_step_28 ?_
    refine lv_iload_n hx hb dX9_step_31 rfl (lv_at hl 2 rfl) ?_
    refine va_iald hx hb hK hP 2 1 rfl rfl (vp_in_nI (n := cf) (by omega) (by decide)) dX9_step_32 ?_
    refine lv_topi (fun x14 e14 => ?_)
    obtain rfl : x14 = 0 := e14
    refine lv_aload_n hx hb dX9_step_33 rfl (lv_at hl 0 rfl) ?_
    refine va_get (D := D) (ci := 16) (v := .ref m2) (C := RX9) (T := TX9) (N := 13) hx hb hts hb_0 hown hK hP 0 rfl rfl 4 (by decide) hw_1 (fun _ h9 => h9) rfl dX9_step_34 ?_
    refine lv_iload_n hx hb dX9_step_37 rfl (lv_at hl 1 rfl) ?_
    refine va_iald hx hb hK hP 2 1 rfl rfl (vp_in_nI (n := ce) (by omega) (by decide)) dX9_step_38 ?_
    refine lv_topi (fun x15 e15 => ?_)
    obtain rfl : x15 = 0 := e15
    refine lv_isub hx hb dX9_step_39 ?_
    refine lv_topi (fun x16 e16 => ?_)
    obtain rfl : x16 = 0 := e16.trans (by decide)
    refine va_mmax hx hb (by rw [hml]; exact hl.1.symm) hown hw_2 hw_3 hw_4 hw_5 (Nat.le_of_ble_eq_true rfl) (Nat.le_of_ble_eq_true rfl) (Nat.le_of_ble_eq_true rfl) (Nat.le_of_ble_eq_true rfl) dX9_step_40 ?_
    refine lv_topi (fun x17 e17 => ?_)
    obtain rfl : x17 = 0 := e17.trans (by decide)
    refine lv_imul hx hb dX9_step_43 ?_
    refine lv_topi (fun x18 e18 => ?_)
    obtain rfl : x18 = 0 := e18.trans (by decide)
    refine lv_iadd hx hb dX9_step_44 ?_
    refine lv_topi (fun x19 e19 => ?_)
    obtain rfl : x19 = 10 := e19.trans (by decide)
    exact mr_i hx hb hr () (rfl) (hP.sub [0, 1, 2, 3] rfl) (hK.sub [] rfl) (hD.sub [0, 1, 2, 3] (by decide) rfl) hS (Nat.le_of_ble_eq_true rfl) (Nat.le_of_ble_eq_true rfl) hlocks dX9_step_45

def us_c_areBeside : List Cond := .code yX9_areBeside cX9_areBeside 3 (some .boolean) :: (([.fieldLink RX9 7 "ControlWoodModel" "columns" "I", .methodLink RX9 100 Lib.Math.abs.name, .static Lib.Math.abs.name, .initialized "java/lang/Math", .code Lib.Math.abs.name Lib.Math.abs.code 1 (some .int)] : List Cond) ++ (wsX90 ++ ([])))
theorem gw_c_areBeside : ∀ w ∈ us_c_areBeside, goodWord w = true := gw_cons rfl (gw_app (by decide +kernel) (gw_app gwf_X9 (fun _ h => nomatch h)))
set_option maxHeartbeats 4000000 in
set_option maxRecDepth 100000 in
/-- the reference: areBeside -/
theorem c_areBeside (l : Launch) (hst : l.stackTraces = false) (D : va_G) (mo : Nat) (th : Int32) (m1 : Nat) (m2 : Nat) (m3 : Nat) (m4 : Nat) (m5 : Nat) (l1 : Nat) (l2 : Nat) (l3 : Nat) (l4 : Nat) (p0 : Int32) (p1 : Int32) (sz : Nat) : Met l yX9_areBeside us_c_areBeside { frames := 1, cells := 0, slots := 0, locals := 16 } (pw D [.ref mo, .int p0, .int p1] [] [(mo, .inr (16, [.int 5, .int 5, .int th, .ref m1, .ref m2, .ref m3, .ref m4, .ref m5, .ref l1, .ref l2, .ref l3, .int (-1), .ref l4]))] sz) (va_Qi (fun (r : Int32) (_ : Unit) => r = (abF p0 p1)) (qb D (va_A [(mo, .inr (16, [.int 5, .int 5, .int th, .ref m1, .ref m2, .ref m3, .ref m4, .ref m5, .ref l1, .ref l2, .ref l3, .int (-1), .ref l4]))] sz) (fun _ : Unit => [(mo, .inr (16, [.int 5, .int 5, .int th, .ref m1, .ref m2, .ref m3, .ref m4, .ref m5, .ref l1, .ref l2, .ref l3, .int (-1), .ref l4]))]) (fun _ : Unit => ([] : List (ClassId × FieldType)))) (va_A [(mo, .inr (16, [.int 5, .int 5, .int th, .ref m1, .ref m2, .ref m3, .ref m4, .ref m5, .ref l1, .ref l2, .ref l3, .int (-1), .ref l4]))] sz)) 0 0 (va_A [(mo, .inr (16, [.int 5, .int 5, .int th, .ref m1, .ref m2, .ref m3, .ref m4, .ref m5, .ref l1, .ref l2, .ref l3, .int (-1), .ref l4]))] sz) := by
  refine op_M (Qc := fun A => (va_Qi (fun (r : Int32) (_ : Unit) => r = (abF p0 p1)) (qb D A (fun _ : Unit => [(mo, .inr (16, [.int 5, .int 5, .int th, .ref m1, .ref m2, .ref m3, .ref m4, .ref m5, .ref l1, .ref l2, .ref l3, .int (-1), .ref l4]))]) (fun _ : Unit => ([] : List (ClassId × FieldType)))) A)) (by decide +kernel) rfl (Nat.le_of_ble_eq_true rfl) ?_
  intro p e s m args below meth c A ls hx hb hr hml hts hown hlocks hmn htab hA hD hS hP hK hE hsz hl
  have hown : s.vm.findClass RX9 = some m.cls := hown
  have hl : lv_has ls 3 [(0, .ref mo), (1, .int p0), (2, .int p1)] := hl
  have hw_0 := hts (.fieldLink RX9 7 "ControlWoodModel" "columns" "I") (List.mem_cons_of_mem _ (List.mem_append_left _ (List.mem_of_getElem? (i := 0) rfl)))
  have hw_1 := hts (.methodLink RX9 100 Lib.Math.abs.name) (List.mem_cons_of_mem _ (List.mem_append_left _ (List.mem_of_getElem? (i := 1) rfl)))
  have hw_2 := hts (.static Lib.Math.abs.name) (List.mem_cons_of_mem _ (List.mem_append_left _ (List.mem_of_getElem? (i := 2) rfl)))
  have hw_3 := hts (.initialized "java/lang/Math") (List.mem_cons_of_mem _ (List.mem_append_left _ (List.mem_of_getElem? (i := 3) rfl)))
  have hw_4 := hts (.code Lib.Math.abs.name Lib.Math.abs.code 1 (some .int)) (List.mem_cons_of_mem _ (List.mem_append_left _ (List.mem_of_getElem? (i := 4) rfl)))
  have hb_0 : ∀ w ∈ wsX90, w ∈ us_c_areBeside := fun w h => List.mem_cons_of_mem _ (List.mem_append_right _ (List.mem_append_left _ h))
  refine lv_iload_n hx hb dX9_areBeside_0 rfl (lv_at hl 1 rfl) ?_
  refine lv_aload_n hx hb dX9_areBeside_1 rfl (lv_at hl 0 rfl) ?_
  refine va_get (D := D) (ci := 16) (v := .int 5) (C := RX9) (T := TX9) (N := 13) hx hb hts hb_0 hown hK hP 0 rfl rfl 0 (by decide) hw_0 (fun _ h9 => h9) rfl dX9_areBeside_2 ?_
  refine lv_irem hx hb dX9_areBeside_5 (by decide) ?_
  refine lv_topi (fun x1 e1 => ?_)
  refine lv_iload_n hx hb dX9_areBeside_6 rfl (lv_at hl 2 rfl) ?_
  refine lv_aload_n hx hb dX9_areBeside_7 rfl (lv_at hl 0 rfl) ?_
  refine va_get (D := D) (ci := 16) (v := .int 5) (C := RX9) (T := TX9) (N := 13) hx hb hts hb_0 hown hK hP 0 rfl rfl 0 (by decide) hw_0 (fun _ h9 => h9) rfl dX9_areBeside_8 ?_
  refine lv_irem hx hb dX9_areBeside_11 (by decide) ?_
  refine lv_topi (fun x2 e2 => ?_)
  refine lv_isub hx hb dX9_areBeside_12 ?_
  refine lv_topi (fun x3 e3 => ?_)
  refine va_mabs hx hb (by rw [hml]; exact hl.1.symm) hown hw_1 hw_2 hw_3 hw_4 (Nat.le_of_ble_eq_true rfl) (Nat.le_of_ble_eq_true rfl) (Nat.le_of_ble_eq_true rfl) (Nat.le_of_ble_eq_true rfl) dX9_areBeside_13 ?_
  refine lv_topi (fun x4 e4 => ?_)
  refine lv_iload_n hx hb dX9_areBeside_16 rfl (lv_at hl 1 rfl) ?_
  refine lv_aload_n hx hb dX9_areBeside_17 rfl (lv_at hl 0 rfl) ?_
  refine va_get (D := D) (ci := 16) (v := .int 5) (C := RX9) (T := TX9) (N := 13) hx hb hts hb_0 hown hK hP 0 rfl rfl 0 (by decide) hw_0 (fun _ h9 => h9) rfl dX9_areBeside_18 ?_
  refine lv_idiv hx hb dX9_areBeside_21 (by decide) ?_
  refine lv_topi (fun x5 e5 => ?_)
  refine lv_iload_n hx hb dX9_areBeside_22 rfl (lv_at hl 2 rfl) ?_
  refine lv_aload_n hx hb dX9_areBeside_23 rfl (lv_at hl 0 rfl) ?_
  refine va_get (D := D) (ci := 16) (v := .int 5) (C := RX9) (T := TX9) (N := 13) hx hb hts hb_0 hown hK hP 0 rfl rfl 0 (by decide) hw_0 (fun _ h9 => h9) rfl dX9_areBeside_24 ?_
  refine lv_idiv hx hb dX9_areBeside_27 (by decide) ?_
  refine lv_topi (fun x6 e6 => ?_)
  refine lv_isub hx hb dX9_areBeside_28 ?_
  refine lv_topi (fun x7 e7 => ?_)
  refine va_mabs hx hb (by rw [hml]; exact hl.1.symm) hown hw_1 hw_2 hw_3 hw_4 (Nat.le_of_ble_eq_true rfl) (Nat.le_of_ble_eq_true rfl) (Nat.le_of_ble_eq_true rfl) (Nat.le_of_ble_eq_true rfl) dX9_areBeside_29 ?_
  refine lv_topi (fun x8 e8 => ?_)
  refine lv_iadd hx hb dX9_areBeside_32 ?_
  refine lv_topi (fun x9 e9 => ?_)
  refine lv_iconst (v := 1) hx hb dX9_areBeside_33 (by decide) ?_
  refine lv_icmp_ne (tgt := 41) hx hb dX9_areBeside_34 (by decide) (fun h10 => ?_) (fun h10 => ?_)
  · refine lv_iconst (v := 0) hx hb dX9_areBeside_41 (by decide) ?_
    exact mr_z (rfl) hx hb hr () (by rw [e9] at h10; subst_vars; exact (if_neg h10).symm) (hP.sub [0] rfl) (hK.sub [] rfl) (hD.sub [0] (by decide) rfl) hS (Nat.le_of_ble_eq_true rfl) (Nat.le_of_ble_eq_true rfl) hlocks dX9_areBeside_42
  · refine lv_iconst (v := 1) hx hb dX9_areBeside_37 (by decide) ?_
    refine lv_goto (tgt := 42) hx hb dX9_areBeside_38 (by decide) ?_
    exact mr_z (rfl) hx hb hr () (by rw [e9] at h10; subst_vars; exact (if_pos h10).symm) (hP.sub [0] rfl) (hK.sub [] rfl) (hD.sub [0] (by decide) rfl) hS (Nat.le_of_ble_eq_true rfl) (Nat.le_of_ble_eq_true rfl) hlocks dX9_areBeside_42

def us_c_beside : List Cond := .code yX9_beside cX9_beside 4 (some .int) :: (([.fieldLink RX9 7 "ControlWoodModel" "columns" "I", .methodLink RX9 83 yX9_isCell, .instanceMethod yX9_isCell, .selects RX9 yX9_isCell yX9_isCell, .initialized RX9, .methodLink RX9 109 yX9_areBeside, .instanceMethod yX9_areBeside, .selects RX9 yX9_areBeside yX9_areBeside] : List Cond) ++ (wsX90 ++ (us_c_isCell ++ (us_c_areBeside ++ ([])))))
theorem gw_c_beside : ∀ w ∈ us_c_beside, goodWord w = true := gw_cons rfl (gw_app (by decide +kernel) (gw_app gwf_X9 (gw_app gw_c_isCell (gw_app gw_c_areBeside (fun _ h => nomatch h)))))
set_option maxHeartbeats 4000000 in
set_option maxRecDepth 100000 in
/-- the reference: beside -/
theorem c_beside (l : Launch) (hst : l.stackTraces = false) (D : va_G) (mo : Nat) (th : Int32) (m1 : Nat) (m2 : Nat) (m3 : Nat) (m4 : Nat) (m5 : Nat) (l1 : Nat) (l2 : Nat) (l3 : Nat) (l4 : Nat) (cm1 : ClassId) (ce : Nat) (wy : Nat) (sz : Nat) (hc : ce ≤ 24) (hw : wy < 4) : Met l yX9_beside us_c_beside { frames := 2, cells := 0, slots := 0, locals := 46 } (pw D [.ref mo, .int (nI ce), .int (nI wy)] [(cm1, .int)] [(mo, .inr (16, [.int 5, .int 5, .int th, .ref m1, .ref m2, .ref m3, .ref m4, .ref m5, .ref l1, .ref l2, .ref l3, .int (-1), .ref l4])), (m1, .inl (cm1, 25, .inl (fun _ => 0)))] sz) (va_Qi (fun (r : Int32) (_ : Unit) => r = (optI (beM ce wy))) (qb D (va_A [(mo, .inr (16, [.int 5, .int 5, .int th, .ref m1, .ref m2, .ref m3, .ref m4, .ref m5, .ref l1, .ref l2, .ref l3, .int (-1), .ref l4])), (m1, .inl (cm1, 25, .inl (fun _ => 0)))] sz) (fun _ : Unit => [(mo, .inr (16, [.int 5, .int 5, .int th, .ref m1, .ref m2, .ref m3, .ref m4, .ref m5, .ref l1, .ref l2, .ref l3, .int (-1), .ref l4])), (m1, .inl (cm1, 25, .inl (fun _ => 0)))]) (fun _ : Unit => ([] : List (ClassId × FieldType)))) (va_A [(mo, .inr (16, [.int 5, .int 5, .int th, .ref m1, .ref m2, .ref m3, .ref m4, .ref m5, .ref l1, .ref l2, .ref l3, .int (-1), .ref l4])), (m1, .inl (cm1, 25, .inl (fun _ => 0)))] sz)) 0 0 (va_A [(mo, .inr (16, [.int 5, .int 5, .int th, .ref m1, .ref m2, .ref m3, .ref m4, .ref m5, .ref l1, .ref l2, .ref l3, .int (-1), .ref l4])), (m1, .inl (cm1, 25, .inl (fun _ => 0)))] sz) := by
  refine op_M (Qc := fun A => (va_Qi (fun (r : Int32) (_ : Unit) => r = (optI (beM ce wy))) (qb D A (fun _ : Unit => [(mo, .inr (16, [.int 5, .int 5, .int th, .ref m1, .ref m2, .ref m3, .ref m4, .ref m5, .ref l1, .ref l2, .ref l3, .int (-1), .ref l4])), (m1, .inl (cm1, 25, .inl (fun _ => 0)))]) (fun _ : Unit => ([] : List (ClassId × FieldType)))) A)) (by decide +kernel) rfl (Nat.le_of_ble_eq_true rfl) ?_
  intro p e s m args below meth c A ls hx hb hr hml hts hown hlocks hmn htab hA hD hS hP hK hE hsz hl
  have hown : s.vm.findClass RX9 = some m.cls := hown
  have hl : lv_has ls 4 [(0, .ref mo), (1, .int (nI ce)), (2, .int (nI wy))] := hl
  have hw_0 := hts (.fieldLink RX9 7 "ControlWoodModel" "columns" "I") (List.mem_cons_of_mem _ (List.mem_append_left _ (List.mem_of_getElem? (i := 0) rfl)))
  have hw_1 := hts (.methodLink RX9 83 yX9_isCell) (List.mem_cons_of_mem _ (List.mem_append_left _ (List.mem_of_getElem? (i := 1) rfl)))
  have hw_2 := hts (.instanceMethod yX9_isCell) (List.mem_cons_of_mem _ (List.mem_append_left _ (List.mem_of_getElem? (i := 2) rfl)))
  have hw_3 := hts (.selects RX9 yX9_isCell yX9_isCell) (List.mem_cons_of_mem _ (List.mem_append_left _ (List.mem_of_getElem? (i := 3) rfl)))
  have hw_4 := hts (.initialized RX9) (List.mem_cons_of_mem _ (List.mem_append_left _ (List.mem_of_getElem? (i := 4) rfl)))
  have hw_5 := hts (.methodLink RX9 109 yX9_areBeside) (List.mem_cons_of_mem _ (List.mem_append_left _ (List.mem_of_getElem? (i := 5) rfl)))
  have hw_6 := hts (.instanceMethod yX9_areBeside) (List.mem_cons_of_mem _ (List.mem_append_left _ (List.mem_of_getElem? (i := 6) rfl)))
  have hw_7 := hts (.selects RX9 yX9_areBeside yX9_areBeside) (List.mem_cons_of_mem _ (List.mem_append_left _ (List.mem_of_getElem? (i := 7) rfl)))
  have hb_0 : ∀ w ∈ wsX90, w ∈ us_c_beside := fun w h => List.mem_cons_of_mem _ (List.mem_append_right _ (List.mem_append_left _ h))
  have hb_1 : ∀ w ∈ us_c_isCell, w ∈ us_c_beside := fun w h => List.mem_cons_of_mem _ (List.mem_append_right _ (List.mem_append_right _ (List.mem_append_left _ h)))
  have hb_2 : ∀ w ∈ us_c_areBeside, w ∈ us_c_beside := fun w h => List.mem_cons_of_mem _ (List.mem_append_right _ (List.mem_append_right _ (List.mem_append_right _ (List.mem_append_left _ h))))
  rcases (show wy = 0 ∨ wy = 1 ∨ wy = 2 ∨ wy = 3 by omega) with rfl | rfl | rfl | rfl
  · refine lv_iload_n hx hb dX9_beside_0 rfl (lv_at hl 2 rfl) ?_
    refine lv_if_ne (tgt := 13) hx hb dX9_beside_1 (by decide) (fun h1 => absurd (by decide) h1) (fun h1 => ?_)
    refine lv_iload_n hx hb dX9_beside_4 rfl (lv_at hl 1 rfl) ?_
    refine lv_aload_n hx hb dX9_beside_5 rfl (lv_at hl 0 rfl) ?_
    refine va_get (D := D) (ci := 16) (v := .int 5) (C := RX9) (T := TX9) (N := 13) hx hb hts hb_0 hown hK hP 0 rfl rfl 0 (by decide) hw_0 (fun _ h9 => h9) rfl dX9_beside_6 ?_
    refine lv_isub hx hb dX9_beside_9 ?_
    refine lv_topi (fun x2 e2 => ?_)
    refine lv_goto (tgt := 41) hx hb dX9_beside_10 (by decide) ?_
    refine lv_istore_n (lv' := [(3, .int x2), (0, .ref mo), (1, .int (nI ce)), (2, .int (nI 0))]) hx hb dX9_beside_41 rfl hl (by decide) rfl (fun ls hl => ?_)
    refine lv_aload_n hx hb dX9_beside_42 rfl (lv_at hl 1 rfl) ?_
    refine lv_iload_n hx hb dX9_beside_43 rfl (lv_at hl 0 rfl) ?_
    refine mc_i (wr := []) (va_runV (As := [.int x2]) (rest := []) ⟨hx, hb, hml, hown, hts⟩ (c_isCell l hst D mo th m1 m2 m3 m4 m5 l1 l2 l3 l4 cm1 x2 s.heap.size) (cwV 1 hts (gi_c (List.mem_cons_of_mem _ (List.mem_append_left _ (List.mem_of_getElem? (i := 1) rfl))) rfl (gi_c (List.mem_cons_of_mem _ (List.mem_append_left _ (List.mem_of_getElem? (i := 2) rfl))) rfl (gi_c (List.mem_cons_of_mem _ (List.mem_append_left _ (List.mem_of_getElem? (i := 3) rfl))) rfl (gi_c (List.mem_cons_of_mem _ (List.mem_append_left _ (List.mem_of_getElem? (i := 4) rfl))) rfl (goodIn_sub hb_1 (List.all_eq_true.mpr gw_c_isCell)))))) rfl rfl rfl (by decide +kernel) ⟨Nat.le_of_ble_eq_true rfl, Nat.le_of_ble_eq_true rfl⟩) (pr_V (As := [.int x2]) (b := mo) (C := RX9) hP hD hK hS hA hE [0, 1] [0] rfl rfl rfl 0 16 rfl rfl rfl) rfl rfl hl.1 rfl (lv_room (Nat.le_of_ble_eq_true rfl)) dX9_beside_44 ⟨Nat.le_of_ble_eq_true rfl, Nat.le_of_ble_eq_true rfl⟩) hP hD hK hS hA [0, 1] [] rfl rfl (by decide) (by decide) (fun r4 _ H locs w3 hP hD hK hS => ?_)
    have hP : va_P D vwCl [(mo, .inr (16, [.int 5, .int 5, .int th, .ref m1, .ref m2, .ref m3, .ref m4, .ref m5, .ref l1, .ref l2, .ref l3, .int (-1), .ref l4])), (m1, .inl (cm1, 25, .inl (fun _ => 0)))] H := hP
    have hD : va_D A [(mo, .inr (16, [.int 5, .int 5, .int th, .ref m1, .ref m2, .ref m3, .ref m4, .ref m5, .ref l1, .ref l2, .ref l3, .int (-1), .ref l4])), (m1, .inl (cm1, 25, .inl (fun _ => 0)))] := hD
    have hK : va_K D vwCl [(cm1, .int)] s := hK
    obtain rfl : r4 = (if inI x2 25 then 1 else 0) := w3
    refine lv_if_eq (tgt := 63) hx hb dX9_beside_47 (by decide) (fun h5 => ?_) (fun h5 => ?_)
    · refine lv_iconst (v := -1) hx hb dX9_beside_63 (by decide) ?_
      exact mr_i hx hb hr () ((bsF_0 hc).symm.trans (show bsF (nI ce) 0 = _ from (if_neg (ite01_0 (by have q9 := h5; rw [e2] at q9; exact q9)))) |>.symm) (hP.sub [0, 1] rfl) (hK.sub [] rfl) (hD.sub [0, 1] (by decide) rfl) hS (Nat.le_of_ble_eq_true rfl) (Nat.le_of_ble_eq_true rfl) hlocks dX9_beside_64
    · refine lv_aload_n hx hb dX9_beside_50 rfl (lv_at hl 1 rfl) ?_
      refine lv_iload_n hx hb dX9_beside_51 rfl (lv_at hl 2 rfl) ?_
      refine lv_iload_n hx hb dX9_beside_52 rfl (lv_at hl 0 rfl) ?_
      refine mc_i (wr := [(m1, .inl (cm1, 25, .inl (fun _ => 0)))]) (va_runV (As := [.int (nI ce), .int x2]) (rest := []) ⟨hx, hb, hml, hown, hts⟩ (c_areBeside l hst D mo th m1 m2 m3 m4 m5 l1 l2 l3 l4 (nI ce) x2 H.size) (cwV 2 hts (gi_c (List.mem_cons_of_mem _ (List.mem_append_left _ (List.mem_of_getElem? (i := 5) rfl))) rfl (gi_c (List.mem_cons_of_mem _ (List.mem_append_left _ (List.mem_of_getElem? (i := 6) rfl))) rfl (gi_c (List.mem_cons_of_mem _ (List.mem_append_left _ (List.mem_of_getElem? (i := 7) rfl))) rfl (gi_c (List.mem_cons_of_mem _ (List.mem_append_left _ (List.mem_of_getElem? (i := 4) rfl))) rfl (goodIn_sub hb_2 (List.all_eq_true.mpr gw_c_areBeside)))))) rfl rfl rfl (by decide +kernel) ⟨Nat.le_of_ble_eq_true rfl, Nat.le_of_ble_eq_true rfl⟩) (pr_V (As := [.int (nI ce), .int x2]) (b := mo) (C := RX9) hP hD hK hS hA hE [0] [] rfl rfl rfl 0 16 rfl rfl rfl) rfl rfl hl.1 rfl (lv_room (Nat.le_of_ble_eq_true rfl)) dX9_beside_53 ⟨Nat.le_of_ble_eq_true rfl, Nat.le_of_ble_eq_true rfl⟩) hP hD hK hS hA [0] [1] rfl rfl (by decide) (by decide) (fun r7 _ H locs w6 hP hD hK hS => ?_)
      have hP : va_P D vwCl [(m1, .inl (cm1, 25, .inl (fun _ => 0))), (mo, .inr (16, [.int 5, .int 5, .int th, .ref m1, .ref m2, .ref m3, .ref m4, .ref m5, .ref l1, .ref l2, .ref l3, .int (-1), .ref l4]))] H := hP
      have hD : va_D A [(m1, .inl (cm1, 25, .inl (fun _ => 0))), (mo, .inr (16, [.int 5, .int 5, .int th, .ref m1, .ref m2, .ref m3, .ref m4, .ref m5, .ref l1, .ref l2, .ref l3, .int (-1), .ref l4]))] := hD
      have hK : va_K D vwCl [(cm1, .int)] s := hK
      obtain rfl : r7 = (abF (nI ce) x2) := w6
      refine lv_if_eq (tgt := 63) hx hb dX9_beside_56 (by decide) (fun h8 => ?_) (fun h8 => ?_)
      · refine lv_iconst (v := -1) hx hb dX9_beside_63 (by decide) ?_
        exact mr_i hx hb hr () ((bsF_0 hc).symm.trans (show bsF (nI ce) 0 = _ from (if_pos (ite01_1 (by have q9 := h5; rw [e2] at q9; exact q9))).trans (if_pos (by have q9 := h8; rw [e2] at q9; exact q9))) |>.symm) (hP.sub [1, 0] rfl) (hK.sub [] rfl) (hD.sub [1, 0] (by decide) rfl) hS (Nat.le_of_ble_eq_true rfl) (Nat.le_of_ble_eq_true rfl) hlocks dX9_beside_64
      · refine lv_iload_n hx hb dX9_beside_59 rfl (lv_at hl 0 rfl) ?_
        refine lv_goto (tgt := 64) hx hb dX9_beside_60 (by decide) ?_
        exact mr_i hx hb hr () ((bsF_0 hc).symm.trans (show bsF (nI ce) 0 = _ from ((if_pos (ite01_1 (by have q9 := h5; rw [e2] at q9; exact q9))).trans (if_neg (by have q9 := h8; rw [e2] at q9; exact q9))).trans e2.symm) |>.symm) (hP.sub [1, 0] rfl) (hK.sub [] rfl) (hD.sub [1, 0] (by decide) rfl) hS (Nat.le_of_ble_eq_true rfl) (Nat.le_of_ble_eq_true rfl) hlocks dX9_beside_64
  · refine lv_iload_n hx hb dX9_beside_0 rfl (lv_at hl 2 rfl) ?_
    refine lv_if_ne (tgt := 13) hx hb dX9_beside_1 (by decide) (fun h9 => ?_) (fun h9 => absurd h9 (by decide))
    refine lv_iload_n hx hb dX9_beside_13 rfl (lv_at hl 2 rfl) ?_
    refine lv_iconst (v := 1) hx hb dX9_beside_14 (by decide) ?_
    refine lv_icmp_ne (tgt := 24) hx hb dX9_beside_15 (by decide) (fun h10 => absurd (by decide) h10) (fun h10 => ?_)
    refine lv_iload_n hx hb dX9_beside_18 rfl (lv_at hl 1 rfl) ?_
    refine lv_iconst (v := 1) hx hb dX9_beside_19 (by decide) ?_
    refine lv_isub hx hb dX9_beside_20 ?_
    refine lv_topi (fun x11 e11 => ?_)
    refine lv_goto (tgt := 41) hx hb dX9_beside_21 (by decide) ?_
    refine lv_istore_n (lv' := [(3, .int x11), (0, .ref mo), (1, .int (nI ce)), (2, .int (nI 1))]) hx hb dX9_beside_41 rfl hl (by decide) rfl (fun ls hl => ?_)
    refine lv_aload_n hx hb dX9_beside_42 rfl (lv_at hl 1 rfl) ?_
    refine lv_iload_n hx hb dX9_beside_43 rfl (lv_at hl 0 rfl) ?_
    refine mc_i (wr := []) (va_runV (As := [.int x11]) (rest := []) ⟨hx, hb, hml, hown, hts⟩ (c_isCell l hst D mo th m1 m2 m3 m4 m5 l1 l2 l3 l4 cm1 x11 s.heap.size) (cwV 1 hts (gi_c (List.mem_cons_of_mem _ (List.mem_append_left _ (List.mem_of_getElem? (i := 1) rfl))) rfl (gi_c (List.mem_cons_of_mem _ (List.mem_append_left _ (List.mem_of_getElem? (i := 2) rfl))) rfl (gi_c (List.mem_cons_of_mem _ (List.mem_append_left _ (List.mem_of_getElem? (i := 3) rfl))) rfl (gi_c (List.mem_cons_of_mem _ (List.mem_append_left _ (List.mem_of_getElem? (i := 4) rfl))) rfl (goodIn_sub hb_1 (List.all_eq_true.mpr gw_c_isCell)))))) rfl rfl rfl (by decide +kernel) ⟨Nat.le_of_ble_eq_true rfl, Nat.le_of_ble_eq_true rfl⟩) (pr_V (As := [.int x11]) (b := mo) (C := RX9) hP hD hK hS hA hE [0, 1] [0] rfl rfl rfl 0 16 rfl rfl rfl) rfl rfl hl.1 rfl (lv_room (Nat.le_of_ble_eq_true rfl)) dX9_beside_44 ⟨Nat.le_of_ble_eq_true rfl, Nat.le_of_ble_eq_true rfl⟩) hP hD hK hS hA [0, 1] [] rfl rfl (by decide) (by decide) (fun r13 _ H locs w12 hP hD hK hS => ?_)
    have hP : va_P D vwCl [(mo, .inr (16, [.int 5, .int 5, .int th, .ref m1, .ref m2, .ref m3, .ref m4, .ref m5, .ref l1, .ref l2, .ref l3, .int (-1), .ref l4])), (m1, .inl (cm1, 25, .inl (fun _ => 0)))] H := hP
    have hD : va_D A [(mo, .inr (16, [.int 5, .int 5, .int th, .ref m1, .ref m2, .ref m3, .ref m4, .ref m5, .ref l1, .ref l2, .ref l3, .int (-1), .ref l4])), (m1, .inl (cm1, 25, .inl (fun _ => 0)))] := hD
    have hK : va_K D vwCl [(cm1, .int)] s := hK
    obtain rfl : r13 = (if inI x11 25 then 1 else 0) := w12
    refine lv_if_eq (tgt := 63) hx hb dX9_beside_47 (by decide) (fun h14 => ?_) (fun h14 => ?_)
    · refine lv_iconst (v := -1) hx hb dX9_beside_63 (by decide) ?_
      exact mr_i hx hb hr () ((bsF_1 hc).symm.trans (show bsF (nI ce) 1 = _ from (if_neg (ite01_0 (by have q9 := h14; rw [e11] at q9; exact q9)))) |>.symm) (hP.sub [0, 1] rfl) (hK.sub [] rfl) (hD.sub [0, 1] (by decide) rfl) hS (Nat.le_of_ble_eq_true rfl) (Nat.le_of_ble_eq_true rfl) hlocks dX9_beside_64
    · refine lv_aload_n hx hb dX9_beside_50 rfl (lv_at hl 1 rfl) ?_
      refine lv_iload_n hx hb dX9_beside_51 rfl (lv_at hl 2 rfl) ?_
      refine lv_iload_n hx hb dX9_beside_52 rfl (lv_at hl 0 rfl) ?_
      refine mc_i (wr := [(m1, .inl (cm1, 25, .inl (fun _ => 0)))]) (va_runV (As := [.int (nI ce), .int x11]) (rest := []) ⟨hx, hb, hml, hown, hts⟩ (c_areBeside l hst D mo th m1 m2 m3 m4 m5 l1 l2 l3 l4 (nI ce) x11 H.size) (cwV 2 hts (gi_c (List.mem_cons_of_mem _ (List.mem_append_left _ (List.mem_of_getElem? (i := 5) rfl))) rfl (gi_c (List.mem_cons_of_mem _ (List.mem_append_left _ (List.mem_of_getElem? (i := 6) rfl))) rfl (gi_c (List.mem_cons_of_mem _ (List.mem_append_left _ (List.mem_of_getElem? (i := 7) rfl))) rfl (gi_c (List.mem_cons_of_mem _ (List.mem_append_left _ (List.mem_of_getElem? (i := 4) rfl))) rfl (goodIn_sub hb_2 (List.all_eq_true.mpr gw_c_areBeside)))))) rfl rfl rfl (by decide +kernel) ⟨Nat.le_of_ble_eq_true rfl, Nat.le_of_ble_eq_true rfl⟩) (pr_V (As := [.int (nI ce), .int x11]) (b := mo) (C := RX9) hP hD hK hS hA hE [0] [] rfl rfl rfl 0 16 rfl rfl rfl) rfl rfl hl.1 rfl (lv_room (Nat.le_of_ble_eq_true rfl)) dX9_beside_53 ⟨Nat.le_of_ble_eq_true rfl, Nat.le_of_ble_eq_true rfl⟩) hP hD hK hS hA [0] [1] rfl rfl (by decide) (by decide) (fun r16 _ H locs w15 hP hD hK hS => ?_)
      have hP : va_P D vwCl [(m1, .inl (cm1, 25, .inl (fun _ => 0))), (mo, .inr (16, [.int 5, .int 5, .int th, .ref m1, .ref m2, .ref m3, .ref m4, .ref m5, .ref l1, .ref l2, .ref l3, .int (-1), .ref l4]))] H := hP
      have hD : va_D A [(m1, .inl (cm1, 25, .inl (fun _ => 0))), (mo, .inr (16, [.int 5, .int 5, .int th, .ref m1, .ref m2, .ref m3, .ref m4, .ref m5, .ref l1, .ref l2, .ref l3, .int (-1), .ref l4]))] := hD
      have hK : va_K D vwCl [(cm1, .int)] s := hK
      obtain rfl : r16 = (abF (nI ce) x11) := w15
      refine lv_if_eq (tgt := 63) hx hb dX9_beside_56 (by decide) (fun h17 => ?_) (fun h17 => ?_)
      · refine lv_iconst (v := -1) hx hb dX9_beside_63 (by decide) ?_
        exact mr_i hx hb hr () ((bsF_1 hc).symm.trans (show bsF (nI ce) 1 = _ from (if_pos (ite01_1 (by have q9 := h14; rw [e11] at q9; exact q9))).trans (if_pos (by have q9 := h17; rw [e11] at q9; exact q9))) |>.symm) (hP.sub [1, 0] rfl) (hK.sub [] rfl) (hD.sub [1, 0] (by decide) rfl) hS (Nat.le_of_ble_eq_true rfl) (Nat.le_of_ble_eq_true rfl) hlocks dX9_beside_64
      · refine lv_iload_n hx hb dX9_beside_59 rfl (lv_at hl 0 rfl) ?_
        refine lv_goto (tgt := 64) hx hb dX9_beside_60 (by decide) ?_
        exact mr_i hx hb hr () ((bsF_1 hc).symm.trans (show bsF (nI ce) 1 = _ from ((if_pos (ite01_1 (by have q9 := h14; rw [e11] at q9; exact q9))).trans (if_neg (by have q9 := h17; rw [e11] at q9; exact q9))).trans e11.symm) |>.symm) (hP.sub [1, 0] rfl) (hK.sub [] rfl) (hD.sub [1, 0] (by decide) rfl) hS (Nat.le_of_ble_eq_true rfl) (Nat.le_of_ble_eq_true rfl) hlocks dX9_beside_64
  · refine lv_iload_n hx hb dX9_beside_0 rfl (lv_at hl 2 rfl) ?_
    refine lv_if_ne (tgt := 13) hx hb dX9_beside_1 (by decide) (fun h18 => ?_) (fun h18 => absurd h18 (by decide))
    refine lv_iload_n hx hb dX9_beside_13 rfl (lv_at hl 2 rfl) ?_
    refine lv_iconst (v := 1) hx hb dX9_beside_14 (by decide) ?_
    refine lv_icmp_ne (tgt := 24) hx hb dX9_beside_15 (by decide) (fun h19 => ?_) (fun h19 => absurd h19 (by decide))
    refine lv_iload_n hx hb dX9_beside_24 rfl (lv_at hl 2 rfl) ?_
    refine lv_iconst (v := 2) hx hb dX9_beside_25 (by decide) ?_
    refine lv_icmp_ne (tgt := 35) hx hb dX9_beside_26 (by decide) (fun h20 => absurd (by decide) h20) (fun h20 => ?_)
    refine lv_iload_n hx hb dX9_beside_29 rfl (lv_at hl 1 rfl) ?_
    refine lv_iconst (v := 1) hx hb dX9_beside_30 (by decide) ?_
    refine lv_iadd hx hb dX9_beside_31 ?_
    refine lv_topi (fun x21 e21 => ?_)
    refine lv_goto (tgt := 41) hx hb dX9_beside_32 (by decide) ?_
    refine lv_istore_n (lv' := [(3, .int x21), (0, .ref mo), (1, .int (nI ce)), (2, .int (nI 2))]) hx hb dX9_beside_41 rfl hl (by decide) rfl (fun ls hl => ?_)
    refine lv_aload_n hx hb dX9_beside_42 rfl (lv_at hl 1 rfl) ?_
    refine lv_iload_n hx hb dX9_beside_43 rfl (lv_at hl 0 rfl) ?_
    refine mc_i (wr := []) (va_runV (As := [.int x21]) (rest := []) ⟨hx, hb, hml, hown, hts⟩ (c_isCell l hst D mo th m1 m2 m3 m4 m5 l1 l2 l3 l4 cm1 x21 s.heap.size) (cwV 1 hts (gi_c (List.mem_cons_of_mem _ (List.mem_append_left _ (List.mem_of_getElem? (i := 1) rfl))) rfl (gi_c (List.mem_cons_of_mem _ (List.mem_append_left _ (List.mem_of_getElem? (i := 2) rfl))) rfl (gi_c (List.mem_cons_of_mem _ (List.mem_append_left _ (List.mem_of_getElem? (i := 3) rfl))) rfl (gi_c (List.mem_cons_of_mem _ (List.mem_append_left _ (List.mem_of_getElem? (i := 4) rfl))) rfl (goodIn_sub hb_1 (List.all_eq_true.mpr gw_c_isCell)))))) rfl rfl rfl (by decide +kernel) ⟨Nat.le_of_ble_eq_true rfl, Nat.le_of_ble_eq_true rfl⟩) (pr_V (As := [.int x21]) (b := mo) (C := RX9) hP hD hK hS hA hE [0, 1] [0] rfl rfl rfl 0 16 rfl rfl rfl) rfl rfl hl.1 rfl (lv_room (Nat.le_of_ble_eq_true rfl)) dX9_beside_44 ⟨Nat.le_of_ble_eq_true rfl, Nat.le_of_ble_eq_true rfl⟩) hP hD hK hS hA [0, 1] [] rfl rfl (by decide) (by decide) (fun r23 _ H locs w22 hP hD hK hS => ?_)
    have hP : va_P D vwCl [(mo, .inr (16, [.int 5, .int 5, .int th, .ref m1, .ref m2, .ref m3, .ref m4, .ref m5, .ref l1, .ref l2, .ref l3, .int (-1), .ref l4])), (m1, .inl (cm1, 25, .inl (fun _ => 0)))] H := hP
    have hD : va_D A [(mo, .inr (16, [.int 5, .int 5, .int th, .ref m1, .ref m2, .ref m3, .ref m4, .ref m5, .ref l1, .ref l2, .ref l3, .int (-1), .ref l4])), (m1, .inl (cm1, 25, .inl (fun _ => 0)))] := hD
    have hK : va_K D vwCl [(cm1, .int)] s := hK
    obtain rfl : r23 = (if inI x21 25 then 1 else 0) := w22
    refine lv_if_eq (tgt := 63) hx hb dX9_beside_47 (by decide) (fun h24 => ?_) (fun h24 => ?_)
    · refine lv_iconst (v := -1) hx hb dX9_beside_63 (by decide) ?_
      exact mr_i hx hb hr () ((bsF_2 hc).symm.trans (show bsF (nI ce) 2 = _ from (if_neg (ite01_0 (by have q9 := h24; rw [e21] at q9; exact q9)))) |>.symm) (hP.sub [0, 1] rfl) (hK.sub [] rfl) (hD.sub [0, 1] (by decide) rfl) hS (Nat.le_of_ble_eq_true rfl) (Nat.le_of_ble_eq_true rfl) hlocks dX9_beside_64
    · refine lv_aload_n hx hb dX9_beside_50 rfl (lv_at hl 1 rfl) ?_
      refine lv_iload_n hx hb dX9_beside_51 rfl (lv_at hl 2 rfl) ?_
      refine lv_iload_n hx hb dX9_beside_52 rfl (lv_at hl 0 rfl) ?_
      refine mc_i (wr := [(m1, .inl (cm1, 25, .inl (fun _ => 0)))]) (va_runV (As := [.int (nI ce), .int x21]) (rest := []) ⟨hx, hb, hml, hown, hts⟩ (c_areBeside l hst D mo th m1 m2 m3 m4 m5 l1 l2 l3 l4 (nI ce) x21 H.size) (cwV 2 hts (gi_c (List.mem_cons_of_mem _ (List.mem_append_left _ (List.mem_of_getElem? (i := 5) rfl))) rfl (gi_c (List.mem_cons_of_mem _ (List.mem_append_left _ (List.mem_of_getElem? (i := 6) rfl))) rfl (gi_c (List.mem_cons_of_mem _ (List.mem_append_left _ (List.mem_of_getElem? (i := 7) rfl))) rfl (gi_c (List.mem_cons_of_mem _ (List.mem_append_left _ (List.mem_of_getElem? (i := 4) rfl))) rfl (goodIn_sub hb_2 (List.all_eq_true.mpr gw_c_areBeside)))))) rfl rfl rfl (by decide +kernel) ⟨Nat.le_of_ble_eq_true rfl, Nat.le_of_ble_eq_true rfl⟩) (pr_V (As := [.int (nI ce), .int x21]) (b := mo) (C := RX9) hP hD hK hS hA hE [0] [] rfl rfl rfl 0 16 rfl rfl rfl) rfl rfl hl.1 rfl (lv_room (Nat.le_of_ble_eq_true rfl)) dX9_beside_53 ⟨Nat.le_of_ble_eq_true rfl, Nat.le_of_ble_eq_true rfl⟩) hP hD hK hS hA [0] [1] rfl rfl (by decide) (by decide) (fun r26 _ H locs w25 hP hD hK hS => ?_)
      have hP : va_P D vwCl [(m1, .inl (cm1, 25, .inl (fun _ => 0))), (mo, .inr (16, [.int 5, .int 5, .int th, .ref m1, .ref m2, .ref m3, .ref m4, .ref m5, .ref l1, .ref l2, .ref l3, .int (-1), .ref l4]))] H := hP
      have hD : va_D A [(m1, .inl (cm1, 25, .inl (fun _ => 0))), (mo, .inr (16, [.int 5, .int 5, .int th, .ref m1, .ref m2, .ref m3, .ref m4, .ref m5, .ref l1, .ref l2, .ref l3, .int (-1), .ref l4]))] := hD
      have hK : va_K D vwCl [(cm1, .int)] s := hK
      obtain rfl : r26 = (abF (nI ce) x21) := w25
      refine lv_if_eq (tgt := 63) hx hb dX9_beside_56 (by decide) (fun h27 => ?_) (fun h27 => ?_)
      · refine lv_iconst (v := -1) hx hb dX9_beside_63 (by decide) ?_
        exact mr_i hx hb hr () ((bsF_2 hc).symm.trans (show bsF (nI ce) 2 = _ from (if_pos (ite01_1 (by have q9 := h24; rw [e21] at q9; exact q9))).trans (if_pos (by have q9 := h27; rw [e21] at q9; exact q9))) |>.symm) (hP.sub [1, 0] rfl) (hK.sub [] rfl) (hD.sub [1, 0] (by decide) rfl) hS (Nat.le_of_ble_eq_true rfl) (Nat.le_of_ble_eq_true rfl) hlocks dX9_beside_64
      · refine lv_iload_n hx hb dX9_beside_59 rfl (lv_at hl 0 rfl) ?_
        refine lv_goto (tgt := 64) hx hb dX9_beside_60 (by decide) ?_
        exact mr_i hx hb hr () ((bsF_2 hc).symm.trans (show bsF (nI ce) 2 = _ from ((if_pos (ite01_1 (by have q9 := h24; rw [e21] at q9; exact q9))).trans (if_neg (by have q9 := h27; rw [e21] at q9; exact q9))).trans e21.symm) |>.symm) (hP.sub [1, 0] rfl) (hK.sub [] rfl) (hD.sub [1, 0] (by decide) rfl) hS (Nat.le_of_ble_eq_true rfl) (Nat.le_of_ble_eq_true rfl) hlocks dX9_beside_64
  · refine lv_iload_n hx hb dX9_beside_0 rfl (lv_at hl 2 rfl) ?_
    refine lv_if_ne (tgt := 13) hx hb dX9_beside_1 (by decide) (fun h28 => ?_) (fun h28 => absurd h28 (by decide))
    refine lv_iload_n hx hb dX9_beside_13 rfl (lv_at hl 2 rfl) ?_
    refine lv_iconst (v := 1) hx hb dX9_beside_14 (by decide) ?_
    refine lv_icmp_ne (tgt := 24) hx hb dX9_beside_15 (by decide) (fun h29 => ?_) (fun h29 => absurd h29 (by decide))
    refine lv_iload_n hx hb dX9_beside_24 rfl (lv_at hl 2 rfl) ?_
    refine lv_iconst (v := 2) hx hb dX9_beside_25 (by decide) ?_
    refine lv_icmp_ne (tgt := 35) hx hb dX9_beside_26 (by decide) (fun h30 => ?_) (fun h30 => absurd h30 (by decide))
    refine lv_iload_n hx hb dX9_beside_35 rfl (lv_at hl 1 rfl) ?_
    refine lv_aload_n hx hb dX9_beside_36 rfl (lv_at hl 0 rfl) ?_
    refine va_get (D := D) (ci := 16) (v := .int 5) (C := RX9) (T := TX9) (N := 13) hx hb hts hb_0 hown hK hP 0 rfl rfl 0 (by decide) hw_0 (fun _ h9 => h9) rfl dX9_beside_37 ?_
    refine lv_iadd hx hb dX9_beside_40 ?_
    refine lv_topi (fun x31 e31 => ?_)
    refine lv_istore_n (lv' := [(3, .int x31), (0, .ref mo), (1, .int (nI ce)), (2, .int (nI 3))]) hx hb dX9_beside_41 rfl hl (by decide) rfl (fun ls hl => ?_)
    refine lv_aload_n hx hb dX9_beside_42 rfl (lv_at hl 1 rfl) ?_
    refine lv_iload_n hx hb dX9_beside_43 rfl (lv_at hl 0 rfl) ?_
    refine mc_i (wr := []) (va_runV (As := [.int x31]) (rest := []) ⟨hx, hb, hml, hown, hts⟩ (c_isCell l hst D mo th m1 m2 m3 m4 m5 l1 l2 l3 l4 cm1 x31 s.heap.size) (cwV 1 hts (gi_c (List.mem_cons_of_mem _ (List.mem_append_left _ (List.mem_of_getElem? (i := 1) rfl))) rfl (gi_c (List.mem_cons_of_mem _ (List.mem_append_left _ (List.mem_of_getElem? (i := 2) rfl))) rfl (gi_c (List.mem_cons_of_mem _ (List.mem_append_left _ (List.mem_of_getElem? (i := 3) rfl))) rfl (gi_c (List.mem_cons_of_mem _ (List.mem_append_left _ (List.mem_of_getElem? (i := 4) rfl))) rfl (goodIn_sub hb_1 (List.all_eq_true.mpr gw_c_isCell)))))) rfl rfl rfl (by decide +kernel) ⟨Nat.le_of_ble_eq_true rfl, Nat.le_of_ble_eq_true rfl⟩) (pr_V (As := [.int x31]) (b := mo) (C := RX9) hP hD hK hS hA hE [0, 1] [0] rfl rfl rfl 0 16 rfl rfl rfl) rfl rfl hl.1 rfl (lv_room (Nat.le_of_ble_eq_true rfl)) dX9_beside_44 ⟨Nat.le_of_ble_eq_true rfl, Nat.le_of_ble_eq_true rfl⟩) hP hD hK hS hA [0, 1] [] rfl rfl (by decide) (by decide) (fun r33 _ H locs w32 hP hD hK hS => ?_)
    have hP : va_P D vwCl [(mo, .inr (16, [.int 5, .int 5, .int th, .ref m1, .ref m2, .ref m3, .ref m4, .ref m5, .ref l1, .ref l2, .ref l3, .int (-1), .ref l4])), (m1, .inl (cm1, 25, .inl (fun _ => 0)))] H := hP
    have hD : va_D A [(mo, .inr (16, [.int 5, .int 5, .int th, .ref m1, .ref m2, .ref m3, .ref m4, .ref m5, .ref l1, .ref l2, .ref l3, .int (-1), .ref l4])), (m1, .inl (cm1, 25, .inl (fun _ => 0)))] := hD
    have hK : va_K D vwCl [(cm1, .int)] s := hK
    obtain rfl : r33 = (if inI x31 25 then 1 else 0) := w32
    refine lv_if_eq (tgt := 63) hx hb dX9_beside_47 (by decide) (fun h34 => ?_) (fun h34 => ?_)
    · refine lv_iconst (v := -1) hx hb dX9_beside_63 (by decide) ?_
      exact mr_i hx hb hr () ((bsF_3 hc).symm.trans (show bsF (nI ce) 3 = _ from (if_neg (ite01_0 (by have q9 := h34; rw [e31] at q9; exact q9)))) |>.symm) (hP.sub [0, 1] rfl) (hK.sub [] rfl) (hD.sub [0, 1] (by decide) rfl) hS (Nat.le_of_ble_eq_true rfl) (Nat.le_of_ble_eq_true rfl) hlocks dX9_beside_64
    · refine lv_aload_n hx hb dX9_beside_50 rfl (lv_at hl 1 rfl) ?_
      refine lv_iload_n hx hb dX9_beside_51 rfl (lv_at hl 2 rfl) ?_
      refine lv_iload_n hx hb dX9_beside_52 rfl (lv_at hl 0 rfl) ?_
      refine mc_i (wr := [(m1, .inl (cm1, 25, .inl (fun _ => 0)))]) (va_runV (As := [.int (nI ce), .int x31]) (rest := []) ⟨hx, hb, hml, hown, hts⟩ (c_areBeside l hst D mo th m1 m2 m3 m4 m5 l1 l2 l3 l4 (nI ce) x31 H.size) (cwV 2 hts (gi_c (List.mem_cons_of_mem _ (List.mem_append_left _ (List.mem_of_getElem? (i := 5) rfl))) rfl (gi_c (List.mem_cons_of_mem _ (List.mem_append_left _ (List.mem_of_getElem? (i := 6) rfl))) rfl (gi_c (List.mem_cons_of_mem _ (List.mem_append_left _ (List.mem_of_getElem? (i := 7) rfl))) rfl (gi_c (List.mem_cons_of_mem _ (List.mem_append_left _ (List.mem_of_getElem? (i := 4) rfl))) rfl (goodIn_sub hb_2 (List.all_eq_true.mpr gw_c_areBeside)))))) rfl rfl rfl (by decide +kernel) ⟨Nat.le_of_ble_eq_true rfl, Nat.le_of_ble_eq_true rfl⟩) (pr_V (As := [.int (nI ce), .int x31]) (b := mo) (C := RX9) hP hD hK hS hA hE [0] [] rfl rfl rfl 0 16 rfl rfl rfl) rfl rfl hl.1 rfl (lv_room (Nat.le_of_ble_eq_true rfl)) dX9_beside_53 ⟨Nat.le_of_ble_eq_true rfl, Nat.le_of_ble_eq_true rfl⟩) hP hD hK hS hA [0] [1] rfl rfl (by decide) (by decide) (fun r36 _ H locs w35 hP hD hK hS => ?_)
      have hP : va_P D vwCl [(m1, .inl (cm1, 25, .inl (fun _ => 0))), (mo, .inr (16, [.int 5, .int 5, .int th, .ref m1, .ref m2, .ref m3, .ref m4, .ref m5, .ref l1, .ref l2, .ref l3, .int (-1), .ref l4]))] H := hP
      have hD : va_D A [(m1, .inl (cm1, 25, .inl (fun _ => 0))), (mo, .inr (16, [.int 5, .int 5, .int th, .ref m1, .ref m2, .ref m3, .ref m4, .ref m5, .ref l1, .ref l2, .ref l3, .int (-1), .ref l4]))] := hD
      have hK : va_K D vwCl [(cm1, .int)] s := hK
      obtain rfl : r36 = (abF (nI ce) x31) := w35
      refine lv_if_eq (tgt := 63) hx hb dX9_beside_56 (by decide) (fun h37 => ?_) (fun h37 => ?_)
      · refine lv_iconst (v := -1) hx hb dX9_beside_63 (by decide) ?_
        exact mr_i hx hb hr () ((bsF_3 hc).symm.trans (show bsF (nI ce) 3 = _ from (if_pos (ite01_1 (by have q9 := h34; rw [e31] at q9; exact q9))).trans (if_pos (by have q9 := h37; rw [e31] at q9; exact q9))) |>.symm) (hP.sub [1, 0] rfl) (hK.sub [] rfl) (hD.sub [1, 0] (by decide) rfl) hS (Nat.le_of_ble_eq_true rfl) (Nat.le_of_ble_eq_true rfl) hlocks dX9_beside_64
      · refine lv_iload_n hx hb dX9_beside_59 rfl (lv_at hl 0 rfl) ?_
        refine lv_goto (tgt := 64) hx hb dX9_beside_60 (by decide) ?_
        exact mr_i hx hb hr () ((bsF_3 hc).symm.trans (show bsF (nI ce) 3 = _ from ((if_pos (ite01_1 (by have q9 := h34; rw [e31] at q9; exact q9))).trans (if_neg (by have q9 := h37; rw [e31] at q9; exact q9))).trans e31.symm) |>.symm) (hP.sub [1, 0] rfl) (hK.sub [] rfl) (hD.sub [1, 0] (by decide) rfl) hS (Nat.le_of_ble_eq_true rfl) (Nat.le_of_ble_eq_true rfl) hlocks dX9_beside_64

def us_c_costsTo : List Cond := .code yX9_costsTo cX9_costsTo 9 (some (.array .int)) :: (([.fieldLink RX9 19 "ControlWoodModel" "growth" "[I", .arrayClass .int, .constant RX9 113 (1000000000), .methodLink RX9 114 yJ7_fill_53178, .static yJ7_fill_53178, .initialized RJ7, .methodLink RX9 117 yX9_beside, .instanceMethod yX9_beside, .selects RX9 yX9_beside yX9_beside, .initialized RX9, .methodLink RX9 120 yX9_canEnter, .instanceMethod yX9_canEnter, .selects RX9 yX9_canEnter yX9_canEnter, .methodLink RX9 124 yX9_step, .instanceMethod yX9_step, .selects RX9 yX9_step yX9_step] : List Cond) ++ (wsX90 ++ (us_c_fillI ++ (us_c_beside ++ (us_c_mcan ++ (us_c_mstep ++ ([])))))))
theorem gw_c_costsTo : ∀ w ∈ us_c_costsTo, goodWord w = true := gw_cons rfl (gw_app (by decide +kernel) (gw_app gwf_X9 (gw_app gw_c_fillI (gw_app gw_c_beside (gw_app gw_c_mcan (gw_app gw_c_mstep (fun _ h => nomatch h)))))))
set_option maxHeartbeats 4000000 in
set_option maxRecDepth 100000 in
/-- the reference: costsTo -/
theorem c_costsTo (l : Launch) (hst : l.stackTraces = false) (D : va_G) (mo : Nat) (th : Int32) (m1 : Nat) (m2 : Nat) (m3 : Nat) (m4 : Nat) (m5 : Nat) (l1 : Nat) (l2 : Nat) (l3 : Nat) (l4 : Nat) (cm1 : ClassId) (cm2 : ClassId) (cm3 : ClassId) (cm4 : ClassId) (cm5 : ClassId) (to : Nat) (mp : Int32) (sz : Nat) (hc : to ≤ 24) : Met l yX9_costsTo us_c_costsTo { frames := 3, cells := 1, slots := 25, locals := 69 } (pw D [.ref mo, .int (nI to), .int mp] [(cm1, .int), (cm2, .int), (cm3, .int), (cm4, .char), (cm5, .char)] [(mo, .inr (16, [.int 5, .int 5, .int th, .ref m1, .ref m2, .ref m3, .ref m4, .ref m5, .ref l1, .ref l2, .ref l3, .int (-1), .ref l4])), (m1, .inl (cm1, 25, .inl (fun _ => 0))), (m2, .inl (cm2, 25, .inl (fun _ => 0))), (m3, .inl (cm3, 25, .inl (fun _ => 0))), (m4, .inl (cm4, 25, .inl fK5)), (m5, .inl (cm5, 25, .inl fK5))] sz) (va_Qq (fun (r : Option Nat) (u : Nat × ClassId) => r = some u.1) (qb D (va_A [(mo, .inr (16, [.int 5, .int 5, .int th, .ref m1, .ref m2, .ref m3, .ref m4, .ref m5, .ref l1, .ref l2, .ref l3, .int (-1), .ref l4])), (m1, .inl (cm1, 25, .inl (fun _ => 0))), (m2, .inl (cm2, 25, .inl (fun _ => 0))), (m3, .inl (cm3, 25, .inl (fun _ => 0))), (m4, .inl (cm4, 25, .inl fK5)), (m5, .inl (cm5, 25, .inl fK5))] sz) (fun u : (Nat × ClassId) => [(mo, .inr (16, [.int 5, .int 5, .int th, .ref m1, .ref m2, .ref m3, .ref m4, .ref m5, .ref l1, .ref l2, .ref l3, .int (-1), .ref l4])), (m1, .inl (cm1, 25, .inl (fun _ => 0))), (m2, .inl (cm2, 25, .inl (fun _ => 0))), (m3, .inl (cm3, 25, .inl (fun _ => 0))), (m4, .inl (cm4, 25, .inl fK5)), (m5, .inl (cm5, 25, .inl fK5)), (u.1, .inl (u.2, 25, .inl (fL (wayC to))))]) (fun u : (Nat × ClassId) => ([(u.2, .int)] : List (ClassId × FieldType)))) (va_A [(mo, .inr (16, [.int 5, .int 5, .int th, .ref m1, .ref m2, .ref m3, .ref m4, .ref m5, .ref l1, .ref l2, .ref l3, .int (-1), .ref l4])), (m1, .inl (cm1, 25, .inl (fun _ => 0))), (m2, .inl (cm2, 25, .inl (fun _ => 0))), (m3, .inl (cm3, 25, .inl (fun _ => 0))), (m4, .inl (cm4, 25, .inl fK5)), (m5, .inl (cm5, 25, .inl fK5))] sz)) 1 25 (va_A [(mo, .inr (16, [.int 5, .int 5, .int th, .ref m1, .ref m2, .ref m3, .ref m4, .ref m5, .ref l1, .ref l2, .ref l3, .int (-1), .ref l4])), (m1, .inl (cm1, 25, .inl (fun _ => 0))), (m2, .inl (cm2, 25, .inl (fun _ => 0))), (m3, .inl (cm3, 25, .inl (fun _ => 0))), (m4, .inl (cm4, 25, .inl fK5)), (m5, .inl (cm5, 25, .inl fK5))] sz) := by
  refine op_M (Qc := fun A => (va_Qq (fun (r : Option Nat) (u : Nat × ClassId) => r = some u.1) (qb D A (fun u : (Nat × ClassId) => [(mo, .inr (16, [.int 5, .int 5, .int th, .ref m1, .ref m2, .ref m3, .ref m4, .ref m5, .ref l1, .ref l2, .ref l3, .int (-1), .ref l4])), (m1, .inl (cm1, 25, .inl (fun _ => 0))), (m2, .inl (cm2, 25, .inl (fun _ => 0))), (m3, .inl (cm3, 25, .inl (fun _ => 0))), (m4, .inl (cm4, 25, .inl fK5)), (m5, .inl (cm5, 25, .inl fK5)), (u.1, .inl (u.2, 25, .inl (fL (wayC to))))]) (fun u : (Nat × ClassId) => ([(u.2, .int)] : List (ClassId × FieldType)))) A)) (by decide +kernel) rfl (Nat.le_of_ble_eq_true rfl) ?_
  intro p e s m args below meth c A ls hx hb hr hml hts hown hlocks hmn htab hA hD hS hP hK hE hsz hl
  have hown : s.vm.findClass RX9 = some m.cls := hown
  have hl : lv_has ls 9 [(0, .ref mo), (1, .int (nI to)), (2, .int mp)] := hl
  have hw_0 := hts (.fieldLink RX9 19 "ControlWoodModel" "growth" "[I") (List.mem_cons_of_mem _ (List.mem_append_left _ (List.mem_of_getElem? (i := 0) rfl)))
  have hw_1 := hts (.arrayClass .int) (List.mem_cons_of_mem _ (List.mem_append_left _ (List.mem_of_getElem? (i := 1) rfl)))
  have hw_2 := hts (.constant RX9 113 (1000000000)) (List.mem_cons_of_mem _ (List.mem_append_left _ (List.mem_of_getElem? (i := 2) rfl)))
  have hw_3 := hts (.methodLink RX9 114 yJ7_fill_53178) (List.mem_cons_of_mem _ (List.mem_append_left _ (List.mem_of_getElem? (i := 3) rfl)))
  have hw_4 := hts (.static yJ7_fill_53178) (List.mem_cons_of_mem _ (List.mem_append_left _ (List.mem_of_getElem? (i := 4) rfl)))
  have hw_5 := hts (.initialized RJ7) (List.mem_cons_of_mem _ (List.mem_append_left _ (List.mem_of_getElem? (i := 5) rfl)))
  have hw_6 := hts (.methodLink RX9 117 yX9_beside) (List.mem_cons_of_mem _ (List.mem_append_left _ (List.mem_of_getElem? (i := 6) rfl)))
  have hw_7 := hts (.instanceMethod yX9_beside) (List.mem_cons_of_mem _ (List.mem_append_left _ (List.mem_of_getElem? (i := 7) rfl)))
  have hw_8 := hts (.selects RX9 yX9_beside yX9_beside) (List.mem_cons_of_mem _ (List.mem_append_left _ (List.mem_of_getElem? (i := 8) rfl)))
  have hw_9 := hts (.initialized RX9) (List.mem_cons_of_mem _ (List.mem_append_left _ (List.mem_of_getElem? (i := 9) rfl)))
  have hw_10 := hts (.methodLink RX9 120 yX9_canEnter) (List.mem_cons_of_mem _ (List.mem_append_left _ (List.mem_of_getElem? (i := 10) rfl)))
  have hw_11 := hts (.instanceMethod yX9_canEnter) (List.mem_cons_of_mem _ (List.mem_append_left _ (List.mem_of_getElem? (i := 11) rfl)))
  have hw_12 := hts (.selects RX9 yX9_canEnter yX9_canEnter) (List.mem_cons_of_mem _ (List.mem_append_left _ (List.mem_of_getElem? (i := 12) rfl)))
  have hw_13 := hts (.methodLink RX9 124 yX9_step) (List.mem_cons_of_mem _ (List.mem_append_left _ (List.mem_of_getElem? (i := 13) rfl)))
  have hw_14 := hts (.instanceMethod yX9_step) (List.mem_cons_of_mem _ (List.mem_append_left _ (List.mem_of_getElem? (i := 14) rfl)))
  have hw_15 := hts (.selects RX9 yX9_step yX9_step) (List.mem_cons_of_mem _ (List.mem_append_left _ (List.mem_of_getElem? (i := 15) rfl)))
  have hb_0 : ∀ w ∈ wsX90, w ∈ us_c_costsTo := fun w h => List.mem_cons_of_mem _ (List.mem_append_right _ (List.mem_append_left _ h))
  have hb_1 : ∀ w ∈ us_c_fillI, w ∈ us_c_costsTo := fun w h => List.mem_cons_of_mem _ (List.mem_append_right _ (List.mem_append_right _ (List.mem_append_left _ h)))
  have hb_2 : ∀ w ∈ us_c_beside, w ∈ us_c_costsTo := fun w h => List.mem_cons_of_mem _ (List.mem_append_right _ (List.mem_append_right _ (List.mem_append_right _ (List.mem_append_left _ h))))
  have hb_3 : ∀ w ∈ us_c_mcan, w ∈ us_c_costsTo := fun w h => List.mem_cons_of_mem _ (List.mem_append_right _ (List.mem_append_right _ (List.mem_append_right _ (List.mem_append_right _ (List.mem_append_left _ h)))))
  have hb_4 : ∀ w ∈ us_c_mstep, w ∈ us_c_costsTo := fun w h => List.mem_cons_of_mem _ (List.mem_append_right _ (List.mem_append_right _ (List.mem_append_right _ (List.mem_append_right _ (List.mem_append_right _ (List.mem_append_left _ h))))))
  refine lv_aload_n hx hb dX9_costsTo_0 rfl (lv_at hl 0 rfl) ?_
  refine va_get (D := D) (ci := 16) (v := .ref m1) (C := RX9) (T := TX9) (N := 13) hx hb hts hb_0 hown hK hP 0 rfl rfl 3 (by decide) hw_0 (fun _ h9 => h9) rfl dX9_costsTo_1 ?_
  refine va_alen hx hb hK hP 1 0 rfl rfl (v := 25) rfl dX9_costsTo_4 ?_
  refine va_newa (atype := .int) (ty := .int) (a0 := (25, .inl (fun _ => 0))) hx hb hw_1 rfl hK hP hD hS hA (N' := 25) (fun _ => rfl) (by decide) (by decide) (Nat.le_of_ble_eq_true rfl) (Nat.le_of_ble_eq_true rfl) (Nat.le_of_ble_eq_true rfl) dX9_costsTo_5 (fun q1 cy2 H hK hP hD hS => ?_)
  have hK : va_K D vwCl [(cm1, .int), (cm2, .int), (cm3, .int), (cm4, .char), (cm5, .char), (cy2, .int)] s := hK
  have hP : va_P D vwCl [(mo, .inr (16, [.int 5, .int 5, .int th, .ref m1, .ref m2, .ref m3, .ref m4, .ref m5, .ref l1, .ref l2, .ref l3, .int (-1), .ref l4])), (m1, .inl (cm1, 25, .inl (fun _ => 0))), (m2, .inl (cm2, 25, .inl (fun _ => 0))), (m3, .inl (cm3, 25, .inl (fun _ => 0))), (m4, .inl (cm4, 25, .inl fK5)), (m5, .inl (cm5, 25, .inl fK5)), (q1, .inl (cy2, 25, .inl (fun _ => 0)))] H := hP
  have hD : va_D A [(mo, .inr (16, [.int 5, .int 5, .int th, .ref m1, .ref m2, .ref m3, .ref m4, .ref m5, .ref l1, .ref l2, .ref l3, .int (-1), .ref l4])), (m1, .inl (cm1, 25, .inl (fun _ => 0))), (m2, .inl (cm2, 25, .inl (fun _ => 0))), (m3, .inl (cm3, 25, .inl (fun _ => 0))), (m4, .inl (cm4, 25, .inl fK5)), (m5, .inl (cm5, 25, .inl fK5)), (q1, .inl (cy2, 25, .inl (fun _ => 0)))] := hD
  refine W.widen (k := 1) (n := 25) (Nat.le_of_ble_eq_true rfl) (Nat.le_of_ble_eq_true rfl) ?_
  refine lv_astore_n (lv' := [(3, .ref q1), (0, .ref mo), (1, .int (nI to)), (2, .int mp)]) hx hb dX9_costsTo_7 rfl hl (by decide) rfl (fun ls hl => ?_)
  refine lv_aload_n hx hb dX9_costsTo_8 rfl (lv_at hl 0 rfl) ?_
  refine lv_ldc hx hb hown hw_2 dX9_costsTo_9 ?_
  refine mc_v (wr := [(mo, .inr (16, [.int 5, .int 5, .int th, .ref m1, .ref m2, .ref m3, .ref m4, .ref m5, .ref l1, .ref l2, .ref l3, .int (-1), .ref l4])), (m1, .inl (cm1, 25, .inl (fun _ => 0))), (m2, .inl (cm2, 25, .inl (fun _ => 0))), (m3, .inl (cm3, 25, .inl (fun _ => 0))), (m4, .inl (cm4, 25, .inl fK5)), (m5, .inl (cm5, 25, .inl fK5))]) (va_runS (As := [.ref q1, .int 1000000000]) (rest := []) ⟨hx, hb, hml, hown, hts⟩ (c_fillI l hst D q1 cy2 25 (fun _ => 0) 1000000000 H.size (by decide)) (va_cwS 2 hts (gi_c (List.mem_cons_of_mem _ (List.mem_append_left _ (List.mem_of_getElem? (i := 3) rfl))) rfl (gi_c (List.mem_cons_of_mem _ (List.mem_append_left _ (List.mem_of_getElem? (i := 4) rfl))) rfl (gi_c (List.mem_cons_of_mem _ (List.mem_append_left _ (List.mem_of_getElem? (i := 5) rfl))) rfl (goodIn_sub hb_1 (List.all_eq_true.mpr gw_c_fillI))))) rfl rfl rfl (by decide +kernel) ⟨Nat.le_of_ble_eq_true rfl, Nat.le_of_ble_eq_true rfl⟩) (pr_S (As := [.ref q1, .int 1000000000]) hP hD hK hS hA hE [6] [5] rfl rfl rfl) rfl rfl hl.1 rfl (lv_room (Nat.le_of_ble_eq_true rfl)) dX9_costsTo_11 ⟨Nat.le_of_ble_eq_true rfl, Nat.le_of_ble_eq_true rfl⟩) hP hD hK hS hA [6] [0, 1, 2, 3, 4, 5] rfl rfl (by decide) (by decide) (fun _ H locs w3 hP hD hK hS => ?_)
  have hP : va_P D vwCl [(mo, .inr (16, [.int 5, .int 5, .int th, .ref m1, .ref m2, .ref m3, .ref m4, .ref m5, .ref l1, .ref l2, .ref l3, .int (-1), .ref l4])), (m1, .inl (cm1, 25, .inl (fun _ => 0))), (m2, .inl (cm2, 25, .inl (fun _ => 0))), (m3, .inl (cm3, 25, .inl (fun _ => 0))), (m4, .inl (cm4, 25, .inl fK5)), (m5, .inl (cm5, 25, .inl fK5)), (q1, .inl (cy2, 25, .inl (fa_fill (fun _ => 1000000000) (fun _ => 0) 25)))] H := hP
  have hD : va_D A [(mo, .inr (16, [.int 5, .int 5, .int th, .ref m1, .ref m2, .ref m3, .ref m4, .ref m5, .ref l1, .ref l2, .ref l3, .int (-1), .ref l4])), (m1, .inl (cm1, 25, .inl (fun _ => 0))), (m2, .inl (cm2, 25, .inl (fun _ => 0))), (m3, .inl (cm3, 25, .inl (fun _ => 0))), (m4, .inl (cm4, 25, .inl fK5)), (m5, .inl (cm5, 25, .inl fK5)), (q1, .inl (cy2, 25, .inl (fa_fill (fun _ => 1000000000) (fun _ => 0) 25)))] := hD
  have hK : va_K D vwCl [(cm1, .int), (cm2, .int), (cm3, .int), (cm4, .char), (cm5, .char), (cy2, .int)] s := hK
  have hP : va_P D vwCl [(mo, .inr (16, [.int 5, .int 5, .int th, .ref m1, .ref m2, .ref m3, .ref m4, .ref m5, .ref l1, .ref l2, .ref l3, .int (-1), .ref l4])), (m1, .inl (cm1, 25, .inl (fun _ => 0))), (m2, .inl (cm2, 25, .inl (fun _ => 0))), (m3, .inl (cm3, 25, .inl (fun _ => 0))), (m4, .inl (cm4, 25, .inl fK5)), (m5, .inl (cm5, 25, .inl fK5)), (q1, .inl (cy2, 25, .inl (fa_fill (fun _ => 1000000000) (fun _ => 0) 25)))] H := hP
  have hD : va_D A [(mo, .inr (16, [.int 5, .int 5, .int th, .ref m1, .ref m2, .ref m3, .ref m4, .ref m5, .ref l1, .ref l2, .ref l3, .int (-1), .ref l4])), (m1, .inl (cm1, 25, .inl (fun _ => 0))), (m2, .inl (cm2, 25, .inl (fun _ => 0))), (m3, .inl (cm3, 25, .inl (fun _ => 0))), (m4, .inl (cm4, 25, .inl fK5)), (m5, .inl (cm5, 25, .inl fK5)), (q1, .inl (cy2, 25, .inl (fa_fill (fun _ => 1000000000) (fun _ => 0) 25)))] := hD
  have hcf : ([(mo, .inr (16, [.int 5, .int 5, .int th, .ref m1, .ref m2, .ref m3, .ref m4, .ref m5, .ref l1, .ref l2, .ref l3, .int (-1), .ref l4])), (m1, .inl (cm1, 25, .inl (fun _ => 0))), (m2, .inl (cm2, 25, .inl (fun _ => 0))), (m3, .inl (cm3, 25, .inl (fun _ => 0))), (m4, .inl (cm4, 25, .inl fK5)), (m5, .inl (cm5, 25, .inl fK5)), (q1, .inl (cy2, 25, .inl (fa_fill (fun _ => 1000000000) (fun _ => 0) 25)))] : va_W) = [(mo, .inr (16, [.int 5, .int 5, .int th, .ref m1, .ref m2, .ref m3, .ref m4, .ref m5, .ref l1, .ref l2, .ref l3, .int (-1), .ref l4])), (m1, .inl (cm1, 25, .inl (fun _ => 0))), (m2, .inl (cm2, 25, .inl (fun _ => 0))), (m3, .inl (cm3, 25, .inl (fun _ => 0))), (m4, .inl (cm4, 25, .inl fK5)), (m5, .inl (cm5, 25, .inl fK5)), (q1, .inl (cy2, 25, .inl (fL (List.replicate 25 1000000000))))] := congrArg (fun f9 : Nat → Int32 => ([(mo, .inr (16, [.int 5, .int 5, .int th, .ref m1, .ref m2, .ref m3, .ref m4, .ref m5, .ref l1, .ref l2, .ref l3, .int (-1), .ref l4])), (m1, .inl (cm1, 25, .inl (fun _ => 0))), (m2, .inl (cm2, 25, .inl (fun _ => 0))), (m3, .inl (cm3, 25, .inl (fun _ => 0))), (m4, .inl (cm4, 25, .inl fK5)), (m5, .inl (cm5, 25, .inl fK5)), (q1, .inl (cy2, 25, .inl f9))] : va_W)) (show (fa_fill (fun _ => 1000000000) (fun _ => 0) 25 : Nat → Int32) = fL (List.replicate 25 1000000000) from by rw [fL_zero 25]; exact fill_rep List.length_replicate)
  rw [hcf] at hP hD
  clear hcf
  have hP : va_P D vwCl [(mo, .inr (16, [.int 5, .int 5, .int th, .ref m1, .ref m2, .ref m3, .ref m4, .ref m5, .ref l1, .ref l2, .ref l3, .int (-1), .ref l4])), (m1, .inl (cm1, 25, .inl (fun _ => 0))), (m2, .inl (cm2, 25, .inl (fun _ => 0))), (m3, .inl (cm3, 25, .inl (fun _ => 0))), (m4, .inl (cm4, 25, .inl fK5)), (m5, .inl (cm5, 25, .inl fK5)), (q1, .inl (cy2, 25, .inl (fL (List.replicate 25 1000000000))))] H := hP
  have hD : va_D A [(mo, .inr (16, [.int 5, .int 5, .int th, .ref m1, .ref m2, .ref m3, .ref m4, .ref m5, .ref l1, .ref l2, .ref l3, .int (-1), .ref l4])), (m1, .inl (cm1, 25, .inl (fun _ => 0))), (m2, .inl (cm2, 25, .inl (fun _ => 0))), (m3, .inl (cm3, 25, .inl (fun _ => 0))), (m4, .inl (cm4, 25, .inl fK5)), (m5, .inl (cm5, 25, .inl fK5)), (q1, .inl (cy2, 25, .inl (fL (List.replicate 25 1000000000))))] := hD
  refine lv_aload_n hx hb dX9_costsTo_14 rfl (lv_at hl 0 rfl) ?_
  refine lv_iload_n hx hb dX9_costsTo_15 rfl (lv_at hl 2 rfl) ?_
  refine lv_iconst (v := 0) hx hb dX9_costsTo_16 (by decide) ?_
  refine va_iast hx hb hK hP hD hS 6 5 rfl rfl (vp_in_nI (n := to) (by omega) (by decide)) dX9_costsTo_17 (fun H locs hP hD hS => ?_)
  have hcf : upd (fL (List.replicate 25 1000000000)) ((nI to).toNatClampNeg) 0 = fL ((List.replicate 25 1000000000).set to 0) := fL_up (L := (List.replicate 25 1000000000)) (k := to) (v := 0) (by simp; omega) (by omega)
  have hP : va_P D vwCl [(mo, .inr (16, [.int 5, .int 5, .int th, .ref m1, .ref m2, .ref m3, .ref m4, .ref m5, .ref l1, .ref l2, .ref l3, .int (-1), .ref l4])), (m1, .inl (cm1, 25, .inl (fun _ => 0))), (m2, .inl (cm2, 25, .inl (fun _ => 0))), (m3, .inl (cm3, 25, .inl (fun _ => 0))), (m4, .inl (cm4, 25, .inl fK5)), (m5, .inl (cm5, 25, .inl fK5)), (q1, .inl (cy2, 25, .inl (upd (fL (List.replicate 25 1000000000)) ((nI to).toNatClampNeg) 0)))] H := hP
  have hD : va_D A [(mo, .inr (16, [.int 5, .int 5, .int th, .ref m1, .ref m2, .ref m3, .ref m4, .ref m5, .ref l1, .ref l2, .ref l3, .int (-1), .ref l4])), (m1, .inl (cm1, 25, .inl (fun _ => 0))), (m2, .inl (cm2, 25, .inl (fun _ => 0))), (m3, .inl (cm3, 25, .inl (fun _ => 0))), (m4, .inl (cm4, 25, .inl fK5)), (m5, .inl (cm5, 25, .inl fK5)), (q1, .inl (cy2, 25, .inl (upd (fL (List.replicate 25 1000000000)) ((nI to).toNatClampNeg) 0)))] := hD
  rw [hcf] at hP hD
  clear hcf
  have hP : va_P D vwCl [(mo, .inr (16, [.int 5, .int 5, .int th, .ref m1, .ref m2, .ref m3, .ref m4, .ref m5, .ref l1, .ref l2, .ref l3, .int (-1), .ref l4])), (m1, .inl (cm1, 25, .inl (fun _ => 0))), (m2, .inl (cm2, 25, .inl (fun _ => 0))), (m3, .inl (cm3, 25, .inl (fun _ => 0))), (m4, .inl (cm4, 25, .inl fK5)), (m5, .inl (cm5, 25, .inl fK5)), (q1, .inl (cy2, 25, .inl (fL ((List.replicate 25 1000000000).set to 0))))] H := hP
  have hD : va_D A [(mo, .inr (16, [.int 5, .int 5, .int th, .ref m1, .ref m2, .ref m3, .ref m4, .ref m5, .ref l1, .ref l2, .ref l3, .int (-1), .ref l4])), (m1, .inl (cm1, 25, .inl (fun _ => 0))), (m2, .inl (cm2, 25, .inl (fun _ => 0))), (m3, .inl (cm3, 25, .inl (fun _ => 0))), (m4, .inl (cm4, 25, .inl fK5)), (m5, .inl (cm5, 25, .inl fK5)), (q1, .inl (cy2, 25, .inl (fL ((List.replicate 25 1000000000).set to 0))))] := hD
  refine lv_iconst (v := 1) hx hb dX9_costsTo_18 (by decide) ?_
  refine lv_istore (lv' := [(4, .int 1), (3, .ref q1), (0, .ref mo), (1, .int (nI to)), (2, .int mp)]) hx hb dX9_costsTo_19 hl (by decide) rfl (fun ls hl => ?_)
  have l1 : ∀ (fu : Nat) (s1 : List Nat × Nat) (H : Heap) (locs : List Loc) (ls : Array Slot), (okC s1.1) → (s1.2 ≤ 1) → (ctR fu s1 = wayC to) → (ctOK fu s1 = true) → lv_has ls 9 [(4, .int (nI s1.2)), (0, .ref mo), (1, .int (nI to)), (2, .int mp), (3, .ref q1)] → va_P D vwCl [(mo, .inr (16, [.int 5, .int 5, .int th, .ref m1, .ref m2, .ref m3, .ref m4, .ref m5, .ref l1, .ref l2, .ref l3, .int (-1), .ref l4])), (m1, .inl (cm1, 25, .inl (fun _ => 0))), (m2, .inl (cm2, 25, .inl (fun _ => 0))), (m3, .inl (cm3, 25, .inl (fun _ => 0))), (m4, .inl (cm4, 25, .inl fK5)), (m5, .inl (cm5, 25, .inl fK5)), (q1, .inl (cy2, 25, .inl (fL s1.1)))] H → va_D A [(mo, .inr (16, [.int 5, .int 5, .int th, .ref m1, .ref m2, .ref m3, .ref m4, .ref m5, .ref l1, .ref l2, .ref l3, .int (-1), .ref l4])), (m1, .inl (cm1, 25, .inl (fun _ => 0))), (m2, .inl (cm2, 25, .inl (fun _ => 0))), (m3, .inl (cm3, 25, .inl (fun _ => 0))), (m4, .inl (cm4, 25, .inl fK5)), (m5, .inl (cm5, 25, .inl fK5)), (q1, .inl (cy2, 25, .inl (fL s1.1)))] → va_S A s.heap H locs → W p l e { frames := 3, cells := 1, slots := 25, locals := 69 } s m args below meth c H locs 1 25 (MQ below (va_Qq (fun (r : Option Nat) (u : Nat × ClassId) => r = some u.1) (qb D A (fun u : (Nat × ClassId) => [(mo, .inr (16, [.int 5, .int 5, .int th, .ref m1, .ref m2, .ref m3, .ref m4, .ref m5, .ref l1, .ref l2, .ref l3, .int (-1), .ref l4])), (m1, .inl (cm1, 25, .inl (fun _ => 0))), (m2, .inl (cm2, 25, .inl (fun _ => 0))), (m3, .inl (cm3, 25, .inl (fun _ => 0))), (m4, .inl (cm4, 25, .inl fK5)), (m5, .inl (cm5, 25, .inl fK5)), (u.1, .inl (u.2, 25, .inl (fL (wayC to))))]) (fun u : (Nat × ClassId) => ([(u.2, .int)] : List (ClassId × FieldType)))) A) args s 1 25 A) (F0 m 21 ls []) := by
    intro fu
    induction fu with
    | zero =>
      intro s1 H locs ls ok1 hm1 hM hO hl hP hD hS
      have ok1 : okC s1.1 := ok1
      have hm1 : s1.2 ≤ 1 := hm1
      have hM : ctR 0 s1 = wayC to := hM
      have hO : ctOK 0 s1 = true := hO
      have hz := of_decide_eq_true hO
      refine lv_iload hx hb dX9_costsTo_21 (lv_at hl 0 rfl) ?_
      refine lv_if_eq (tgt := 138) hx hb dX9_costsTo_23 (by decide) (fun h5 => ?_) (fun h5 => absurd (by exact (nI_eq (a := s1.2) (b := 0) (by omega) (by omega)).mpr (by omega)) h5)
      refine lv_aload_n hx hb dX9_costsTo_138 rfl (lv_at hl 4 rfl) ?_
      have hP : va_P D vwCl [(mo, .inr (16, [.int 5, .int 5, .int th, .ref m1, .ref m2, .ref m3, .ref m4, .ref m5, .ref l1, .ref l2, .ref l3, .int (-1), .ref l4])), (m1, .inl (cm1, 25, .inl (fun _ => 0))), (m2, .inl (cm2, 25, .inl (fun _ => 0))), (m3, .inl (cm3, 25, .inl (fun _ => 0))), (m4, .inl (cm4, 25, .inl fK5)), (m5, .inl (cm5, 25, .inl fK5)), (q1, .inl (cy2, 25, .inl (fL s1.1)))] H := hP
      have hD : va_D A [(mo, .inr (16, [.int 5, .int 5, .int th, .ref m1, .ref m2, .ref m3, .ref m4, .ref m5, .ref l1, .ref l2, .ref l3, .int (-1), .ref l4])), (m1, .inl (cm1, 25, .inl (fun _ => 0))), (m2, .inl (cm2, 25, .inl (fun _ => 0))), (m3, .inl (cm3, 25, .inl (fun _ => 0))), (m4, .inl (cm4, 25, .inl fK5)), (m5, .inl (cm5, 25, .inl fK5)), (q1, .inl (cy2, 25, .inl (fL s1.1)))] := hD
      have hcf : ([(mo, .inr (16, [.int 5, .int 5, .int th, .ref m1, .ref m2, .ref m3, .ref m4, .ref m5, .ref l1, .ref l2, .ref l3, .int (-1), .ref l4])), (m1, .inl (cm1, 25, .inl (fun _ => 0))), (m2, .inl (cm2, 25, .inl (fun _ => 0))), (m3, .inl (cm3, 25, .inl (fun _ => 0))), (m4, .inl (cm4, 25, .inl fK5)), (m5, .inl (cm5, 25, .inl fK5)), (q1, .inl (cy2, 25, .inl (fL s1.1)))] : va_W) = [(mo, .inr (16, [.int 5, .int 5, .int th, .ref m1, .ref m2, .ref m3, .ref m4, .ref m5, .ref l1, .ref l2, .ref l3, .int (-1), .ref l4])), (m1, .inl (cm1, 25, .inl (fun _ => 0))), (m2, .inl (cm2, 25, .inl (fun _ => 0))), (m3, .inl (cm3, 25, .inl (fun _ => 0))), (m4, .inl (cm4, 25, .inl fK5)), (m5, .inl (cm5, 25, .inl fK5)), (q1, .inl (cy2, 25, .inl (fL (wayC to))))] := congrArg (fun f9 : Nat → Int32 => ([(mo, .inr (16, [.int 5, .int 5, .int th, .ref m1, .ref m2, .ref m3, .ref m4, .ref m5, .ref l1, .ref l2, .ref l3, .int (-1), .ref l4])), (m1, .inl (cm1, 25, .inl (fun _ => 0))), (m2, .inl (cm2, 25, .inl (fun _ => 0))), (m3, .inl (cm3, 25, .inl (fun _ => 0))), (m4, .inl (cm4, 25, .inl fK5)), (m5, .inl (cm5, 25, .inl fK5)), (q1, .inl (cy2, 25, .inl f9))] : va_W)) (show (fL s1.1 : Nat → Int32) = fL (wayC to) from by rw [← hM, ct_stop (by omega)])
      rw [hcf] at hP hD
      clear hcf
      have hP : va_P D vwCl [(mo, .inr (16, [.int 5, .int 5, .int th, .ref m1, .ref m2, .ref m3, .ref m4, .ref m5, .ref l1, .ref l2, .ref l3, .int (-1), .ref l4])), (m1, .inl (cm1, 25, .inl (fun _ => 0))), (m2, .inl (cm2, 25, .inl (fun _ => 0))), (m3, .inl (cm3, 25, .inl (fun _ => 0))), (m4, .inl (cm4, 25, .inl fK5)), (m5, .inl (cm5, 25, .inl fK5)), (q1, .inl (cy2, 25, .inl (fL (wayC to))))] H := hP
      have hD : va_D A [(mo, .inr (16, [.int 5, .int 5, .int th, .ref m1, .ref m2, .ref m3, .ref m4, .ref m5, .ref l1, .ref l2, .ref l3, .int (-1), .ref l4])), (m1, .inl (cm1, 25, .inl (fun _ => 0))), (m2, .inl (cm2, 25, .inl (fun _ => 0))), (m3, .inl (cm3, 25, .inl (fun _ => 0))), (m4, .inl (cm4, 25, .inl fK5)), (m5, .inl (cm5, 25, .inl fK5)), (q1, .inl (cy2, 25, .inl (fL (wayC to))))] := hD
      exact mr_q (v := some q1) hx hb hr (Or.inr ⟨_, rfl⟩) (q1, cy2) (rfl) (hP.sub [0, 1, 2, 3, 4, 5, 6] rfl) (hK.sub [5] rfl) (hD.sub [0, 1, 2, 3, 4, 5, 6] (by decide) rfl) hS (Nat.le_of_ble_eq_true rfl) (Nat.le_of_ble_eq_true rfl) hlocks dX9_costsTo_139
    | succ fu ih =>
      intro s1 H locs ls ok1 hm1 hM hO hl hP hD hS
      have ok1 : okC s1.1 := ok1
      have hm1 : s1.2 ≤ 1 := hm1
      have hM : ctR (fu + 1) s1 = wayC to := hM
      have hO : ctOK (fu + 1) s1 = true := hO
      refine lv_iload hx hb dX9_costsTo_21 (lv_at hl 0 rfl) ?_
      refine lv_if_eq (tgt := 138) hx hb dX9_costsTo_23 (by decide) (fun h6 => ?_) (fun h6 => ?_)
      · have n6 : s1.2 = 0 := (nI_eq (a := s1.2) (b := 0) (by omega) (by omega)).mp h6
        refine lv_aload_n hx hb dX9_costsTo_138 rfl (lv_at hl 4 rfl) ?_
        have hP : va_P D vwCl [(mo, .inr (16, [.int 5, .int 5, .int th, .ref m1, .ref m2, .ref m3, .ref m4, .ref m5, .ref l1, .ref l2, .ref l3, .int (-1), .ref l4])), (m1, .inl (cm1, 25, .inl (fun _ => 0))), (m2, .inl (cm2, 25, .inl (fun _ => 0))), (m3, .inl (cm3, 25, .inl (fun _ => 0))), (m4, .inl (cm4, 25, .inl fK5)), (m5, .inl (cm5, 25, .inl fK5)), (q1, .inl (cy2, 25, .inl (fL s1.1)))] H := hP
        have hD : va_D A [(mo, .inr (16, [.int 5, .int 5, .int th, .ref m1, .ref m2, .ref m3, .ref m4, .ref m5, .ref l1, .ref l2, .ref l3, .int (-1), .ref l4])), (m1, .inl (cm1, 25, .inl (fun _ => 0))), (m2, .inl (cm2, 25, .inl (fun _ => 0))), (m3, .inl (cm3, 25, .inl (fun _ => 0))), (m4, .inl (cm4, 25, .inl fK5)), (m5, .inl (cm5, 25, .inl fK5)), (q1, .inl (cy2, 25, .inl (fL s1.1)))] := hD
        have hcf : ([(mo, .inr (16, [.int 5, .int 5, .int th, .ref m1, .ref m2, .ref m3, .ref m4, .ref m5, .ref l1, .ref l2, .ref l3, .int (-1), .ref l4])), (m1, .inl (cm1, 25, .inl (fun _ => 0))), (m2, .inl (cm2, 25, .inl (fun _ => 0))), (m3, .inl (cm3, 25, .inl (fun _ => 0))), (m4, .inl (cm4, 25, .inl fK5)), (m5, .inl (cm5, 25, .inl fK5)), (q1, .inl (cy2, 25, .inl (fL s1.1)))] : va_W) = [(mo, .inr (16, [.int 5, .int 5, .int th, .ref m1, .ref m2, .ref m3, .ref m4, .ref m5, .ref l1, .ref l2, .ref l3, .int (-1), .ref l4])), (m1, .inl (cm1, 25, .inl (fun _ => 0))), (m2, .inl (cm2, 25, .inl (fun _ => 0))), (m3, .inl (cm3, 25, .inl (fun _ => 0))), (m4, .inl (cm4, 25, .inl fK5)), (m5, .inl (cm5, 25, .inl fK5)), (q1, .inl (cy2, 25, .inl (fL (wayC to))))] := congrArg (fun f9 : Nat → Int32 => ([(mo, .inr (16, [.int 5, .int 5, .int th, .ref m1, .ref m2, .ref m3, .ref m4, .ref m5, .ref l1, .ref l2, .ref l3, .int (-1), .ref l4])), (m1, .inl (cm1, 25, .inl (fun _ => 0))), (m2, .inl (cm2, 25, .inl (fun _ => 0))), (m3, .inl (cm3, 25, .inl (fun _ => 0))), (m4, .inl (cm4, 25, .inl fK5)), (m5, .inl (cm5, 25, .inl fK5)), (q1, .inl (cy2, 25, .inl f9))] : va_W)) (show (fL s1.1 : Nat → Int32) = fL (wayC to) from by rw [← hM, ct_stop (by omega)])
        rw [hcf] at hP hD
        clear hcf
        have hP : va_P D vwCl [(mo, .inr (16, [.int 5, .int 5, .int th, .ref m1, .ref m2, .ref m3, .ref m4, .ref m5, .ref l1, .ref l2, .ref l3, .int (-1), .ref l4])), (m1, .inl (cm1, 25, .inl (fun _ => 0))), (m2, .inl (cm2, 25, .inl (fun _ => 0))), (m3, .inl (cm3, 25, .inl (fun _ => 0))), (m4, .inl (cm4, 25, .inl fK5)), (m5, .inl (cm5, 25, .inl fK5)), (q1, .inl (cy2, 25, .inl (fL (wayC to))))] H := hP
        have hD : va_D A [(mo, .inr (16, [.int 5, .int 5, .int th, .ref m1, .ref m2, .ref m3, .ref m4, .ref m5, .ref l1, .ref l2, .ref l3, .int (-1), .ref l4])), (m1, .inl (cm1, 25, .inl (fun _ => 0))), (m2, .inl (cm2, 25, .inl (fun _ => 0))), (m3, .inl (cm3, 25, .inl (fun _ => 0))), (m4, .inl (cm4, 25, .inl fK5)), (m5, .inl (cm5, 25, .inl fK5)), (q1, .inl (cy2, 25, .inl (fL (wayC to))))] := hD
        exact mr_q (v := some q1) hx hb hr (Or.inr ⟨_, rfl⟩) (q1, cy2) (rfl) (hP.sub [0, 1, 2, 3, 4, 5, 6] rfl) (hK.sub [5] rfl) (hD.sub [0, 1, 2, 3, 4, 5, 6] (by decide) rfl) hS (Nat.le_of_ble_eq_true rfl) (Nat.le_of_ble_eq_true rfl) hlocks dX9_costsTo_139
      · have n6 : ¬ (s1.2 = 0) := fun q9 => h6 ((nI_eq (a := s1.2) (b := 0) (by omega) (by omega)).mpr q9)
        refine lv_iconst (v := 0) hx hb dX9_costsTo_26 (by decide) ?_
        refine lv_istore (lv' := [(4, .int 0), (0, .ref mo), (1, .int (nI to)), (2, .int mp), (3, .ref q1)]) hx hb dX9_costsTo_27 hl (by decide) rfl (fun ls hl => ?_)
        refine lv_iconst (v := 0) hx hb dX9_costsTo_29 (by decide) ?_
        refine lv_istore (lv' := [(5, .int 0), (4, .int 0), (0, .ref mo), (1, .int (nI to)), (2, .int mp), (3, .ref q1)]) hx hb dX9_costsTo_30 hl (by decide) rfl (fun ls hl => ?_)
        have hM2 := (ct_go n6).symm.trans hM
        have hO2 := ctOK_go n6 hO
        have l2 : ∀ (f2 : Nat) (i : Nat) (s2 : List Nat × Nat) (H : Heap) (locs : List Loc) (ls : Array Slot), (i + f2 = 25) → (okC s2.1) → (s2.2 ≤ 1) → (coM f2 s2 = coM 25 (s1.1, 0)) → lv_has ls 9 [(5, .int (nI i)), (4, .int (nI s2.2)), (0, .ref mo), (1, .int (nI to)), (2, .int mp), (3, .ref q1)] → va_P D vwCl [(mo, .inr (16, [.int 5, .int 5, .int th, .ref m1, .ref m2, .ref m3, .ref m4, .ref m5, .ref l1, .ref l2, .ref l3, .int (-1), .ref l4])), (m1, .inl (cm1, 25, .inl (fun _ => 0))), (m2, .inl (cm2, 25, .inl (fun _ => 0))), (m3, .inl (cm3, 25, .inl (fun _ => 0))), (m4, .inl (cm4, 25, .inl fK5)), (m5, .inl (cm5, 25, .inl fK5)), (q1, .inl (cy2, 25, .inl (fL s2.1)))] H → va_D A [(mo, .inr (16, [.int 5, .int 5, .int th, .ref m1, .ref m2, .ref m3, .ref m4, .ref m5, .ref l1, .ref l2, .ref l3, .int (-1), .ref l4])), (m1, .inl (cm1, 25, .inl (fun _ => 0))), (m2, .inl (cm2, 25, .inl (fun _ => 0))), (m3, .inl (cm3, 25, .inl (fun _ => 0))), (m4, .inl (cm4, 25, .inl fK5)), (m5, .inl (cm5, 25, .inl fK5)), (q1, .inl (cy2, 25, .inl (fL s2.1)))] → va_S A s.heap H locs → W p l e { frames := 3, cells := 1, slots := 25, locals := 69 } s m args below meth c H locs 1 25 (MQ below (va_Qq (fun (r : Option Nat) (u : Nat × ClassId) => r = some u.1) (qb D A (fun u : (Nat × ClassId) => [(mo, .inr (16, [.int 5, .int 5, .int th, .ref m1, .ref m2, .ref m3, .ref m4, .ref m5, .ref l1, .ref l2, .ref l3, .int (-1), .ref l4])), (m1, .inl (cm1, 25, .inl (fun _ => 0))), (m2, .inl (cm2, 25, .inl (fun _ => 0))), (m3, .inl (cm3, 25, .inl (fun _ => 0))), (m4, .inl (cm4, 25, .inl fK5)), (m5, .inl (cm5, 25, .inl fK5)), (u.1, .inl (u.2, 25, .inl (fL (wayC to))))]) (fun u : (Nat × ClassId) => ([(u.2, .int)] : List (ClassId × FieldType)))) A) args s 1 25 A) (F0 m 32 ls []) := by
          intro f2
          induction f2 with
          | zero =>
            intro i s2 H locs ls hi ok2 hm2 hP2 hl hP hD hS
            have hi : i + 0 = 25 := hi
            have ok2 : okC s2.1 := ok2
            have hm2 : s2.2 ≤ 1 := hm2
            have hP2 : coM 0 s2 = coM 25 (s1.1, 0) := hP2
            refine lv_iload hx hb dX9_costsTo_32 (lv_at hl 0 rfl) ?_
            refine lv_aload_n hx hb dX9_costsTo_34 rfl (lv_at hl 5 rfl) ?_
            refine va_alen hx hb hK hP 6 5 rfl rfl (v := 25) rfl dX9_costsTo_35 ?_
            refine lv_icmp_ge (tgt := 135) hx hb dX9_costsTo_36 (by decide) (fun h7 => ?_) (fun h7 => absurd (by exact (nI_leI (a := 25) (b := i) (by omega) (by omega)).mpr (by omega)) h7)
            refine lv_goto (tgt := 21) hx hb dX9_costsTo_135 (by decide) ?_
            exact ih  s2 _ _ _ ok2 hm2 (by rw [← hP2] at hM2; exact hM2) (by rw [← hP2] at hO2; exact hO2) (lv_sub hl [1, 2, 3, 4, 5] rfl) (hP.sub [0, 1, 2, 3, 4, 5, 6] rfl) (hD.sub [0, 1, 2, 3, 4, 5, 6] (by decide) rfl) hS
          | succ f2 ih2 =>
            intro i s2 H locs ls hi ok2 hm2 hP2 hl hP hD hS
            have hi : i + (f2 + 1) = 25 := hi
            have ok2 : okC s2.1 := ok2
            have hm2 : s2.2 ≤ 1 := hm2
            have hP2 : coM (f2 + 1) s2 = coM 25 (s1.1, 0) := hP2
            refine lv_iload hx hb dX9_costsTo_32 (lv_at hl 0 rfl) ?_
            refine lv_aload_n hx hb dX9_costsTo_34 rfl (lv_at hl 5 rfl) ?_
            refine va_alen hx hb hK hP 6 5 rfl rfl (v := 25) rfl dX9_costsTo_35 ?_
            refine lv_icmp_ge (tgt := 135) hx hb dX9_costsTo_36 (by decide) (fun h8 => absurd h8 (by exact fun q9 => absurd ((nI_leI (a := 25) (b := i) (by omega) (by omega)).mp q9) (by omega))) (fun h8 => ?_)
            refine lv_iconst (v := 0) hx hb dX9_costsTo_39 (by decide) ?_
            refine lv_istore (lv' := [(6, .int 0), (5, .int (nI i)), (4, .int (nI s2.2)), (0, .ref mo), (1, .int (nI to)), (2, .int mp), (3, .ref q1)]) hx hb dX9_costsTo_40 hl (by decide) rfl (fun ls hl => ?_)
            have l3 : ∀ (f3 : Nat) (j : Nat) (s3 : List Nat × Nat) (H : Heap) (locs : List Loc) (ls : Array Slot), (j + f3 = 4) → (okC s3.1) → (s3.2 ≤ 1) → (ciM f3 s3 i = ciM 4 s2 i) → lv_has ls 9 [(6, .int (nI j)), (5, .int (nI i)), (4, .int (nI s3.2)), (0, .ref mo), (1, .int (nI to)), (2, .int mp), (3, .ref q1)] → va_P D vwCl [(mo, .inr (16, [.int 5, .int 5, .int th, .ref m1, .ref m2, .ref m3, .ref m4, .ref m5, .ref l1, .ref l2, .ref l3, .int (-1), .ref l4])), (m1, .inl (cm1, 25, .inl (fun _ => 0))), (m2, .inl (cm2, 25, .inl (fun _ => 0))), (m3, .inl (cm3, 25, .inl (fun _ => 0))), (m4, .inl (cm4, 25, .inl fK5)), (m5, .inl (cm5, 25, .inl fK5)), (q1, .inl (cy2, 25, .inl (fL s3.1)))] H → va_D A [(mo, .inr (16, [.int 5, .int 5, .int th, .ref m1, .ref m2, .ref m3, .ref m4, .ref m5, .ref l1, .ref l2, .ref l3, .int (-1), .ref l4])), (m1, .inl (cm1, 25, .inl (fun _ => 0))), (m2, .inl (cm2, 25, .inl (fun _ => 0))), (m3, .inl (cm3, 25, .inl (fun _ => 0))), (m4, .inl (cm4, 25, .inl fK5)), (m5, .inl (cm5, 25, .inl fK5)), (q1, .inl (cy2, 25, .inl (fL s3.1)))] → va_S A s.heap H locs → W p l e { frames := 3, cells := 1, slots := 25, locals := 69 } s m args below meth c H locs 1 25 (MQ below (va_Qq (fun (r : Option Nat) (u : Nat × ClassId) => r = some u.1) (qb D A (fun u : (Nat × ClassId) => [(mo, .inr (16, [.int 5, .int 5, .int th, .ref m1, .ref m2, .ref m3, .ref m4, .ref m5, .ref l1, .ref l2, .ref l3, .int (-1), .ref l4])), (m1, .inl (cm1, 25, .inl (fun _ => 0))), (m2, .inl (cm2, 25, .inl (fun _ => 0))), (m3, .inl (cm3, 25, .inl (fun _ => 0))), (m4, .inl (cm4, 25, .inl fK5)), (m5, .inl (cm5, 25, .inl fK5)), (u.1, .inl (u.2, 25, .inl (fL (wayC to))))]) (fun u : (Nat × ClassId) => ([(u.2, .int)] : List (ClassId × FieldType)))) A) args s 1 25 A) (F0 m 42 ls []) := by
              intro f3
              induction f3 with
              | zero =>
                intro j s3 H locs ls hj ok3 hm3 hP3 hl hP hD hS
                have hj : j + 0 = 4 := hj
                have ok3 : okC s3.1 := ok3
                have hm3 : s3.2 ≤ 1 := hm3
                have hP3 : ciM 0 s3 i = ciM 4 s2 i := hP3
                refine lv_iload hx hb dX9_costsTo_42 (lv_at hl 0 rfl) ?_
                refine lv_iconst (v := 4) hx hb dX9_costsTo_44 (by decide) ?_
                refine lv_icmp_ge (tgt := 129) hx hb dX9_costsTo_45 (by decide) (fun h9 => ?_) (fun h9 => absurd (by exact (nI_leI (a := 4) (b := j) (by omega) (by omega)).mpr (by omega)) h9)
                obtain ⟨x10, e10⟩ : ∃ z : Int32, z = nI i + 1 := ⟨_, rfl⟩
                refine lv_iinc (v := x10) (lv' := [(5, .int x10), (6, .int (nI j)), (4, .int (nI s3.2)), (0, .ref mo), (1, .int (nI to)), (2, .int mp), (3, .ref q1)]) hx hb dX9_costsTo_129 hl (k := 1) rfl (by rw [e10]; rfl) (by decide) rfl (fun ls hl => ?_)
                obtain rfl : x10 = nI (i + 1) := e10.trans (nI_add i 1)
                refine lv_goto (tgt := 32) hx hb dX9_costsTo_132 (by decide) ?_
                exact ih2  (i + 1) s3 _ _ _ (by omega) ok3 hm3 (by rw [← hP2]; show coM f2 s3 = coM (f2 + 1) s2; rw [coM, show 24 - f2 = i by omega, ← hP3]; rfl) (lv_sub hl [0, 2, 3, 4, 5, 6] rfl) (hP.sub [0, 1, 2, 3, 4, 5, 6] rfl) (hD.sub [0, 1, 2, 3, 4, 5, 6] (by decide) rfl) hS
              | succ f3 ih3 =>
                intro j s3 H locs ls hj ok3 hm3 hP3 hl hP hD hS
                have hj : j + (f3 + 1) = 4 := hj
                have ok3 : okC s3.1 := ok3
                have hm3 : s3.2 ≤ 1 := hm3
                have hP3 : ciM (f3 + 1) s3 i = ciM 4 s2 i := hP3
                obtain ⟨ok31, ok32⟩ := id ok3
                have hs3 : 3 - f3 = j := by omega
                refine lv_iload hx hb dX9_costsTo_42 (lv_at hl 0 rfl) ?_
                refine lv_iconst (v := 4) hx hb dX9_costsTo_44 (by decide) ?_
                refine lv_icmp_ge (tgt := 129) hx hb dX9_costsTo_45 (by decide) (fun h11 => absurd h11 (by exact fun q9 => absurd ((nI_leI (a := 4) (b := j) (by omega) (by omega)).mp q9) (by omega))) (fun h11 => ?_)
                refine lv_aload_n hx hb dX9_costsTo_48 rfl (lv_at hl 3 rfl) ?_
                refine lv_iload hx hb dX9_costsTo_49 (lv_at hl 1 rfl) ?_
                refine lv_iload hx hb dX9_costsTo_51 (lv_at hl 0 rfl) ?_
                refine mc_i (wr := [(m2, .inl (cm2, 25, .inl (fun _ => 0))), (m3, .inl (cm3, 25, .inl (fun _ => 0))), (m4, .inl (cm4, 25, .inl fK5)), (m5, .inl (cm5, 25, .inl fK5)), (q1, .inl (cy2, 25, .inl (fL s3.1)))]) (va_runV (As := [.int (nI i), .int (nI j)]) (rest := []) ⟨hx, hb, hml, hown, hts⟩ (c_beside l hst D mo th m1 m2 m3 m4 m5 l1 l2 l3 l4 cm1 i j H.size (by omega) (by omega)) (cwV 2 hts (gi_c (List.mem_cons_of_mem _ (List.mem_append_left _ (List.mem_of_getElem? (i := 6) rfl))) rfl (gi_c (List.mem_cons_of_mem _ (List.mem_append_left _ (List.mem_of_getElem? (i := 7) rfl))) rfl (gi_c (List.mem_cons_of_mem _ (List.mem_append_left _ (List.mem_of_getElem? (i := 8) rfl))) rfl (gi_c (List.mem_cons_of_mem _ (List.mem_append_left _ (List.mem_of_getElem? (i := 9) rfl))) rfl (goodIn_sub hb_2 (List.all_eq_true.mpr gw_c_beside)))))) rfl rfl rfl (by decide +kernel) ⟨Nat.le_of_ble_eq_true rfl, Nat.le_of_ble_eq_true rfl⟩) (pr_V (As := [.int (nI i), .int (nI j)]) (b := mo) (C := RX9) hP hD hK hS hA hE [0, 1] [0] rfl rfl rfl 0 16 rfl rfl rfl) rfl rfl hl.1 rfl (lv_room (Nat.le_of_ble_eq_true rfl)) dX9_costsTo_53 ⟨Nat.le_of_ble_eq_true rfl, Nat.le_of_ble_eq_true rfl⟩) hP hD hK hS hA [0, 1] [2, 3, 4, 5, 6] rfl rfl (by decide) (by decide) (fun r13 _ H locs w12 hP hD hK hS => ?_)
                have hP : va_P D vwCl [(m2, .inl (cm2, 25, .inl (fun _ => 0))), (m3, .inl (cm3, 25, .inl (fun _ => 0))), (m4, .inl (cm4, 25, .inl fK5)), (m5, .inl (cm5, 25, .inl fK5)), (q1, .inl (cy2, 25, .inl (fL s3.1))), (mo, .inr (16, [.int 5, .int 5, .int th, .ref m1, .ref m2, .ref m3, .ref m4, .ref m5, .ref l1, .ref l2, .ref l3, .int (-1), .ref l4])), (m1, .inl (cm1, 25, .inl (fun _ => 0)))] H := hP
                have hD : va_D A [(m2, .inl (cm2, 25, .inl (fun _ => 0))), (m3, .inl (cm3, 25, .inl (fun _ => 0))), (m4, .inl (cm4, 25, .inl fK5)), (m5, .inl (cm5, 25, .inl fK5)), (q1, .inl (cy2, 25, .inl (fL s3.1))), (mo, .inr (16, [.int 5, .int 5, .int th, .ref m1, .ref m2, .ref m3, .ref m4, .ref m5, .ref l1, .ref l2, .ref l3, .int (-1), .ref l4])), (m1, .inl (cm1, 25, .inl (fun _ => 0)))] := hD
                have hK : va_K D vwCl [(cm1, .int), (cm2, .int), (cm3, .int), (cm4, .char), (cm5, .char), (cy2, .int)] s := hK
                obtain rfl : r13 = (optI (beM i j)) := w12
                rcases hbm : beM i j with _ | nx
                · refine W.eq (g2 := F0 m 56 ls [.int (-1)]) rfl ?_
                  refine lv_istore (lv' := [(7, .int (-1)), (6, .int (nI j)), (5, .int (nI i)), (4, .int (nI s3.2)), (0, .ref mo), (1, .int (nI to)), (2, .int mp), (3, .ref q1)]) hx hb dX9_costsTo_56 hl (by decide) rfl (fun ls hl => ?_)
                  refine lv_iload hx hb dX9_costsTo_58 (lv_at hl 0 rfl) ?_
                  refine lv_iconst (v := -1) hx hb dX9_costsTo_60 (by decide) ?_
                  refine lv_icmp_eq (tgt := 123) hx hb dX9_costsTo_61 (by decide) (fun h14 => ?_) (fun h14 => absurd (by rfl) h14)
                  obtain ⟨x15, e15⟩ : ∃ z : Int32, z = nI j + 1 := ⟨_, rfl⟩
                  refine lv_iinc (v := x15) (lv' := [(6, .int x15), (7, .int (-1)), (5, .int (nI i)), (4, .int (nI s3.2)), (0, .ref mo), (1, .int (nI to)), (2, .int mp), (3, .ref q1)]) hx hb dX9_costsTo_123 hl (k := 1) rfl (by rw [e15]; rfl) (by decide) rfl (fun ls hl => ?_)
                  obtain rfl : x15 = nI (j + 1) := e15.trans (nI_add j 1)
                  refine lv_goto (tgt := 42) hx hb dX9_costsTo_126 (by decide) ?_
                  exact ih3  (j + 1) s3 _ _ _ (by omega) ok3 hm3 (by rw [← hP3]; show ciM f3 s3 i = ciM (f3 + 1) s3 i; rw [ciM, hs3, ctS_none hbm]) (lv_sub hl [0, 2, 3, 4, 5, 6, 7] rfl) (hP.sub [5, 6, 0, 1, 2, 3, 4] rfl) (hD.sub [5, 6, 0, 1, 2, 3, 4] (by decide) rfl) hS
                · refine W.eq (g2 := F0 m 56 ls [.int (nI nx)]) rfl ?_
                  have hnx : nx ≤ 24 := beM_le (by omega) hbm
                  refine lv_istore (lv' := [(7, .int (nI nx)), (6, .int (nI j)), (5, .int (nI i)), (4, .int (nI s3.2)), (0, .ref mo), (1, .int (nI to)), (2, .int mp), (3, .ref q1)]) hx hb dX9_costsTo_56 hl (by decide) rfl (fun ls hl => ?_)
                  refine lv_iload hx hb dX9_costsTo_58 (lv_at hl 0 rfl) ?_
                  refine lv_iconst (v := -1) hx hb dX9_costsTo_60 (by decide) ?_
                  refine lv_icmp_eq (tgt := 123) hx hb dX9_costsTo_61 (by decide) (fun h16 => absurd h16 (by exact nI_nm1 (by omega))) (fun h16 => ?_)
                  refine lv_aload_n hx hb dX9_costsTo_64 rfl (lv_at hl 7 rfl) ?_
                  refine lv_iload hx hb dX9_costsTo_65 (lv_at hl 0 rfl) ?_
                  refine va_iald hx hb hK hP 4 5 rfl rfl (vp_in_nI (n := nx) (by omega) (by decide)) dX9_costsTo_67 ?_
                  have b17 := ok32 nx
                  refine lv_topi (fun x18 e18 => ?_)
                  obtain rfl : x18 = nI (s3.1.getD nx 0) := e18.trans (fL_at (by omega))
                  refine lv_ldc hx hb hown hw_2 dX9_costsTo_68 ?_
                  refine lv_icmp_eq (tgt := 123) hx hb dX9_costsTo_70 (by decide) (fun h19 => ?_) (fun h19 => ?_)
                  · have n19 : (s3.1.getD nx 0) = 1000000000 := (nI_eq (a := (s3.1.getD nx 0)) (b := 1000000000) (by omega) (by omega)).mp h19
                    obtain ⟨x20, e20⟩ : ∃ z : Int32, z = nI j + 1 := ⟨_, rfl⟩
                    refine lv_iinc (v := x20) (lv' := [(6, .int x20), (7, .int (nI nx)), (5, .int (nI i)), (4, .int (nI s3.2)), (0, .ref mo), (1, .int (nI to)), (2, .int mp), (3, .ref q1)]) hx hb dX9_costsTo_123 hl (k := 1) rfl (by rw [e20]; rfl) (by decide) rfl (fun ls hl => ?_)
                    obtain rfl : x20 = nI (j + 1) := e20.trans (nI_add j 1)
                    refine lv_goto (tgt := 42) hx hb dX9_costsTo_126 (by decide) ?_
                    exact ih3  (j + 1) s3 _ _ _ (by omega) ok3 hm3 (by rw [← hP3]; show ciM f3 s3 i = ciM (f3 + 1) s3 i; rw [ciM, hs3, ctS_far hbm n19]) (lv_sub hl [0, 2, 3, 4, 5, 6, 7] rfl) (hP.sub [5, 6, 0, 1, 2, 3, 4] rfl) (hD.sub [5, 6, 0, 1, 2, 3, 4] (by decide) rfl) hS
                  · have n19 : ¬ ((s3.1.getD nx 0) = 1000000000) := fun q9 => h19 ((nI_eq (a := (s3.1.getD nx 0)) (b := 1000000000) (by omega) (by omega)).mpr q9)
                    refine lv_aload_n hx hb dX9_costsTo_73 rfl (lv_at hl 4 rfl) ?_
                    refine lv_iload hx hb dX9_costsTo_74 (lv_at hl 0 rfl) ?_
                    refine lv_iload_n hx hb dX9_costsTo_76 rfl (lv_at hl 6 rfl) ?_
                    refine mc_i (wr := [(m2, .inl (cm2, 25, .inl (fun _ => 0))), (m3, .inl (cm3, 25, .inl (fun _ => 0))), (q1, .inl (cy2, 25, .inl (fL s3.1))), (m1, .inl (cm1, 25, .inl (fun _ => 0)))]) (va_runV (As := [.int (nI nx), .int mp]) (rest := []) ⟨hx, hb, hml, hown, hts⟩ (c_mcan l hst D mo th m1 m2 m3 m4 m5 l1 l2 l3 l4 cm4 cm5 nx mp H.size (by omega)) (cwV 2 hts (gi_c (List.mem_cons_of_mem _ (List.mem_append_left _ (List.mem_of_getElem? (i := 10) rfl))) rfl (gi_c (List.mem_cons_of_mem _ (List.mem_append_left _ (List.mem_of_getElem? (i := 11) rfl))) rfl (gi_c (List.mem_cons_of_mem _ (List.mem_append_left _ (List.mem_of_getElem? (i := 12) rfl))) rfl (gi_c (List.mem_cons_of_mem _ (List.mem_append_left _ (List.mem_of_getElem? (i := 9) rfl))) rfl (goodIn_sub hb_3 (List.all_eq_true.mpr gw_c_mcan)))))) rfl rfl rfl (by decide +kernel) ⟨Nat.le_of_ble_eq_true rfl, Nat.le_of_ble_eq_true rfl⟩) (pr_V (As := [.int (nI nx), .int mp]) (b := mo) (C := RX9) hP hD hK hS hA hE [5, 2, 3] [3, 4] rfl rfl rfl 5 16 rfl rfl rfl) rfl rfl hl.1 rfl (lv_room (Nat.le_of_ble_eq_true rfl)) dX9_costsTo_77 ⟨Nat.le_of_ble_eq_true rfl, Nat.le_of_ble_eq_true rfl⟩) hP hD hK hS hA [5, 2, 3] [0, 1, 4, 6] rfl rfl (by decide) (by decide) (fun r22 _ H locs w21 hP hD hK hS => ?_)
                    have hP : va_P D vwCl [(m2, .inl (cm2, 25, .inl (fun _ => 0))), (m3, .inl (cm3, 25, .inl (fun _ => 0))), (q1, .inl (cy2, 25, .inl (fL s3.1))), (m1, .inl (cm1, 25, .inl (fun _ => 0))), (mo, .inr (16, [.int 5, .int 5, .int th, .ref m1, .ref m2, .ref m3, .ref m4, .ref m5, .ref l1, .ref l2, .ref l3, .int (-1), .ref l4])), (m4, .inl (cm4, 25, .inl fK5)), (m5, .inl (cm5, 25, .inl fK5))] H := hP
                    have hD : va_D A [(m2, .inl (cm2, 25, .inl (fun _ => 0))), (m3, .inl (cm3, 25, .inl (fun _ => 0))), (q1, .inl (cy2, 25, .inl (fL s3.1))), (m1, .inl (cm1, 25, .inl (fun _ => 0))), (mo, .inr (16, [.int 5, .int 5, .int th, .ref m1, .ref m2, .ref m3, .ref m4, .ref m5, .ref l1, .ref l2, .ref l3, .int (-1), .ref l4])), (m4, .inl (cm4, 25, .inl fK5)), (m5, .inl (cm5, 25, .inl fK5))] := hD
                    have hK : va_K D vwCl [(cm1, .int), (cm2, .int), (cm3, .int), (cm4, .char), (cm5, .char), (cy2, .int)] s := hK
                    obtain rfl : r22 = 1 := w21
                    refine lv_if_ne (tgt := 86) hx hb dX9_costsTo_80 (by decide) (fun h23 => ?_) (fun h23 => absurd h23 (by decide))
                    refine lv_aload_n hx hb dX9_costsTo_86 rfl (lv_at hl 7 rfl) ?_
                    refine lv_iload hx hb dX9_costsTo_87 (lv_at hl 0 rfl) ?_
                    refine va_iald hx hb hK hP 2 5 rfl rfl (vp_in_nI (n := nx) (by omega) (by decide)) dX9_costsTo_89 ?_
                    have b24 := ok32 nx
                    refine lv_topi (fun x25 e25 => ?_)
                    obtain rfl : x25 = nI (s3.1.getD nx 0) := e25.trans (fL_at (by omega))
                    refine lv_aload_n hx hb dX9_costsTo_90 rfl (lv_at hl 4 rfl) ?_
                    refine lv_iload hx hb dX9_costsTo_91 (lv_at hl 2 rfl) ?_
                    refine lv_iload hx hb dX9_costsTo_93 (lv_at hl 0 rfl) ?_
                    refine lv_iload_n hx hb dX9_costsTo_95 rfl (lv_at hl 6 rfl) ?_
                    refine mc_i (wr := [(q1, .inl (cy2, 25, .inl (fL s3.1))), (m4, .inl (cm4, 25, .inl fK5)), (m5, .inl (cm5, 25, .inl fK5))]) (va_runV (As := [.int (nI i), .int (nI nx), .int mp]) (rest := [.int (nI (s3.1.getD nx 0))]) ⟨hx, hb, hml, hown, hts⟩ (c_mstep l hst D mo th m1 m2 m3 m4 m5 l1 l2 l3 l4 cm1 cm2 cm3 i nx mp H.size (by omega) (by omega)) (cwV 3 hts (gi_c (List.mem_cons_of_mem _ (List.mem_append_left _ (List.mem_of_getElem? (i := 13) rfl))) rfl (gi_c (List.mem_cons_of_mem _ (List.mem_append_left _ (List.mem_of_getElem? (i := 14) rfl))) rfl (gi_c (List.mem_cons_of_mem _ (List.mem_append_left _ (List.mem_of_getElem? (i := 15) rfl))) rfl (gi_c (List.mem_cons_of_mem _ (List.mem_append_left _ (List.mem_of_getElem? (i := 9) rfl))) rfl (goodIn_sub hb_4 (List.all_eq_true.mpr gw_c_mstep)))))) rfl rfl rfl (by decide +kernel) ⟨Nat.le_of_ble_eq_true rfl, Nat.le_of_ble_eq_true rfl⟩) (pr_V (As := [.int (nI i), .int (nI nx), .int mp]) (b := mo) (C := RX9) hP hD hK hS hA hE [4, 3, 0, 1] [0, 1, 2] rfl rfl rfl 4 16 rfl rfl rfl) rfl rfl hl.1 rfl (lv_room (Nat.le_of_ble_eq_true rfl)) dX9_costsTo_96 ⟨Nat.le_of_ble_eq_true rfl, Nat.le_of_ble_eq_true rfl⟩) hP hD hK hS hA [4, 3, 0, 1] [2, 5, 6] rfl rfl (by decide) (by decide) (fun r27 _ H locs w26 hP hD hK hS => ?_)
                    have hP : va_P D vwCl [(q1, .inl (cy2, 25, .inl (fL s3.1))), (m4, .inl (cm4, 25, .inl fK5)), (m5, .inl (cm5, 25, .inl fK5)), (mo, .inr (16, [.int 5, .int 5, .int th, .ref m1, .ref m2, .ref m3, .ref m4, .ref m5, .ref l1, .ref l2, .ref l3, .int (-1), .ref l4])), (m1, .inl (cm1, 25, .inl (fun _ => 0))), (m2, .inl (cm2, 25, .inl (fun _ => 0))), (m3, .inl (cm3, 25, .inl (fun _ => 0)))] H := hP
                    have hD : va_D A [(q1, .inl (cy2, 25, .inl (fL s3.1))), (m4, .inl (cm4, 25, .inl fK5)), (m5, .inl (cm5, 25, .inl fK5)), (mo, .inr (16, [.int 5, .int 5, .int th, .ref m1, .ref m2, .ref m3, .ref m4, .ref m5, .ref l1, .ref l2, .ref l3, .int (-1), .ref l4])), (m1, .inl (cm1, 25, .inl (fun _ => 0))), (m2, .inl (cm2, 25, .inl (fun _ => 0))), (m3, .inl (cm3, 25, .inl (fun _ => 0)))] := hD
                    have hK : va_K D vwCl [(cm1, .int), (cm2, .int), (cm3, .int), (cm4, .char), (cm5, .char), (cy2, .int)] s := hK
                    obtain rfl : r27 = 10 := w26
                    refine lv_iadd hx hb dX9_costsTo_99 ?_
                    refine lv_topi (fun x28 e28 => ?_)
                    obtain rfl : x28 = nI ((s3.1.getD nx 0) + 10) := e28.trans (nI_add (s3.1.getD nx 0) 10)
                    refine lv_istore (lv' := [(8, .int (nI ((s3.1.getD nx 0) + 10))), (7, .int (nI nx)), (6, .int (nI j)), (5, .int (nI i)), (4, .int (nI s3.2)), (0, .ref mo), (1, .int (nI to)), (2, .int mp), (3, .ref q1)]) hx hb dX9_costsTo_100 hl (by decide) rfl (fun ls hl => ?_)
                    refine lv_iload hx hb dX9_costsTo_102 (lv_at hl 0 rfl) ?_
                    refine lv_aload_n hx hb dX9_costsTo_104 rfl (lv_at hl 8 rfl) ?_
                    refine lv_iload hx hb dX9_costsTo_105 (lv_at hl 3 rfl) ?_
                    refine va_iald hx hb hK hP 0 5 rfl rfl (vp_in_nI (n := i) (by omega) (by decide)) dX9_costsTo_107 ?_
                    have b29 := ok32 i
                    refine lv_topi (fun x30 e30 => ?_)
                    obtain rfl : x30 = nI (s3.1.getD i 0) := e30.trans (fL_at (by omega))
                    refine lv_icmp_lt (tgt := 114) hx hb dX9_costsTo_108 (by decide) (fun h31 => ?_) (fun h31 => ?_)
                    · have n31 : ((s3.1.getD nx 0) + 10) < (s3.1.getD i 0) := (nI_ltI (a := ((s3.1.getD nx 0) + 10)) (b := (s3.1.getD i 0)) (by omega) (by omega)).mp h31
                      refine lv_aload_n hx hb dX9_costsTo_114 rfl (lv_at hl 8 rfl) ?_
                      refine lv_iload hx hb dX9_costsTo_115 (lv_at hl 3 rfl) ?_
                      refine lv_iload hx hb dX9_costsTo_117 (lv_at hl 0 rfl) ?_
                      refine va_iast hx hb hK hP hD hS 0 5 rfl rfl (vp_in_nI (n := i) (by omega) (by decide)) dX9_costsTo_119 (fun H locs hP hD hS => ?_)
                      have hcf : upd (fL s3.1) ((nI i).toNatClampNeg) (nI ((s3.1.getD nx 0) + 10)) = fL (s3.1.set i ((s3.1.getD nx 0) + 10)) := fL_up (L := s3.1) (k := i) (v := (s3.1.getD nx 0) + 10) (by omega) (by omega)
                      have hP : va_P D vwCl [(q1, .inl (cy2, 25, .inl (upd (fL s3.1) ((nI i).toNatClampNeg) (nI ((s3.1.getD nx 0) + 10))))), (m4, .inl (cm4, 25, .inl fK5)), (m5, .inl (cm5, 25, .inl fK5)), (mo, .inr (16, [.int 5, .int 5, .int th, .ref m1, .ref m2, .ref m3, .ref m4, .ref m5, .ref l1, .ref l2, .ref l3, .int (-1), .ref l4])), (m1, .inl (cm1, 25, .inl (fun _ => 0))), (m2, .inl (cm2, 25, .inl (fun _ => 0))), (m3, .inl (cm3, 25, .inl (fun _ => 0)))] H := hP
                      have hD : va_D A [(q1, .inl (cy2, 25, .inl (upd (fL s3.1) ((nI i).toNatClampNeg) (nI ((s3.1.getD nx 0) + 10))))), (m4, .inl (cm4, 25, .inl fK5)), (m5, .inl (cm5, 25, .inl fK5)), (mo, .inr (16, [.int 5, .int 5, .int th, .ref m1, .ref m2, .ref m3, .ref m4, .ref m5, .ref l1, .ref l2, .ref l3, .int (-1), .ref l4])), (m1, .inl (cm1, 25, .inl (fun _ => 0))), (m2, .inl (cm2, 25, .inl (fun _ => 0))), (m3, .inl (cm3, 25, .inl (fun _ => 0)))] := hD
                      rw [hcf] at hP hD
                      clear hcf
                      have hP : va_P D vwCl [(q1, .inl (cy2, 25, .inl (fL (s3.1.set i ((s3.1.getD nx 0) + 10))))), (m4, .inl (cm4, 25, .inl fK5)), (m5, .inl (cm5, 25, .inl fK5)), (mo, .inr (16, [.int 5, .int 5, .int th, .ref m1, .ref m2, .ref m3, .ref m4, .ref m5, .ref l1, .ref l2, .ref l3, .int (-1), .ref l4])), (m1, .inl (cm1, 25, .inl (fun _ => 0))), (m2, .inl (cm2, 25, .inl (fun _ => 0))), (m3, .inl (cm3, 25, .inl (fun _ => 0)))] H := hP
                      have hD : va_D A [(q1, .inl (cy2, 25, .inl (fL (s3.1.set i ((s3.1.getD nx 0) + 10))))), (m4, .inl (cm4, 25, .inl fK5)), (m5, .inl (cm5, 25, .inl fK5)), (mo, .inr (16, [.int 5, .int 5, .int th, .ref m1, .ref m2, .ref m3, .ref m4, .ref m5, .ref l1, .ref l2, .ref l3, .int (-1), .ref l4])), (m1, .inl (cm1, 25, .inl (fun _ => 0))), (m2, .inl (cm2, 25, .inl (fun _ => 0))), (m3, .inl (cm3, 25, .inl (fun _ => 0)))] := hD
                      refine lv_iconst (v := 1) hx hb dX9_costsTo_120 (by decide) ?_
                      refine lv_istore (lv' := [(4, .int 1), (8, .int (nI ((s3.1.getD nx 0) + 10))), (7, .int (nI nx)), (6, .int (nI j)), (5, .int (nI i)), (0, .ref mo), (1, .int (nI to)), (2, .int mp), (3, .ref q1)]) hx hb dX9_costsTo_121 hl (by decide) rfl (fun ls hl => ?_)
                      obtain ⟨x32, e32⟩ : ∃ z : Int32, z = nI j + 1 := ⟨_, rfl⟩
                      refine lv_iinc (v := x32) (lv' := [(6, .int x32), (4, .int 1), (8, .int (nI ((s3.1.getD nx 0) + 10))), (7, .int (nI nx)), (5, .int (nI i)), (0, .ref mo), (1, .int (nI to)), (2, .int mp), (3, .ref q1)]) hx hb dX9_costsTo_123 hl (k := 3) rfl (by rw [e32]; rfl) (by decide) rfl (fun ls hl => ?_)
                      obtain rfl : x32 = nI (j + 1) := e32.trans (nI_add j 1)
                      refine lv_goto (tgt := 42) hx hb dX9_costsTo_126 (by decide) ?_
                      exact ih3  (j + 1) (s3.1.set i (s3.1.getD nx 0 + 10), 1) _ _ _ (by omega) (by have q9 := okC_S (m := s3.2) (ce := i) (way := j) ok3; rw [ctS_lt hbm n19 n31] at q9; exact q9) (Nat.le_refl 1) (by rw [← hP3]; show ciM f3 (s3.1.set i (s3.1.getD nx 0 + 10), 1) i = ciM (f3 + 1) s3 i; rw [ciM, hs3, ctS_lt hbm n19 n31]) (lv_sub hl [0, 4, 1, 5, 6, 7, 8] rfl) (hP.sub [3, 4, 5, 6, 1, 2, 0] rfl) (hD.sub [3, 4, 5, 6, 1, 2, 0] (by decide) rfl) hS
                    · have n31 : ¬ (((s3.1.getD nx 0) + 10) < (s3.1.getD i 0)) := fun q9 => h31 ((nI_ltI (a := ((s3.1.getD nx 0) + 10)) (b := (s3.1.getD i 0)) (by omega) (by omega)).mpr q9)
                      refine lv_goto (tgt := 123) hx hb dX9_costsTo_111 (by decide) ?_
                      obtain ⟨x33, e33⟩ : ∃ z : Int32, z = nI j + 1 := ⟨_, rfl⟩
                      refine lv_iinc (v := x33) (lv' := [(6, .int x33), (8, .int (nI ((s3.1.getD nx 0) + 10))), (7, .int (nI nx)), (5, .int (nI i)), (4, .int (nI s3.2)), (0, .ref mo), (1, .int (nI to)), (2, .int mp), (3, .ref q1)]) hx hb dX9_costsTo_123 hl (k := 2) rfl (by rw [e33]; rfl) (by decide) rfl (fun ls hl => ?_)
                      obtain rfl : x33 = nI (j + 1) := e33.trans (nI_add j 1)
                      refine lv_goto (tgt := 42) hx hb dX9_costsTo_126 (by decide) ?_
                      exact ih3  (j + 1) s3 _ _ _ (by omega) ok3 hm3 (by rw [← hP3]; show ciM f3 s3 i = ciM (f3 + 1) s3 i; rw [ciM, hs3, ctS_ge hbm n19 n31]) (lv_sub hl [0, 3, 4, 5, 6, 7, 8] rfl) (hP.sub [3, 4, 5, 6, 1, 2, 0] rfl) (hD.sub [3, 4, 5, 6, 1, 2, 0] (by decide) rfl) hS
            exact l3 4 0 s2 _ _ _ rfl ok2 hm2 rfl (lv_sub hl [0, 1, 2, 3, 4, 5, 6] rfl) (hP.sub [0, 1, 2, 3, 4, 5, 6] rfl) (hD.sub [0, 1, 2, 3, 4, 5, 6] (by decide) rfl) hS
        exact l2 25 0 (s1.1, 0) _ _ _ rfl ok1 (Nat.zero_le 1) rfl (lv_sub hl [0, 1, 2, 3, 4, 5] rfl) (hP.sub [0, 1, 2, 3, 4, 5, 6] rfl) (hD.sub [0, 1, 2, 3, 4, 5, 6] (by decide) rfl) hS
  exact l1 12 (ct0 to, 1) _ _ _ (okC_0 to) (Nat.le_refl 1) (ct_all to (by omega)) (ct_ok to (by omega)) (lv_sub hl [0, 2, 3, 4, 1] rfl) (hP.sub [0, 1, 2, 3, 4, 5, 6] rfl) (hD.sub [0, 1, 2, 3, 4, 5, 6] (by decide) rfl) hS

def us_c_costOf : List Cond := .code yX9_costOf cX9_costOf 4 (some .int) :: (([.methodLink RX9 128 yX9_costsTo, .instanceMethod yX9_costsTo, .selects RX9 yX9_costsTo yX9_costsTo, .initialized RX9] : List Cond) ++ (us_c_costsTo ++ ([])))
theorem gw_c_costOf : ∀ w ∈ us_c_costOf, goodWord w = true := gw_cons rfl (gw_app (by decide +kernel) (gw_app gw_c_costsTo (fun _ h => nomatch h)))
set_option maxHeartbeats 4000000 in
set_option maxRecDepth 100000 in
/-- the reference: costOf -/
theorem c_costOf (l : Launch) (hst : l.stackTraces = false) (D : va_G) (mo : Nat) (th : Int32) (m1 : Nat) (m2 : Nat) (m3 : Nat) (m4 : Nat) (m5 : Nat) (l1 : Nat) (l2 : Nat) (l3 : Nat) (l4 : Nat) (cm1 : ClassId) (cm2 : ClassId) (cm3 : ClassId) (cm4 : ClassId) (cm5 : ClassId) (fr : Nat) (to : Nat) (mp : Int32) (sz : Nat) (hc : fr ≤ 24) (hc2 : to ≤ 24) : Met l yX9_costOf us_c_costOf { frames := 4, cells := 1, slots := 25, locals := 97 } (pw D [.ref mo, .int (nI fr), .int (nI to), .int mp] [(cm1, .int), (cm2, .int), (cm3, .int), (cm4, .char), (cm5, .char)] [(mo, .inr (16, [.int 5, .int 5, .int th, .ref m1, .ref m2, .ref m3, .ref m4, .ref m5, .ref l1, .ref l2, .ref l3, .int (-1), .ref l4])), (m1, .inl (cm1, 25, .inl (fun _ => 0))), (m2, .inl (cm2, 25, .inl (fun _ => 0))), (m3, .inl (cm3, 25, .inl (fun _ => 0))), (m4, .inl (cm4, 25, .inl fK5)), (m5, .inl (cm5, 25, .inl fK5))] sz) (va_Qi (fun (r : Int32) (_ : Unit) => r = (nI (dis to fr))) (qb D (va_A [(mo, .inr (16, [.int 5, .int 5, .int th, .ref m1, .ref m2, .ref m3, .ref m4, .ref m5, .ref l1, .ref l2, .ref l3, .int (-1), .ref l4])), (m1, .inl (cm1, 25, .inl (fun _ => 0))), (m2, .inl (cm2, 25, .inl (fun _ => 0))), (m3, .inl (cm3, 25, .inl (fun _ => 0))), (m4, .inl (cm4, 25, .inl fK5)), (m5, .inl (cm5, 25, .inl fK5))] sz) (fun _ : Unit => [(mo, .inr (16, [.int 5, .int 5, .int th, .ref m1, .ref m2, .ref m3, .ref m4, .ref m5, .ref l1, .ref l2, .ref l3, .int (-1), .ref l4]))]) (fun _ : Unit => ([] : List (ClassId × FieldType)))) (va_A [(mo, .inr (16, [.int 5, .int 5, .int th, .ref m1, .ref m2, .ref m3, .ref m4, .ref m5, .ref l1, .ref l2, .ref l3, .int (-1), .ref l4])), (m1, .inl (cm1, 25, .inl (fun _ => 0))), (m2, .inl (cm2, 25, .inl (fun _ => 0))), (m3, .inl (cm3, 25, .inl (fun _ => 0))), (m4, .inl (cm4, 25, .inl fK5)), (m5, .inl (cm5, 25, .inl fK5))] sz)) 1 25 (va_A [(mo, .inr (16, [.int 5, .int 5, .int th, .ref m1, .ref m2, .ref m3, .ref m4, .ref m5, .ref l1, .ref l2, .ref l3, .int (-1), .ref l4])), (m1, .inl (cm1, 25, .inl (fun _ => 0))), (m2, .inl (cm2, 25, .inl (fun _ => 0))), (m3, .inl (cm3, 25, .inl (fun _ => 0))), (m4, .inl (cm4, 25, .inl fK5)), (m5, .inl (cm5, 25, .inl fK5))] sz) := by
  refine op_M (Qc := fun A => (va_Qi (fun (r : Int32) (_ : Unit) => r = (nI (dis to fr))) (qb D A (fun _ : Unit => [(mo, .inr (16, [.int 5, .int 5, .int th, .ref m1, .ref m2, .ref m3, .ref m4, .ref m5, .ref l1, .ref l2, .ref l3, .int (-1), .ref l4]))]) (fun _ : Unit => ([] : List (ClassId × FieldType)))) A)) (by decide +kernel) rfl (Nat.le_of_ble_eq_true rfl) ?_
  intro p e s m args below meth c A ls hx hb hr hml hts hown hlocks hmn htab hA hD hS hP hK hE hsz hl
  have hown : s.vm.findClass RX9 = some m.cls := hown
  have hl : lv_has ls 4 [(0, .ref mo), (1, .int (nI fr)), (2, .int (nI to)), (3, .int mp)] := hl
  have hw_0 := hts (.methodLink RX9 128 yX9_costsTo) (List.mem_cons_of_mem _ (List.mem_append_left _ (List.mem_of_getElem? (i := 0) rfl)))
  have hw_1 := hts (.instanceMethod yX9_costsTo) (List.mem_cons_of_mem _ (List.mem_append_left _ (List.mem_of_getElem? (i := 1) rfl)))
  have hw_2 := hts (.selects RX9 yX9_costsTo yX9_costsTo) (List.mem_cons_of_mem _ (List.mem_append_left _ (List.mem_of_getElem? (i := 2) rfl)))
  have hw_3 := hts (.initialized RX9) (List.mem_cons_of_mem _ (List.mem_append_left _ (List.mem_of_getElem? (i := 3) rfl)))
  have hb_0 : ∀ w ∈ us_c_costsTo, w ∈ us_c_costOf := fun w h => List.mem_cons_of_mem _ (List.mem_append_right _ (List.mem_append_left _ h))
  refine lv_aload_n hx hb dX9_costOf_0 rfl (lv_at hl 0 rfl) ?_
  refine lv_iload_n hx hb dX9_costOf_1 rfl (lv_at hl 2 rfl) ?_
  refine lv_iload_n hx hb dX9_costOf_2 rfl (lv_at hl 3 rfl) ?_
  refine mc_q (wr := []) (va_runV (As := [.int (nI to), .int mp]) (rest := []) ⟨hx, hb, hml, hown, hts⟩ (c_costsTo l hst D mo th m1 m2 m3 m4 m5 l1 l2 l3 l4 cm1 cm2 cm3 cm4 cm5 to mp s.heap.size (by omega)) (cwV 2 hts (gi_c (List.mem_cons_of_mem _ (List.mem_append_left _ (List.mem_of_getElem? (i := 0) rfl))) rfl (gi_c (List.mem_cons_of_mem _ (List.mem_append_left _ (List.mem_of_getElem? (i := 1) rfl))) rfl (gi_c (List.mem_cons_of_mem _ (List.mem_append_left _ (List.mem_of_getElem? (i := 2) rfl))) rfl (gi_c (List.mem_cons_of_mem _ (List.mem_append_left _ (List.mem_of_getElem? (i := 3) rfl))) rfl (goodIn_sub hb_0 (List.all_eq_true.mpr gw_c_costsTo)))))) rfl rfl rfl (by decide +kernel) ⟨Nat.le_of_ble_eq_true rfl, Nat.le_of_ble_eq_true rfl⟩) (pr_V (As := [.int (nI to), .int mp]) (b := mo) (C := RX9) hP hD hK hS hA hE [0, 1, 2, 3, 4, 5] [0, 1, 2, 3, 4] rfl rfl rfl 0 16 rfl rfl rfl) rfl rfl hl.1 rfl (lv_room (Nat.le_of_ble_eq_true rfl)) dX9_costOf_3 ⟨Nat.le_of_ble_eq_true rfl, Nat.le_of_ble_eq_true rfl⟩) hP hD hK hS hA [0, 1, 2, 3, 4, 5] [] rfl rfl (by decide) (by decide) (fun r3 u1 H locs w2 hP hD hK hS => ?_)
  have hP : va_P D vwCl [(mo, .inr (16, [.int 5, .int 5, .int th, .ref m1, .ref m2, .ref m3, .ref m4, .ref m5, .ref l1, .ref l2, .ref l3, .int (-1), .ref l4])), (m1, .inl (cm1, 25, .inl (fun _ => 0))), (m2, .inl (cm2, 25, .inl (fun _ => 0))), (m3, .inl (cm3, 25, .inl (fun _ => 0))), (m4, .inl (cm4, 25, .inl fK5)), (m5, .inl (cm5, 25, .inl fK5)), (u1.1, .inl (u1.2, 25, .inl (fL (wayC to))))] H := hP
  have hD : va_D A [(mo, .inr (16, [.int 5, .int 5, .int th, .ref m1, .ref m2, .ref m3, .ref m4, .ref m5, .ref l1, .ref l2, .ref l3, .int (-1), .ref l4])), (m1, .inl (cm1, 25, .inl (fun _ => 0))), (m2, .inl (cm2, 25, .inl (fun _ => 0))), (m3, .inl (cm3, 25, .inl (fun _ => 0))), (m4, .inl (cm4, 25, .inl fK5)), (m5, .inl (cm5, 25, .inl fK5)), (u1.1, .inl (u1.2, 25, .inl (fL (wayC to))))] := hD
  have hK : va_K D vwCl [(cm1, .int), (cm2, .int), (cm3, .int), (cm4, .char), (cm5, .char), (u1.2, .int)] s := hK
  obtain rfl := w2
  refine lv_iload_n hx hb dX9_costOf_6 rfl (lv_at hl 1 rfl) ?_
  refine va_iald hx hb hK hP 6 5 rfl rfl (vp_in_nI (n := fr) (by omega) (by decide)) dX9_costOf_7 ?_
  refine lv_topi (fun x4 e4 => ?_)
  obtain rfl : x4 = nI ((wayC to).getD fr 0) := e4.trans (fL_at (by omega))
  exact mr_i hx hb hr () (by rw [wayC_at to fr (by omega)]) (hP.sub [0] rfl) (hK.sub [] rfl) (hD.sub [0] (by decide) rfl) hS (Nat.le_of_ble_eq_true rfl) (Nat.le_of_ble_eq_true rfl) hlocks dX9_costOf_8

def us_c_mcost : List Cond := .code yX9_cost cX9_cost 5 (some .int) :: (([.methodLink RX9 83 yX9_isCell, .instanceMethod yX9_isCell, .selects RX9 yX9_isCell yX9_isCell, .initialized RX9, .methodLink RX9 76 yX9_fails, .instanceMethod yX9_fails, .selects RX9 yX9_fails yX9_fails, .methodLink RX9 132 yX9_costOf, .instanceMethod yX9_costOf, .selects RX9 yX9_costOf yX9_costOf, .constant RX9 113 (1000000000), .methodLink RX9 80 yX9_tells, .instanceMethod yX9_tells, .selects RX9 yX9_tells yX9_tells] : List Cond) ++ (us_c_isCell ++ (us_c_fails ++ (us_c_costOf ++ (us_c_tells ++ ([]))))))
theorem gw_c_mcost : ∀ w ∈ us_c_mcost, goodWord w = true := gw_cons rfl (gw_app (by decide +kernel) (gw_app gw_c_isCell (gw_app gw_c_fails (gw_app gw_c_costOf (gw_app gw_c_tells (fun _ h => nomatch h))))))
set_option maxHeartbeats 4000000 in
set_option maxRecDepth 100000 in
/-- the reference: cost -/
theorem c_mcost (l : Launch) (hst : l.stackTraces = false) (D : va_G) (mo : Nat) (th : Int32) (m1 : Nat) (m2 : Nat) (m3 : Nat) (m4 : Nat) (m5 : Nat) (l1 : Nat) (l2 : Nat) (l3 : Nat) (l4 : Nat) (cm1 : ClassId) (cm2 : ClassId) (cm3 : ClassId) (cm4 : ClassId) (cm5 : ClassId) (p0 : Int32) (p1 : Int32) (p2 : Int32) (sz : Nat) : Met l yX9_cost us_c_mcost { frames := 5, cells := 1, slots := 25, locals := 120 } (pw D [.ref mo, .int p0, .int p1, .int p2] [(cm1, .int), (cm2, .int), (cm3, .int), (cm4, .char), (cm5, .char)] [(mo, .inr (16, [.int 5, .int 5, .int th, .ref m1, .ref m2, .ref m3, .ref m4, .ref m5, .ref l1, .ref l2, .ref l3, .int (-1), .ref l4])), (m1, .inl (cm1, 25, .inl (fun _ => 0))), (m2, .inl (cm2, 25, .inl (fun _ => 0))), (m3, .inl (cm3, 25, .inl (fun _ => 0))), (m4, .inl (cm4, 25, .inl fK5)), (m5, .inl (cm5, 25, .inl fK5))] sz) (va_Qi (fun (r : Int32) (u : (Int32 × (Nat → Nat) × (Nat → Int32))) => u.1 = kf_cost p0 p1 p2 ∧ (kf_cost p0 p1 p2 = 0 → r = rf_cost p0 p1 p2)) (qb D (va_A [(mo, .inr (16, [.int 5, .int 5, .int th, .ref m1, .ref m2, .ref m3, .ref m4, .ref m5, .ref l1, .ref l2, .ref l3, .int (-1), .ref l4])), (m1, .inl (cm1, 25, .inl (fun _ => 0))), (m2, .inl (cm2, 25, .inl (fun _ => 0))), (m3, .inl (cm3, 25, .inl (fun _ => 0))), (m4, .inl (cm4, 25, .inl fK5)), (m5, .inl (cm5, 25, .inl fK5))] sz) (fun u : (Int32 × (Nat → Nat) × (Nat → Int32)) => [(mo, .inr (16, [.int (u.2.2 0), .int (u.2.2 1), .int u.1, .ref (u.2.1 0), .ref (u.2.1 1), .ref (u.2.1 2), .ref (u.2.1 3), .ref (u.2.1 4), .ref (u.2.1 5), .ref (u.2.1 6), .ref (u.2.1 7), .int (u.2.2 2), .ref (u.2.1 8)]))]) (fun u : (Int32 × (Nat → Nat) × (Nat → Int32)) => ([] : List (ClassId × FieldType)))) (va_A [(mo, .inr (16, [.int 5, .int 5, .int th, .ref m1, .ref m2, .ref m3, .ref m4, .ref m5, .ref l1, .ref l2, .ref l3, .int (-1), .ref l4])), (m1, .inl (cm1, 25, .inl (fun _ => 0))), (m2, .inl (cm2, 25, .inl (fun _ => 0))), (m3, .inl (cm3, 25, .inl (fun _ => 0))), (m4, .inl (cm4, 25, .inl fK5)), (m5, .inl (cm5, 25, .inl fK5))] sz)) 1 25 (va_A [(mo, .inr (16, [.int 5, .int 5, .int th, .ref m1, .ref m2, .ref m3, .ref m4, .ref m5, .ref l1, .ref l2, .ref l3, .int (-1), .ref l4])), (m1, .inl (cm1, 25, .inl (fun _ => 0))), (m2, .inl (cm2, 25, .inl (fun _ => 0))), (m3, .inl (cm3, 25, .inl (fun _ => 0))), (m4, .inl (cm4, 25, .inl fK5)), (m5, .inl (cm5, 25, .inl fK5))] sz) := by
  refine op_M (Qc := fun A => (va_Qi (fun (r : Int32) (u : (Int32 × (Nat → Nat) × (Nat → Int32))) => u.1 = kf_cost p0 p1 p2 ∧ (kf_cost p0 p1 p2 = 0 → r = rf_cost p0 p1 p2)) (qb D A (fun u : (Int32 × (Nat → Nat) × (Nat → Int32)) => [(mo, .inr (16, [.int (u.2.2 0), .int (u.2.2 1), .int u.1, .ref (u.2.1 0), .ref (u.2.1 1), .ref (u.2.1 2), .ref (u.2.1 3), .ref (u.2.1 4), .ref (u.2.1 5), .ref (u.2.1 6), .ref (u.2.1 7), .int (u.2.2 2), .ref (u.2.1 8)]))]) (fun u : (Int32 × (Nat → Nat) × (Nat → Int32)) => ([] : List (ClassId × FieldType)))) A)) (by decide +kernel) rfl (Nat.le_of_ble_eq_true rfl) ?_
  intro p e s m args below meth c A ls hx hb hr hml hts hown hlocks hmn htab hA hD hS hP hK hE hsz hl
  have hown : s.vm.findClass RX9 = some m.cls := hown
  have hl : lv_has ls 5 [(0, .ref mo), (1, .int p0), (2, .int p1), (3, .int p2)] := hl
  have hw_0 := hts (.methodLink RX9 83 yX9_isCell) (List.mem_cons_of_mem _ (List.mem_append_left _ (List.mem_of_getElem? (i := 0) rfl)))
  have hw_1 := hts (.instanceMethod yX9_isCell) (List.mem_cons_of_mem _ (List.mem_append_left _ (List.mem_of_getElem? (i := 1) rfl)))
  have hw_2 := hts (.selects RX9 yX9_isCell yX9_isCell) (List.mem_cons_of_mem _ (List.mem_append_left _ (List.mem_of_getElem? (i := 2) rfl)))
  have hw_3 := hts (.initialized RX9) (List.mem_cons_of_mem _ (List.mem_append_left _ (List.mem_of_getElem? (i := 3) rfl)))
  have hw_4 := hts (.methodLink RX9 76 yX9_fails) (List.mem_cons_of_mem _ (List.mem_append_left _ (List.mem_of_getElem? (i := 4) rfl)))
  have hw_5 := hts (.instanceMethod yX9_fails) (List.mem_cons_of_mem _ (List.mem_append_left _ (List.mem_of_getElem? (i := 5) rfl)))
  have hw_6 := hts (.selects RX9 yX9_fails yX9_fails) (List.mem_cons_of_mem _ (List.mem_append_left _ (List.mem_of_getElem? (i := 6) rfl)))
  have hw_7 := hts (.methodLink RX9 132 yX9_costOf) (List.mem_cons_of_mem _ (List.mem_append_left _ (List.mem_of_getElem? (i := 7) rfl)))
  have hw_8 := hts (.instanceMethod yX9_costOf) (List.mem_cons_of_mem _ (List.mem_append_left _ (List.mem_of_getElem? (i := 8) rfl)))
  have hw_9 := hts (.selects RX9 yX9_costOf yX9_costOf) (List.mem_cons_of_mem _ (List.mem_append_left _ (List.mem_of_getElem? (i := 9) rfl)))
  have hw_10 := hts (.constant RX9 113 (1000000000)) (List.mem_cons_of_mem _ (List.mem_append_left _ (List.mem_of_getElem? (i := 10) rfl)))
  have hw_11 := hts (.methodLink RX9 80 yX9_tells) (List.mem_cons_of_mem _ (List.mem_append_left _ (List.mem_of_getElem? (i := 11) rfl)))
  have hw_12 := hts (.instanceMethod yX9_tells) (List.mem_cons_of_mem _ (List.mem_append_left _ (List.mem_of_getElem? (i := 12) rfl)))
  have hw_13 := hts (.selects RX9 yX9_tells yX9_tells) (List.mem_cons_of_mem _ (List.mem_append_left _ (List.mem_of_getElem? (i := 13) rfl)))
  have hb_0 : ∀ w ∈ us_c_isCell, w ∈ us_c_mcost := fun w h => List.mem_cons_of_mem _ (List.mem_append_right _ (List.mem_append_left _ h))
  have hb_1 : ∀ w ∈ us_c_fails, w ∈ us_c_mcost := fun w h => List.mem_cons_of_mem _ (List.mem_append_right _ (List.mem_append_right _ (List.mem_append_left _ h)))
  have hb_2 : ∀ w ∈ us_c_costOf, w ∈ us_c_mcost := fun w h => List.mem_cons_of_mem _ (List.mem_append_right _ (List.mem_append_right _ (List.mem_append_right _ (List.mem_append_left _ h))))
  have hb_3 : ∀ w ∈ us_c_tells, w ∈ us_c_mcost := fun w h => List.mem_cons_of_mem _ (List.mem_append_right _ (List.mem_append_right _ (List.mem_append_right _ (List.mem_append_right _ (List.mem_append_left _ h)))))
  refine lv_aload_n hx hb dX9_cost_0 rfl (lv_at hl 0 rfl) ?_
  refine lv_iload_n hx hb dX9_cost_1 rfl (lv_at hl 1 rfl) ?_
  refine mc_i (wr := [(m2, .inl (cm2, 25, .inl (fun _ => 0))), (m3, .inl (cm3, 25, .inl (fun _ => 0))), (m4, .inl (cm4, 25, .inl fK5)), (m5, .inl (cm5, 25, .inl fK5))]) (va_runV (As := [.int p0]) (rest := []) ⟨hx, hb, hml, hown, hts⟩ (c_isCell l hst D mo th m1 m2 m3 m4 m5 l1 l2 l3 l4 cm1 p0 s.heap.size) (cwV 1 hts (gi_c (List.mem_cons_of_mem _ (List.mem_append_left _ (List.mem_of_getElem? (i := 0) rfl))) rfl (gi_c (List.mem_cons_of_mem _ (List.mem_append_left _ (List.mem_of_getElem? (i := 1) rfl))) rfl (gi_c (List.mem_cons_of_mem _ (List.mem_append_left _ (List.mem_of_getElem? (i := 2) rfl))) rfl (gi_c (List.mem_cons_of_mem _ (List.mem_append_left _ (List.mem_of_getElem? (i := 3) rfl))) rfl (goodIn_sub hb_0 (List.all_eq_true.mpr gw_c_isCell)))))) rfl rfl rfl (by decide +kernel) ⟨Nat.le_of_ble_eq_true rfl, Nat.le_of_ble_eq_true rfl⟩) (pr_V (As := [.int p0]) (b := mo) (C := RX9) hP hD hK hS hA hE [0, 1] [0] rfl rfl rfl 0 16 rfl rfl rfl) rfl rfl hl.1 rfl (lv_room (Nat.le_of_ble_eq_true rfl)) dX9_cost_2 ⟨Nat.le_of_ble_eq_true rfl, Nat.le_of_ble_eq_true rfl⟩) hP hD hK hS hA [0, 1] [2, 3, 4, 5] rfl rfl (by decide) (by decide) (fun r2 _ H locs w1 hP hD hK hS => ?_)
  have hP : va_P D vwCl [(m2, .inl (cm2, 25, .inl (fun _ => 0))), (m3, .inl (cm3, 25, .inl (fun _ => 0))), (m4, .inl (cm4, 25, .inl fK5)), (m5, .inl (cm5, 25, .inl fK5)), (mo, .inr (16, [.int 5, .int 5, .int th, .ref m1, .ref m2, .ref m3, .ref m4, .ref m5, .ref l1, .ref l2, .ref l3, .int (-1), .ref l4])), (m1, .inl (cm1, 25, .inl (fun _ => 0)))] H := hP
  have hD : va_D A [(m2, .inl (cm2, 25, .inl (fun _ => 0))), (m3, .inl (cm3, 25, .inl (fun _ => 0))), (m4, .inl (cm4, 25, .inl fK5)), (m5, .inl (cm5, 25, .inl fK5)), (mo, .inr (16, [.int 5, .int 5, .int th, .ref m1, .ref m2, .ref m3, .ref m4, .ref m5, .ref l1, .ref l2, .ref l3, .int (-1), .ref l4])), (m1, .inl (cm1, 25, .inl (fun _ => 0)))] := hD
  have hK : va_K D vwCl [(cm1, .int), (cm2, .int), (cm3, .int), (cm4, .char), (cm5, .char)] s := hK
  obtain rfl : r2 = (if inI p0 25 then 1 else 0) := w1
  refine lv_if_eq (tgt := 16) hx hb dX9_cost_5 (by decide) (fun h3 => ?_) (fun h3 => ?_)
  · refine lv_aload_n hx hb dX9_cost_16 rfl (lv_at hl 0 rfl) ?_
    refine lv_iconst (v := 1) hx hb dX9_cost_17 (by decide) ?_
    refine mc_i (wr := [(m2, .inl (cm2, 25, .inl (fun _ => 0))), (m3, .inl (cm3, 25, .inl (fun _ => 0))), (m4, .inl (cm4, 25, .inl fK5)), (m5, .inl (cm5, 25, .inl fK5)), (m1, .inl (cm1, 25, .inl (fun _ => 0)))]) (va_runV (As := [.int 1]) (rest := []) ⟨hx, hb, hml, hown, hts⟩ (c_fails l hst D mo 5 5 th m1 m2 m3 m4 m5 l1 l2 l3 (-1) l4 1 H.size) (cwV 1 hts (gi_c (List.mem_cons_of_mem _ (List.mem_append_left _ (List.mem_of_getElem? (i := 4) rfl))) rfl (gi_c (List.mem_cons_of_mem _ (List.mem_append_left _ (List.mem_of_getElem? (i := 5) rfl))) rfl (gi_c (List.mem_cons_of_mem _ (List.mem_append_left _ (List.mem_of_getElem? (i := 6) rfl))) rfl (gi_c (List.mem_cons_of_mem _ (List.mem_append_left _ (List.mem_of_getElem? (i := 3) rfl))) rfl (goodIn_sub hb_1 (List.all_eq_true.mpr gw_c_fails)))))) rfl rfl rfl (by decide +kernel) ⟨Nat.le_of_ble_eq_true rfl, Nat.le_of_ble_eq_true rfl⟩) (pr_V (As := [.int 1]) (b := mo) (C := RX9) hP hD hK hS hA hE [4] [] rfl rfl rfl 4 16 rfl rfl rfl) rfl rfl hl.1 rfl (lv_room (Nat.le_of_ble_eq_true rfl)) dX9_cost_18 ⟨Nat.le_of_ble_eq_true rfl, Nat.le_of_ble_eq_true rfl⟩) hP hD hK hS hA [4] [0, 1, 2, 3, 5] rfl rfl (by decide) (by decide) (fun r5 _ H locs w4 hP hD hK hS => ?_)
    have hP : va_P D vwCl [(m2, .inl (cm2, 25, .inl (fun _ => 0))), (m3, .inl (cm3, 25, .inl (fun _ => 0))), (m4, .inl (cm4, 25, .inl fK5)), (m5, .inl (cm5, 25, .inl fK5)), (m1, .inl (cm1, 25, .inl (fun _ => 0))), (mo, .inr (16, [.int 5, .int 5, .int 1, .ref m1, .ref m2, .ref m3, .ref m4, .ref m5, .ref l1, .ref l2, .ref l3, .int (-1), .ref l4]))] H := hP
    have hD : va_D A [(m2, .inl (cm2, 25, .inl (fun _ => 0))), (m3, .inl (cm3, 25, .inl (fun _ => 0))), (m4, .inl (cm4, 25, .inl fK5)), (m5, .inl (cm5, 25, .inl fK5)), (m1, .inl (cm1, 25, .inl (fun _ => 0))), (mo, .inr (16, [.int 5, .int 5, .int 1, .ref m1, .ref m2, .ref m3, .ref m4, .ref m5, .ref l1, .ref l2, .ref l3, .int (-1), .ref l4]))] := hD
    have hK : va_K D vwCl [(cm1, .int), (cm2, .int), (cm3, .int), (cm4, .char), (cm5, .char)] s := hK
    obtain rfl : r5 = 0 := w4
    exact mr_i hx hb hr (1, fun k9 => [m1, m2, m3, m4, m5, l1, l2, l3, l4].getD k9 0, fun k9 => [5, 5, -1].getD k9 0) (⟨(if_neg (ite01_0 h3)).symm, fun q9 => absurd ((if_neg (ite01_0 h3)).symm.trans q9) (by decide)⟩) (hP.sub [5] rfl) (hK.sub [] rfl) (hD.sub [5] (by decide) rfl) hS (Nat.le_of_ble_eq_true rfl) (Nat.le_of_ble_eq_true rfl) hlocks dX9_cost_21
  · refine lv_aload_n hx hb dX9_cost_8 rfl (lv_at hl 0 rfl) ?_
    refine lv_iload_n hx hb dX9_cost_9 rfl (lv_at hl 2 rfl) ?_
    refine mc_i (wr := [(m2, .inl (cm2, 25, .inl (fun _ => 0))), (m3, .inl (cm3, 25, .inl (fun _ => 0))), (m4, .inl (cm4, 25, .inl fK5)), (m5, .inl (cm5, 25, .inl fK5))]) (va_runV (As := [.int p1]) (rest := []) ⟨hx, hb, hml, hown, hts⟩ (c_isCell l hst D mo th m1 m2 m3 m4 m5 l1 l2 l3 l4 cm1 p1 H.size) (cwV 1 hts (gi_c (List.mem_cons_of_mem _ (List.mem_append_left _ (List.mem_of_getElem? (i := 0) rfl))) rfl (gi_c (List.mem_cons_of_mem _ (List.mem_append_left _ (List.mem_of_getElem? (i := 1) rfl))) rfl (gi_c (List.mem_cons_of_mem _ (List.mem_append_left _ (List.mem_of_getElem? (i := 2) rfl))) rfl (gi_c (List.mem_cons_of_mem _ (List.mem_append_left _ (List.mem_of_getElem? (i := 3) rfl))) rfl (goodIn_sub hb_0 (List.all_eq_true.mpr gw_c_isCell)))))) rfl rfl rfl (by decide +kernel) ⟨Nat.le_of_ble_eq_true rfl, Nat.le_of_ble_eq_true rfl⟩) (pr_V (As := [.int p1]) (b := mo) (C := RX9) hP hD hK hS hA hE [4, 5] [0] rfl rfl rfl 4 16 rfl rfl rfl) rfl rfl hl.1 rfl (lv_room (Nat.le_of_ble_eq_true rfl)) dX9_cost_10 ⟨Nat.le_of_ble_eq_true rfl, Nat.le_of_ble_eq_true rfl⟩) hP hD hK hS hA [4, 5] [0, 1, 2, 3] rfl rfl (by decide) (by decide) (fun r7 _ H locs w6 hP hD hK hS => ?_)
    have hP : va_P D vwCl [(m2, .inl (cm2, 25, .inl (fun _ => 0))), (m3, .inl (cm3, 25, .inl (fun _ => 0))), (m4, .inl (cm4, 25, .inl fK5)), (m5, .inl (cm5, 25, .inl fK5)), (mo, .inr (16, [.int 5, .int 5, .int th, .ref m1, .ref m2, .ref m3, .ref m4, .ref m5, .ref l1, .ref l2, .ref l3, .int (-1), .ref l4])), (m1, .inl (cm1, 25, .inl (fun _ => 0)))] H := hP
    have hD : va_D A [(m2, .inl (cm2, 25, .inl (fun _ => 0))), (m3, .inl (cm3, 25, .inl (fun _ => 0))), (m4, .inl (cm4, 25, .inl fK5)), (m5, .inl (cm5, 25, .inl fK5)), (mo, .inr (16, [.int 5, .int 5, .int th, .ref m1, .ref m2, .ref m3, .ref m4, .ref m5, .ref l1, .ref l2, .ref l3, .int (-1), .ref l4])), (m1, .inl (cm1, 25, .inl (fun _ => 0)))] := hD
    have hK : va_K D vwCl [(cm1, .int), (cm2, .int), (cm3, .int), (cm4, .char), (cm5, .char)] s := hK
    obtain rfl : r7 = (if inI p1 25 then 1 else 0) := w6
    refine lv_if_ne (tgt := 22) hx hb dX9_cost_13 (by decide) (fun h8 => ?_) (fun h8 => ?_)
    · obtain ⟨k0, hk0, rfl⟩ := inI_nI (ite01_1 h3)
      obtain ⟨k1, hk1, rfl⟩ := inI_nI (ite01_1 h8)
      have hd0 := dis_le k1 (by omega) k0 (by omega)
      refine lv_aload_n hx hb dX9_cost_22 rfl (lv_at hl 0 rfl) ?_
      refine lv_iload_n hx hb dX9_cost_23 rfl (lv_at hl 1 rfl) ?_
      refine lv_iload_n hx hb dX9_cost_24 rfl (lv_at hl 2 rfl) ?_
      refine lv_iload_n hx hb dX9_cost_25 rfl (lv_at hl 3 rfl) ?_
      refine mc_i (wr := []) (va_runV (As := [.int (nI k0), .int (nI k1), .int p2]) (rest := []) ⟨hx, hb, hml, hown, hts⟩ (c_costOf l hst D mo th m1 m2 m3 m4 m5 l1 l2 l3 l4 cm1 cm2 cm3 cm4 cm5 k0 k1 p2 H.size (by omega) (by omega)) (cwV 3 hts (gi_c (List.mem_cons_of_mem _ (List.mem_append_left _ (List.mem_of_getElem? (i := 7) rfl))) rfl (gi_c (List.mem_cons_of_mem _ (List.mem_append_left _ (List.mem_of_getElem? (i := 8) rfl))) rfl (gi_c (List.mem_cons_of_mem _ (List.mem_append_left _ (List.mem_of_getElem? (i := 9) rfl))) rfl (gi_c (List.mem_cons_of_mem _ (List.mem_append_left _ (List.mem_of_getElem? (i := 3) rfl))) rfl (goodIn_sub hb_2 (List.all_eq_true.mpr gw_c_costOf)))))) rfl rfl rfl (by decide +kernel) ⟨Nat.le_of_ble_eq_true rfl, Nat.le_of_ble_eq_true rfl⟩) (pr_V (As := [.int (nI k0), .int (nI k1), .int p2]) (b := mo) (C := RX9) hP hD hK hS hA hE [4, 5, 0, 1, 2, 3] [0, 1, 2, 3, 4] rfl rfl rfl 4 16 rfl rfl rfl) rfl rfl hl.1 rfl (lv_room (Nat.le_of_ble_eq_true rfl)) dX9_cost_26 ⟨Nat.le_of_ble_eq_true rfl, Nat.le_of_ble_eq_true rfl⟩) hP hD hK hS hA [4, 5, 0, 1, 2, 3] [] rfl rfl (by decide) (by decide) (fun r10 _ H locs w9 hP hD hK hS => ?_)
      have hP : va_P D vwCl [(mo, .inr (16, [.int 5, .int 5, .int th, .ref m1, .ref m2, .ref m3, .ref m4, .ref m5, .ref l1, .ref l2, .ref l3, .int (-1), .ref l4]))] H := hP
      have hD : va_D A [(mo, .inr (16, [.int 5, .int 5, .int th, .ref m1, .ref m2, .ref m3, .ref m4, .ref m5, .ref l1, .ref l2, .ref l3, .int (-1), .ref l4]))] := hD
      have hK : va_K D vwCl [(cm1, .int), (cm2, .int), (cm3, .int), (cm4, .char), (cm5, .char)] s := hK
      obtain rfl : r10 = (nI (dis k1 k0)) := w9
      refine lv_istore (lv' := [(4, .int (nI (dis k1 k0))), (0, .ref mo), (1, .int (nI k0)), (2, .int (nI k1)), (3, .int p2)]) hx hb dX9_cost_29 hl (by decide) rfl (fun ls hl => ?_)
      refine lv_iload hx hb dX9_cost_31 (lv_at hl 0 rfl) ?_
      refine lv_ldc hx hb hown hw_10 dX9_cost_33 ?_
      refine lv_icmp_ne (tgt := 46) hx hb dX9_cost_35 (by decide) (fun h11 => ?_) (fun h11 => absurd h11 (by exact fun q9 => absurd ((nI_eq (a := dis k1 k0) (b := 1000000000) (by omega) (by omega)).mp q9) (by omega)))
      refine lv_aload_n hx hb dX9_cost_46 rfl (lv_at hl 1 rfl) ?_
      refine lv_iload hx hb dX9_cost_47 (lv_at hl 0 rfl) ?_
      refine mc_i (wr := []) (va_runV (As := [.int (nI (dis k1 k0))]) (rest := []) ⟨hx, hb, hml, hown, hts⟩ (c_tells l hst D mo 5 5 th m1 m2 m3 m4 m5 l1 l2 l3 (-1) l4 (nI (dis k1 k0)) H.size) (cwV 1 hts (gi_c (List.mem_cons_of_mem _ (List.mem_append_left _ (List.mem_of_getElem? (i := 11) rfl))) rfl (gi_c (List.mem_cons_of_mem _ (List.mem_append_left _ (List.mem_of_getElem? (i := 12) rfl))) rfl (gi_c (List.mem_cons_of_mem _ (List.mem_append_left _ (List.mem_of_getElem? (i := 13) rfl))) rfl (gi_c (List.mem_cons_of_mem _ (List.mem_append_left _ (List.mem_of_getElem? (i := 3) rfl))) rfl (goodIn_sub hb_3 (List.all_eq_true.mpr gw_c_tells)))))) rfl rfl rfl (by decide +kernel) ⟨Nat.le_of_ble_eq_true rfl, Nat.le_of_ble_eq_true rfl⟩) (pr_V (As := [.int (nI (dis k1 k0))]) (b := mo) (C := RX9) hP hD hK hS hA hE [0] [] rfl rfl rfl 0 16 rfl rfl rfl) rfl rfl hl.1 rfl (lv_room (Nat.le_of_ble_eq_true rfl)) dX9_cost_49 ⟨Nat.le_of_ble_eq_true rfl, Nat.le_of_ble_eq_true rfl⟩) hP hD hK hS hA [0] [] rfl rfl (by decide) (by decide) (fun r13 _ H locs w12 hP hD hK hS => ?_)
      have hP : va_P D vwCl [(mo, .inr (16, [.int 5, .int 5, .int 0, .ref m1, .ref m2, .ref m3, .ref m4, .ref m5, .ref l1, .ref l2, .ref l3, .int (-1), .ref l4]))] H := hP
      have hD : va_D A [(mo, .inr (16, [.int 5, .int 5, .int 0, .ref m1, .ref m2, .ref m3, .ref m4, .ref m5, .ref l1, .ref l2, .ref l3, .int (-1), .ref l4]))] := hD
      have hK : va_K D vwCl [(cm1, .int), (cm2, .int), (cm3, .int), (cm4, .char), (cm5, .char)] s := hK
      obtain rfl : r13 = (nI (dis k1 k0)) := w12
      exact mr_i hx hb hr (0, fun k9 => [m1, m2, m3, m4, m5, l1, l2, l3, l4].getD k9 0, fun k9 => [5, 5, -1].getD k9 0) (⟨((if_pos (ite01_1 h3)).trans (if_pos (ite01_1 h8))).symm, fun _ => by show nI (dis k1 k0) = nI (dis (nI k0).toNatClampNeg (nI k1).toNatClampNeg); rw [nI_clamp (by omega), nI_clamp (by omega)]; exact congrArg nI (dis_sym k1 k0)⟩) (hP.sub [0] rfl) (hK.sub [] rfl) (hD.sub [0] (by decide) rfl) hS (Nat.le_of_ble_eq_true rfl) (Nat.le_of_ble_eq_true rfl) hlocks dX9_cost_52
    · refine lv_aload_n hx hb dX9_cost_16 rfl (lv_at hl 0 rfl) ?_
      refine lv_iconst (v := 1) hx hb dX9_cost_17 (by decide) ?_
      refine mc_i (wr := [(m2, .inl (cm2, 25, .inl (fun _ => 0))), (m3, .inl (cm3, 25, .inl (fun _ => 0))), (m4, .inl (cm4, 25, .inl fK5)), (m5, .inl (cm5, 25, .inl fK5)), (m1, .inl (cm1, 25, .inl (fun _ => 0)))]) (va_runV (As := [.int 1]) (rest := []) ⟨hx, hb, hml, hown, hts⟩ (c_fails l hst D mo 5 5 th m1 m2 m3 m4 m5 l1 l2 l3 (-1) l4 1 H.size) (cwV 1 hts (gi_c (List.mem_cons_of_mem _ (List.mem_append_left _ (List.mem_of_getElem? (i := 4) rfl))) rfl (gi_c (List.mem_cons_of_mem _ (List.mem_append_left _ (List.mem_of_getElem? (i := 5) rfl))) rfl (gi_c (List.mem_cons_of_mem _ (List.mem_append_left _ (List.mem_of_getElem? (i := 6) rfl))) rfl (gi_c (List.mem_cons_of_mem _ (List.mem_append_left _ (List.mem_of_getElem? (i := 3) rfl))) rfl (goodIn_sub hb_1 (List.all_eq_true.mpr gw_c_fails)))))) rfl rfl rfl (by decide +kernel) ⟨Nat.le_of_ble_eq_true rfl, Nat.le_of_ble_eq_true rfl⟩) (pr_V (As := [.int 1]) (b := mo) (C := RX9) hP hD hK hS hA hE [4] [] rfl rfl rfl 4 16 rfl rfl rfl) rfl rfl hl.1 rfl (lv_room (Nat.le_of_ble_eq_true rfl)) dX9_cost_18 ⟨Nat.le_of_ble_eq_true rfl, Nat.le_of_ble_eq_true rfl⟩) hP hD hK hS hA [4] [0, 1, 2, 3, 5] rfl rfl (by decide) (by decide) (fun r15 _ H locs w14 hP hD hK hS => ?_)
      have hP : va_P D vwCl [(m2, .inl (cm2, 25, .inl (fun _ => 0))), (m3, .inl (cm3, 25, .inl (fun _ => 0))), (m4, .inl (cm4, 25, .inl fK5)), (m5, .inl (cm5, 25, .inl fK5)), (m1, .inl (cm1, 25, .inl (fun _ => 0))), (mo, .inr (16, [.int 5, .int 5, .int 1, .ref m1, .ref m2, .ref m3, .ref m4, .ref m5, .ref l1, .ref l2, .ref l3, .int (-1), .ref l4]))] H := hP
      have hD : va_D A [(m2, .inl (cm2, 25, .inl (fun _ => 0))), (m3, .inl (cm3, 25, .inl (fun _ => 0))), (m4, .inl (cm4, 25, .inl fK5)), (m5, .inl (cm5, 25, .inl fK5)), (m1, .inl (cm1, 25, .inl (fun _ => 0))), (mo, .inr (16, [.int 5, .int 5, .int 1, .ref m1, .ref m2, .ref m3, .ref m4, .ref m5, .ref l1, .ref l2, .ref l3, .int (-1), .ref l4]))] := hD
      have hK : va_K D vwCl [(cm1, .int), (cm2, .int), (cm3, .int), (cm4, .char), (cm5, .char)] s := hK
      obtain rfl : r15 = 0 := w14
      exact mr_i hx hb hr (1, fun k9 => [m1, m2, m3, m4, m5, l1, l2, l3, l4].getD k9 0, fun k9 => [5, 5, -1].getD k9 0) (⟨((if_pos (ite01_1 h3)).trans (if_neg (ite01_0 h8))).symm, fun q9 => absurd (((if_pos (ite01_1 h3)).trans (if_neg (ite01_0 h8))).symm.trans q9) (by decide)⟩) (hP.sub [5] rfl) (hK.sub [] rfl) (hD.sub [5] (by decide) rfl) hS (Nat.le_of_ble_eq_true rfl) (Nat.le_of_ble_eq_true rfl) hlocks dX9_cost_21
