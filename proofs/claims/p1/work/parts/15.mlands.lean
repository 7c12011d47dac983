theorem dX9_misled_0 : decode cX9_misled 0 = .ok (.aload_n 0, 1) := by decide +kernel
theorem dX9_misled_1 : decode cX9_misled 1 = .ok (.iload_n 1, 1) := by decide +kernel
theorem dX9_misled_2 : decode cX9_misled 2 = .ok (.invokevirtual 83, 3) := by decide +kernel
theorem dX9_misled_5 : decode cX9_misled 5 = .ok (.ifCond .eq 11, 3) := by decide +kernel
theorem dX9_misled_16 : decode cX9_misled 16 = .ok (.aload_n 0, 1) := by decide +kernel
theorem dX9_misled_17 : decode cX9_misled 17 = .ok (.iconst 1, 1) := by decide +kernel
theorem dX9_misled_18 : decode cX9_misled 18 = .ok (.invokevirtual 76, 3) := by decide +kernel
theorem dX9_misled_21 : decode cX9_misled 21 = .ok (.ireturn, 1) := by decide +kernel
theorem dX9_misled_8 : decode cX9_misled 8 = .ok (.aload_n 0, 1) := by decide +kernel
theorem dX9_misled_9 : decode cX9_misled 9 = .ok (.iload_n 2, 1) := by decide +kernel
theorem dX9_misled_10 : decode cX9_misled 10 = .ok (.invokevirtual 83, 3) := by decide +kernel
theorem dX9_misled_13 : decode cX9_misled 13 = .ok (.ifCond .ne 9, 3) := by decide +kernel
theorem dX9_misled_22 : decode cX9_misled 22 = .ok (.aload_n 0, 1) := by decide +kernel
theorem dX9_misled_23 : decode cX9_misled 23 = .ok (.iload_n 2, 1) := by decide +kernel
theorem dX9_misled_24 : decode cX9_misled 24 = .ok (.iconst 1, 1) := by decide +kernel
theorem dX9_misled_25 : decode cX9_misled 25 = .ok (.invokevirtual 128, 3) := by decide +kernel
theorem dX9_misled_28 : decode cX9_misled 28 = .ok (.astore_n 3, 1) := by decide +kernel
theorem dX9_misled_29 : decode cX9_misled 29 = .ok (.aload_n 3, 1) := by decide +kernel
theorem dX9_misled_30 : decode cX9_misled 30 = .ok (.iload_n 1, 1) := by decide +kernel
theorem dX9_misled_31 : decode cX9_misled 31 = .ok (.iaload, 1) := by decide +kernel
theorem dX9_misled_32 : decode cX9_misled 32 = .ok (.ldc 113, 2) := by decide +kernel
theorem dX9_misled_34 : decode cX9_misled 34 = .ok (.if_icmp .ne 9, 3) := by decide +kernel
theorem dX9_misled_43 : decode cX9_misled 43 = .ok (.iconst 0, 1) := by decide +kernel
theorem dX9_misled_44 : decode cX9_misled 44 = .ok (.istore 4, 2) := by decide +kernel
theorem dX9_misled_46 : decode cX9_misled 46 = .ok (.iload_n 1, 1) := by decide +kernel
theorem dX9_misled_47 : decode cX9_misled 47 = .ok (.istore 5, 2) := by decide +kernel
theorem dX9_misled_49 : decode cX9_misled 49 = .ok (.iload 5, 2) := by decide +kernel
theorem dX9_misled_51 : decode cX9_misled 51 = .ok (.iload_n 2, 1) := by decide +kernel
theorem dX9_misled_52 : decode cX9_misled 52 = .ok (.if_icmp .eq 143, 3) := by decide +kernel
theorem dX9_misled_195 : decode cX9_misled 195 = .ok (.aload_n 0, 1) := by decide +kernel
theorem dX9_misled_196 : decode cX9_misled 196 = .ok (.iload 4, 2) := by decide +kernel
theorem dX9_misled_198 : decode cX9_misled 198 = .ok (.invokevirtual 80, 3) := by decide +kernel
theorem dX9_misled_201 : decode cX9_misled 201 = .ok (.ireturn, 1) := by decide +kernel
theorem dX9_misled_55 : decode cX9_misled 55 = .ok (.iconst (-1), 1) := by decide +kernel
theorem dX9_misled_56 : decode cX9_misled 56 = .ok (.istore 6, 2) := by decide +kernel
theorem dX9_misled_58 : decode cX9_misled 58 = .ok (.iconst 0, 1) := by decide +kernel
theorem dX9_misled_59 : decode cX9_misled 59 = .ok (.istore 7, 2) := by decide +kernel
theorem dX9_misled_61 : decode cX9_misled 61 = .ok (.iload 7, 2) := by decide +kernel
theorem dX9_misled_63 : decode cX9_misled 63 = .ok (.iconst 4, 1) := by decide +kernel
theorem dX9_misled_64 : decode cX9_misled 64 = .ok (.if_icmp .ge 92, 3) := by decide +kernel
theorem dX9_misled_156 : decode cX9_misled 156 = .ok (.aload_n 0, 1) := by decide +kernel
theorem dX9_misled_157 : decode cX9_misled 157 = .ok (.getfield 29, 3) := by decide +kernel
theorem dX9_misled_160 : decode cX9_misled 160 = .ok (.iload 6, 2) := by decide +kernel
theorem dX9_misled_162 : decode cX9_misled 162 = .ok (.caload, 1) := by decide +kernel
theorem dX9_misled_163 : decode cX9_misled 163 = .ok (.bipush 119, 2) := by decide +kernel
theorem dX9_misled_165 : decode cX9_misled 165 = .ok (.if_icmp .ne 9, 3) := by decide +kernel
theorem dX9_misled_174 : decode cX9_misled 174 = .ok (.iload 4, 2) := by decide +kernel
theorem dX9_misled_176 : decode cX9_misled 176 = .ok (.aload_n 0, 1) := by decide +kernel
theorem dX9_misled_177 : decode cX9_misled 177 = .ok (.iload 5, 2) := by decide +kernel
theorem dX9_misled_179 : decode cX9_misled 179 = .ok (.iload 6, 2) := by decide +kernel
theorem dX9_misled_181 : decode cX9_misled 181 = .ok (.iconst 0, 1) := by decide +kernel
theorem dX9_misled_182 : decode cX9_misled 182 = .ok (.invokevirtual 124, 3) := by decide +kernel
theorem dX9_misled_185 : decode cX9_misled 185 = .ok (.iadd, 1) := by decide +kernel
theorem dX9_misled_186 : decode cX9_misled 186 = .ok (.istore 4, 2) := by decide +kernel
theorem dX9_misled_188 : decode cX9_misled 188 = .ok (.iload 6, 2) := by decide +kernel
theorem dX9_misled_190 : decode cX9_misled 190 = .ok (.istore 5, 2) := by decide +kernel
theorem dX9_misled_192 : decode cX9_misled 192 = .ok (.goto (-143), 3) := by decide +kernel
theorem dX9_misled_67 : decode cX9_misled 67 = .ok (.aload_n 0, 1) := by decide +kernel
theorem dX9_misled_68 : decode cX9_misled 68 = .ok (.iload 5, 2) := by decide +kernel
theorem dX9_misled_70 : decode cX9_misled 70 = .ok (.iload 7, 2) := by decide +kernel
theorem dX9_misled_72 : decode cX9_misled 72 = .ok (.invokevirtual 117, 3) := by decide +kernel
theorem dX9_misled_75 : decode cX9_misled 75 = .ok (.istore 8, 2) := by decide +kernel
theorem dX9_misled_77 : decode cX9_misled 77 = .ok (.iload 6, 2) := by decide +kernel
theorem dX9_misled_79 : decode cX9_misled 79 = .ok (.iconst (-1), 1) := by decide +kernel
theorem dX9_misled_80 : decode cX9_misled 80 = .ok (.if_icmp .ne 32, 3) := by decide +kernel
theorem dX9_misled_83 : decode cX9_misled 83 = .ok (.iload 8, 2) := by decide +kernel
theorem dX9_misled_85 : decode cX9_misled 85 = .ok (.iconst (-1), 1) := by decide +kernel
theorem dX9_misled_86 : decode cX9_misled 86 = .ok (.if_icmp .eq 26, 3) := by decide +kernel
theorem dX9_misled_112 : decode cX9_misled 112 = .ok (.iconst 0, 1) := by decide +kernel
theorem dX9_misled_113 : decode cX9_misled 113 = .ok (.istore 9, 2) := by decide +kernel
theorem dX9_misled_115 : decode cX9_misled 115 = .ok (.iload 9, 2) := by decide +kernel
theorem dX9_misled_117 : decode cX9_misled 117 = .ok (.ifCond .eq 29, 3) := by decide +kernel
theorem dX9_misled_146 : decode cX9_misled 146 = .ok (.iload 6, 2) := by decide +kernel
theorem dX9_misled_148 : decode cX9_misled 148 = .ok (.istore 6, 2) := by decide +kernel
theorem dX9_misled_150 : decode cX9_misled 150 = .ok (.iinc 7 1, 3) := by decide +kernel
theorem dX9_misled_153 : decode cX9_misled 153 = .ok (.goto (-92), 3) := by decide +kernel
theorem dX9_misled_89 : decode cX9_misled 89 = .ok (.aload_n 0, 1) := by decide +kernel
theorem dX9_misled_90 : decode cX9_misled 90 = .ok (.iload 8, 2) := by decide +kernel
theorem dX9_misled_92 : decode cX9_misled 92 = .ok (.iconst 1, 1) := by decide +kernel
theorem dX9_misled_93 : decode cX9_misled 93 = .ok (.invokevirtual 120, 3) := by decide +kernel
theorem dX9_misled_96 : decode cX9_misled 96 = .ok (.ifCond .eq 16, 3) := by decide +kernel
theorem dX9_misled_99 : decode cX9_misled 99 = .ok (.aload_n 3, 1) := by decide +kernel
theorem dX9_misled_100 : decode cX9_misled 100 = .ok (.iload 8, 2) := by decide +kernel
theorem dX9_misled_102 : decode cX9_misled 102 = .ok (.iaload, 1) := by decide +kernel
theorem dX9_misled_103 : decode cX9_misled 103 = .ok (.ldc 113, 2) := by decide +kernel
theorem dX9_misled_105 : decode cX9_misled 105 = .ok (.if_icmp .eq 7, 3) := by decide +kernel
theorem dX9_misled_108 : decode cX9_misled 108 = .ok (.iconst 1, 1) := by decide +kernel
theorem dX9_misled_109 : decode cX9_misled 109 = .ok (.goto 4, 3) := by decide +kernel
theorem dX9_misled_120 : decode cX9_misled 120 = .ok (.aload_n 3, 1) := by decide +kernel
theorem dX9_misled_121 : decode cX9_misled 121 = .ok (.iload 5, 2) := by decide +kernel
theorem dX9_misled_123 : decode cX9_misled 123 = .ok (.iaload, 1) := by decide +kernel
theorem dX9_misled_124 : decode cX9_misled 124 = .ok (.aload_n 3, 1) := by decide +kernel
theorem dX9_misled_125 : decode cX9_misled 125 = .ok (.iload 8, 2) := by decide +kernel
theorem dX9_misled_127 : decode cX9_misled 127 = .ok (.iaload, 1) := by decide +kernel
theorem dX9_misled_128 : decode cX9_misled 128 = .ok (.aload_n 0, 1) := by decide +kernel
theorem dX9_misled_129 : decode cX9_misled 129 = .ok (.iload 5, 2) := by decide +kernel
theorem dX9_misled_131 : decode cX9_misled 131 = .ok (.iload 8, 2) := by decide +kernel
theorem dX9_misled_133 : decode cX9_misled 133 = .ok (.iconst 1, 1) := by decide +kernel
theorem dX9_misled_134 : decode cX9_misled 134 = .ok (.invokevirtual 124, 3) := by decide +kernel
theorem dX9_misled_137 : decode cX9_misled 137 = .ok (.iadd, 1) := by decide +kernel
theorem dX9_misled_138 : decode cX9_misled 138 = .ok (.if_icmp .ne 8, 3) := by decide +kernel
theorem dX9_misled_141 : decode cX9_misled 141 = .ok (.iload 8, 2) := by decide +kernel
theorem dX9_misled_143 : decode cX9_misled 143 = .ok (.goto 5, 3) := by decide +kernel
theorem dX9_begins_0 : decode cX9_begins 0 = .ok (.aload_n 0, 1) := by decide +kernel
theorem dX9_begins_1 : decode cX9_begins 1 = .ok (.iload_n 1, 1) := by decide +kernel
theorem dX9_begins_2 : decode cX9_begins 2 = .ok (.putfield 7, 3) := by decide +kernel
theorem dX9_begins_5 : decode cX9_begins 5 = .ok (.aload_n 0, 1) := by decide +kernel
theorem dX9_begins_6 : decode cX9_begins 6 = .ok (.iload_n 2, 1) := by decide +kernel
theorem dX9_begins_7 : decode cX9_begins 7 = .ok (.putfield 13, 3) := by decide +kernel
theorem dX9_begins_10 : decode cX9_begins 10 = .ok (.iload_n 1, 1) := by decide +kernel
theorem dX9_begins_11 : decode cX9_begins 11 = .ok (.iload_n 2, 1) := by decide +kernel
theorem dX9_begins_12 : decode cX9_begins 12 = .ok (.imul, 1) := by decide +kernel
theorem dX9_begins_13 : decode cX9_begins 13 = .ok (.istore_n 3, 1) := by decide +kernel
theorem dX9_begins_14 : decode cX9_begins 14 = .ok (.aload_n 0, 1) := by decide +kernel
theorem dX9_begins_15 : decode cX9_begins 15 = .ok (.iload_n 3, 1) := by decide +kernel
theorem dX9_begins_16 : decode cX9_begins 16 = .ok (.newarray .int, 2) := by decide +kernel
theorem dX9_begins_18 : decode cX9_begins 18 = .ok (.putfield 19, 3) := by decide +kernel
theorem dX9_begins_21 : decode cX9_begins 21 = .ok (.aload_n 0, 1) := by decide +kernel
theorem dX9_begins_22 : decode cX9_begins 22 = .ok (.iload_n 3, 1) := by decide +kernel
theorem dX9_begins_23 : decode cX9_begins 23 = .ok (.newarray .int, 2) := by decide +kernel
theorem dX9_begins_25 : decode cX9_begins 25 = .ok (.putfield 23, 3) := by decide +kernel
theorem dX9_begins_28 : decode cX9_begins 28 = .ok (.aload_n 0, 1) := by decide +kernel
theorem dX9_begins_29 : decode cX9_begins 29 = .ok (.iload_n 3, 1) := by decide +kernel
theorem dX9_begins_30 : decode cX9_begins 30 = .ok (.newarray .int, 2) := by decide +kernel
theorem dX9_begins_32 : decode cX9_begins 32 = .ok (.putfield 26, 3) := by decide +kernel
theorem dX9_begins_35 : decode cX9_begins 35 = .ok (.aload_n 0, 1) := by decide +kernel
theorem dX9_begins_36 : decode cX9_begins 36 = .ok (.iload_n 3, 1) := by decide +kernel
theorem dX9_begins_37 : decode cX9_begins 37 = .ok (.newarray .char, 2) := by decide +kernel
theorem dX9_begins_39 : decode cX9_begins 39 = .ok (.putfield 29, 3) := by decide +kernel
theorem dX9_begins_42 : decode cX9_begins 42 = .ok (.aload_n 0, 1) := by decide +kernel
theorem dX9_begins_43 : decode cX9_begins 43 = .ok (.iload_n 3, 1) := by decide +kernel
theorem dX9_begins_44 : decode cX9_begins 44 = .ok (.newarray .char, 2) := by decide +kernel
theorem dX9_begins_46 : decode cX9_begins 46 = .ok (.putfield 33, 3) := by decide +kernel
theorem dX9_begins_49 : decode cX9_begins 49 = .ok (.aload_n 0, 1) := by decide +kernel
theorem dX9_begins_50 : decode cX9_begins 50 = .ok (.getfield 29, 3) := by decide +kernel
theorem dX9_begins_53 : decode cX9_begins 53 = .ok (.bipush 46, 2) := by decide +kernel
theorem dX9_begins_55 : decode cX9_begins 55 = .ok (.invokestatic 59, 3) := by decide +kernel
theorem dX9_begins_58 : decode cX9_begins 58 = .ok (.aload_n 0, 1) := by decide +kernel
theorem dX9_begins_59 : decode cX9_begins 59 = .ok (.getfield 33, 3) := by decide +kernel
theorem dX9_begins_62 : decode cX9_begins 62 = .ok (.bipush 46, 2) := by decide +kernel
theorem dX9_begins_64 : decode cX9_begins 64 = .ok (.invokestatic 59, 3) := by decide +kernel
theorem dX9_begins_67 : decode cX9_begins 67 = .ok (.aload_n 0, 1) := by decide +kernel
theorem dX9_begins_68 : decode cX9_begins 68 = .ok (.getfield 39, 3) := by decide +kernel
theorem dX9_begins_71 : decode cX9_begins 71 = .ok (.invokevirtual 65, 3) := by decide +kernel
theorem dX9_begins_74 : decode cX9_begins 74 = .ok (.aload_n 0, 1) := by decide +kernel
theorem dX9_begins_75 : decode cX9_begins 75 = .ok (.getfield 43, 3) := by decide +kernel
theorem dX9_begins_78 : decode cX9_begins 78 = .ok (.invokevirtual 65, 3) := by decide +kernel
theorem dX9_begins_81 : decode cX9_begins 81 = .ok (.aload_n 0, 1) := by decide +kernel
theorem dX9_begins_82 : decode cX9_begins 82 = .ok (.getfield 46, 3) := by decide +kernel
theorem dX9_begins_85 : decode cX9_begins 85 = .ok (.invokevirtual 65, 3) := by decide +kernel
theorem dX9_begins_88 : decode cX9_begins 88 = .ok (.aload_n 0, 1) := by decide +kernel
theorem dX9_begins_89 : decode cX9_begins 89 = .ok (.getfield 52, 3) := by decide +kernel
theorem dX9_begins_92 : decode cX9_begins 92 = .ok (.invokevirtual 65, 3) := by decide +kernel
theorem dX9_begins_95 : decode cX9_begins 95 = .ok (.aload_n 0, 1) := by decide +kernel
theorem dX9_begins_96 : decode cX9_begins 96 = .ok (.iconst (-1), 1) := by decide +kernel
theorem dX9_begins_97 : decode cX9_begins 97 = .ok (.putfield 49, 3) := by decide +kernel
theorem dX9_begins_100 : decode cX9_begins 100 = .ok (.return_, 1) := by decide +kernel
theorem dX9_init_0 : decode cX9_init 0 = .ok (.aload_n 0, 1) := by decide +kernel
theorem dX9_init_1 : decode cX9_init 1 = .ok (.invokespecial 1, 3) := by decide +kernel
theorem dX9_init_4 : decode cX9_init 4 = .ok (.aload_n 0, 1) := by decide +kernel
theorem dX9_init_5 : decode cX9_init 5 = .ok (.iconst 5, 1) := by decide +kernel
theorem dX9_init_6 : decode cX9_init 6 = .ok (.putfield 7, 3) := by decide +kernel
theorem dX9_init_9 : decode cX9_init 9 = .ok (.aload_n 0, 1) := by decide +kernel
theorem dX9_init_10 : decode cX9_init 10 = .ok (.iconst 5, 1) := by decide +kernel
theorem dX9_init_11 : decode cX9_init 11 = .ok (.putfield 13, 3) := by decide +kernel
theorem dX9_init_14 : decode cX9_init 14 = .ok (.aload_n 0, 1) := by decide +kernel
theorem dX9_init_15 : decode cX9_init 15 = .ok (.iconst 0, 1) := by decide +kernel
theorem dX9_init_16 : decode cX9_init 16 = .ok (.putfield 16, 3) := by decide +kernel
theorem dX9_init_19 : decode cX9_init 19 = .ok (.aload_n 0, 1) := by decide +kernel
theorem dX9_init_20 : decode cX9_init 20 = .ok (.bipush 25, 2) := by decide +kernel
theorem dX9_init_22 : decode cX9_init 22 = .ok (.newarray .int, 2) := by decide +kernel
theorem dX9_init_24 : decode cX9_init 24 = .ok (.putfield 19, 3) := by decide +kernel
theorem dX9_init_27 : decode cX9_init 27 = .ok (.aload_n 0, 1) := by decide +kernel
theorem dX9_init_28 : decode cX9_init 28 = .ok (.bipush 25, 2) := by decide +kernel
theorem dX9_init_30 : decode cX9_init 30 = .ok (.newarray .int, 2) := by decide +kernel
theorem dX9_init_32 : decode cX9_init 32 = .ok (.putfield 23, 3) := by decide +kernel
theorem dX9_init_35 : decode cX9_init 35 = .ok (.aload_n 0, 1) := by decide +kernel
theorem dX9_init_36 : decode cX9_init 36 = .ok (.bipush 25, 2) := by decide +kernel
theorem dX9_init_38 : decode cX9_init 38 = .ok (.newarray .int, 2) := by decide +kernel
theorem dX9_init_40 : decode cX9_init 40 = .ok (.putfield 26, 3) := by decide +kernel
theorem dX9_init_43 : decode cX9_init 43 = .ok (.aload_n 0, 1) := by decide +kernel
theorem dX9_init_44 : decode cX9_init 44 = .ok (.bipush 25, 2) := by decide +kernel
theorem dX9_init_46 : decode cX9_init 46 = .ok (.newarray .char, 2) := by decide +kernel
theorem dX9_init_48 : decode cX9_init 48 = .ok (.putfield 29, 3) := by decide +kernel
theorem dX9_init_51 : decode cX9_init 51 = .ok (.aload_n 0, 1) := by decide +kernel
theorem dX9_init_52 : decode cX9_init 52 = .ok (.bipush 25, 2) := by decide +kernel
theorem dX9_init_54 : decode cX9_init 54 = .ok (.newarray .char, 2) := by decide +kernel
theorem dX9_init_56 : decode cX9_init 56 = .ok (.putfield 33, 3) := by decide +kernel
theorem dX9_init_59 : decode cX9_init 59 = .ok (.aload_n 0, 1) := by decide +kernel
theorem dX9_init_60 : decode cX9_init 60 = .ok (.new 36, 3) := by decide +kernel
theorem dX9_init_63 : decode cX9_init 63 = .ok (.dup, 1) := by decide +kernel
theorem dX9_init_64 : decode cX9_init 64 = .ok (.invokespecial 38, 3) := by decide +kernel
theorem dX9_init_67 : decode cX9_init 67 = .ok (.putfield 39, 3) := by decide +kernel
theorem dX9_init_70 : decode cX9_init 70 = .ok (.aload_n 0, 1) := by decide +kernel
theorem dX9_init_71 : decode cX9_init 71 = .ok (.new 36, 3) := by decide +kernel
theorem dX9_init_74 : decode cX9_init 74 = .ok (.dup, 1) := by decide +kernel
theorem dX9_init_75 : decode cX9_init 75 = .ok (.invokespecial 38, 3) := by decide +kernel
theorem dX9_init_78 : decode cX9_init 78 = .ok (.putfield 43, 3) := by decide +kernel
theorem dX9_init_81 : decode cX9_init 81 = .ok (.aload_n 0, 1) := by decide +kernel
theorem dX9_init_82 : decode cX9_init 82 = .ok (.new 36, 3) := by decide +kernel
theorem dX9_init_85 : decode cX9_init 85 = .ok (.dup, 1) := by decide +kernel
theorem dX9_init_86 : decode cX9_init 86 = .ok (.invokespecial 38, 3) := by decide +kernel
theorem dX9_init_89 : decode cX9_init 89 = .ok (.putfield 46, 3) := by decide +kernel
theorem dX9_init_92 : decode cX9_init 92 = .ok (.aload_n 0, 1) := by decide +kernel
theorem dX9_init_93 : decode cX9_init 93 = .ok (.iconst (-1), 1) := by decide +kernel
theorem dX9_init_94 : decode cX9_init 94 = .ok (.putfield 49, 3) := by decide +kernel
theorem dX9_init_97 : decode cX9_init 97 = .ok (.aload_n 0, 1) := by decide +kernel
theorem dX9_init_98 : decode cX9_init 98 = .ok (.new 36, 3) := by decide +kernel
theorem dX9_init_101 : decode cX9_init 101 = .ok (.dup, 1) := by decide +kernel
theorem dX9_init_102 : decode cX9_init 102 = .ok (.invokespecial 38, 3) := by decide +kernel
theorem dX9_init_105 : decode cX9_init 105 = .ok (.putfield 52, 3) := by decide +kernel
theorem dX9_init_108 : decode cX9_init 108 = .ok (.aload_n 0, 1) := by decide +kernel
theorem dX9_init_109 : decode cX9_init 109 = .ok (.iconst 5, 1) := by decide +kernel
theorem dX9_init_110 : decode cX9_init 110 = .ok (.iconst 5, 1) := by decide +kernel
theorem dX9_init_111 : decode cX9_init 111 = .ok (.invokevirtual 55, 3) := by decide +kernel
theorem dX9_init_114 : decode cX9_init 114 = .ok (.return_, 1) := by decide +kernel
theorem dX9_land_0 : decode cX9_land 0 = .ok (.iload_n 1, 1) := by decide +kernel
theorem dX9_land_1 : decode cX9_land 1 = .ok (.i2l, 1) := by decide +kernel
theorem dX9_land_2 : decode cX9_land 2 = .ok (.ldc2_w 68, 3) := by decide +kernel
theorem dX9_land_5 : decode cX9_land 5 = .ok (.ldc2_w 70, 3) := by decide +kernel
theorem dX9_land_8 : decode cX9_land 8 = .ok (.invokestatic 72, 3) := by decide +kernel
theorem dX9_land_11 : decode cX9_land 11 = .ok (.ifCond .eq 17, 3) := by decide +kernel
theorem dX9_land_28 : decode cX9_land 28 = .ok (.aload_n 0, 1) := by decide +kernel
theorem dX9_land_29 : decode cX9_land 29 = .ok (.iconst 1, 1) := by decide +kernel
theorem dX9_land_30 : decode cX9_land 30 = .ok (.invokevirtual 76, 3) := by decide +kernel
theorem dX9_land_33 : decode cX9_land 33 = .ok (.ireturn, 1) := by decide +kernel
theorem dX9_land_14 : decode cX9_land 14 = .ok (.iload_n 2, 1) := by decide +kernel
theorem dX9_land_15 : decode cX9_land 15 = .ok (.i2l, 1) := by decide +kernel
theorem dX9_land_16 : decode cX9_land 16 = .ok (.ldc2_w 68, 3) := by decide +kernel
theorem dX9_land_19 : decode cX9_land 19 = .ok (.ldc2_w 70, 3) := by decide +kernel
theorem dX9_land_22 : decode cX9_land 22 = .ok (.invokestatic 72, 3) := by decide +kernel
theorem dX9_land_25 : decode cX9_land 25 = .ok (.ifCond .ne 9, 3) := by decide +kernel
theorem dX9_land_34 : decode cX9_land 34 = .ok (.aload_n 0, 1) := by decide +kernel
theorem dX9_land_35 : decode cX9_land 35 = .ok (.iload_n 1, 1) := by decide +kernel
theorem dX9_land_36 : decode cX9_land 36 = .ok (.iload_n 2, 1) := by decide +kernel
theorem dX9_land_37 : decode cX9_land 37 = .ok (.invokevirtual 55, 3) := by decide +kernel
theorem dX9_land_40 : decode cX9_land 40 = .ok (.aload_n 0, 1) := by decide +kernel
theorem dX9_land_41 : decode cX9_land 41 = .ok (.iload_n 1, 1) := by decide +kernel
theorem dX9_land_42 : decode cX9_land 42 = .ok (.iload_n 2, 1) := by decide +kernel
theorem dX9_land_43 : decode cX9_land 43 = .ok (.imul, 1) := by decide +kernel
theorem dX9_land_44 : decode cX9_land 44 = .ok (.invokevirtual 80, 3) := by decide +kernel
theorem dX9_land_47 : decode cX9_land 47 = .ok (.ireturn, 1) := by decide +kernel
theorem dX9_show_0 : decode cX9_show 0 = .ok (.aload_n 0, 1) := by decide +kernel
theorem dX9_show_1 : decode cX9_show 1 = .ok (.iload_n 1, 1) := by decide +kernel
theorem dX9_show_2 : decode cX9_show 2 = .ok (.invokevirtual 83, 3) := by decide +kernel
theorem dX9_show_5 : decode cX9_show 5 = .ok (.ifCond .ne 9, 3) := by decide +kernel
theorem dX9_show_14 : decode cX9_show 14 = .ok (.iload_n 2, 1) := by decide +kernel
theorem dX9_show_15 : decode cX9_show 15 = .ok (.i2l, 1) := by decide +kernel
theorem dX9_show_16 : decode cX9_show 16 = .ok (.lconst 0, 1) := by decide +kernel
theorem dX9_show_17 : decode cX9_show 17 = .ok (.ldc2_w 87, 3) := by decide +kernel
theorem dX9_show_20 : decode cX9_show 20 = .ok (.invokestatic 72, 3) := by decide +kernel
theorem dX9_show_23 : decode cX9_show 23 = .ok (.ifCond .eq 10, 3) := by decide +kernel
theorem dX9_show_33 : decode cX9_show 33 = .ok (.aload_n 0, 1) := by decide +kernel
theorem dX9_show_34 : decode cX9_show 34 = .ok (.iconst 2, 1) := by decide +kernel
theorem dX9_show_35 : decode cX9_show 35 = .ok (.invokevirtual 76, 3) := by decide +kernel
theorem dX9_show_38 : decode cX9_show 38 = .ok (.ireturn, 1) := by decide +kernel
theorem dX9_show_26 : decode cX9_show 26 = .ok (.iload_n 3, 1) := by decide +kernel
theorem dX9_show_27 : decode cX9_show 27 = .ok (.invokestatic 89, 3) := by decide +kernel
theorem dX9_show_30 : decode cX9_show 30 = .ok (.ifCond .ne 9, 3) := by decide +kernel
theorem dX9_show_39 : decode cX9_show 39 = .ok (.aload_n 0, 1) := by decide +kernel
theorem dX9_show_40 : decode cX9_show 40 = .ok (.getfield 26, 3) := by decide +kernel
theorem dX9_show_43 : decode cX9_show 43 = .ok (.iload_n 1, 1) := by decide +kernel
theorem dX9_show_44 : decode cX9_show 44 = .ok (.iaload, 1) := by decide +kernel
theorem dX9_show_45 : decode cX9_show 45 = .ok (.istore 4, 2) := by decide +kernel
theorem dX9_show_47 : decode cX9_show 47 = .ok (.aload_n 0, 1) := by decide +kernel
theorem dX9_show_48 : decode cX9_show 48 = .ok (.getfield 26, 3) := by decide +kernel
theorem dX9_show_51 : decode cX9_show 51 = .ok (.iload_n 1, 1) := by decide +kernel
theorem dX9_show_52 : decode cX9_show 52 = .ok (.iload_n 2, 1) := by decide +kernel
theorem dX9_show_53 : decode cX9_show 53 = .ok (.iastore, 1) := by decide +kernel
theorem dX9_show_54 : decode cX9_show 54 = .ok (.aload_n 0, 1) := by decide +kernel
theorem dX9_show_55 : decode cX9_show 55 = .ok (.getfield 33, 3) := by decide +kernel
theorem dX9_show_58 : decode cX9_show 58 = .ok (.iload_n 1, 1) := by decide +kernel
theorem dX9_show_59 : decode cX9_show 59 = .ok (.iload_n 3, 1) := by decide +kernel
theorem dX9_show_60 : decode cX9_show 60 = .ok (.castore, 1) := by decide +kernel
theorem dX9_show_61 : decode cX9_show 61 = .ok (.aload_n 0, 1) := by decide +kernel
theorem dX9_show_62 : decode cX9_show 62 = .ok (.iload 4, 2) := by decide +kernel
theorem dX9_show_64 : decode cX9_show 64 = .ok (.invokevirtual 80, 3) := by decide +kernel
theorem dX9_show_67 : decode cX9_show 67 = .ok (.ireturn, 1) := by decide +kernel
theorem dX9_show_8 : decode cX9_show 8 = .ok (.aload_n 0, 1) := by decide +kernel
theorem dX9_show_9 : decode cX9_show 9 = .ok (.iconst 1, 1) := by decide +kernel
theorem dX9_show_10 : decode cX9_show 10 = .ok (.invokevirtual 76, 3) := by decide +kernel
theorem dX9_show_13 : decode cX9_show 13 = .ok (.ireturn, 1) := by decide +kernel
theorem dX9_changeover_0 : decode cX9_changeover 0 = .ok (.iload_n 1, 1) := by decide +kernel
theorem dX9_changeover_1 : decode cX9_changeover 1 = .ok (.i2l, 1) := by decide +kernel
theorem dX9_changeover_2 : decode cX9_changeover 2 = .ok (.lconst 0, 1) := by decide +kernel
theorem dX9_changeover_3 : decode cX9_changeover 3 = .ok (.ldc2_w 341, 3) := by decide +kernel
theorem dX9_changeover_6 : decode cX9_changeover 6 = .ok (.invokestatic 72, 3) := by decide +kernel
theorem dX9_changeover_9 : decode cX9_changeover 9 = .ok (.ifCond .eq 42, 3) := by decide +kernel
theorem dX9_changeover_51 : decode cX9_changeover 51 = .ok (.aload_n 0, 1) := by decide +kernel
theorem dX9_changeover_52 : decode cX9_changeover 52 = .ok (.iconst 1, 1) := by decide +kernel
theorem dX9_changeover_53 : decode cX9_changeover 53 = .ok (.invokevirtual 76, 3) := by decide +kernel
theorem dX9_changeover_56 : decode cX9_changeover 56 = .ok (.ireturn, 1) := by decide +kernel
theorem dX9_changeover_12 : decode cX9_changeover 12 = .ok (.iload_n 2, 1) := by decide +kernel
theorem dX9_changeover_13 : decode cX9_changeover 13 = .ok (.i2l, 1) := by decide +kernel
theorem dX9_changeover_14 : decode cX9_changeover 14 = .ok (.lconst 0, 1) := by decide +kernel
theorem dX9_changeover_15 : decode cX9_changeover 15 = .ok (.ldc2_w 237, 3) := by decide +kernel
theorem dX9_changeover_18 : decode cX9_changeover 18 = .ok (.invokestatic 72, 3) := by decide +kernel
theorem dX9_changeover_21 : decode cX9_changeover 21 = .ok (.ifCond .eq 30, 3) := by decide +kernel
theorem dX9_changeover_24 : decode cX9_changeover 24 = .ok (.iload_n 3, 1) := by decide +kernel
theorem dX9_changeover_25 : decode cX9_changeover 25 = .ok (.i2l, 1) := by decide +kernel
theorem dX9_changeover_26 : decode cX9_changeover 26 = .ok (.lconst 0, 1) := by decide +kernel
theorem dX9_changeover_27 : decode cX9_changeover 27 = .ok (.ldc2_w 237, 3) := by decide +kernel
theorem dX9_changeover_30 : decode cX9_changeover 30 = .ok (.invokestatic 72, 3) := by decide +kernel
theorem dX9_changeover_33 : decode cX9_changeover 33 = .ok (.ifCond .eq 18, 3) := by decide +kernel
theorem dX9_changeover_36 : decode cX9_changeover 36 = .ok (.iload 4, 2) := by decide +kernel
theorem dX9_changeover_38 : decode cX9_changeover 38 = .ok (.i2l, 1) := by decide +kernel
theorem dX9_changeover_39 : decode cX9_changeover 39 = .ok (.ldc2_w 268, 3) := by decide +kernel
theorem dX9_changeover_42 : decode cX9_changeover 42 = .ok (.ldc2_w 237, 3) := by decide +kernel
theorem dX9_changeover_45 : decode cX9_changeover 45 = .ok (.invokestatic 72, 3) := by decide +kernel
theorem dX9_changeover_48 : decode cX9_changeover 48 = .ok (.ifCond .ne 9, 3) := by decide +kernel
theorem dX9_changeover_57 : decode cX9_changeover 57 = .ok (.iload_n 2, 1) := by decide +kernel
theorem dX9_changeover_58 : decode cX9_changeover 58 = .ok (.istore 5, 2) := by decide +kernel
theorem dX9_changeover_60 : decode cX9_changeover 60 = .ok (.iconst 0, 1) := by decide +kernel
theorem dX9_changeover_61 : decode cX9_changeover 61 = .ok (.istore 6, 2) := by decide +kernel
theorem dX9_changeover_63 : decode cX9_changeover 63 = .ok (.iload 6, 2) := by decide +kernel
theorem dX9_changeover_65 : decode cX9_changeover 65 = .ok (.iload_n 1, 1) := by decide +kernel
theorem dX9_changeover_66 : decode cX9_changeover 66 = .ok (.if_icmp .ge 32, 3) := by decide +kernel
theorem dX9_changeover_98 : decode cX9_changeover 98 = .ok (.aload_n 0, 1) := by decide +kernel
theorem dX9_changeover_99 : decode cX9_changeover 99 = .ok (.iload 5, 2) := by decide +kernel
theorem dX9_changeover_101 : decode cX9_changeover 101 = .ok (.invokevirtual 80, 3) := by decide +kernel
theorem dX9_changeover_104 : decode cX9_changeover 104 = .ok (.ireturn, 1) := by decide +kernel
theorem dX9_changeover_69 : decode cX9_changeover 69 = .ok (.iload 4, 2) := by decide +kernel
theorem dX9_changeover_71 : decode cX9_changeover 71 = .ok (.ifCond .lt 15, 3) := by decide +kernel
theorem dX9_changeover_86 : decode cX9_changeover 86 = .ok (.iload 5, 2) := by decide +kernel
theorem dX9_changeover_88 : decode cX9_changeover 88 = .ok (.iload_n 3, 1) := by decide +kernel
theorem dX9_changeover_89 : decode cX9_changeover 89 = .ok (.iadd, 1) := by decide +kernel
theorem dX9_changeover_90 : decode cX9_changeover 90 = .ok (.istore 5, 2) := by decide +kernel
theorem dX9_changeover_92 : decode cX9_changeover 92 = .ok (.iinc 6 1, 3) := by decide +kernel
theorem dX9_changeover_95 : decode cX9_changeover 95 = .ok (.goto (-32), 3) := by decide +kernel
theorem dX9_changeover_74 : decode cX9_changeover 74 = .ok (.iload 4, 2) := by decide +kernel
theorem dX9_changeover_76 : decode cX9_changeover 76 = .ok (.iload 5, 2) := by decide +kernel
theorem dX9_changeover_78 : decode cX9_changeover 78 = .ok (.iload_n 3, 1) := by decide +kernel
theorem dX9_changeover_79 : decode cX9_changeover 79 = .ok (.iadd, 1) := by decide +kernel
theorem dX9_changeover_80 : decode cX9_changeover 80 = .ok (.invokestatic 317, 3) := by decide +kernel
theorem dX9_changeover_83 : decode cX9_changeover 83 = .ok (.goto 7, 3) := by decide +kernel
/-! the reference: ways misled, its start, lands -/
theorem cv_m1 {t : Int32} (h : ¬ t < -1) (h2 : t < 0) : t = -1 := by
  rw [fa_eq]
  rw [fa_lt] at h h2
  rw [show (-1 : Int32).toInt = -1 from by decide] at h ⊢
  rw [show (0 : Int32).toInt = 0 from by decide] at h2
  omega
theorem cvM {s t a x y : Int32} (h : ¬ t < 0) (e : x = a + s) (f : y = if x < t then x else t) : y = cvS s t a := by
  have h3 : ¬ t = -1 := fun q => h (by rw [q]; decide)
  unfold cvS
  rw [f, ← e]
  by_cases g : t < x
  · rw [if_neg (show ¬ x < t from (fa_of_lt g).2.2.1), if_pos (show ¬ t = -1 ∧ t < x from ⟨h3, g⟩)]
  · rw [if_neg (show ¬ (¬ t = -1 ∧ t < x) from fun q => g q.2)]
    by_cases g2 : x < t
    · rw [if_pos g2]
    · rw [if_neg g2]
      rcases fa_three x t with q | q | q
      · exact absurd q g2
      · exact q.symm
      · exact absurd q g
def us_c_mmisled : List Cond := .code yX9_misled cX9_misled 10 (some .int) :: (([.methodLink RX9 83 yX9_isCell, .instanceMethod yX9_isCell, .selects RX9 yX9_isCell yX9_isCell, .initialized RX9, .methodLink RX9 76 yX9_fails, .instanceMethod yX9_fails, .selects RX9 yX9_fails yX9_fails, .methodLink RX9 128 yX9_costsTo, .instanceMethod yX9_costsTo, .selects RX9 yX9_costsTo yX9_costsTo, .constant RX9 113 (1000000000), .methodLink RX9 80 yX9_tells, .instanceMethod yX9_tells, .selects RX9 yX9_tells yX9_tells, .fieldLink RX9 29 "ControlWoodModel" "kind" "[C", .methodLink RX9 124 yX9_step, .instanceMethod yX9_step, .selects RX9 yX9_step yX9_step, .methodLink RX9 117 yX9_beside, .instanceMethod yX9_beside, .selects RX9 yX9_beside yX9_beside, .methodLink RX9 120 yX9_canEnter, .instanceMethod yX9_canEnter, .selects RX9 yX9_canEnter yX9_canEnter] : List Cond) ++ (us_c_isCell ++ (us_c_fails ++ (us_c_costsTo ++ (us_c_tells ++ (wsX90 ++ (us_c_mstep ++ (us_c_beside ++ (us_c_mcan ++ ([]))))))))))
theorem gw_c_mmisled : ∀ w ∈ us_c_mmisled, goodWord w = true := gw_cons rfl (gw_app (by decide +kernel) (gw_app gw_c_isCell (gw_app gw_c_fails (gw_app gw_c_costsTo (gw_app gw_c_tells (gw_app gwf_X9 (gw_app gw_c_mstep (gw_app gw_c_beside (gw_app gw_c_mcan (fun _ h => nomatch h))))))))))
set_option maxHeartbeats 4000000 in
set_option maxRecDepth 100000 in
/-- the reference: misled -/
theorem c_mmisled (l : Launch) (hst : l.stackTraces = false) (D : va_G) (mo : Nat) (th : Int32) (m1 : Nat) (m2 : Nat) (m3 : Nat) (m4 : Nat) (m5 : Nat) (l1 : Nat) (l2 : Nat) (l3 : Nat) (l4 : Nat) (cm1 : ClassId) (cm2 : ClassId) (cm3 : ClassId) (cm4 : ClassId) (cm5 : ClassId) (p0 : Int32) (p1 : Int32) (sz : Nat) : Met l yX9_misled us_c_mmisled { frames := 4, cells := 1, slots := 25, locals := 97 } (pw D [.ref mo, .int p0, .int p1] [(cm1, .int), (cm2, .int), (cm3, .int), (cm4, .char), (cm5, .char)] [(mo, .inr (16, [.int 5, .int 5, .int th, .ref m1, .ref m2, .ref m3, .ref m4, .ref m5, .ref l1, .ref l2, .ref l3, .int (-1), .ref l4])), (m1, .inl (cm1, 25, .inl (fun _ => 0))), (m2, .inl (cm2, 25, .inl (fun _ => 0))), (m3, .inl (cm3, 25, .inl (fun _ => 0))), (m4, .inl (cm4, 25, .inl fK5)), (m5, .inl (cm5, 25, .inl fK5))] sz) (va_Qi (fun (r : Int32) (u : (Int32 × (Nat → Nat) × (Nat → Int32))) => u.1 = kf_misled p0 p1 ∧ (kf_misled p0 p1 = 0 → r = rf_misled p0 p1)) (qb D (va_A [(mo, .inr (16, [.int 5, .int 5, .int th, .ref m1, .ref m2, .ref m3, .ref m4, .ref m5, .ref l1, .ref l2, .ref l3, .int (-1), .ref l4])), (m1, .inl (cm1, 25, .inl (fun _ => 0))), (m2, .inl (cm2, 25, .inl (fun _ => 0))), (m3, .inl (cm3, 25, .inl (fun _ => 0))), (m4, .inl (cm4, 25, .inl fK5)), (m5, .inl (cm5, 25, .inl fK5))] sz) (fun u : (Int32 × (Nat → Nat) × (Nat → Int32)) => [(mo, .inr (16, [.int (u.2.2 0), .int (u.2.2 1), .int u.1, .ref (u.2.1 0), .ref (u.2.1 1), .ref (u.2.1 2), .ref (u.2.1 3), .ref (u.2.1 4), .ref (u.2.1 5), .ref (u.2.1 6), .ref (u.2.1 7), .int (u.2.2 2), .ref (u.2.1 8)]))]) (fun u : (Int32 × (Nat → Nat) × (Nat → Int32)) => ([] : List (ClassId × FieldType)))) (va_A [(mo, .inr (16, [.int 5, .int 5, .int th, .ref m1, .ref m2, .ref m3, .ref m4, .ref m5, .ref l1, .ref l2, .ref l3, .int (-1), .ref l4])), (m1, .inl (cm1, 25, .inl (fun _ => 0))), (m2, .inl (cm2, 25, .inl (fun _ => 0))), (m3, .inl (cm3, 25, .inl (fun _ => 0))), (m4, .inl (cm4, 25, .inl fK5)), (m5, .inl (cm5, 25, .inl fK5))] sz)) 1 25 (va_A [(mo, .inr (16, [.int 5, .int 5, .int th, .ref m1, .ref m2, .ref m3, .ref m4, .ref m5, .ref l1, .ref l2, .ref l3, .int (-1), .ref l4])), (m1, .inl (cm1, 25, .inl (fun _ => 0))), (m2, .inl (cm2, 25, .inl (fun _ => 0))), (m3, .inl (cm3, 25, .inl (fun _ => 0))), (m4, .inl (cm4, 25, .inl fK5)), (m5, .inl (cm5, 25, .inl fK5))] sz) := by
  refine op_M (Qc := fun A => (va_Qi (fun (r : Int32) (u : (Int32 × (Nat → Nat) × (Nat → Int32))) => u.1 = kf_misled p0 p1 ∧ (kf_misled p0 p1 = 0 → r = rf_misled p0 p1)) (qb D A (fun u : (Int32 × (Nat → Nat) × (Nat → Int32)) => [(mo, .inr (16, [.int (u.2.2 0), .int (u.2.2 1), .int u.1, .ref (u.2.1 0), .ref (u.2.1 1), .ref (u.2.1 2), .ref (u.2.1 3), .ref (u.2.1 4), .ref (u.2.1 5), .ref (u.2.1 6), .ref (u.2.1 7), .int (u.2.2 2), .ref (u.2.1 8)]))]) (fun u : (Int32 × (Nat → Nat) × (Nat → Int32)) => ([] : List (ClassId × FieldType)))) A)) (by decide +kernel) rfl (Nat.le_of_ble_eq_true rfl) ?_
  intro p e s m args below meth c A ls hx hb hr hml hts hown hlocks hmn htab hA hD hS hP hK hE hsz hl
  have hown : s.vm.findClass RX9 = some m.cls := hown
  have hl : lv_has ls 10 [(0, .ref mo), (1, .int p0), (2, .int p1)] := hl
  have hw_0 := hts (.methodLink RX9 83 yX9_isCell) (List.mem_cons_of_mem _ (List.mem_append_left _ (List.mem_of_getElem? (i := 0) rfl)))
  have hw_1 := hts (.instanceMethod yX9_isCell) (List.mem_cons_of_mem _ (List.mem_append_left _ (List.mem_of_getElem? (i := 1) rfl)))
  have hw_2 := hts (.selects RX9 yX9_isCell yX9_isCell) (List.mem_cons_of_mem _ (List.mem_append_left _ (List.mem_of_getElem? (i := 2) rfl)))
  have hw_3 := hts (.initialized RX9) (List.mem_cons_of_mem _ (List.mem_append_left _ (List.mem_of_getElem? (i := 3) rfl)))
  have hw_4 := hts (.methodLink RX9 76 yX9_fails) (List.mem_cons_of_mem _ (List.mem_append_left _ (List.mem_of_getElem? (i := 4) rfl)))
  have hw_5 := hts (.instanceMethod yX9_fails) (List.mem_cons_of_mem _ (List.mem_append_left _ (List.mem_of_getElem? (i := 5) rfl)))
  have hw_6 := hts (.selects RX9 yX9_fails yX9_fails) (List.mem_cons_of_mem _ (List.mem_append_left _ (List.mem_of_getElem? (i := 6) rfl)))
  have hw_7 := hts (.methodLink RX9 128 yX9_costsTo) (List.mem_cons_of_mem _ (List.mem_append_left _ (List.mem_of_getElem? (i := 7) rfl)))
  have hw_8 := hts (.instanceMethod yX9_costsTo) (List.mem_cons_of_mem _ (List.mem_append_left _ (List.mem_of_getElem? (i := 8) rfl)))
  have hw_9 := hts (.selects RX9 yX9_costsTo yX9_costsTo) (List.mem_cons_of_mem _ (List.mem_append_left _ (List.mem_of_getElem? (i := 9) rfl)))
  have hw_10 := hts (.constant RX9 113 (1000000000)) (List.mem_cons_of_mem _ (List.mem_append_left _ (List.mem_of_getElem? (i := 10) rfl)))
  have hw_11 := hts (.methodLink RX9 80 yX9_tells) (List.mem_cons_of_mem _ (List.mem_append_left _ (List.mem_of_getElem? (i := 11) rfl)))
  have hw_12 := hts (.instanceMethod yX9_tells) (List.mem_cons_of_mem _ (List.mem_append_left _ (List.mem_of_getElem? (i := 12) rfl)))
  have hw_13 := hts (.selects RX9 yX9_tells yX9_tells) (List.mem_cons_of_mem _ (List.mem_append_left _ (List.mem_of_getElem? (i := 13) rfl)))
  have hw_14 := hts (.fieldLink RX9 29 "ControlWoodModel" "kind" "[C") (List.mem_cons_of_mem _ (List.mem_append_left _ (List.mem_of_getElem? (i := 14) rfl)))
  have hw_15 := hts (.methodLink RX9 124 yX9_step) (List.mem_cons_of_mem _ (List.mem_append_left _ (List.mem_of_getElem? (i := 15) rfl)))
  have hw_16 := hts (.instanceMethod yX9_step) (List.mem_cons_of_mem _ (List.mem_append_left _ (List.mem_of_getElem? (i := 16) rfl)))
  have hw_17 := hts (.selects RX9 yX9_step yX9_step) (List.mem_cons_of_mem _ (List.mem_append_left _ (List.mem_of_getElem? (i := 17) rfl)))
  have hw_18 := hts (.methodLink RX9 117 yX9_beside) (List.mem_cons_of_mem _ (List.mem_append_left _ (List.mem_of_getElem? (i := 18) rfl)))
  have hw_19 := hts (.instanceMethod yX9_beside) (List.mem_cons_of_mem _ (List.mem_append_left _ (List.mem_of_getElem? (i := 19) rfl)))
  have hw_20 := hts (.selects RX9 yX9_beside yX9_beside) (List.mem_cons_of_mem _ (List.mem_append_left _ (List.mem_of_getElem? (i := 20) rfl)))
  have hw_21 := hts (.methodLink RX9 120 yX9_canEnter) (List.mem_cons_of_mem _ (List.mem_append_left _ (List.mem_of_getElem? (i := 21) rfl)))
  have hw_22 := hts (.instanceMethod yX9_canEnter) (List.mem_cons_of_mem _ (List.mem_append_left _ (List.mem_of_getElem? (i := 22) rfl)))
  have hw_23 := hts (.selects RX9 yX9_canEnter yX9_canEnter) (List.mem_cons_of_mem _ (List.mem_append_left _ (List.mem_of_getElem? (i := 23) rfl)))
  have hb_0 : ∀ w ∈ us_c_isCell, w ∈ us_c_mmisled := fun w h => List.mem_cons_of_mem _ (List.mem_append_right _ (List.mem_append_left _ h))
  have hb_1 : ∀ w ∈ us_c_fails, w ∈ us_c_mmisled := fun w h => List.mem_cons_of_mem _ (List.mem_append_right _ (List.mem_append_right _ (List.mem_append_left _ h)))
  have hb_2 : ∀ w ∈ us_c_costsTo, w ∈ us_c_mmisled := fun w h => List.mem_cons_of_mem _ (List.mem_append_right _ (List.mem_append_right _ (List.mem_append_right _ (List.mem_append_left _ h))))
  have hb_3 : ∀ w ∈ us_c_tells, w ∈ us_c_mmisled := fun w h => List.mem_cons_of_mem _ (List.mem_append_right _ (List.mem_append_right _ (List.mem_append_right _ (List.mem_append_right _ (List.mem_append_left _ h)))))
  have hb_4 : ∀ w ∈ wsX90, w ∈ us_c_mmisled := fun w h => List.mem_cons_of_mem _ (List.mem_append_right _ (List.mem_append_right _ (List.mem_append_right _ (List.mem_append_right _ (List.mem_append_right _ (List.mem_append_left _ h))))))
  have hb_5 : ∀ w ∈ us_c_mstep, w ∈ us_c_mmisled := fun w h => List.mem_cons_of_mem _ (List.mem_append_right _ (List.mem_append_right _ (List.mem_append_right _ (List.mem_append_right _ (List.mem_append_right _ (List.mem_append_right _ (List.mem_append_left _ h)))))))
  have hb_6 : ∀ w ∈ us_c_beside, w ∈ us_c_mmisled := fun w h => List.mem_cons_of_mem _ (List.mem_append_right _ (List.mem_append_right _ (List.mem_append_right _ (List.mem_append_right _ (List.mem_append_right _ (List.mem_append_right _ (List.mem_append_right _ (List.mem_append_left _ h))))))))
  have hb_7 : ∀ w ∈ us_c_mcan, w ∈ us_c_mmisled := fun w h => List.mem_cons_of_mem _ (List.mem_append_right _ (List.mem_append_right _ (List.mem_append_right _ (List.mem_append_right _ (List.mem_append_right _ (List.mem_append_right _ (List.mem_append_right _ (List.mem_append_right _ (List.mem_append_left _ h)))))))))
  refine lv_aload_n hx hb dX9_misled_0 rfl (lv_at hl 0 rfl) ?_
  refine lv_iload_n hx hb dX9_misled_1 rfl (lv_at hl 1 rfl) ?_
  refine mc_i (wr := [(m2, .inl (cm2, 25, .inl (fun _ => 0))), (m3, .inl (cm3, 25, .inl (fun _ => 0))), (m4, .inl (cm4, 25, .inl fK5)), (m5, .inl (cm5, 25, .inl fK5))]) (va_runV (As := [.int p0]) (rest := []) ⟨hx, hb, hml, hown, hts⟩ (c_isCell l hst D mo th m1 m2 m3 m4 m5 l1 l2 l3 l4 cm1 p0 s.heap.size) (cwV 1 hts (gi_c (List.mem_cons_of_mem _ (List.mem_append_left _ (List.mem_of_getElem? (i := 0) rfl))) rfl (gi_c (List.mem_cons_of_mem _ (List.mem_append_left _ (List.mem_of_getElem? (i := 1) rfl))) rfl (gi_c (List.mem_cons_of_mem _ (List.mem_append_left _ (List.mem_of_getElem? (i := 2) rfl))) rfl (gi_c (List.mem_cons_of_mem _ (List.mem_append_left _ (List.mem_of_getElem? (i := 3) rfl))) rfl (goodIn_sub hb_0 (List.all_eq_true.mpr gw_c_isCell)))))) rfl rfl rfl (by decide +kernel) ⟨Nat.le_of_ble_eq_true rfl, Nat.le_of_ble_eq_true rfl⟩) (pr_V (As := [.int p0]) (b := mo) (C := RX9) hP hD hK hS hA hE [0, 1] [0] rfl rfl rfl 0 16 rfl rfl rfl) rfl rfl hl.1 rfl (lv_room (Nat.le_of_ble_eq_true rfl)) dX9_misled_2 ⟨Nat.le_of_ble_eq_true rfl, Nat.le_of_ble_eq_true rfl⟩) hP hD hK hS hA [0, 1] [2, 3, 4, 5] rfl rfl (by decide) (by decide) (fun r2 _ H locs w1 hP hD hK hS => ?_)
  have hP : va_P D vwCl [(m2, .inl (cm2, 25, .inl (fun _ => 0))), (m3, .inl (cm3, 25, .inl (fun _ => 0))), (m4, .inl (cm4, 25, .inl fK5)), (m5, .inl (cm5, 25, .inl fK5)), (mo, .inr (16, [.int 5, .int 5, .int th, .ref m1, .ref m2, .ref m3, .ref m4, .ref m5, .ref l1, .ref l2, .ref l3, .int (-1), .ref l4])), (m1, .inl (cm1, 25, .inl (fun _ => 0)))] H := hP
  have hD : va_D A [(m2, .inl (cm2, 25, .inl (fun _ => 0))), (m3, .inl (cm3, 25, .inl (fun _ => 0))), (m4, .inl (cm4, 25, .inl fK5)), (m5, .inl (cm5, 25, .inl fK5)), (mo, .inr (16, [.int 5, .int 5, .int th, .ref m1, .ref m2, .ref m3, .ref m4, .ref m5, .ref l1, .ref l2, .ref l3, .int (-1), .ref l4])), (m1, .inl (cm1, 25, .inl (fun _ => 0)))] := hD
  have hK : va_K D vwCl [(cm1, .int), (cm2, .int), (cm3, .int), (cm4, .char), (cm5, .char)] s := hK
  obtain rfl : r2 = (if inI p0 25 then 1 else 0) := w1
  refine lv_if_eq (tgt := 16) hx hb dX9_misled_5 (by decide) (fun h3 => ?_) (fun h3 => ?_)
  · refine lv_aload_n hx hb dX9_misled_16 rfl (lv_at hl 0 rfl) ?_
    refine lv_iconst (v := 1) hx hb dX9_misled_17 (by decide) ?_
    refine mc_i (wr := [(m2, .inl (cm2, 25, .inl (fun _ => 0))), (m3, .inl (cm3, 25, .inl (fun _ => 0))), (m4, .inl (cm4, 25, .inl fK5)), (m5, .inl (cm5, 25, .inl fK5)), (m1, .inl (cm1, 25, .inl (fun _ => 0)))]) (va_runV (As := [.int 1]) (rest := []) ⟨hx, hb, hml, hown, hts⟩ (c_fails l hst D mo 5 5 th m1 m2 m3 m4 m5 l1 l2 l3 (-1) l4 1 H.size) (cwV 1 hts (gi_c (List.mem_cons_of_mem _ (List.mem_append_left _ (List.mem_of_getElem? (i := 4) rfl))) rfl (gi_c (List.mem_cons_of_mem _ (List.mem_append_left _ (List.mem_of_getElem? (i := 5) rfl))) rfl (gi_c (List.mem_cons_of_mem _ (List.mem_append_left _ (List.mem_of_getElem? (i := 6) rfl))) rfl (gi_c (List.mem_cons_of_mem _ (List.mem_append_left _ (List.mem_of_getElem? (i := 3) rfl))) rfl (goodIn_sub hb_1 (List.all_eq_true.mpr gw_c_fails)))))) rfl rfl rfl (by decide +kernel) ⟨Nat.le_of_ble_eq_true rfl, Nat.le_of_ble_eq_true rfl⟩) (pr_V (As := [.int 1]) (b := mo) (C := RX9) hP hD hK hS hA hE [4] [] rfl rfl rfl 4 16 rfl rfl rfl) rfl rfl hl.1 rfl (lv_room (Nat.le_of_ble_eq_true rfl)) dX9_misled_18 ⟨Nat.le_of_ble_eq_true rfl, Nat.le_of_ble_eq_true rfl⟩) hP hD hK hS hA [4] [0, 1, 2, 3, 5] rfl rfl (by decide) (by decide) (fun r5 _ H locs w4 hP hD hK hS => ?_)
    have hP : va_P D vwCl [(m2, .inl (cm2, 25, .inl (fun _ => 0))), (m3, .inl (cm3, 25, .inl (fun _ => 0))), (m4, .inl (cm4, 25, .inl fK5)), (m5, .inl (cm5, 25, .inl fK5)), (m1, .inl (cm1, 25, .inl (fun _ => 0))), (mo, .inr (16, [.int 5, .int 5, .int 1, .ref m1, .ref m2, .ref m3, .ref m4, .ref m5, .ref l1, .ref l2, .ref l3, .int (-1), .ref l4]))] H := hP
    have hD : va_D A [(m2, .inl (cm2, 25, .inl (fun _ => 0))), (m3, .inl (cm3, 25, .inl (fun _ => 0))), (m4, .inl (cm4, 25, .inl fK5)), (m5, .inl (cm5, 25, .inl fK5)), (m1, .inl (cm1, 25, .inl (fun _ => 0))), (mo, .inr (16, [.int 5, .int 5, .int 1, .ref m1, .ref m2, .ref m3, .ref m4, .ref m5, .ref l1, .ref l2, .ref l3, .int (-1), .ref l4]))] := hD
    have hK : va_K D vwCl [(cm1, .int), (cm2, .int), (cm3, .int), (cm4, .char), (cm5, .char)] s := hK
    obtain rfl : r5 = 0 := w4
    exact mr_i hx hb hr (1, fun k9 => [m1, m2, m3, m4, m5, l1, l2, l3, l4].getD k9 0, fun k9 => [5, 5, -1].getD k9 0) (⟨(if_neg (ite01_0 h3)).symm, fun q9 => absurd ((if_neg (ite01_0 h3)).symm.trans q9) (by decide)⟩) (hP.sub [5] rfl) (hK.sub [] rfl) (hD.sub [5] (by decide) rfl) hS (Nat.le_of_ble_eq_true rfl) (Nat.le_of_ble_eq_true rfl) hlocks dX9_misled_21
  · refine lv_aload_n hx hb dX9_misled_8 rfl (lv_at hl 0 rfl) ?_
    refine lv_iload_n hx hb dX9_misled_9 rfl (lv_at hl 2 rfl) ?_
    refine mc_i (wr := [(m2, .inl (cm2, 25, .inl (fun _ => 0))), (m3, .inl (cm3, 25, .inl (fun _ => 0))), (m4, .inl (cm4, 25, .inl fK5)), (m5, .inl (cm5, 25, .inl fK5))]) (va_runV (As := [.int p1]) (rest := []) ⟨hx, hb, hml, hown, hts⟩ (c_isCell l hst D mo th m1 m2 m3 m4 m5 l1 l2 l3 l4 cm1 p1 H.size) (cwV 1 hts (gi_c (List.mem_cons_of_mem _ (List.mem_append_left _ (List.mem_of_getElem? (i := 0) rfl))) rfl (gi_c (List.mem_cons_of_mem _ (List.mem_append_left _ (List.mem_of_getElem? (i := 1) rfl))) rfl (gi_c (List.mem_cons_of_mem _ (List.mem_append_left _ (List.mem_of_getElem? (i := 2) rfl))) rfl (gi_c (List.mem_cons_of_mem _ (List.mem_append_left _ (List.mem_of_getElem? (i := 3) rfl))) rfl (goodIn_sub hb_0 (List.all_eq_true.mpr gw_c_isCell)))))) rfl rfl rfl (by decide +kernel) ⟨Nat.le_of_ble_eq_true rfl, Nat.le_of_ble_eq_true rfl⟩) (pr_V (As := [.int p1]) (b := mo) (C := RX9) hP hD hK hS hA hE [4, 5] [0] rfl rfl rfl 4 16 rfl rfl rfl) rfl rfl hl.1 rfl (lv_room (Nat.le_of_ble_eq_true rfl)) dX9_misled_10 ⟨Nat.le_of_ble_eq_true rfl, Nat.le_of_ble_eq_true rfl⟩) hP hD hK hS hA [4, 5] [0, 1, 2, 3] rfl rfl (by decide) (by decide) (fun r7 _ H locs w6 hP hD hK hS => ?_)
    have hP : va_P D vwCl [(m2, .inl (cm2, 25, .inl (fun _ => 0))), (m3, .inl (cm3, 25, .inl (fun _ => 0))), (m4, .inl (cm4, 25, .inl fK5)), (m5, .inl (cm5, 25, .inl fK5)), (mo, .inr (16, [.int 5, .int 5, .int th, .ref m1, .ref m2, .ref m3, .ref m4, .ref m5, .ref l1, .ref l2, .ref l3, .int (-1), .ref l4])), (m1, .inl (cm1, 25, .inl (fun _ => 0)))] H := hP
    have hD : va_D A [(m2, .inl (cm2, 25, .inl (fun _ => 0))), (m3, .inl (cm3, 25, .inl (fun _ => 0))), (m4, .inl (cm4, 25, .inl fK5)), (m5, .inl (cm5, 25, .inl fK5)), (mo, .inr (16, [.int 5, .int 5, .int th, .ref m1, .ref m2, .ref m3, .ref m4, .ref m5, .ref l1, .ref l2, .ref l3, .int (-1), .ref l4])), (m1, .inl (cm1, 25, .inl (fun _ => 0)))] := hD
    have hK : va_K D vwCl [(cm1, .int), (cm2, .int), (cm3, .int), (cm4, .char), (cm5, .char)] s := hK
    obtain rfl : r7 = (if inI p1 25 then 1 else 0) := w6
    refine lv_if_ne (tgt := 22) hx hb dX9_misled_13 (by decide) (fun h8 => ?_) (fun h8 => ?_)
    · obtain ⟨k0, hk0, rfl⟩ := inI_nI (ite01_1 h3)
      obtain ⟨k1, hk1, rfl⟩ := inI_nI (ite01_1 h8)
      have hd0 := dis_le k1 (by omega) k0 (by omega)
      refine lv_aload_n hx hb dX9_misled_22 rfl (lv_at hl 0 rfl) ?_
      refine lv_iload_n hx hb dX9_misled_23 rfl (lv_at hl 2 rfl) ?_
      refine lv_iconst (v := 1) hx hb dX9_misled_24 (by decide) ?_
      refine mc_q (wr := []) (va_runV (As := [.int (nI k1), .int 1]) (rest := []) ⟨hx, hb, hml, hown, hts⟩ (c_costsTo l hst D mo th m1 m2 m3 m4 m5 l1 l2 l3 l4 cm1 cm2 cm3 cm4 cm5 k1 1 H.size (by omega)) (cwV 2 hts (gi_c (List.mem_cons_of_mem _ (List.mem_append_left _ (List.mem_of_getElem? (i := 7) rfl))) rfl (gi_c (List.mem_cons_of_mem _ (List.mem_append_left _ (List.mem_of_getElem? (i := 8) rfl))) rfl (gi_c (List.mem_cons_of_mem _ (List.mem_append_left _ (List.mem_of_getElem? (i := 9) rfl))) rfl (gi_c (List.mem_cons_of_mem _ (List.mem_append_left _ (List.mem_of_getElem? (i := 3) rfl))) rfl (goodIn_sub hb_2 (List.all_eq_true.mpr gw_c_costsTo)))))) rfl rfl rfl (by decide +kernel) ⟨Nat.le_of_ble_eq_true rfl, Nat.le_of_ble_eq_true rfl⟩) (pr_V (As := [.int (nI k1), .int 1]) (b := mo) (C := RX9) hP hD hK hS hA hE [4, 5, 0, 1, 2, 3] [0, 1, 2, 3, 4] rfl rfl rfl 4 16 rfl rfl rfl) rfl rfl hl.1 rfl (lv_room (Nat.le_of_ble_eq_true rfl)) dX9_misled_25 ⟨Nat.le_of_ble_eq_true rfl, Nat.le_of_ble_eq_true rfl⟩) hP hD hK hS hA [4, 5, 0, 1, 2, 3] [] rfl rfl (by decide) (by decide) (fun r11 u9 H locs w10 hP hD hK hS => ?_)
      have hP : va_P D vwCl [(mo, .inr (16, [.int 5, .int 5, .int th, .ref m1, .ref m2, .ref m3, .ref m4, .ref m5, .ref l1, .ref l2, .ref l3, .int (-1), .ref l4])), (m1, .inl (cm1, 25, .inl (fun _ => 0))), (m2, .inl (cm2, 25, .inl (fun _ => 0))), (m3, .inl (cm3, 25, .inl (fun _ => 0))), (m4, .inl (cm4, 25, .inl fK5)), (m5, .inl (cm5, 25, .inl fK5)), (u9.1, .inl (u9.2, 25, .inl (fL (wayC k1))))] H := hP
      have hD : va_D A [(mo, .inr (16, [.int 5, .int 5, .int th, .ref m1, .ref m2, .ref m3, .ref m4, .ref m5, .ref l1, .ref l2, .ref l3, .int (-1), .ref l4])), (m1, .inl (cm1, 25, .inl (fun _ => 0))), (m2, .inl (cm2, 25, .inl (fun _ => 0))), (m3, .inl (cm3, 25, .inl (fun _ => 0))), (m4, .inl (cm4, 25, .inl fK5)), (m5, .inl (cm5, 25, .inl fK5)), (u9.1, .inl (u9.2, 25, .inl (fL (wayC k1))))] := hD
      have hK : va_K D vwCl [(cm1, .int), (cm2, .int), (cm3, .int), (cm4, .char), (cm5, .char), (u9.2, .int)] s := hK
      obtain rfl := w10
      refine lv_astore_n (lv' := [(3, .ref u9.1), (0, .ref mo), (1, .int (nI k0)), (2, .int (nI k1))]) hx hb dX9_misled_28 rfl hl (by decide) rfl (fun ls hl => ?_)
      refine lv_aload_n hx hb dX9_misled_29 rfl (lv_at hl 0 rfl) ?_
      refine lv_iload_n hx hb dX9_misled_30 rfl (lv_at hl 2 rfl) ?_
      refine va_iald hx hb hK hP 6 5 rfl rfl (vp_in_nI (n := k0) (by omega) (by decide)) dX9_misled_31 ?_
      refine lv_topi (fun x12 e12 => ?_)
      obtain rfl : x12 = nI (dis k1 k0) := e12.trans ((fL_at (by omega)).trans (by rw [wayC_at k1 k0 (by omega)]))
      refine lv_ldc hx hb hown hw_10 dX9_misled_32 ?_
      refine lv_icmp_ne (tgt := 43) hx hb dX9_misled_34 (by decide) (fun h13 => ?_) (fun h13 => absurd h13 (by exact fun q9 => absurd ((nI_eq (a := dis k1 k0) (b := 1000000000) (by omega) (by omega)).mp q9) (by omega)))
      refine lv_iconst (v := 0) hx hb dX9_misled_43 (by decide) ?_
      refine lv_istore (lv' := [(4, .int 0), (3, .ref u9.1), (0, .ref mo), (1, .int (nI k0)), (2, .int (nI k1))]) hx hb dX9_misled_44 hl (by decide) rfl (fun ls hl => ?_)
      refine lv_iload_n hx hb dX9_misled_46 rfl (lv_at hl 3 rfl) ?_
      refine lv_istore (lv' := [(5, .int (nI k0)), (4, .int 0), (3, .ref u9.1), (0, .ref mo), (1, .int (nI k0)), (2, .int (nI k1))]) hx hb dX9_misled_47 hl (by decide) rfl (fun ls hl => ?_)
      obtain ⟨okw1, okw2⟩ := okC_way k1 (by omega)
      have l1 : ∀ (fu : Nat) (ce : Nat) (su : Nat) (H : Heap) (locs : List Loc) (ls : Array Slot), (ce ≤ 24) → (su + 10 * fu ≤ 100) → (mmM fu (wayC k1) ce k1 su = dis k1 k0) → (mmOK fu (wayC k1) ce k1 = true) → lv_has ls 10 [(5, .int (nI ce)), (4, .int (nI su)), (0, .ref mo), (1, .int (nI k0)), (2, .int (nI k1)), (3, .ref u9.1)] → va_P D vwCl [(mo, .inr (16, [.int 5, .int 5, .int th, .ref m1, .ref m2, .ref m3, .ref m4, .ref m5, .ref l1, .ref l2, .ref l3, .int (-1), .ref l4])), (m1, .inl (cm1, 25, .inl (fun _ => 0))), (m2, .inl (cm2, 25, .inl (fun _ => 0))), (m3, .inl (cm3, 25, .inl (fun _ => 0))), (m4, .inl (cm4, 25, .inl fK5)), (m5, .inl (cm5, 25, .inl fK5)), (u9.1, .inl (u9.2, 25, .inl (fL (wayC k1))))] H → va_D A [(mo, .inr (16, [.int 5, .int 5, .int th, .ref m1, .ref m2, .ref m3, .ref m4, .ref m5, .ref l1, .ref l2, .ref l3, .int (-1), .ref l4])), (m1, .inl (cm1, 25, .inl (fun _ => 0))), (m2, .inl (cm2, 25, .inl (fun _ => 0))), (m3, .inl (cm3, 25, .inl (fun _ => 0))), (m4, .inl (cm4, 25, .inl fK5)), (m5, .inl (cm5, 25, .inl fK5)), (u9.1, .inl (u9.2, 25, .inl (fL (wayC k1))))] → va_S A s.heap H locs → W p l e { frames := 4, cells := 1, slots := 25, locals := 97 } s m args below meth c H locs 1 25 (MQ below (va_Qi (fun (r : Int32) (u : (Int32 × (Nat → Nat) × (Nat → Int32))) => u.1 = kf_misled (nI k0) (nI k1) ∧ (kf_misled (nI k0) (nI k1) = 0 → r = rf_misled (nI k0) (nI k1))) (qb D A (fun u : (Int32 × (Nat → Nat) × (Nat → Int32)) => [(mo, .inr (16, [.int (u.2.2 0), .int (u.2.2 1), .int u.1, .ref (u.2.1 0), .ref (u.2.1 1), .ref (u.2.1 2), .ref (u.2.1 3), .ref (u.2.1 4), .ref (u.2.1 5), .ref (u.2.1 6), .ref (u.2.1 7), .int (u.2.2 2), .ref (u.2.1 8)]))]) (fun u : (Int32 × (Nat → Nat) × (Nat → Int32)) => ([] : List (ClassId × FieldType)))) A) args s 1 25 A) (F0 m 49 ls []) := by
        intro fu
        induction fu with
        | zero =>
          intro ce su H locs ls hc hs hM hO hl hP hD hS
          have hc : ce ≤ 24 := hc
          have hs : su + 10 * 0 ≤ 100 := hs
          have hM : mmM 0 (wayC k1) ce k1 su = dis k1 k0 := hM
          have hO : mmOK 0 (wayC k1) ce k1 = true := hO
          refine lv_iload hx hb dX9_misled_49 (lv_at hl 0 rfl) ?_
          refine lv_iload_n hx hb dX9_misled_51 rfl (lv_at hl 4 rfl) ?_
          refine lv_icmp_eq (tgt := 195) hx hb dX9_misled_52 (by decide) (fun h14 => ?_) (fun h14 => absurd (by exact (nI_eq (by omega) (by omega)).mpr (of_decide_eq_true hO)) h14)
          refine lv_aload_n hx hb dX9_misled_195 rfl (lv_at hl 2 rfl) ?_
          refine lv_iload hx hb dX9_misled_196 (lv_at hl 1 rfl) ?_
          refine mc_i (wr := [(m1, .inl (cm1, 25, .inl (fun _ => 0))), (m2, .inl (cm2, 25, .inl (fun _ => 0))), (m3, .inl (cm3, 25, .inl (fun _ => 0))), (m4, .inl (cm4, 25, .inl fK5)), (m5, .inl (cm5, 25, .inl fK5)), (u9.1, .inl (u9.2, 25, .inl (fL (wayC k1))))]) (va_runV (As := [.int (nI su)]) (rest := []) ⟨hx, hb, hml, hown, hts⟩ (c_tells l hst D mo 5 5 th m1 m2 m3 m4 m5 l1 l2 l3 (-1) l4 (nI su) H.size) (cwV 1 hts (gi_c (List.mem_cons_of_mem _ (List.mem_append_left _ (List.mem_of_getElem? (i := 11) rfl))) rfl (gi_c (List.mem_cons_of_mem _ (List.mem_append_left _ (List.mem_of_getElem? (i := 12) rfl))) rfl (gi_c (List.mem_cons_of_mem _ (List.mem_append_left _ (List.mem_of_getElem? (i := 13) rfl))) rfl (gi_c (List.mem_cons_of_mem _ (List.mem_append_left _ (List.mem_of_getElem? (i := 3) rfl))) rfl (goodIn_sub hb_3 (List.all_eq_true.mpr gw_c_tells)))))) rfl rfl rfl (by decide +kernel) ⟨Nat.le_of_ble_eq_true rfl, Nat.le_of_ble_eq_true rfl⟩) (pr_V (As := [.int (nI su)]) (b := mo) (C := RX9) hP hD hK hS hA hE [0] [] rfl rfl rfl 0 16 rfl rfl rfl) rfl rfl hl.1 rfl (lv_room (Nat.le_of_ble_eq_true rfl)) dX9_misled_198 ⟨Nat.le_of_ble_eq_true rfl, Nat.le_of_ble_eq_true rfl⟩) hP hD hK hS hA [0] [1, 2, 3, 4, 5, 6] rfl rfl (by decide) (by decide) (fun r16 _ H locs w15 hP hD hK hS => ?_)
          have hP : va_P D vwCl [(m1, .inl (cm1, 25, .inl (fun _ => 0))), (m2, .inl (cm2, 25, .inl (fun _ => 0))), (m3, .inl (cm3, 25, .inl (fun _ => 0))), (m4, .inl (cm4, 25, .inl fK5)), (m5, .inl (cm5, 25, .inl fK5)), (u9.1, .inl (u9.2, 25, .inl (fL (wayC k1)))), (mo, .inr (16, [.int 5, .int 5, .int 0, .ref m1, .ref m2, .ref m3, .ref m4, .ref m5, .ref l1, .ref l2, .ref l3, .int (-1), .ref l4]))] H := hP
          have hD : va_D A [(m1, .inl (cm1, 25, .inl (fun _ => 0))), (m2, .inl (cm2, 25, .inl (fun _ => 0))), (m3, .inl (cm3, 25, .inl (fun _ => 0))), (m4, .inl (cm4, 25, .inl fK5)), (m5, .inl (cm5, 25, .inl fK5)), (u9.1, .inl (u9.2, 25, .inl (fL (wayC k1)))), (mo, .inr (16, [.int 5, .int 5, .int 0, .ref m1, .ref m2, .ref m3, .ref m4, .ref m5, .ref l1, .ref l2, .ref l3, .int (-1), .ref l4]))] := hD
          have hK : va_K D vwCl [(cm1, .int), (cm2, .int), (cm3, .int), (cm4, .char), (cm5, .char), (u9.2, .int)] s := hK
          obtain rfl : r16 = (nI su) := w15
          exact mr_i hx hb hr (0, fun k9 => [m1, m2, m3, m4, m5, l1, l2, l3, l4].getD k9 0, fun k9 => [5, 5, -1].getD k9 0) (⟨((if_pos (ite01_1 h3)).trans (if_pos (ite01_1 h8))).symm, fun _ => by show nI su = nI (dis (nI k1).toNatClampNeg (nI k0).toNatClampNeg); rw [nI_clamp (by omega), nI_clamp (by omega), ← hM, mm_eq (of_decide_eq_true hO)]⟩) (hP.sub [6] rfl) (hK.sub [] rfl) (hD.sub [6] (by decide) rfl) hS (Nat.le_of_ble_eq_true rfl) (Nat.le_of_ble_eq_true rfl) hlocks dX9_misled_201
        | succ fu ih =>
          intro ce su H locs ls hc hs hM hO hl hP hD hS
          have hc : ce ≤ 24 := hc
          have hs : su + 10 * (fu + 1) ≤ 100 := hs
          have hM : mmM (fu + 1) (wayC k1) ce k1 su = dis k1 k0 := hM
          have hO : mmOK (fu + 1) (wayC k1) ce k1 = true := hO
          refine lv_iload hx hb dX9_misled_49 (lv_at hl 0 rfl) ?_
          refine lv_iload_n hx hb dX9_misled_51 rfl (lv_at hl 4 rfl) ?_
          refine lv_icmp_eq (tgt := 195) hx hb dX9_misled_52 (by decide) (fun h17 => ?_) (fun h17 => ?_)
          · have n17 : ce = k1 := (nI_eq (a := ce) (b := k1) (by omega) (by omega)).mp h17
            refine lv_aload_n hx hb dX9_misled_195 rfl (lv_at hl 2 rfl) ?_
            refine lv_iload hx hb dX9_misled_196 (lv_at hl 1 rfl) ?_
            refine mc_i (wr := [(m1, .inl (cm1, 25, .inl (fun _ => 0))), (m2, .inl (cm2, 25, .inl (fun _ => 0))), (m3, .inl (cm3, 25, .inl (fun _ => 0))), (m4, .inl (cm4, 25, .inl fK5)), (m5, .inl (cm5, 25, .inl fK5)), (u9.1, .inl (u9.2, 25, .inl (fL (wayC k1))))]) (va_runV (As := [.int (nI su)]) (rest := []) ⟨hx, hb, hml, hown, hts⟩ (c_tells l hst D mo 5 5 th m1 m2 m3 m4 m5 l1 l2 l3 (-1) l4 (nI su) H.size) (cwV 1 hts (gi_c (List.mem_cons_of_mem _ (List.mem_append_left _ (List.mem_of_getElem? (i := 11) rfl))) rfl (gi_c (List.mem_cons_of_mem _ (List.mem_append_left _ (List.mem_of_getElem? (i := 12) rfl))) rfl (gi_c (List.mem_cons_of_mem _ (List.mem_append_left _ (List.mem_of_getElem? (i := 13) rfl))) rfl (gi_c (List.mem_cons_of_mem _ (List.mem_append_left _ (List.mem_of_getElem? (i := 3) rfl))) rfl (goodIn_sub hb_3 (List.all_eq_true.mpr gw_c_tells)))))) rfl rfl rfl (by decide +kernel) ⟨Nat.le_of_ble_eq_true rfl, Nat.le_of_ble_eq_true rfl⟩) (pr_V (As := [.int (nI su)]) (b := mo) (C := RX9) hP hD hK hS hA hE [0] [] rfl rfl rfl 0 16 rfl rfl rfl) rfl rfl hl.1 rfl (lv_room (Nat.le_of_ble_eq_true rfl)) dX9_misled_198 ⟨Nat.le_of_ble_eq_true rfl, Nat.le_of_ble_eq_true rfl⟩) hP hD hK hS hA [0] [1, 2, 3, 4, 5, 6] rfl rfl (by decide) (by decide) (fun r19 _ H locs w18 hP hD hK hS => ?_)
            have hP : va_P D vwCl [(m1, .inl (cm1, 25, .inl (fun _ => 0))), (m2, .inl (cm2, 25, .inl (fun _ => 0))), (m3, .inl (cm3, 25, .inl (fun _ => 0))), (m4, .inl (cm4, 25, .inl fK5)), (m5, .inl (cm5, 25, .inl fK5)), (u9.1, .inl (u9.2, 25, .inl (fL (wayC k1)))), (mo, .inr (16, [.int 5, .int 5, .int 0, .ref m1, .ref m2, .ref m3, .ref m4, .ref m5, .ref l1, .ref l2, .ref l3, .int (-1), .ref l4]))] H := hP
            have hD : va_D A [(m1, .inl (cm1, 25, .inl (fun _ => 0))), (m2, .inl (cm2, 25, .inl (fun _ => 0))), (m3, .inl (cm3, 25, .inl (fun _ => 0))), (m4, .inl (cm4, 25, .inl fK5)), (m5, .inl (cm5, 25, .inl fK5)), (u9.1, .inl (u9.2, 25, .inl (fL (wayC k1)))), (mo, .inr (16, [.int 5, .int 5, .int 0, .ref m1, .ref m2, .ref m3, .ref m4, .ref m5, .ref l1, .ref l2, .ref l3, .int (-1), .ref l4]))] := hD
            have hK : va_K D vwCl [(cm1, .int), (cm2, .int), (cm3, .int), (cm4, .char), (cm5, .char), (u9.2, .int)] s := hK
            obtain rfl : r19 = (nI su) := w18
            exact mr_i hx hb hr (0, fun k9 => [m1, m2, m3, m4, m5, l1, l2, l3, l4].getD k9 0, fun k9 => [5, 5, -1].getD k9 0) (⟨((if_pos (ite01_1 h3)).trans (if_pos (ite01_1 h8))).symm, fun _ => by show nI su = nI (dis (nI k1).toNatClampNeg (nI k0).toNatClampNeg); rw [nI_clamp (by omega), nI_clamp (by omega), ← hM, mm_eq n17]⟩) (hP.sub [6] rfl) (hK.sub [] rfl) (hD.sub [6] (by decide) rfl) hS (Nat.le_of_ble_eq_true rfl) (Nat.le_of_ble_eq_true rfl) hlocks dX9_misled_201
          · have n17 : ¬ (ce = k1) := fun q9 => h17 ((nI_eq (a := ce) (b := k1) (by omega) (by omega)).mpr q9)
            refine lv_iconst (v := -1) hx hb dX9_misled_55 (by decide) ?_
            refine lv_istore (lv' := [(6, .int (-1)), (5, .int (nI ce)), (4, .int (nI su)), (0, .ref mo), (1, .int (nI k0)), (2, .int (nI k1)), (3, .ref u9.1)]) hx hb dX9_misled_56 hl (by decide) rfl (fun ls hl => ?_)
            refine lv_iconst (v := 0) hx hb dX9_misled_58 (by decide) ?_
            refine lv_istore (lv' := [(7, .int 0), (6, .int (-1)), (5, .int (nI ce)), (4, .int (nI su)), (0, .ref mo), (1, .int (nI k0)), (2, .int (nI k1)), (3, .ref u9.1)]) hx hb dX9_misled_59 hl (by decide) rfl (fun ls hl => ?_)
            have l2 : ∀ (f2 : Nat) (j : Nat) (H : Heap) (locs : List Loc) (ls : Array Slot), (j + f2 = 4) → lv_has ls 10 [(7, .int (nI j)), (6, .int (optI (nxG j (wayC k1) ce))), (5, .int (nI ce)), (4, .int (nI su)), (0, .ref mo), (1, .int (nI k0)), (2, .int (nI k1)), (3, .ref u9.1)] → va_P D vwCl [(mo, .inr (16, [.int 5, .int 5, .int th, .ref m1, .ref m2, .ref m3, .ref m4, .ref m5, .ref l1, .ref l2, .ref l3, .int (-1), .ref l4])), (m1, .inl (cm1, 25, .inl (fun _ => 0))), (m2, .inl (cm2, 25, .inl (fun _ => 0))), (m3, .inl (cm3, 25, .inl (fun _ => 0))), (m4, .inl (cm4, 25, .inl fK5)), (m5, .inl (cm5, 25, .inl fK5)), (u9.1, .inl (u9.2, 25, .inl (fL (wayC k1))))] H → va_D A [(mo, .inr (16, [.int 5, .int 5, .int th, .ref m1, .ref m2, .ref m3, .ref m4, .ref m5, .ref l1, .ref l2, .ref l3, .int (-1), .ref l4])), (m1, .inl (cm1, 25, .inl (fun _ => 0))), (m2, .inl (cm2, 25, .inl (fun _ => 0))), (m3, .inl (cm3, 25, .inl (fun _ => 0))), (m4, .inl (cm4, 25, .inl fK5)), (m5, .inl (cm5, 25, .inl fK5)), (u9.1, .inl (u9.2, 25, .inl (fL (wayC k1))))] → va_S A s.heap H locs → W p l e { frames := 4, cells := 1, slots := 25, locals := 97 } s m args below meth c H locs 1 25 (MQ below (va_Qi (fun (r : Int32) (u : (Int32 × (Nat → Nat) × (Nat → Int32))) => u.1 = kf_misled (nI k0) (nI k1) ∧ (kf_misled (nI k0) (nI k1) = 0 → r = rf_misled (nI k0) (nI k1))) (qb D A (fun u : (Int32 × (Nat → Nat) × (Nat → Int32)) => [(mo, .inr (16, [.int (u.2.2 0), .int (u.2.2 1), .int u.1, .ref (u.2.1 0), .ref (u.2.1 1), .ref (u.2.1 2), .ref (u.2.1 3), .ref (u.2.1 4), .ref (u.2.1 5), .ref (u.2.1 6), .ref (u.2.1 7), .int (u.2.2 2), .ref (u.2.1 8)]))]) (fun u : (Int32 × (Nat → Nat) × (Nat → Int32)) => ([] : List (ClassId × FieldType)))) A) args s 1 25 A) (F0 m 61 ls []) := by
              intro f2
              induction f2 with
              | zero =>
                intro j H locs ls hj hl hP hD hS
                have hj : j + 0 = 4 := hj
                refine lv_iload hx hb dX9_misled_61 (lv_at hl 0 rfl) ?_
                refine lv_iconst (v := 4) hx hb dX9_misled_63 (by decide) ?_
                refine lv_icmp_ge (tgt := 156) hx hb dX9_misled_64 (by decide) (fun h20 => ?_) (fun h20 => absurd (by exact (nI_leI (a := 4) (b := j) (by omega) (by omega)).mpr (by omega)) h20)
                obtain ⟨nx, hgx, hO2⟩ := mmOK_go n17 hO
                obtain rfl : j = 4 := by omega
                have hnx : nx ≤ 24 := nxG_le hc hgx
                rw [hgx] at hl
                have hl : lv_has ls 10 [(7, .int (nI 4)), (6, .int (nI nx)), (5, .int (nI ce)), (4, .int (nI su)), (0, .ref mo), (1, .int (nI k0)), (2, .int (nI k1)), (3, .ref u9.1)] := hl
                refine lv_aload_n hx hb dX9_misled_156 rfl (lv_at hl 4 rfl) ?_
                refine va_get (D := D) (ci := 16) (v := .ref m4) (C := RX9) (T := TX9) (N := 13) hx hb hts hb_4 hown hK hP 0 rfl rfl 6 (by decide) hw_14 (fun _ h9 => h9) rfl dX9_misled_157 ?_
                refine lv_iload hx hb dX9_misled_160 (lv_at hl 1 rfl) ?_
                refine va_cald hx hb hK hP 4 3 rfl rfl (vp_in_nI (n := nx) (by omega) (by decide)) dX9_misled_162 ?_
                refine lv_topi (fun x21 e21 => ?_)
                obtain rfl : x21 = 46 := e21.trans (fK5_at (by omega))
                refine lv_bipush (v := 119) hx hb dX9_misled_163 (by decide) ?_
                refine lv_icmp_ne (tgt := 174) hx hb dX9_misled_165 (by decide) (fun h22 => ?_) (fun h22 => absurd h22 (by decide))
                refine lv_iload hx hb dX9_misled_174 (lv_at hl 3 rfl) ?_
                refine lv_aload_n hx hb dX9_misled_176 rfl (lv_at hl 4 rfl) ?_
                refine lv_iload hx hb dX9_misled_177 (lv_at hl 2 rfl) ?_
                refine lv_iload hx hb dX9_misled_179 (lv_at hl 1 rfl) ?_
                refine lv_iconst (v := 0) hx hb dX9_misled_181 (by decide) ?_
                refine mc_i (wr := [(m4, .inl (cm4, 25, .inl fK5)), (m5, .inl (cm5, 25, .inl fK5)), (u9.1, .inl (u9.2, 25, .inl (fL (wayC k1))))]) (va_runV (As := [.int (nI ce), .int (nI nx), .int 0]) (rest := [.int (nI su)]) ⟨hx, hb, hml, hown, hts⟩ (c_mstep l hst D mo th m1 m2 m3 m4 m5 l1 l2 l3 l4 cm1 cm2 cm3 ce nx 0 H.size (by omega) (by omega)) (cwV 3 hts (gi_c (List.mem_cons_of_mem _ (List.mem_append_left _ (List.mem_of_getElem? (i := 15) rfl))) rfl (gi_c (List.mem_cons_of_mem _ (List.mem_append_left _ (List.mem_of_getElem? (i := 16) rfl))) rfl (gi_c (List.mem_cons_of_mem _ (List.mem_append_left _ (List.mem_of_getElem? (i := 17) rfl))) rfl (gi_c (List.mem_cons_of_mem _ (List.mem_append_left _ (List.mem_of_getElem? (i := 3) rfl))) rfl (goodIn_sub hb_5 (List.all_eq_true.mpr gw_c_mstep)))))) rfl rfl rfl (by decide +kernel) ⟨Nat.le_of_ble_eq_true rfl, Nat.le_of_ble_eq_true rfl⟩) (pr_V (As := [.int (nI ce), .int (nI nx), .int 0]) (b := mo) (C := RX9) hP hD hK hS hA hE [0, 1, 2, 3] [0, 1, 2] rfl rfl rfl 0 16 rfl rfl rfl) rfl rfl hl.1 rfl (lv_room (Nat.le_of_ble_eq_true rfl)) dX9_misled_182 ⟨Nat.le_of_ble_eq_true rfl, Nat.le_of_ble_eq_true rfl⟩) hP hD hK hS hA [0, 1, 2, 3] [4, 5, 6] rfl rfl (by decide) (by decide) (fun r24 _ H locs w23 hP hD hK hS => ?_)
                have hP : va_P D vwCl [(m4, .inl (cm4, 25, .inl fK5)), (m5, .inl (cm5, 25, .inl fK5)), (u9.1, .inl (u9.2, 25, .inl (fL (wayC k1)))), (mo, .inr (16, [.int 5, .int 5, .int th, .ref m1, .ref m2, .ref m3, .ref m4, .ref m5, .ref l1, .ref l2, .ref l3, .int (-1), .ref l4])), (m1, .inl (cm1, 25, .inl (fun _ => 0))), (m2, .inl (cm2, 25, .inl (fun _ => 0))), (m3, .inl (cm3, 25, .inl (fun _ => 0)))] H := hP
                have hD : va_D A [(m4, .inl (cm4, 25, .inl fK5)), (m5, .inl (cm5, 25, .inl fK5)), (u9.1, .inl (u9.2, 25, .inl (fL (wayC k1)))), (mo, .inr (16, [.int 5, .int 5, .int th, .ref m1, .ref m2, .ref m3, .ref m4, .ref m5, .ref l1, .ref l2, .ref l3, .int (-1), .ref l4])), (m1, .inl (cm1, 25, .inl (fun _ => 0))), (m2, .inl (cm2, 25, .inl (fun _ => 0))), (m3, .inl (cm3, 25, .inl (fun _ => 0)))] := hD
                have hK : va_K D vwCl [(cm1, .int), (cm2, .int), (cm3, .int), (cm4, .char), (cm5, .char), (u9.2, .int)] s := hK
                obtain rfl : r24 = 10 := w23
                refine lv_iadd hx hb dX9_misled_185 ?_
                refine lv_topi (fun x25 e25 => ?_)
                obtain rfl : x25 = nI (su + 10) := e25.trans (nI_add su 10)
                refine lv_istore (lv' := [(4, .int (nI (su + 10))), (7, .int (nI 4)), (6, .int (nI nx)), (5, .int (nI ce)), (0, .ref mo), (1, .int (nI k0)), (2, .int (nI k1)), (3, .ref u9.1)]) hx hb dX9_misled_186 hl (by decide) rfl (fun ls hl => ?_)
                refine lv_iload hx hb dX9_misled_188 (lv_at hl 2 rfl) ?_
                refine lv_istore (lv' := [(5, .int (nI nx)), (4, .int (nI (su + 10))), (7, .int (nI 4)), (6, .int (nI nx)), (0, .ref mo), (1, .int (nI k0)), (2, .int (nI k1)), (3, .ref u9.1)]) hx hb dX9_misled_190 hl (by decide) rfl (fun ls hl => ?_)
                refine lv_goto (tgt := 49) hx hb dX9_misled_192 (by decide) ?_
                exact ih  nx (su + 10) _ _ _ (by omega) (by omega) ((mm_go n17 hgx).symm.trans hM) hO2 (lv_sub hl [0, 1, 4, 5, 6, 7] rfl) (hP.sub [3, 4, 5, 6, 0, 1, 2] rfl) (hD.sub [3, 4, 5, 6, 0, 1, 2] (by decide) rfl) hS
              | succ f2 ih2 =>
                intro j H locs ls hj hl hP hD hS
                have hj : j + (f2 + 1) = 4 := hj
                refine lv_iload hx hb dX9_misled_61 (lv_at hl 0 rfl) ?_
                refine lv_iconst (v := 4) hx hb dX9_misled_63 (by decide) ?_
                refine lv_icmp_ge (tgt := 156) hx hb dX9_misled_64 (by decide) (fun h26 => absurd h26 (by exact fun q9 => absurd ((nI_leI (a := 4) (b := j) (by omega) (by omega)).mp q9) (by omega))) (fun h26 => ?_)
                refine lv_aload_n hx hb dX9_misled_67 rfl (lv_at hl 4 rfl) ?_
                refine lv_iload hx hb dX9_misled_68 (lv_at hl 2 rfl) ?_
                refine lv_iload hx hb dX9_misled_70 (lv_at hl 0 rfl) ?_
                refine mc_i (wr := [(m2, .inl (cm2, 25, .inl (fun _ => 0))), (m3, .inl (cm3, 25, .inl (fun _ => 0))), (m4, .inl (cm4, 25, .inl fK5)), (m5, .inl (cm5, 25, .inl fK5)), (u9.1, .inl (u9.2, 25, .inl (fL (wayC k1))))]) (va_runV (As := [.int (nI ce), .int (nI j)]) (rest := []) ⟨hx, hb, hml, hown, hts⟩ (c_beside l hst D mo th m1 m2 m3 m4 m5 l1 l2 l3 l4 cm1 ce j H.size (by omega) (by omega)) (cwV 2 hts (gi_c (List.mem_cons_of_mem _ (List.mem_append_left _ (List.mem_of_getElem? (i := 18) rfl))) rfl (gi_c (List.mem_cons_of_mem _ (List.mem_append_left _ (List.mem_of_getElem? (i := 19) rfl))) rfl (gi_c (List.mem_cons_of_mem _ (List.mem_append_left _ (List.mem_of_getElem? (i := 20) rfl))) rfl (gi_c (List.mem_cons_of_mem _ (List.mem_append_left _ (List.mem_of_getElem? (i := 3) rfl))) rfl (goodIn_sub hb_6 (List.all_eq_true.mpr gw_c_beside)))))) rfl rfl rfl (by decide +kernel) ⟨Nat.le_of_ble_eq_true rfl, Nat.le_of_ble_eq_true rfl⟩) (pr_V (As := [.int (nI ce), .int (nI j)]) (b := mo) (C := RX9) hP hD hK hS hA hE [0, 1] [0] rfl rfl rfl 0 16 rfl rfl rfl) rfl rfl hl.1 rfl (lv_room (Nat.le_of_ble_eq_true rfl)) dX9_misled_72 ⟨Nat.le_of_ble_eq_true rfl, Nat.le_of_ble_eq_true rfl⟩) hP hD hK hS hA [0, 1] [2, 3, 4, 5, 6] rfl rfl (by decide) (by decide) (fun r28 _ H locs w27 hP hD hK hS => ?_)
                have hP : va_P D vwCl [(m2, .inl (cm2, 25, .inl (fun _ => 0))), (m3, .inl (cm3, 25, .inl (fun _ => 0))), (m4, .inl (cm4, 25, .inl fK5)), (m5, .inl (cm5, 25, .inl fK5)), (u9.1, .inl (u9.2, 25, .inl (fL (wayC k1)))), (mo, .inr (16, [.int 5, .int 5, .int th, .ref m1, .ref m2, .ref m3, .ref m4, .ref m5, .ref l1, .ref l2, .ref l3, .int (-1), .ref l4])), (m1, .inl (cm1, 25, .inl (fun _ => 0)))] H := hP
                have hD : va_D A [(m2, .inl (cm2, 25, .inl (fun _ => 0))), (m3, .inl (cm3, 25, .inl (fun _ => 0))), (m4, .inl (cm4, 25, .inl fK5)), (m5, .inl (cm5, 25, .inl fK5)), (u9.1, .inl (u9.2, 25, .inl (fL (wayC k1)))), (mo, .inr (16, [.int 5, .int 5, .int th, .ref m1, .ref m2, .ref m3, .ref m4, .ref m5, .ref l1, .ref l2, .ref l3, .int (-1), .ref l4])), (m1, .inl (cm1, 25, .inl (fun _ => 0)))] := hD
                have hK : va_K D vwCl [(cm1, .int), (cm2, .int), (cm3, .int), (cm4, .char), (cm5, .char), (u9.2, .int)] s := hK
                obtain rfl : r28 = (optI (beM ce j)) := w27
                rcases hg : nxG j (wayC k1) ce with _ | gg
                · rw [hg] at hl
                  have hl : lv_has ls 10 [(7, .int (nI j)), (6, .int (-1)), (5, .int (nI ce)), (4, .int (nI su)), (0, .ref mo), (1, .int (nI k0)), (2, .int (nI k1)), (3, .ref u9.1)] := hl
                  rcases hbm : beM ce j with _ | nx
                  · refine W.eq (g2 := F0 m 75 ls [.int (-1)]) rfl ?_
                    refine lv_istore (lv' := [(8, .int (-1)), (7, .int (nI j)), (6, .int (-1)), (5, .int (nI ce)), (4, .int (nI su)), (0, .ref mo), (1, .int (nI k0)), (2, .int (nI k1)), (3, .ref u9.1)]) hx hb dX9_misled_75 hl (by decide) rfl (fun ls hl => ?_)
                    refine lv_iload hx hb dX9_misled_77 (lv_at hl 2 rfl) ?_
                    refine lv_iconst (v := -1) hx hb dX9_misled_79 (by decide) ?_
                    refine lv_icmp_ne (tgt := 112) hx hb dX9_misled_80 (by decide) (fun h29 => absurd (by decide) h29) (fun h29 => ?_)
                    refine lv_iload hx hb dX9_misled_83 (lv_at hl 0 rfl) ?_
                    refine lv_iconst (v := -1) hx hb dX9_misled_85 (by decide) ?_
                    refine lv_icmp_eq (tgt := 112) hx hb dX9_misled_86 (by decide) (fun h30 => ?_) (fun h30 => absurd (by rfl) h30)
                    refine lv_iconst (v := 0) hx hb dX9_misled_112 (by decide) ?_
                    refine lv_istore (lv' := [(9, .int 0), (8, .int (-1)), (7, .int (nI j)), (6, .int (-1)), (5, .int (nI ce)), (4, .int (nI su)), (0, .ref mo), (1, .int (nI k0)), (2, .int (nI k1)), (3, .ref u9.1)]) hx hb dX9_misled_113 hl (by decide) rfl (fun ls hl => ?_)
                    refine lv_iload hx hb dX9_misled_115 (lv_at hl 0 rfl) ?_
                    refine lv_if_eq (tgt := 146) hx hb dX9_misled_117 (by decide) (fun h31 => ?_) (fun h31 => absurd (by decide) h31)
                    refine lv_iload hx hb dX9_misled_146 (lv_at hl 3 rfl) ?_
                    refine lv_istore (lv' := [(6, .int (-1)), (9, .int 0), (8, .int (-1)), (7, .int (nI j)), (5, .int (nI ce)), (4, .int (nI su)), (0, .ref mo), (1, .int (nI k0)), (2, .int (nI k1)), (3, .ref u9.1)]) hx hb dX9_misled_148 hl (by decide) rfl (fun ls hl => ?_)
                    obtain ⟨x32, e32⟩ : ∃ z : Int32, z = nI j + 1 := ⟨_, rfl⟩
                    refine lv_iinc (v := x32) (lv' := [(7, .int x32), (6, .int (-1)), (9, .int 0), (8, .int (-1)), (5, .int (nI ce)), (4, .int (nI su)), (0, .ref mo), (1, .int (nI k0)), (2, .int (nI k1)), (3, .ref u9.1)]) hx hb dX9_misled_150 hl (k := 3) rfl (by rw [e32]; rfl) (by decide) rfl (fun ls hl => ?_)
                    obtain rfl : x32 = nI (j + 1) := e32.trans (nI_add j 1)
                    refine lv_goto (tgt := 61) hx hb dX9_misled_153 (by decide) ?_
                    exact ih2  (j + 1) _ _ _ (by omega) (lv_sub hl [0, 1, 4, 5, 6, 7, 8, 9] (by rw [nxG_none hg hbm]; rfl)) (hP.sub [5, 6, 0, 1, 2, 3, 4] rfl) (hD.sub [5, 6, 0, 1, 2, 3, 4] (by decide) rfl) hS
                  · refine W.eq (g2 := F0 m 75 ls [.int (nI nx)]) rfl ?_
                    have hnx : nx ≤ 24 := beM_le hc hbm
                    refine lv_istore (lv' := [(8, .int (nI nx)), (7, .int (nI j)), (6, .int (-1)), (5, .int (nI ce)), (4, .int (nI su)), (0, .ref mo), (1, .int (nI k0)), (2, .int (nI k1)), (3, .ref u9.1)]) hx hb dX9_misled_75 hl (by decide) rfl (fun ls hl => ?_)
                    refine lv_iload hx hb dX9_misled_77 (lv_at hl 2 rfl) ?_
                    refine lv_iconst (v := -1) hx hb dX9_misled_79 (by decide) ?_
                    refine lv_icmp_ne (tgt := 112) hx hb dX9_misled_80 (by decide) (fun h33 => absurd (by decide) h33) (fun h33 => ?_)
                    refine lv_iload hx hb dX9_misled_83 (lv_at hl 0 rfl) ?_
                    refine lv_iconst (v := -1) hx hb dX9_misled_85 (by decide) ?_
                    refine lv_icmp_eq (tgt := 112) hx hb dX9_misled_86 (by decide) (fun h34 => absurd h34 (by exact nI_nm1 (by omega))) (fun h34 => ?_)
                    refine lv_aload_n hx hb dX9_misled_89 rfl (lv_at hl 5 rfl) ?_
                    refine lv_iload hx hb dX9_misled_90 (lv_at hl 0 rfl) ?_
                    refine lv_iconst (v := 1) hx hb dX9_misled_92 (by decide) ?_
                    refine mc_i (wr := [(m2, .inl (cm2, 25, .inl (fun _ => 0))), (m3, .inl (cm3, 25, .inl (fun _ => 0))), (u9.1, .inl (u9.2, 25, .inl (fL (wayC k1)))), (m1, .inl (cm1, 25, .inl (fun _ => 0)))]) (va_runV (As := [.int (nI nx), .int 1]) (rest := []) ⟨hx, hb, hml, hown, hts⟩ (c_mcan l hst D mo th m1 m2 m3 m4 m5 l1 l2 l3 l4 cm4 cm5 nx 1 H.size (by omega)) (cwV 2 hts (gi_c (List.mem_cons_of_mem _ (List.mem_append_left _ (List.mem_of_getElem? (i := 21) rfl))) rfl (gi_c (List.mem_cons_of_mem _ (List.mem_append_left _ (List.mem_of_getElem? (i := 22) rfl))) rfl (gi_c (List.mem_cons_of_mem _ (List.mem_append_left _ (List.mem_of_getElem? (i := 23) rfl))) rfl (gi_c (List.mem_cons_of_mem _ (List.mem_append_left _ (List.mem_of_getElem? (i := 3) rfl))) rfl (goodIn_sub hb_7 (List.all_eq_true.mpr gw_c_mcan)))))) rfl rfl rfl (by decide +kernel) ⟨Nat.le_of_ble_eq_true rfl, Nat.le_of_ble_eq_true rfl⟩) (pr_V (As := [.int (nI nx), .int 1]) (b := mo) (C := RX9) hP hD hK hS hA hE [5, 2, 3] [3, 4] rfl rfl rfl 5 16 rfl rfl rfl) rfl rfl hl.1 rfl (lv_room (Nat.le_of_ble_eq_true rfl)) dX9_misled_93 ⟨Nat.le_of_ble_eq_true rfl, Nat.le_of_ble_eq_true rfl⟩) hP hD hK hS hA [5, 2, 3] [0, 1, 4, 6] rfl rfl (by decide) (by decide) (fun r36 _ H locs w35 hP hD hK hS => ?_)
                    have hP : va_P D vwCl [(m2, .inl (cm2, 25, .inl (fun _ => 0))), (m3, .inl (cm3, 25, .inl (fun _ => 0))), (u9.1, .inl (u9.2, 25, .inl (fL (wayC k1)))), (m1, .inl (cm1, 25, .inl (fun _ => 0))), (mo, .inr (16, [.int 5, .int 5, .int th, .ref m1, .ref m2, .ref m3, .ref m4, .ref m5, .ref l1, .ref l2, .ref l3, .int (-1), .ref l4])), (m4, .inl (cm4, 25, .inl fK5)), (m5, .inl (cm5, 25, .inl fK5))] H := hP
                    have hD : va_D A [(m2, .inl (cm2, 25, .inl (fun _ => 0))), (m3, .inl (cm3, 25, .inl (fun _ => 0))), (u9.1, .inl (u9.2, 25, .inl (fL (wayC k1)))), (m1, .inl (cm1, 25, .inl (fun _ => 0))), (mo, .inr (16, [.int 5, .int 5, .int th, .ref m1, .ref m2, .ref m3, .ref m4, .ref m5, .ref l1, .ref l2, .ref l3, .int (-1), .ref l4])), (m4, .inl (cm4, 25, .inl fK5)), (m5, .inl (cm5, 25, .inl fK5))] := hD
                    have hK : va_K D vwCl [(cm1, .int), (cm2, .int), (cm3, .int), (cm4, .char), (cm5, .char), (u9.2, .int)] s := hK
                    obtain rfl : r36 = 1 := w35
                    refine lv_if_eq (tgt := 112) hx hb dX9_misled_96 (by decide) (fun h37 => absurd h37 (by decide)) (fun h37 => ?_)
                    refine lv_aload_n hx hb dX9_misled_99 rfl (lv_at hl 8 rfl) ?_
                    refine lv_iload hx hb dX9_misled_100 (lv_at hl 0 rfl) ?_
                    refine va_iald hx hb hK hP 2 5 rfl rfl (vp_in_nI (n := nx) (by omega) (by decide)) dX9_misled_102 ?_
                    have b38 := okw2 nx
                    refine lv_topi (fun x39 e39 => ?_)
                    obtain rfl : x39 = nI ((wayC k1).getD nx 0) := e39.trans (fL_at (by omega))
                    refine lv_ldc hx hb hown hw_10 dX9_misled_103 ?_
                    refine lv_icmp_eq (tgt := 112) hx hb dX9_misled_105 (by decide) (fun h40 => ?_) (fun h40 => ?_)
                    · have n40 : ((wayC k1).getD nx 0) = 1000000000 := (nI_eq (a := ((wayC k1).getD nx 0)) (b := 1000000000) (by omega) (by omega)).mp h40
                      refine lv_iconst (v := 0) hx hb dX9_misled_112 (by decide) ?_
                      refine lv_istore (lv' := [(9, .int 0), (8, .int (nI nx)), (7, .int (nI j)), (6, .int (-1)), (5, .int (nI ce)), (4, .int (nI su)), (0, .ref mo), (1, .int (nI k0)), (2, .int (nI k1)), (3, .ref u9.1)]) hx hb dX9_misled_113 hl (by decide) rfl (fun ls hl => ?_)
                      refine lv_iload hx hb dX9_misled_115 (lv_at hl 0 rfl) ?_
                      refine lv_if_eq (tgt := 146) hx hb dX9_misled_117 (by decide) (fun h41 => ?_) (fun h41 => absurd (by decide) h41)
                      refine lv_iload hx hb dX9_misled_146 (lv_at hl 3 rfl) ?_
                      refine lv_istore (lv' := [(6, .int (-1)), (9, .int 0), (8, .int (nI nx)), (7, .int (nI j)), (5, .int (nI ce)), (4, .int (nI su)), (0, .ref mo), (1, .int (nI k0)), (2, .int (nI k1)), (3, .ref u9.1)]) hx hb dX9_misled_148 hl (by decide) rfl (fun ls hl => ?_)
                      obtain ⟨x42, e42⟩ : ∃ z : Int32, z = nI j + 1 := ⟨_, rfl⟩
                      refine lv_iinc (v := x42) (lv' := [(7, .int x42), (6, .int (-1)), (9, .int 0), (8, .int (nI nx)), (5, .int (nI ce)), (4, .int (nI su)), (0, .ref mo), (1, .int (nI k0)), (2, .int (nI k1)), (3, .ref u9.1)]) hx hb dX9_misled_150 hl (k := 3) rfl (by rw [e42]; rfl) (by decide) rfl (fun ls hl => ?_)
                      obtain rfl : x42 = nI (j + 1) := e42.trans (nI_add j 1)
                      refine lv_goto (tgt := 61) hx hb dX9_misled_153 (by decide) ?_
                      exact ih2  (j + 1) _ _ _ (by omega) (lv_sub hl [0, 1, 4, 5, 6, 7, 8, 9] (by rw [nxG_far hg hbm n40]; rfl)) (hP.sub [4, 3, 0, 1, 5, 6, 2] rfl) (hD.sub [4, 3, 0, 1, 5, 6, 2] (by decide) rfl) hS
                    · have n40 : ¬ (((wayC k1).getD nx 0) = 1000000000) := fun q9 => h40 ((nI_eq (a := ((wayC k1).getD nx 0)) (b := 1000000000) (by omega) (by omega)).mpr q9)
                      refine lv_iconst (v := 1) hx hb dX9_misled_108 (by decide) ?_
                      refine lv_goto (tgt := 113) hx hb dX9_misled_109 (by decide) ?_
                      refine lv_istore (lv' := [(9, .int 1), (8, .int (nI nx)), (7, .int (nI j)), (6, .int (-1)), (5, .int (nI ce)), (4, .int (nI su)), (0, .ref mo), (1, .int (nI k0)), (2, .int (nI k1)), (3, .ref u9.1)]) hx hb dX9_misled_113 hl (by decide) rfl (fun ls hl => ?_)
                      refine lv_iload hx hb dX9_misled_115 (lv_at hl 0 rfl) ?_
                      refine lv_if_eq (tgt := 146) hx hb dX9_misled_117 (by decide) (fun h43 => absurd h43 (by decide)) (fun h43 => ?_)
                      refine lv_aload_n hx hb dX9_misled_120 rfl (lv_at hl 9 rfl) ?_
                      refine lv_iload hx hb dX9_misled_121 (lv_at hl 4 rfl) ?_
                      refine va_iald hx hb hK hP 2 5 rfl rfl (vp_in_nI (n := ce) (by omega) (by decide)) dX9_misled_123 ?_
                      have b44 := okw2 ce
                      refine lv_topi (fun x45 e45 => ?_)
                      obtain rfl : x45 = nI ((wayC k1).getD ce 0) := e45.trans (fL_at (by omega))
                      refine lv_aload_n hx hb dX9_misled_124 rfl (lv_at hl 9 rfl) ?_
                      refine lv_iload hx hb dX9_misled_125 (lv_at hl 1 rfl) ?_
                      refine va_iald hx hb hK hP 2 5 rfl rfl (vp_in_nI (n := nx) (by omega) (by decide)) dX9_misled_127 ?_
                      have b46 := okw2 nx
                      refine lv_topi (fun x47 e47 => ?_)
                      obtain rfl : x47 = nI ((wayC k1).getD nx 0) := e47.trans (fL_at (by omega))
                      refine lv_aload_n hx hb dX9_misled_128 rfl (lv_at hl 6 rfl) ?_
                      refine lv_iload hx hb dX9_misled_129 (lv_at hl 4 rfl) ?_
                      refine lv_iload hx hb dX9_misled_131 (lv_at hl 1 rfl) ?_
                      refine lv_iconst (v := 1) hx hb dX9_misled_133 (by decide) ?_
                      refine mc_i (wr := [(u9.1, .inl (u9.2, 25, .inl (fL (wayC k1)))), (m4, .inl (cm4, 25, .inl fK5)), (m5, .inl (cm5, 25, .inl fK5))]) (va_runV (As := [.int (nI ce), .int (nI nx), .int 1]) (rest := [.int (nI ((wayC k1).getD nx 0)), .int (nI ((wayC k1).getD ce 0))]) ⟨hx, hb, hml, hown, hts⟩ (c_mstep l hst D mo th m1 m2 m3 m4 m5 l1 l2 l3 l4 cm1 cm2 cm3 ce nx 1 H.size (by omega) (by omega)) (cwV 3 hts (gi_c (List.mem_cons_of_mem _ (List.mem_append_left _ (List.mem_of_getElem? (i := 15) rfl))) rfl (gi_c (List.mem_cons_of_mem _ (List.mem_append_left _ (List.mem_of_getElem? (i := 16) rfl))) rfl (gi_c (List.mem_cons_of_mem _ (List.mem_append_left _ (List.mem_of_getElem? (i := 17) rfl))) rfl (gi_c (List.mem_cons_of_mem _ (List.mem_append_left _ (List.mem_of_getElem? (i := 3) rfl))) rfl (goodIn_sub hb_5 (List.all_eq_true.mpr gw_c_mstep)))))) rfl rfl rfl (by decide +kernel) ⟨Nat.le_of_ble_eq_true rfl, Nat.le_of_ble_eq_true rfl⟩) (pr_V (As := [.int (nI ce), .int (nI nx), .int 1]) (b := mo) (C := RX9) hP hD hK hS hA hE [4, 3, 0, 1] [0, 1, 2] rfl rfl rfl 4 16 rfl rfl rfl) rfl rfl hl.1 rfl (lv_room (Nat.le_of_ble_eq_true rfl)) dX9_misled_134 ⟨Nat.le_of_ble_eq_true rfl, Nat.le_of_ble_eq_true rfl⟩) hP hD hK hS hA [4, 3, 0, 1] [2, 5, 6] rfl rfl (by decide) (by decide) (fun r49 _ H locs w48 hP hD hK hS => ?_)
                      have hP : va_P D vwCl [(u9.1, .inl (u9.2, 25, .inl (fL (wayC k1)))), (m4, .inl (cm4, 25, .inl fK5)), (m5, .inl (cm5, 25, .inl fK5)), (mo, .inr (16, [.int 5, .int 5, .int th, .ref m1, .ref m2, .ref m3, .ref m4, .ref m5, .ref l1, .ref l2, .ref l3, .int (-1), .ref l4])), (m1, .inl (cm1, 25, .inl (fun _ => 0))), (m2, .inl (cm2, 25, .inl (fun _ => 0))), (m3, .inl (cm3, 25, .inl (fun _ => 0)))] H := hP
                      have hD : va_D A [(u9.1, .inl (u9.2, 25, .inl (fL (wayC k1)))), (m4, .inl (cm4, 25, .inl fK5)), (m5, .inl (cm5, 25, .inl fK5)), (mo, .inr (16, [.int 5, .int 5, .int th, .ref m1, .ref m2, .ref m3, .ref m4, .ref m5, .ref l1, .ref l2, .ref l3, .int (-1), .ref l4])), (m1, .inl (cm1, 25, .inl (fun _ => 0))), (m2, .inl (cm2, 25, .inl (fun _ => 0))), (m3, .inl (cm3, 25, .inl (fun _ => 0)))] := hD
                      have hK : va_K D vwCl [(cm1, .int), (cm2, .int), (cm3, .int), (cm4, .char), (cm5, .char), (u9.2, .int)] s := hK
                      obtain rfl : r49 = 10 := w48
                      refine lv_iadd hx hb dX9_misled_137 ?_
                      refine lv_topi (fun x50 e50 => ?_)
                      obtain rfl : x50 = nI (((wayC k1).getD nx 0) + 10) := e50.trans (nI_add ((wayC k1).getD nx 0) 10)
                      refine lv_icmp_ne (tgt := 146) hx hb dX9_misled_138 (by decide) (fun h51 => ?_) (fun h51 => ?_)
                      · have n51 : ¬ (((wayC k1).getD ce 0) = (((wayC k1).getD nx 0) + 10)) := fun q9 => h51 ((nI_eq (a := ((wayC k1).getD ce 0)) (b := (((wayC k1).getD nx 0) + 10)) (by omega) (by omega)).mpr q9)
                        refine lv_iload hx hb dX9_misled_146 (lv_at hl 3 rfl) ?_
                        refine lv_istore (lv' := [(6, .int (-1)), (9, .int 1), (8, .int (nI nx)), (7, .int (nI j)), (5, .int (nI ce)), (4, .int (nI su)), (0, .ref mo), (1, .int (nI k0)), (2, .int (nI k1)), (3, .ref u9.1)]) hx hb dX9_misled_148 hl (by decide) rfl (fun ls hl => ?_)
                        obtain ⟨x52, e52⟩ : ∃ z : Int32, z = nI j + 1 := ⟨_, rfl⟩
                        refine lv_iinc (v := x52) (lv' := [(7, .int x52), (6, .int (-1)), (9, .int 1), (8, .int (nI nx)), (5, .int (nI ce)), (4, .int (nI su)), (0, .ref mo), (1, .int (nI k0)), (2, .int (nI k1)), (3, .ref u9.1)]) hx hb dX9_misled_150 hl (k := 3) rfl (by rw [e52]; rfl) (by decide) rfl (fun ls hl => ?_)
                        obtain rfl : x52 = nI (j + 1) := e52.trans (nI_add j 1)
                        refine lv_goto (tgt := 61) hx hb dX9_misled_153 (by decide) ?_
                        exact ih2  (j + 1) _ _ _ (by omega) (lv_sub hl [0, 1, 4, 5, 6, 7, 8, 9] (by rw [nxG_no hg hbm n40 n51]; rfl)) (hP.sub [3, 4, 5, 6, 1, 2, 0] rfl) (hD.sub [3, 4, 5, 6, 1, 2, 0] (by decide) rfl) hS
                      · have n51 : ((wayC k1).getD ce 0) = (((wayC k1).getD nx 0) + 10) := (nI_eq (a := ((wayC k1).getD ce 0)) (b := (((wayC k1).getD nx 0) + 10)) (by omega) (by omega)).mp h51
                        refine lv_iload hx hb dX9_misled_141 (lv_at hl 1 rfl) ?_
                        refine lv_goto (tgt := 148) hx hb dX9_misled_143 (by decide) ?_
                        refine lv_istore (lv' := [(6, .int (nI nx)), (9, .int 1), (8, .int (nI nx)), (7, .int (nI j)), (5, .int (nI ce)), (4, .int (nI su)), (0, .ref mo), (1, .int (nI k0)), (2, .int (nI k1)), (3, .ref u9.1)]) hx hb dX9_misled_148 hl (by decide) rfl (fun ls hl => ?_)
                        obtain ⟨x53, e53⟩ : ∃ z : Int32, z = nI j + 1 := ⟨_, rfl⟩
                        refine lv_iinc (v := x53) (lv' := [(7, .int x53), (6, .int (nI nx)), (9, .int 1), (8, .int (nI nx)), (5, .int (nI ce)), (4, .int (nI su)), (0, .ref mo), (1, .int (nI k0)), (2, .int (nI k1)), (3, .ref u9.1)]) hx hb dX9_misled_150 hl (k := 3) rfl (by rw [e53]; rfl) (by decide) rfl (fun ls hl => ?_)
                        obtain rfl : x53 = nI (j + 1) := e53.trans (nI_add j 1)
                        refine lv_goto (tgt := 61) hx hb dX9_misled_153 (by decide) ?_
                        exact ih2  (j + 1) _ _ _ (by omega) (lv_sub hl [0, 1, 4, 5, 6, 7, 8, 9] (by rw [nxG_yes hg hbm n40 n51]; rfl)) (hP.sub [3, 4, 5, 6, 1, 2, 0] rfl) (hD.sub [3, 4, 5, 6, 1, 2, 0] (by decide) rfl) hS
                · rw [hg] at hl
                  have hl : lv_has ls 10 [(7, .int (nI j)), (6, .int (nI gg)), (5, .int (nI ce)), (4, .int (nI su)), (0, .ref mo), (1, .int (nI k0)), (2, .int (nI k1)), (3, .ref u9.1)] := hl
                  have hgg : gg ≤ 24 := nxG_le hc hg
                  refine lv_istore (lv' := [(8, .int (optI (beM ce j))), (7, .int (nI j)), (6, .int (nI gg)), (5, .int (nI ce)), (4, .int (nI su)), (0, .ref mo), (1, .int (nI k0)), (2, .int (nI k1)), (3, .ref u9.1)]) hx hb dX9_misled_75 hl (by decide) rfl (fun ls hl => ?_)
                  refine lv_iload hx hb dX9_misled_77 (lv_at hl 2 rfl) ?_
                  refine lv_iconst (v := -1) hx hb dX9_misled_79 (by decide) ?_
                  refine lv_icmp_ne (tgt := 112) hx hb dX9_misled_80 (by decide) (fun h54 => ?_) (fun h54 => absurd h54 (by exact nI_nm1 (by omega)))
                  refine lv_iconst (v := 0) hx hb dX9_misled_112 (by decide) ?_
                  refine lv_istore (lv' := [(9, .int 0), (8, .int (optI (beM ce j))), (7, .int (nI j)), (6, .int (nI gg)), (5, .int (nI ce)), (4, .int (nI su)), (0, .ref mo), (1, .int (nI k0)), (2, .int (nI k1)), (3, .ref u9.1)]) hx hb dX9_misled_113 hl (by decide) rfl (fun ls hl => ?_)
                  refine lv_iload hx hb dX9_misled_115 (lv_at hl 0 rfl) ?_
                  refine lv_if_eq (tgt := 146) hx hb dX9_misled_117 (by decide) (fun h55 => ?_) (fun h55 => absurd (by decide) h55)
                  refine lv_iload hx hb dX9_misled_146 (lv_at hl 3 rfl) ?_
                  refine lv_istore (lv' := [(6, .int (nI gg)), (9, .int 0), (8, .int (optI (beM ce j))), (7, .int (nI j)), (5, .int (nI ce)), (4, .int (nI su)), (0, .ref mo), (1, .int (nI k0)), (2, .int (nI k1)), (3, .ref u9.1)]) hx hb dX9_misled_148 hl (by decide) rfl (fun ls hl => ?_)
                  obtain ⟨x56, e56⟩ : ∃ z : Int32, z = nI j + 1 := ⟨_, rfl⟩
                  refine lv_iinc (v := x56) (lv' := [(7, .int x56), (6, .int (nI gg)), (9, .int 0), (8, .int (optI (beM ce j))), (5, .int (nI ce)), (4, .int (nI su)), (0, .ref mo), (1, .int (nI k0)), (2, .int (nI k1)), (3, .ref u9.1)]) hx hb dX9_misled_150 hl (k := 3) rfl (by rw [e56]; rfl) (by decide) rfl (fun ls hl => ?_)
                  obtain rfl : x56 = nI (j + 1) := e56.trans (nI_add j 1)
                  refine lv_goto (tgt := 61) hx hb dX9_misled_153 (by decide) ?_
                  exact ih2  (j + 1) _ _ _ (by omega) (lv_sub hl [0, 1, 4, 5, 6, 7, 8, 9] (by rw [nxG_have hg]; rfl)) (hP.sub [5, 6, 0, 1, 2, 3, 4] rfl) (hD.sub [5, 6, 0, 1, 2, 3, 4] (by decide) rfl) hS
            exact l2 4 0 _ _ _ rfl (lv_sub hl [0, 1, 2, 3, 4, 5, 6, 7] rfl) (hP.sub [0, 1, 2, 3, 4, 5, 6] rfl) (hD.sub [0, 1, 2, 3, 4, 5, 6] (by decide) rfl) hS
      exact l1 10 k0 0 _ _ _ (by omega) (by omega) (mm_all k1 (by omega) k0 (by omega)) (mm_ok k1 (by omega) k0 (by omega)) (lv_sub hl [0, 1, 3, 4, 5, 2] rfl) (hP.sub [0, 1, 2, 3, 4, 5, 6] rfl) (hD.sub [0, 1, 2, 3, 4, 5, 6] (by decide) rfl) hS
    · refine lv_aload_n hx hb dX9_misled_16 rfl (lv_at hl 0 rfl) ?_
      refine lv_iconst (v := 1) hx hb dX9_misled_17 (by decide) ?_
      refine mc_i (wr := [(m2, .inl (cm2, 25, .inl (fun _ => 0))), (m3, .inl (cm3, 25, .inl (fun _ => 0))), (m4, .inl (cm4, 25, .inl fK5)), (m5, .inl (cm5, 25, .inl fK5)), (m1, .inl (cm1, 25, .inl (fun _ => 0)))]) (va_runV (As := [.int 1]) (rest := []) ⟨hx, hb, hml, hown, hts⟩ (c_fails l hst D mo 5 5 th m1 m2 m3 m4 m5 l1 l2 l3 (-1) l4 1 H.size) (cwV 1 hts (gi_c (List.mem_cons_of_mem _ (List.mem_append_left _ (List.mem_of_getElem? (i := 4) rfl))) rfl (gi_c (List.mem_cons_of_mem _ (List.mem_append_left _ (List.mem_of_getElem? (i := 5) rfl))) rfl (gi_c (List.mem_cons_of_mem _ (List.mem_append_left _ (List.mem_of_getElem? (i := 6) rfl))) rfl (gi_c (List.mem_cons_of_mem _ (List.mem_append_left _ (List.mem_of_getElem? (i := 3) rfl))) rfl (goodIn_sub hb_1 (List.all_eq_true.mpr gw_c_fails)))))) rfl rfl rfl (by decide +kernel) ⟨Nat.le_of_ble_eq_true rfl, Nat.le_of_ble_eq_true rfl⟩) (pr_V (As := [.int 1]) (b := mo) (C := RX9) hP hD hK hS hA hE [4] [] rfl rfl rfl 4 16 rfl rfl rfl) rfl rfl hl.1 rfl (lv_room (Nat.le_of_ble_eq_true rfl)) dX9_misled_18 ⟨Nat.le_of_ble_eq_true rfl, Nat.le_of_ble_eq_true rfl⟩) hP hD hK hS hA [4] [0, 1, 2, 3, 5] rfl rfl (by decide) (by decide) (fun r58 _ H locs w57 hP hD hK hS => ?_)
      have hP : va_P D vwCl [(m2, .inl (cm2, 25, .inl (fun _ => 0))), (m3, .inl (cm3, 25, .inl (fun _ => 0))), (m4, .inl (cm4, 25, .inl fK5)), (m5, .inl (cm5, 25, .inl fK5)), (m1, .inl (cm1, 25, .inl (fun _ => 0))), (mo, .inr (16, [.int 5, .int 5, .int 1, .ref m1, .ref m2, .ref m3, .ref m4, .ref m5, .ref l1, .ref l2, .ref l3, .int (-1), .ref l4]))] H := hP
      have hD : va_D A [(m2, .inl (cm2, 25, .inl (fun _ => 0))), (m3, .inl (cm3, 25, .inl (fun _ => 0))), (m4, .inl (cm4, 25, .inl fK5)), (m5, .inl (cm5, 25, .inl fK5)), (m1, .inl (cm1, 25, .inl (fun _ => 0))), (mo, .inr (16, [.int 5, .int 5, .int 1, .ref m1, .ref m2, .ref m3, .ref m4, .ref m5, .ref l1, .ref l2, .ref l3, .int (-1), .ref l4]))] := hD
      have hK : va_K D vwCl [(cm1, .int), (cm2, .int), (cm3, .int), (cm4, .char), (cm5, .char)] s := hK
      obtain rfl : r58 = 0 := w57
      exact mr_i hx hb hr (1, fun k9 => [m1, m2, m3, m4, m5, l1, l2, l3, l4].getD k9 0, fun k9 => [5, 5, -1].getD k9 0) (⟨((if_pos (ite01_1 h3)).trans (if_neg (ite01_0 h8))).symm, fun q9 => absurd (((if_pos (ite01_1 h3)).trans (if_neg (ite01_0 h8))).symm.trans q9) (by decide)⟩) (hP.sub [5] rfl) (hK.sub [] rfl) (hD.sub [5] (by decide) rfl) hS (Nat.le_of_ble_eq_true rfl) (Nat.le_of_ble_eq_true rfl) hlocks dX9_misled_21

def us_c_begins : List Cond := .code yX9_begins cX9_begins 4 none :: (([.fieldLink RX9 7 "ControlWoodModel" "columns" "I", .fieldLink RX9 13 "ControlWoodModel" "rows" "I", .arrayClass .int, .fieldLink RX9 19 "ControlWoodModel" "growth" "[I", .fieldLink RX9 23 "ControlWoodModel" "height" "[I", .fieldLink RX9 26 "ControlWoodModel" "shown" "[I", .arrayClass .char, .fieldLink RX9 29 "ControlWoodModel" "kind" "[C", .fieldLink RX9 33 "ControlWoodModel" "shownKind" "[C", .methodLink RX9 59 yJ7_fill_18040, .static yJ7_fill_18040, .initialized RJ7, .fieldLink RX9 39 "ControlWoodModel" "controls" "Ljava/util/ArrayList;", .methodLink RX9 65 yJx4a65c_clear_da8c8, .instanceMethod yJx4a65c_clear_da8c8, .selects RJx4a65c yJx4a65c_clear_da8c8 yJx4a65c_clear_da8c8, .initialized RJx4a65c, .fieldLink RX9 43 "ControlWoodModel" "courses" "Ljava/util/ArrayList;", .fieldLink RX9 46 "ControlWoodModel" "runners" "Ljava/util/ArrayList;", .fieldLink RX9 52 "ControlWoodModel" "teams" "Ljava/util/ArrayList;", .fieldLink RX9 49 "ControlWoodModel" "relay" "I"] : List Cond) ++ (wsX90 ++ (us_c_fillC ++ (us_c_alClear ++ ([])))))
theorem gw_c_begins : ∀ w ∈ us_c_begins, goodWord w = true := gw_cons rfl (gw_app (by decide +kernel) (gw_app gwf_X9 (gw_app gw_c_fillC (gw_app gw_c_alClear (fun _ h => nomatch h)))))
set_option maxHeartbeats 4000000 in
set_option maxRecDepth 100000 in
/-- begins -/
theorem c_begins (l : Launch) (hst : l.stackTraces = false) (D : va_G) (mo : Nat) (v0 : Int32) (v1 : Int32) (th : Int32) (m1 : Nat) (m2 : Nat) (m3 : Nat) (m4 : Nat) (m5 : Nat) (l1 : Nat) (l2 : Nat) (l3 : Nat) (rel : Int32) (l4 : Nat) (x1 : Int32) (x2 : Int32) (x3 : Int32) (x4 : Int32) (co : Nat) (ro : Nat) (sz : Nat) (hN : co * ro ≤ 144) : Met l yX9_begins us_c_begins { frames := 1, cells := 5, slots := 720, locals := 23 } (pw D [.ref mo, .int (nI co), .int (nI ro)] [] [(mo, .inr (16, [.int v0, .int v1, .int th, .ref m1, .ref m2, .ref m3, .ref m4, .ref m5, .ref l1, .ref l2, .ref l3, .int rel, .ref l4])), (l1, .inr (5, [.int x1, .ref (D.1 1000), .int 0])), (l2, .inr (5, [.int x2, .ref (D.1 1000), .int 0])), (l3, .inr (5, [.int x3, .ref (D.1 1000), .int 0])), (l4, .inr (5, [.int x4, .ref (D.1 1000), .int 0]))] sz) (va_Qv (fun _ : (Nat → Nat) × (Nat → ClassId) => True) (qb D (va_A [(mo, .inr (16, [.int v0, .int v1, .int th, .ref m1, .ref m2, .ref m3, .ref m4, .ref m5, .ref l1, .ref l2, .ref l3, .int rel, .ref l4])), (l1, .inr (5, [.int x1, .ref (D.1 1000), .int 0])), (l2, .inr (5, [.int x2, .ref (D.1 1000), .int 0])), (l3, .inr (5, [.int x3, .ref (D.1 1000), .int 0])), (l4, .inr (5, [.int x4, .ref (D.1 1000), .int 0]))] sz) (fun u : ((Nat → Nat) × (Nat → ClassId)) => [(mo, .inr (16, [.int (nI co), .int (nI ro), .int th, .ref (u.1 0), .ref (u.1 1), .ref (u.1 2), .ref (u.1 3), .ref (u.1 4), .ref l1, .ref l2, .ref l3, .int (-1), .ref l4])), (u.1 0, .inl (u.2 0, co * ro, .inl (fun _ => 0))), (u.1 1, .inl (u.2 1, co * ro, .inl (fun _ => 0))), (u.1 2, .inl (u.2 2, co * ro, .inl (fun _ => 0))), (u.1 3, .inl (u.2 3, co * ro, .inl (fa_fill (fun _ => 46) (fun _ => 0) (co * ro)))), (u.1 4, .inl (u.2 4, co * ro, .inl (fa_fill (fun _ => 46) (fun _ => 0) (co * ro)))), (l1, .inr (5, [.int (x1 + 1), .ref (D.1 1000), .int 0])), (l2, .inr (5, [.int (x2 + 1), .ref (D.1 1000), .int 0])), (l3, .inr (5, [.int (x3 + 1), .ref (D.1 1000), .int 0])), (l4, .inr (5, [.int (x4 + 1), .ref (D.1 1000), .int 0]))]) (fun u : ((Nat → Nat) × (Nat → ClassId)) => ([(u.2 0, .int), (u.2 1, .int), (u.2 2, .int), (u.2 3, .char), (u.2 4, .char)] : List (ClassId × FieldType)))) (va_A [(mo, .inr (16, [.int v0, .int v1, .int th, .ref m1, .ref m2, .ref m3, .ref m4, .ref m5, .ref l1, .ref l2, .ref l3, .int rel, .ref l4])), (l1, .inr (5, [.int x1, .ref (D.1 1000), .int 0])), (l2, .inr (5, [.int x2, .ref (D.1 1000), .int 0])), (l3, .inr (5, [.int x3, .ref (D.1 1000), .int 0])), (l4, .inr (5, [.int x4, .ref (D.1 1000), .int 0]))] sz)) 5 720 (va_A [(mo, .inr (16, [.int v0, .int v1, .int th, .ref m1, .ref m2, .ref m3, .ref m4, .ref m5, .ref l1, .ref l2, .ref l3, .int rel, .ref l4])), (l1, .inr (5, [.int x1, .ref (D.1 1000), .int 0])), (l2, .inr (5, [.int x2, .ref (D.1 1000), .int 0])), (l3, .inr (5, [.int x3, .ref (D.1 1000), .int 0])), (l4, .inr (5, [.int x4, .ref (D.1 1000), .int 0]))] sz) := by
  refine op_M (Qc := fun A => (va_Qv (fun _ : (Nat → Nat) × (Nat → ClassId) => True) (qb D A (fun u : ((Nat → Nat) × (Nat → ClassId)) => [(mo, .inr (16, [.int (nI co), .int (nI ro), .int th, .ref (u.1 0), .ref (u.1 1), .ref (u.1 2), .ref (u.1 3), .ref (u.1 4), .ref l1, .ref l2, .ref l3, .int (-1), .ref l4])), (u.1 0, .inl (u.2 0, co * ro, .inl (fun _ => 0))), (u.1 1, .inl (u.2 1, co * ro, .inl (fun _ => 0))), (u.1 2, .inl (u.2 2, co * ro, .inl (fun _ => 0))), (u.1 3, .inl (u.2 3, co * ro, .inl (fa_fill (fun _ => 46) (fun _ => 0) (co * ro)))), (u.1 4, .inl (u.2 4, co * ro, .inl (fa_fill (fun _ => 46) (fun _ => 0) (co * ro)))), (l1, .inr (5, [.int (x1 + 1), .ref (D.1 1000), .int 0])), (l2, .inr (5, [.int (x2 + 1), .ref (D.1 1000), .int 0])), (l3, .inr (5, [.int (x3 + 1), .ref (D.1 1000), .int 0])), (l4, .inr (5, [.int (x4 + 1), .ref (D.1 1000), .int 0]))]) (fun u : ((Nat → Nat) × (Nat → ClassId)) => ([(u.2 0, .int), (u.2 1, .int), (u.2 2, .int), (u.2 3, .char), (u.2 4, .char)] : List (ClassId × FieldType)))) A)) (by decide +kernel) rfl (Nat.le_of_ble_eq_true rfl) ?_
  intro p e s m args below meth c A ls hx hb hr hml hts hown hlocks hmn htab hA hD hS hP hK hE hsz hl
  have hown : s.vm.findClass RX9 = some m.cls := hown
  have hl : lv_has ls 4 [(0, .ref mo), (1, .int (nI co)), (2, .int (nI ro))] := hl
  have hw_0 := hts (.fieldLink RX9 7 "ControlWoodModel" "columns" "I") (List.mem_cons_of_mem _ (List.mem_append_left _ (List.mem_of_getElem? (i := 0) rfl)))
  have hw_1 := hts (.fieldLink RX9 13 "ControlWoodModel" "rows" "I") (List.mem_cons_of_mem _ (List.mem_append_left _ (List.mem_of_getElem? (i := 1) rfl)))
  have hw_2 := hts (.arrayClass .int) (List.mem_cons_of_mem _ (List.mem_append_left _ (List.mem_of_getElem? (i := 2) rfl)))
  have hw_3 := hts (.fieldLink RX9 19 "ControlWoodModel" "growth" "[I") (List.mem_cons_of_mem _ (List.mem_append_left _ (List.mem_of_getElem? (i := 3) rfl)))
  have hw_4 := hts (.fieldLink RX9 23 "ControlWoodModel" "height" "[I") (List.mem_cons_of_mem _ (List.mem_append_left _ (List.mem_of_getElem? (i := 4) rfl)))
  have hw_5 := hts (.fieldLink RX9 26 "ControlWoodModel" "shown" "[I") (List.mem_cons_of_mem _ (List.mem_append_left _ (List.mem_of_getElem? (i := 5) rfl)))
  have hw_6 := hts (.arrayClass .char) (List.mem_cons_of_mem _ (List.mem_append_left _ (List.mem_of_getElem? (i := 6) rfl)))
  have hw_7 := hts (.fieldLink RX9 29 "ControlWoodModel" "kind" "[C") (List.mem_cons_of_mem _ (List.mem_append_left _ (List.mem_of_getElem? (i := 7) rfl)))
  have hw_8 := hts (.fieldLink RX9 33 "ControlWoodModel" "shownKind" "[C") (List.mem_cons_of_mem _ (List.mem_append_left _ (List.mem_of_getElem? (i := 8) rfl)))
  have hw_9 := hts (.methodLink RX9 59 yJ7_fill_18040) (List.mem_cons_of_mem _ (List.mem_append_left _ (List.mem_of_getElem? (i := 9) rfl)))
  have hw_10 := hts (.static yJ7_fill_18040) (List.mem_cons_of_mem _ (List.mem_append_left _ (List.mem_of_getElem? (i := 10) rfl)))
  have hw_11 := hts (.initialized RJ7) (List.mem_cons_of_mem _ (List.mem_append_left _ (List.mem_of_getElem? (i := 11) rfl)))
  have hw_12 := hts (.fieldLink RX9 39 "ControlWoodModel" "controls" "Ljava/util/ArrayList;") (List.mem_cons_of_mem _ (List.mem_append_left _ (List.mem_of_getElem? (i := 12) rfl)))
  have hw_13 := hts (.methodLink RX9 65 yJx4a65c_clear_da8c8) (List.mem_cons_of_mem _ (List.mem_append_left _ (List.mem_of_getElem? (i := 13) rfl)))
  have hw_14 := hts (.instanceMethod yJx4a65c_clear_da8c8) (List.mem_cons_of_mem _ (List.mem_append_left _ (List.mem_of_getElem? (i := 14) rfl)))
  have hw_15 := hts (.selects RJx4a65c yJx4a65c_clear_da8c8 yJx4a65c_clear_da8c8) (List.mem_cons_of_mem _ (List.mem_append_left _ (List.mem_of_getElem? (i := 15) rfl)))
  have hw_16 := hts (.initialized RJx4a65c) (List.mem_cons_of_mem _ (List.mem_append_left _ (List.mem_of_getElem? (i := 16) rfl)))
  have hw_17 := hts (.fieldLink RX9 43 "ControlWoodModel" "courses" "Ljava/util/ArrayList;") (List.mem_cons_of_mem _ (List.mem_append_left _ (List.mem_of_getElem? (i := 17) rfl)))
  have hw_18 := hts (.fieldLink RX9 46 "ControlWoodModel" "runners" "Ljava/util/ArrayList;") (List.mem_cons_of_mem _ (List.mem_append_left _ (List.mem_of_getElem? (i := 18) rfl)))
  have hw_19 := hts (.fieldLink RX9 52 "ControlWoodModel" "teams" "Ljava/util/ArrayList;") (List.mem_cons_of_mem _ (List.mem_append_left _ (List.mem_of_getElem? (i := 19) rfl)))
  have hw_20 := hts (.fieldLink RX9 49 "ControlWoodModel" "relay" "I") (List.mem_cons_of_mem _ (List.mem_append_left _ (List.mem_of_getElem? (i := 20) rfl)))
  have hb_0 : ∀ w ∈ wsX90, w ∈ us_c_begins := fun w h => List.mem_cons_of_mem _ (List.mem_append_right _ (List.mem_append_left _ h))
  have hb_1 : ∀ w ∈ us_c_fillC, w ∈ us_c_begins := fun w h => List.mem_cons_of_mem _ (List.mem_append_right _ (List.mem_append_right _ (List.mem_append_left _ h)))
  have hb_2 : ∀ w ∈ us_c_alClear, w ∈ us_c_begins := fun w h => List.mem_cons_of_mem _ (List.mem_append_right _ (List.mem_append_right _ (List.mem_append_right _ (List.mem_append_left _ h))))
  refine lv_aload_n hx hb dX9_begins_0 rfl (lv_at hl 0 rfl) ?_
  refine lv_iload_n hx hb dX9_begins_1 rfl (lv_at hl 1 rfl) ?_
  refine va_put (D := D) (ci := 16) (v := .int (nI co)) (ty := .int) (C := RX9) (T := TX9) (N := 13) hx hb hts hb_0 tyX9 tyX9_ok nmX9 hown hK hP hD hS 0 rfl rfl 0 (by decide) hw_0 (fun _ h9 => h9) rfl (by decide +kernel) rfl rfl (Nat.le_of_ble_eq_true rfl) dX9_begins_2 (fun H locs hP hD hS => ?_)
  have hP : va_P D vwCl [(mo, .inr (16, [.int (nI co), .int v1, .int th, .ref m1, .ref m2, .ref m3, .ref m4, .ref m5, .ref l1, .ref l2, .ref l3, .int rel, .ref l4])), (l1, .inr (5, [.int x1, .ref (D.1 1000), .int 0])), (l2, .inr (5, [.int x2, .ref (D.1 1000), .int 0])), (l3, .inr (5, [.int x3, .ref (D.1 1000), .int 0])), (l4, .inr (5, [.int x4, .ref (D.1 1000), .int 0]))] H := hP
  have hD : va_D A [(mo, .inr (16, [.int (nI co), .int v1, .int th, .ref m1, .ref m2, .ref m3, .ref m4, .ref m5, .ref l1, .ref l2, .ref l3, .int rel, .ref l4])), (l1, .inr (5, [.int x1, .ref (D.1 1000), .int 0])), (l2, .inr (5, [.int x2, .ref (D.1 1000), .int 0])), (l3, .inr (5, [.int x3, .ref (D.1 1000), .int 0])), (l4, .inr (5, [.int x4, .ref (D.1 1000), .int 0]))] := hD
  refine lv_aload_n hx hb dX9_begins_5 rfl (lv_at hl 0 rfl) ?_
  refine lv_iload_n hx hb dX9_begins_6 rfl (lv_at hl 2 rfl) ?_
  refine va_put (D := D) (ci := 16) (v := .int (nI ro)) (ty := .int) (C := RX9) (T := TX9) (N := 13) hx hb hts hb_0 tyX9 tyX9_ok nmX9 hown hK hP hD hS 0 rfl rfl 1 (by decide) hw_1 (fun _ h9 => h9) rfl (by decide +kernel) rfl rfl (Nat.le_of_ble_eq_true rfl) dX9_begins_7 (fun H locs hP hD hS => ?_)
  have hP : va_P D vwCl [(mo, .inr (16, [.int (nI co), .int (nI ro), .int th, .ref m1, .ref m2, .ref m3, .ref m4, .ref m5, .ref l1, .ref l2, .ref l3, .int rel, .ref l4])), (l1, .inr (5, [.int x1, .ref (D.1 1000), .int 0])), (l2, .inr (5, [.int x2, .ref (D.1 1000), .int 0])), (l3, .inr (5, [.int x3, .ref (D.1 1000), .int 0])), (l4, .inr (5, [.int x4, .ref (D.1 1000), .int 0]))] H := hP
  have hD : va_D A [(mo, .inr (16, [.int (nI co), .int (nI ro), .int th, .ref m1, .ref m2, .ref m3, .ref m4, .ref m5, .ref l1, .ref l2, .ref l3, .int rel, .ref l4])), (l1, .inr (5, [.int x1, .ref (D.1 1000), .int 0])), (l2, .inr (5, [.int x2, .ref (D.1 1000), .int 0])), (l3, .inr (5, [.int x3, .ref (D.1 1000), .int 0])), (l4, .inr (5, [.int x4, .ref (D.1 1000), .int 0]))] := hD
  refine lv_iload_n hx hb dX9_begins_10 rfl (lv_at hl 1 rfl) ?_
  refine lv_iload_n hx hb dX9_begins_11 rfl (lv_at hl 2 rfl) ?_
  refine lv_imul hx hb dX9_begins_12 ?_
  refine lv_topi (fun x1 e1 => ?_)
  obtain rfl : x1 = nI (co * ro) := e1.trans (pk_mul co ro)
  refine lv_istore_n (lv' := [(3, .int (nI (co * ro))), (0, .ref mo), (1, .int (nI co)), (2, .int (nI ro))]) hx hb dX9_begins_13 rfl hl (by decide) rfl (fun ls hl => ?_)
  refine lv_aload_n hx hb dX9_begins_14 rfl (lv_at hl 1 rfl) ?_
  refine lv_iload_n hx hb dX9_begins_15 rfl (lv_at hl 0 rfl) ?_
  refine va_newa (atype := .int) (ty := .int) (a0 := ((co * ro), .inl (fun _ => 0))) hx hb hw_2 rfl hK hP hD hS hA (N' := (co * ro)) (fun _ => rfl) (nI_pos (by omega)) (nI_clamp (by omega)) (Nat.le_trans (Nat.mul_le_mul_right _ hN) (by decide)) (Nat.le_of_ble_eq_true rfl) (Nat.le_trans (Nat.add_le_add_left hN _) (Nat.le_of_ble_eq_true rfl)) dX9_begins_16 (fun q2 cy3 H hK hP hD hS => ?_)
  have hK : va_K D vwCl [(cy3, .int)] s := hK
  have hP : va_P D vwCl [(mo, .inr (16, [.int (nI co), .int (nI ro), .int th, .ref m1, .ref m2, .ref m3, .ref m4, .ref m5, .ref l1, .ref l2, .ref l3, .int rel, .ref l4])), (l1, .inr (5, [.int x1, .ref (D.1 1000), .int 0])), (l2, .inr (5, [.int x2, .ref (D.1 1000), .int 0])), (l3, .inr (5, [.int x3, .ref (D.1 1000), .int 0])), (l4, .inr (5, [.int x4, .ref (D.1 1000), .int 0])), (q2, .inl (cy3, (co * ro), .inl (fun _ => 0)))] H := hP
  have hD : va_D A [(mo, .inr (16, [.int (nI co), .int (nI ro), .int th, .ref m1, .ref m2, .ref m3, .ref m4, .ref m5, .ref l1, .ref l2, .ref l3, .int rel, .ref l4])), (l1, .inr (5, [.int x1, .ref (D.1 1000), .int 0])), (l2, .inr (5, [.int x2, .ref (D.1 1000), .int 0])), (l3, .inr (5, [.int x3, .ref (D.1 1000), .int 0])), (l4, .inr (5, [.int x4, .ref (D.1 1000), .int 0])), (q2, .inl (cy3, (co * ro), .inl (fun _ => 0)))] := hD
  refine W.widen (k := 1) (n := 144) (Nat.le_of_ble_eq_true rfl) (Nat.add_le_add_left hN _) ?_
  refine va_put (D := D) (ci := 16) (v := .ref q2) (ty := (.array .int)) (C := RX9) (T := TX9) (N := 13) hx hb hts hb_0 tyX9 tyX9_ok nmX9 hown hK hP hD hS 0 rfl rfl 3 (by decide) hw_3 (fun _ h9 => h9) rfl (by decide +kernel) rfl rfl (Nat.le_of_ble_eq_true rfl) dX9_begins_18 (fun H locs hP hD hS => ?_)
  have hP : va_P D vwCl [(mo, .inr (16, [.int (nI co), .int (nI ro), .int th, .ref q2, .ref m2, .ref m3, .ref m4, .ref m5, .ref l1, .ref l2, .ref l3, .int rel, .ref l4])), (l1, .inr (5, [.int x1, .ref (D.1 1000), .int 0])), (l2, .inr (5, [.int x2, .ref (D.1 1000), .int 0])), (l3, .inr (5, [.int x3, .ref (D.1 1000), .int 0])), (l4, .inr (5, [.int x4, .ref (D.1 1000), .int 0])), (q2, .inl (cy3, (co * ro), .inl (fun _ => 0)))] H := hP
  have hD : va_D A [(mo, .inr (16, [.int (nI co), .int (nI ro), .int th, .ref q2, .ref m2, .ref m3, .ref m4, .ref m5, .ref l1, .ref l2, .ref l3, .int rel, .ref l4])), (l1, .inr (5, [.int x1, .ref (D.1 1000), .int 0])), (l2, .inr (5, [.int x2, .ref (D.1 1000), .int 0])), (l3, .inr (5, [.int x3, .ref (D.1 1000), .int 0])), (l4, .inr (5, [.int x4, .ref (D.1 1000), .int 0])), (q2, .inl (cy3, (co * ro), .inl (fun _ => 0)))] := hD
  refine lv_aload_n hx hb dX9_begins_21 rfl (lv_at hl 1 rfl) ?_
  refine lv_iload_n hx hb dX9_begins_22 rfl (lv_at hl 0 rfl) ?_
  refine va_newa (atype := .int) (ty := .int) (a0 := ((co * ro), .inl (fun _ => 0))) hx hb hw_2 rfl hK hP hD hS hA (N' := (co * ro)) (fun _ => rfl) (nI_pos (by omega)) (nI_clamp (by omega)) (Nat.le_trans (Nat.mul_le_mul_right _ hN) (by decide)) (Nat.le_of_ble_eq_true rfl) (Nat.le_trans (Nat.add_le_add_left hN _) (Nat.le_of_ble_eq_true rfl)) dX9_begins_23 (fun q4 cy5 H hK hP hD hS => ?_)
  have hK : va_K D vwCl [(cy3, .int), (cy5, .int)] s := hK
  have hP : va_P D vwCl [(mo, .inr (16, [.int (nI co), .int (nI ro), .int th, .ref q2, .ref m2, .ref m3, .ref m4, .ref m5, .ref l1, .ref l2, .ref l3, .int rel, .ref l4])), (l1, .inr (5, [.int x1, .ref (D.1 1000), .int 0])), (l2, .inr (5, [.int x2, .ref (D.1 1000), .int 0])), (l3, .inr (5, [.int x3, .ref (D.1 1000), .int 0])), (l4, .inr (5, [.int x4, .ref (D.1 1000), .int 0])), (q2, .inl (cy3, (co * ro), .inl (fun _ => 0))), (q4, .inl (cy5, (co * ro), .inl (fun _ => 0)))] H := hP
  have hD : va_D A [(mo, .inr (16, [.int (nI co), .int (nI ro), .int th, .ref q2, .ref m2, .ref m3, .ref m4, .ref m5, .ref l1, .ref l2, .ref l3, .int rel, .ref l4])), (l1, .inr (5, [.int x1, .ref (D.1 1000), .int 0])), (l2, .inr (5, [.int x2, .ref (D.1 1000), .int 0])), (l3, .inr (5, [.int x3, .ref (D.1 1000), .int 0])), (l4, .inr (5, [.int x4, .ref (D.1 1000), .int 0])), (q2, .inl (cy3, (co * ro), .inl (fun _ => 0))), (q4, .inl (cy5, (co * ro), .inl (fun _ => 0)))] := hD
  refine W.widen (k := 2) (n := 288) (Nat.le_of_ble_eq_true rfl) (Nat.add_le_add_left hN _) ?_
  refine va_put (D := D) (ci := 16) (v := .ref q4) (ty := (.array .int)) (C := RX9) (T := TX9) (N := 13) hx hb hts hb_0 tyX9 tyX9_ok nmX9 hown hK hP hD hS 0 rfl rfl 4 (by decide) hw_4 (fun _ h9 => h9) rfl (by decide +kernel) rfl rfl (Nat.le_of_ble_eq_true rfl) dX9_begins_25 (fun H locs hP hD hS => ?_)
  have hP : va_P D vwCl [(mo, .inr (16, [.int (nI co), .int (nI ro), .int th, .ref q2, .ref q4, .ref m3, .ref m4, .ref m5, .ref l1, .ref l2, .ref l3, .int rel, .ref l4])), (l1, .inr (5, [.int x1, .ref (D.1 1000), .int 0])), (l2, .inr (5, [.int x2, .ref (D.1 1000), .int 0])), (l3, .inr (5, [.int x3, .ref (D.1 1000), .int 0])), (l4, .inr (5, [.int x4, .ref (D.1 1000), .int 0])), (q2, .inl (cy3, (co * ro), .inl (fun _ => 0))), (q4, .inl (cy5, (co * ro), .inl (fun _ => 0)))] H := hP
  have hD : va_D A [(mo, .inr (16, [.int (nI co), .int (nI ro), .int th, .ref q2, .ref q4, .ref m3, .ref m4, .ref m5, .ref l1, .ref l2, .ref l3, .int rel, .ref l4])), (l1, .inr (5, [.int x1, .ref (D.1 1000), .int 0])), (l2, .inr (5, [.int x2, .ref (D.1 1000), .int 0])), (l3, .inr (5, [.int x3, .ref (D.1 1000), .int 0])), (l4, .inr (5, [.int x4, .ref (D.1 1000), .int 0])), (q2, .inl (cy3, (co * ro), .inl (fun _ => 0))), (q4, .inl (cy5, (co * ro), .inl (fun _ => 0)))] := hD
  refine lv_aload_n hx hb dX9_begins_28 rfl (lv_at hl 1 rfl) ?_
  refine lv_iload_n hx hb dX9_begins_29 rfl (lv_at hl 0 rfl) ?_
  refine va_newa (atype := .int) (ty := .int) (a0 := ((co * ro), .inl (fun _ => 0))) hx hb hw_2 rfl hK hP hD hS hA (N' := (co * ro)) (fun _ => rfl) (nI_pos (by omega)) (nI_clamp (by omega)) (Nat.le_trans (Nat.mul_le_mul_right _ hN) (by decide)) (Nat.le_of_ble_eq_true rfl) (Nat.le_trans (Nat.add_le_add_left hN _) (Nat.le_of_ble_eq_true rfl)) dX9_begins_30 (fun q6 cy7 H hK hP hD hS => ?_)
  have hK : va_K D vwCl [(cy3, .int), (cy5, .int), (cy7, .int)] s := hK
  have hP : va_P D vwCl [(mo, .inr (16, [.int (nI co), .int (nI ro), .int th, .ref q2, .ref q4, .ref m3, .ref m4, .ref m5, .ref l1, .ref l2, .ref l3, .int rel, .ref l4])), (l1, .inr (5, [.int x1, .ref (D.1 1000), .int 0])), (l2, .inr (5, [.int x2, .ref (D.1 1000), .int 0])), (l3, .inr (5, [.int x3, .ref (D.1 1000), .int 0])), (l4, .inr (5, [.int x4, .ref (D.1 1000), .int 0])), (q2, .inl (cy3, (co * ro), .inl (fun _ => 0))), (q4, .inl (cy5, (co * ro), .inl (fun _ => 0))), (q6, .inl (cy7, (co * ro), .inl (fun _ => 0)))] H := hP
  have hD : va_D A [(mo, .inr (16, [.int (nI co), .int (nI ro), .int th, .ref q2, .ref q4, .ref m3, .ref m4, .ref m5, .ref l1, .ref l2, .ref l3, .int rel, .ref l4])), (l1, .inr (5, [.int x1, .ref (D.1 1000), .int 0])), (l2, .inr (5, [.int x2, .ref (D.1 1000), .int 0])), (l3, .inr (5, [.int x3, .ref (D.1 1000), .int 0])), (l4, .inr (5, [.int x4, .ref (D.1 1000), .int 0])), (q2, .inl (cy3, (co * ro), .inl (fun _ => 0))), (q4, .inl (cy5, (co * ro), .inl (fun _ => 0))), (q6, .inl (cy7, (co * ro), .inl (fun _ => 0)))] := hD
  refine W.widen (k := 3) (n := 432) (Nat.le_of_ble_eq_true rfl) (Nat.add_le_add_left hN _) ?_
  refine va_put (D := D) (ci := 16) (v := .ref q6) (ty := (.array .int)) (C := RX9) (T := TX9) (N := 13) hx hb hts hb_0 tyX9 tyX9_ok nmX9 hown hK hP hD hS 0 rfl rfl 5 (by decide) hw_5 (fun _ h9 => h9) rfl (by decide +kernel) rfl rfl (Nat.le_of_ble_eq_true rfl) dX9_begins_32 (fun H locs hP hD hS => ?_)
  have hP : va_P D vwCl [(mo, .inr (16, [.int (nI co), .int (nI ro), .int th, .ref q2, .ref q4, .ref q6, .ref m4, .ref m5, .ref l1, .ref l2, .ref l3, .int rel, .ref l4])), (l1, .inr (5, [.int x1, .ref (D.1 1000), .int 0])), (l2, .inr (5, [.int x2, .ref (D.1 1000), .int 0])), (l3, .inr (5, [.int x3, .ref (D.1 1000), .int 0])), (l4, .inr (5, [.int x4, .ref (D.1 1000), .int 0])), (q2, .inl (cy3, (co * ro), .inl (fun _ => 0))), (q4, .inl (cy5, (co * ro), .inl (fun _ => 0))), (q6, .inl (cy7, (co * ro), .inl (fun _ => 0)))] H := hP
  have hD : va_D A [(mo, .inr (16, [.int (nI co), .int (nI ro), .int th, .ref q2, .ref q4, .ref q6, .ref m4, .ref m5, .ref l1, .ref l2, .ref l3, .int rel, .ref l4])), (l1, .inr (5, [.int x1, .ref (D.1 1000), .int 0])), (l2, .inr (5, [.int x2, .ref (D.1 1000), .int 0])), (l3, .inr (5, [.int x3, .ref (D.1 1000), .int 0])), (l4, .inr (5, [.int x4, .ref (D.1 1000), .int 0])), (q2, .inl (cy3, (co * ro), .inl (fun _ => 0))), (q4, .inl (cy5, (co * ro), .inl (fun _ => 0))), (q6, .inl (cy7, (co * ro), .inl (fun _ => 0)))] := hD
  refine lv_aload_n hx hb dX9_begins_35 rfl (lv_at hl 1 rfl) ?_
  refine lv_iload_n hx hb dX9_begins_36 rfl (lv_at hl 0 rfl) ?_
  refine va_newa (atype := .char) (ty := .char) (a0 := ((co * ro), .inl (fun _ => 0))) hx hb hw_6 rfl hK hP hD hS hA (N' := (co * ro)) (fun _ => rfl) (nI_pos (by omega)) (nI_clamp (by omega)) (Nat.le_trans (Nat.mul_le_mul_right _ hN) (by decide)) (Nat.le_of_ble_eq_true rfl) (Nat.le_trans (Nat.add_le_add_left hN _) (Nat.le_of_ble_eq_true rfl)) dX9_begins_37 (fun q8 cy9 H hK hP hD hS => ?_)
  have hK : va_K D vwCl [(cy3, .int), (cy5, .int), (cy7, .int), (cy9, .char)] s := hK
  have hP : va_P D vwCl [(mo, .inr (16, [.int (nI co), .int (nI ro), .int th, .ref q2, .ref q4, .ref q6, .ref m4, .ref m5, .ref l1, .ref l2, .ref l3, .int rel, .ref l4])), (l1, .inr (5, [.int x1, .ref (D.1 1000), .int 0])), (l2, .inr (5, [.int x2, .ref (D.1 1000), .int 0])), (l3, .inr (5, [.int x3, .ref (D.1 1000), .int 0])), (l4, .inr (5, [.int x4, .ref (D.1 1000), .int 0])), (q2, .inl (cy3, (co * ro), .inl (fun _ => 0))), (q4, .inl (cy5, (co * ro), .inl (fun _ => 0))), (q6, .inl (cy7, (co * ro), .inl (fun _ => 0))), (q8, .inl (cy9, (co * ro), .inl (fun _ => 0)))] H := hP
  have hD : va_D A [(mo, .inr (16, [.int (nI co), .int (nI ro), .int th, .ref q2, .ref q4, .ref q6, .ref m4, .ref m5, .ref l1, .ref l2, .ref l3, .int rel, .ref l4])), (l1, .inr (5, [.int x1, .ref (D.1 1000), .int 0])), (l2, .inr (5, [.int x2, .ref (D.1 1000), .int 0])), (l3, .inr (5, [.int x3, .ref (D.1 1000), .int 0])), (l4, .inr (5, [.int x4, .ref (D.1 1000), .int 0])), (q2, .inl (cy3, (co * ro), .inl (fun _ => 0))), (q4, .inl (cy5, (co * ro), .inl (fun _ => 0))), (q6, .inl (cy7, (co * ro), .inl (fun _ => 0))), (q8, .inl (cy9, (co * ro), .inl (fun _ => 0)))] := hD
  refine W.widen (k := 4) (n := 576) (Nat.le_of_ble_eq_true rfl) (Nat.add_le_add_left hN _) ?_
  refine va_put (D := D) (ci := 16) (v := .ref q8) (ty := (.array .char)) (C := RX9) (T := TX9) (N := 13) hx hb hts hb_0 tyX9 tyX9_ok nmX9 hown hK hP hD hS 0 rfl rfl 6 (by decide) hw_7 (fun _ h9 => h9) rfl (by decide +kernel) rfl rfl (Nat.le_of_ble_eq_true rfl) dX9_begins_39 (fun H locs hP hD hS => ?_)
  have hP : va_P D vwCl [(mo, .inr (16, [.int (nI co), .int (nI ro), .int th, .ref q2, .ref q4, .ref q6, .ref q8, .ref m5, .ref l1, .ref l2, .ref l3, .int rel, .ref l4])), (l1, .inr (5, [.int x1, .ref (D.1 1000), .int 0])), (l2, .inr (5, [.int x2, .ref (D.1 1000), .int 0])), (l3, .inr (5, [.int x3, .ref (D.1 1000), .int 0])), (l4, .inr (5, [.int x4, .ref (D.1 1000), .int 0])), (q2, .inl (cy3, (co * ro), .inl (fun _ => 0))), (q4, .inl (cy5, (co * ro), .inl (fun _ => 0))), (q6, .inl (cy7, (co * ro), .inl (fun _ => 0))), (q8, .inl (cy9, (co * ro), .inl (fun _ => 0)))] H := hP
  have hD : va_D A [(mo, .inr (16, [.int (nI co), .int (nI ro), .int th, .ref q2, .ref q4, .ref q6, .ref q8, .ref m5, .ref l1, .ref l2, .ref l3, .int rel, .ref l4])), (l1, .inr (5, [.int x1, .ref (D.1 1000), .int 0])), (l2, .inr (5, [.int x2, .ref (D.1 1000), .int 0])), (l3, .inr (5, [.int x3, .ref (D.1 1000), .int 0])), (l4, .inr (5, [.int x4, .ref (D.1 1000), .int 0])), (q2, .inl (cy3, (co * ro), .inl (fun _ => 0))), (q4, .inl (cy5, (co * ro), .inl (fun _ => 0))), (q6, .inl (cy7, (co * ro), .inl (fun _ => 0))), (q8, .inl (cy9, (co * ro), .inl (fun _ => 0)))] := hD
  refine lv_aload_n hx hb dX9_begins_42 rfl (lv_at hl 1 rfl) ?_
  refine lv_iload_n hx hb dX9_begins_43 rfl (lv_at hl 0 rfl) ?_
  refine va_newa (atype := .char) (ty := .char) (a0 := ((co * ro), .inl (fun _ => 0))) hx hb hw_6 rfl hK hP hD hS hA (N' := (co * ro)) (fun _ => rfl) (nI_pos (by omega)) (nI_clamp (by omega)) (Nat.le_trans (Nat.mul_le_mul_right _ hN) (by decide)) (Nat.le_of_ble_eq_true rfl) (Nat.le_trans (Nat.add_le_add_left hN _) (Nat.le_of_ble_eq_true rfl)) dX9_begins_44 (fun q10 cy11 H hK hP hD hS => ?_)
  have hK : va_K D vwCl [(cy3, .int), (cy5, .int), (cy7, .int), (cy9, .char), (cy11, .char)] s := hK
  have hP : va_P D vwCl [(mo, .inr (16, [.int (nI co), .int (nI ro), .int th, .ref q2, .ref q4, .ref q6, .ref q8, .ref m5, .ref l1, .ref l2, .ref l3, .int rel, .ref l4])), (l1, .inr (5, [.int x1, .ref (D.1 1000), .int 0])), (l2, .inr (5, [.int x2, .ref (D.1 1000), .int 0])), (l3, .inr (5, [.int x3, .ref (D.1 1000), .int 0])), (l4, .inr (5, [.int x4, .ref (D.1 1000), .int 0])), (q2, .inl (cy3, (co * ro), .inl (fun _ => 0))), (q4, .inl (cy5, (co * ro), .inl (fun _ => 0))), (q6, .inl (cy7, (co * ro), .inl (fun _ => 0))), (q8, .inl (cy9, (co * ro), .inl (fun _ => 0))), (q10, .inl (cy11, (co * ro), .inl (fun _ => 0)))] H := hP
  have hD : va_D A [(mo, .inr (16, [.int (nI co), .int (nI ro), .int th, .ref q2, .ref q4, .ref q6, .ref q8, .ref m5, .ref l1, .ref l2, .ref l3, .int rel, .ref l4])), (l1, .inr (5, [.int x1, .ref (D.1 1000), .int 0])), (l2, .inr (5, [.int x2, .ref (D.1 1000), .int 0])), (l3, .inr (5, [.int x3, .ref (D.1 1000), .int 0])), (l4, .inr (5, [.int x4, .ref (D.1 1000), .int 0])), (q2, .inl (cy3, (co * ro), .inl (fun _ => 0))), (q4, .inl (cy5, (co * ro), .inl (fun _ => 0))), (q6, .inl (cy7, (co * ro), .inl (fun _ => 0))), (q8, .inl (cy9, (co * ro), .inl (fun _ => 0))), (q10, .inl (cy11, (co * ro), .inl (fun _ => 0)))] := hD
  refine W.widen (k := 5) (n := 720) (Nat.le_of_ble_eq_true rfl) (Nat.add_le_add_left hN _) ?_
  refine va_put (D := D) (ci := 16) (v := .ref q10) (ty := (.array .char)) (C := RX9) (T := TX9) (N := 13) hx hb hts hb_0 tyX9 tyX9_ok nmX9 hown hK hP hD hS 0 rfl rfl 7 (by decide) hw_8 (fun _ h9 => h9) rfl (by decide +kernel) rfl rfl (Nat.le_of_ble_eq_true rfl) dX9_begins_46 (fun H locs hP hD hS => ?_)
  have hP : va_P D vwCl [(mo, .inr (16, [.int (nI co), .int (nI ro), .int th, .ref q2, .ref q4, .ref q6, .ref q8, .ref q10, .ref l1, .ref l2, .ref l3, .int rel, .ref l4])), (l1, .inr (5, [.int x1, .ref (D.1 1000), .int 0])), (l2, .inr (5, [.int x2, .ref (D.1 1000), .int 0])), (l3, .inr (5, [.int x3, .ref (D.1 1000), .int 0])), (l4, .inr (5, [.int x4, .ref (D.1 1000), .int 0])), (q2, .inl (cy3, (co * ro), .inl (fun _ => 0))), (q4, .inl (cy5, (co * ro), .inl (fun _ => 0))), (q6, .inl (cy7, (co * ro), .inl (fun _ => 0))), (q8, .inl (cy9, (co * ro), .inl (fun _ => 0))), (q10, .inl (cy11, (co * ro), .inl (fun _ => 0)))] H := hP
  have hD : va_D A [(mo, .inr (16, [.int (nI co), .int (nI ro), .int th, .ref q2, .ref q4, .ref q6, .ref q8, .ref q10, .ref l1, .ref l2, .ref l3, .int rel, .ref l4])), (l1, .inr (5, [.int x1, .ref (D.1 1000), .int 0])), (l2, .inr (5, [.int x2, .ref (D.1 1000), .int 0])), (l3, .inr (5, [.int x3, .ref (D.1 1000), .int 0])), (l4, .inr (5, [.int x4, .ref (D.1 1000), .int 0])), (q2, .inl (cy3, (co * ro), .inl (fun _ => 0))), (q4, .inl (cy5, (co * ro), .inl (fun _ => 0))), (q6, .inl (cy7, (co * ro), .inl (fun _ => 0))), (q8, .inl (cy9, (co * ro), .inl (fun _ => 0))), (q10, .inl (cy11, (co * ro), .inl (fun _ => 0)))] := hD
  refine lv_aload_n hx hb dX9_begins_49 rfl (lv_at hl 1 rfl) ?_
  refine va_get (D := D) (ci := 16) (v := .ref q8) (C := RX9) (T := TX9) (N := 13) hx hb hts hb_0 hown hK hP 0 rfl rfl 6 (by decide) hw_7 (fun _ h9 => h9) rfl dX9_begins_50 ?_
  refine lv_bipush (v := 46) hx hb dX9_begins_53 (by decide) ?_
  refine mc_v (wr := [(mo, .inr (16, [.int (nI co), .int (nI ro), .int th, .ref q2, .ref q4, .ref q6, .ref q8, .ref q10, .ref l1, .ref l2, .ref l3, .int rel, .ref l4])), (l1, .inr (5, [.int x1, .ref (D.1 1000), .int 0])), (l2, .inr (5, [.int x2, .ref (D.1 1000), .int 0])), (l3, .inr (5, [.int x3, .ref (D.1 1000), .int 0])), (l4, .inr (5, [.int x4, .ref (D.1 1000), .int 0])), (q2, .inl (cy3, (co * ro), .inl (fun _ => 0))), (q4, .inl (cy5, (co * ro), .inl (fun _ => 0))), (q6, .inl (cy7, (co * ro), .inl (fun _ => 0))), (q10, .inl (cy11, (co * ro), .inl (fun _ => 0)))]) (va_runS (As := [.ref q8, .int 46]) (rest := []) ⟨hx, hb, hml, hown, hts⟩ (c_fillC l hst D q8 cy9 (co * ro) (fun _ => 0) 46 H.size (by omega) (by decide)) (va_cwS 2 hts (gi_c (List.mem_cons_of_mem _ (List.mem_append_left _ (List.mem_of_getElem? (i := 9) rfl))) rfl (gi_c (List.mem_cons_of_mem _ (List.mem_append_left _ (List.mem_of_getElem? (i := 10) rfl))) rfl (gi_c (List.mem_cons_of_mem _ (List.mem_append_left _ (List.mem_of_getElem? (i := 11) rfl))) rfl (goodIn_sub hb_1 (List.all_eq_true.mpr gw_c_fillC))))) rfl rfl rfl (by decide +kernel) ⟨Nat.le_of_ble_eq_true rfl, Nat.le_of_ble_eq_true rfl⟩) (pr_S (As := [.ref q8, .int 46]) hP hD hK hS hA hE [8] [3] rfl rfl rfl) rfl rfl hl.1 rfl (lv_room (Nat.le_of_ble_eq_true rfl)) dX9_begins_55 ⟨Nat.le_of_ble_eq_true rfl, Nat.le_of_ble_eq_true rfl⟩) hP hD hK hS hA [8] [0, 1, 2, 3, 4, 5, 6, 7, 9] rfl rfl (by decide) (by decide) (fun _ H locs w12 hP hD hK hS => ?_)
  have hP : va_P D vwCl [(mo, .inr (16, [.int (nI co), .int (nI ro), .int th, .ref q2, .ref q4, .ref q6, .ref q8, .ref q10, .ref l1, .ref l2, .ref l3, .int rel, .ref l4])), (l1, .inr (5, [.int x1, .ref (D.1 1000), .int 0])), (l2, .inr (5, [.int x2, .ref (D.1 1000), .int 0])), (l3, .inr (5, [.int x3, .ref (D.1 1000), .int 0])), (l4, .inr (5, [.int x4, .ref (D.1 1000), .int 0])), (q2, .inl (cy3, (co * ro), .inl (fun _ => 0))), (q4, .inl (cy5, (co * ro), .inl (fun _ => 0))), (q6, .inl (cy7, (co * ro), .inl (fun _ => 0))), (q10, .inl (cy11, (co * ro), .inl (fun _ => 0))), (q8, .inl (cy9, (co * ro), .inl (fa_fill (fun _ => 46) (fun _ => 0) (co * ro))))] H := hP
  have hD : va_D A [(mo, .inr (16, [.int (nI co), .int (nI ro), .int th, .ref q2, .ref q4, .ref q6, .ref q8, .ref q10, .ref l1, .ref l2, .ref l3, .int rel, .ref l4])), (l1, .inr (5, [.int x1, .ref (D.1 1000), .int 0])), (l2, .inr (5, [.int x2, .ref (D.1 1000), .int 0])), (l3, .inr (5, [.int x3, .ref (D.1 1000), .int 0])), (l4, .inr (5, [.int x4, .ref (D.1 1000), .int 0])), (q2, .inl (cy3, (co * ro), .inl (fun _ => 0))), (q4, .inl (cy5, (co * ro), .inl (fun _ => 0))), (q6, .inl (cy7, (co * ro), .inl (fun _ => 0))), (q10, .inl (cy11, (co * ro), .inl (fun _ => 0))), (q8, .inl (cy9, (co * ro), .inl (fa_fill (fun _ => 46) (fun _ => 0) (co * ro))))] := hD
  have hK : va_K D vwCl [(cy3, .int), (cy5, .int), (cy7, .int), (cy9, .char), (cy11, .char)] s := hK
  refine lv_aload_n hx hb dX9_begins_58 rfl (lv_at hl 1 rfl) ?_
  refine va_get (D := D) (ci := 16) (v := .ref q10) (C := RX9) (T := TX9) (N := 13) hx hb hts hb_0 hown hK hP 0 rfl rfl 7 (by decide) hw_8 (fun _ h9 => h9) rfl dX9_begins_59 ?_
  refine lv_bipush (v := 46) hx hb dX9_begins_62 (by decide) ?_
  refine mc_v (wr := [(mo, .inr (16, [.int (nI co), .int (nI ro), .int th, .ref q2, .ref q4, .ref q6, .ref q8, .ref q10, .ref l1, .ref l2, .ref l3, .int rel, .ref l4])), (l1, .inr (5, [.int x1, .ref (D.1 1000), .int 0])), (l2, .inr (5, [.int x2, .ref (D.1 1000), .int 0])), (l3, .inr (5, [.int x3, .ref (D.1 1000), .int 0])), (l4, .inr (5, [.int x4, .ref (D.1 1000), .int 0])), (q2, .inl (cy3, (co * ro), .inl (fun _ => 0))), (q4, .inl (cy5, (co * ro), .inl (fun _ => 0))), (q6, .inl (cy7, (co * ro), .inl (fun _ => 0))), (q8, .inl (cy9, (co * ro), .inl (fa_fill (fun _ => 46) (fun _ => 0) (co * ro))))]) (va_runS (As := [.ref q10, .int 46]) (rest := []) ⟨hx, hb, hml, hown, hts⟩ (c_fillC l hst D q10 cy11 (co * ro) (fun _ => 0) 46 H.size (by omega) (by decide)) (va_cwS 2 hts (gi_c (List.mem_cons_of_mem _ (List.mem_append_left _ (List.mem_of_getElem? (i := 9) rfl))) rfl (gi_c (List.mem_cons_of_mem _ (List.mem_append_left _ (List.mem_of_getElem? (i := 10) rfl))) rfl (gi_c (List.mem_cons_of_mem _ (List.mem_append_left _ (List.mem_of_getElem? (i := 11) rfl))) rfl (goodIn_sub hb_1 (List.all_eq_true.mpr gw_c_fillC))))) rfl rfl rfl (by decide +kernel) ⟨Nat.le_of_ble_eq_true rfl, Nat.le_of_ble_eq_true rfl⟩) (pr_S (As := [.ref q10, .int 46]) hP hD hK hS hA hE [8] [4] rfl rfl rfl) rfl rfl hl.1 rfl (lv_room (Nat.le_of_ble_eq_true rfl)) dX9_begins_64 ⟨Nat.le_of_ble_eq_true rfl, Nat.le_of_ble_eq_true rfl⟩) hP hD hK hS hA [8] [0, 1, 2, 3, 4, 5, 6, 7, 9] rfl rfl (by decide) (by decide) (fun _ H locs w14 hP hD hK hS => ?_)
  have hP : va_P D vwCl [(mo, .inr (16, [.int (nI co), .int (nI ro), .int th, .ref q2, .ref q4, .ref q6, .ref q8, .ref q10, .ref l1, .ref l2, .ref l3, .int rel, .ref l4])), (l1, .inr (5, [.int x1, .ref (D.1 1000), .int 0])), (l2, .inr (5, [.int x2, .ref (D.1 1000), .int 0])), (l3, .inr (5, [.int x3, .ref (D.1 1000), .int 0])), (l4, .inr (5, [.int x4, .ref (D.1 1000), .int 0])), (q2, .inl (cy3, (co * ro), .inl (fun _ => 0))), (q4, .inl (cy5, (co * ro), .inl (fun _ => 0))), (q6, .inl (cy7, (co * ro), .inl (fun _ => 0))), (q8, .inl (cy9, (co * ro), .inl (fa_fill (fun _ => 46) (fun _ => 0) (co * ro)))), (q10, .inl (cy11, (co * ro), .inl (fa_fill (fun _ => 46) (fun _ => 0) (co * ro))))] H := hP
  have hD : va_D A [(mo, .inr (16, [.int (nI co), .int (nI ro), .int th, .ref q2, .ref q4, .ref q6, .ref q8, .ref q10, .ref l1, .ref l2, .ref l3, .int rel, .ref l4])), (l1, .inr (5, [.int x1, .ref (D.1 1000), .int 0])), (l2, .inr (5, [.int x2, .ref (D.1 1000), .int 0])), (l3, .inr (5, [.int x3, .ref (D.1 1000), .int 0])), (l4, .inr (5, [.int x4, .ref (D.1 1000), .int 0])), (q2, .inl (cy3, (co * ro), .inl (fun _ => 0))), (q4, .inl (cy5, (co * ro), .inl (fun _ => 0))), (q6, .inl (cy7, (co * ro), .inl (fun _ => 0))), (q8, .inl (cy9, (co * ro), .inl (fa_fill (fun _ => 46) (fun _ => 0) (co * ro)))), (q10, .inl (cy11, (co * ro), .inl (fa_fill (fun _ => 46) (fun _ => 0) (co * ro))))] := hD
  have hK : va_K D vwCl [(cy3, .int), (cy5, .int), (cy7, .int), (cy9, .char), (cy11, .char)] s := hK
  refine lv_aload_n hx hb dX9_begins_67 rfl (lv_at hl 1 rfl) ?_
  refine va_get (D := D) (ci := 16) (v := .ref l1) (C := RX9) (T := TX9) (N := 13) hx hb hts hb_0 hown hK hP 0 rfl rfl 8 (by decide) hw_12 (fun _ h9 => h9) rfl dX9_begins_68 ?_
  refine mc_v (wr := [(mo, .inr (16, [.int (nI co), .int (nI ro), .int th, .ref q2, .ref q4, .ref q6, .ref q8, .ref q10, .ref l1, .ref l2, .ref l3, .int rel, .ref l4])), (l2, .inr (5, [.int x2, .ref (D.1 1000), .int 0])), (l3, .inr (5, [.int x3, .ref (D.1 1000), .int 0])), (l4, .inr (5, [.int x4, .ref (D.1 1000), .int 0])), (q2, .inl (cy3, (co * ro), .inl (fun _ => 0))), (q4, .inl (cy5, (co * ro), .inl (fun _ => 0))), (q6, .inl (cy7, (co * ro), .inl (fun _ => 0))), (q8, .inl (cy9, (co * ro), .inl (fa_fill (fun _ => 46) (fun _ => 0) (co * ro)))), (q10, .inl (cy11, (co * ro), .inl (fa_fill (fun _ => 46) (fun _ => 0) (co * ro))))]) (va_runV (As := []) (rest := []) ⟨hx, hb, hml, hown, hts⟩ (c_alClear l hst D l1 x1 (D.1 1000) H.size) (cwV 0 hts (gi_c (List.mem_cons_of_mem _ (List.mem_append_left _ (List.mem_of_getElem? (i := 13) rfl))) rfl (gi_c (List.mem_cons_of_mem _ (List.mem_append_left _ (List.mem_of_getElem? (i := 14) rfl))) rfl (gi_c (List.mem_cons_of_mem _ (List.mem_append_left _ (List.mem_of_getElem? (i := 15) rfl))) rfl (gi_c (List.mem_cons_of_mem _ (List.mem_append_left _ (List.mem_of_getElem? (i := 16) rfl))) rfl (goodIn_sub hb_2 (List.all_eq_true.mpr gw_c_alClear)))))) rfl rfl rfl (by decide +kernel) ⟨Nat.le_of_ble_eq_true rfl, Nat.le_of_ble_eq_true rfl⟩) (pr_V (As := []) (b := l1) (C := RJx4a65c) hP hD hK hS hA hE [1] [] rfl rfl rfl 1 5 rfl rfl rfl) rfl rfl hl.1 rfl (lv_room (Nat.le_of_ble_eq_true rfl)) dX9_begins_71 ⟨Nat.le_of_ble_eq_true rfl, Nat.le_of_ble_eq_true rfl⟩) hP hD hK hS hA [1] [0, 2, 3, 4, 5, 6, 7, 8, 9] rfl rfl (by decide) (by decide) (fun _ H locs w16 hP hD hK hS => ?_)
  have hP : va_P D vwCl [(mo, .inr (16, [.int (nI co), .int (nI ro), .int th, .ref q2, .ref q4, .ref q6, .ref q8, .ref q10, .ref l1, .ref l2, .ref l3, .int rel, .ref l4])), (l2, .inr (5, [.int x2, .ref (D.1 1000), .int 0])), (l3, .inr (5, [.int x3, .ref (D.1 1000), .int 0])), (l4, .inr (5, [.int x4, .ref (D.1 1000), .int 0])), (q2, .inl (cy3, (co * ro), .inl (fun _ => 0))), (q4, .inl (cy5, (co * ro), .inl (fun _ => 0))), (q6, .inl (cy7, (co * ro), .inl (fun _ => 0))), (q8, .inl (cy9, (co * ro), .inl (fa_fill (fun _ => 46) (fun _ => 0) (co * ro)))), (q10, .inl (cy11, (co * ro), .inl (fa_fill (fun _ => 46) (fun _ => 0) (co * ro)))), (l1, .inr (5, [.int (x1 + 1), .ref (D.1 1000), .int 0]))] H := hP
  have hD : va_D A [(mo, .inr (16, [.int (nI co), .int (nI ro), .int th, .ref q2, .ref q4, .ref q6, .ref q8, .ref q10, .ref l1, .ref l2, .ref l3, .int rel, .ref l4])), (l2, .inr (5, [.int x2, .ref (D.1 1000), .int 0])), (l3, .inr (5, [.int x3, .ref (D.1 1000), .int 0])), (l4, .inr (5, [.int x4, .ref (D.1 1000), .int 0])), (q2, .inl (cy3, (co * ro), .inl (fun _ => 0))), (q4, .inl (cy5, (co * ro), .inl (fun _ => 0))), (q6, .inl (cy7, (co * ro), .inl (fun _ => 0))), (q8, .inl (cy9, (co * ro), .inl (fa_fill (fun _ => 46) (fun _ => 0) (co * ro)))), (q10, .inl (cy11, (co * ro), .inl (fa_fill (fun _ => 46) (fun _ => 0) (co * ro)))), (l1, .inr (5, [.int (x1 + 1), .ref (D.1 1000), .int 0]))] := hD
  have hK : va_K D vwCl [(cy3, .int), (cy5, .int), (cy7, .int), (cy9, .char), (cy11, .char)] s := hK
  refine lv_aload_n hx hb dX9_begins_74 rfl (lv_at hl 1 rfl) ?_
  refine va_get (D := D) (ci := 16) (v := .ref l2) (C := RX9) (T := TX9) (N := 13) hx hb hts hb_0 hown hK hP 0 rfl rfl 9 (by decide) hw_17 (fun _ h9 => h9) rfl dX9_begins_75 ?_
  refine mc_v (wr := [(mo, .inr (16, [.int (nI co), .int (nI ro), .int th, .ref q2, .ref q4, .ref q6, .ref q8, .ref q10, .ref l1, .ref l2, .ref l3, .int rel, .ref l4])), (l3, .inr (5, [.int x3, .ref (D.1 1000), .int 0])), (l4, .inr (5, [.int x4, .ref (D.1 1000), .int 0])), (q2, .inl (cy3, (co * ro), .inl (fun _ => 0))), (q4, .inl (cy5, (co * ro), .inl (fun _ => 0))), (q6, .inl (cy7, (co * ro), .inl (fun _ => 0))), (q8, .inl (cy9, (co * ro), .inl (fa_fill (fun _ => 46) (fun _ => 0) (co * ro)))), (q10, .inl (cy11, (co * ro), .inl (fa_fill (fun _ => 46) (fun _ => 0) (co * ro)))), (l1, .inr (5, [.int (x1 + 1), .ref (D.1 1000), .int 0]))]) (va_runV (As := []) (rest := []) ⟨hx, hb, hml, hown, hts⟩ (c_alClear l hst D l2 x2 (D.1 1000) H.size) (cwV 0 hts (gi_c (List.mem_cons_of_mem _ (List.mem_append_left _ (List.mem_of_getElem? (i := 13) rfl))) rfl (gi_c (List.mem_cons_of_mem _ (List.mem_append_left _ (List.mem_of_getElem? (i := 14) rfl))) rfl (gi_c (List.mem_cons_of_mem _ (List.mem_append_left _ (List.mem_of_getElem? (i := 15) rfl))) rfl (gi_c (List.mem_cons_of_mem _ (List.mem_append_left _ (List.mem_of_getElem? (i := 16) rfl))) rfl (goodIn_sub hb_2 (List.all_eq_true.mpr gw_c_alClear)))))) rfl rfl rfl (by decide +kernel) ⟨Nat.le_of_ble_eq_true rfl, Nat.le_of_ble_eq_true rfl⟩) (pr_V (As := []) (b := l2) (C := RJx4a65c) hP hD hK hS hA hE [1] [] rfl rfl rfl 1 5 rfl rfl rfl) rfl rfl hl.1 rfl (lv_room (Nat.le_of_ble_eq_true rfl)) dX9_begins_78 ⟨Nat.le_of_ble_eq_true rfl, Nat.le_of_ble_eq_true rfl⟩) hP hD hK hS hA [1] [0, 2, 3, 4, 5, 6, 7, 8, 9] rfl rfl (by decide) (by decide) (fun _ H locs w18 hP hD hK hS => ?_)
  have hP : va_P D vwCl [(mo, .inr (16, [.int (nI co), .int (nI ro), .int th, .ref q2, .ref q4, .ref q6, .ref q8, .ref q10, .ref l1, .ref l2, .ref l3, .int rel, .ref l4])), (l3, .inr (5, [.int x3, .ref (D.1 1000), .int 0])), (l4, .inr (5, [.int x4, .ref (D.1 1000), .int 0])), (q2, .inl (cy3, (co * ro), .inl (fun _ => 0))), (q4, .inl (cy5, (co * ro), .inl (fun _ => 0))), (q6, .inl (cy7, (co * ro), .inl (fun _ => 0))), (q8, .inl (cy9, (co * ro), .inl (fa_fill (fun _ => 46) (fun _ => 0) (co * ro)))), (q10, .inl (cy11, (co * ro), .inl (fa_fill (fun _ => 46) (fun _ => 0) (co * ro)))), (l1, .inr (5, [.int (x1 + 1), .ref (D.1 1000), .int 0])), (l2, .inr (5, [.int (x2 + 1), .ref (D.1 1000), .int 0]))] H := hP
  have hD : va_D A [(mo, .inr (16, [.int (nI co), .int (nI ro), .int th, .ref q2, .ref q4, .ref q6, .ref q8, .ref q10, .ref l1, .ref l2, .ref l3, .int rel, .ref l4])), (l3, .inr (5, [.int x3, .ref (D.1 1000), .int 0])), (l4, .inr (5, [.int x4, .ref (D.1 1000), .int 0])), (q2, .inl (cy3, (co * ro), .inl (fun _ => 0))), (q4, .inl (cy5, (co * ro), .inl (fun _ => 0))), (q6, .inl (cy7, (co * ro), .inl (fun _ => 0))), (q8, .inl (cy9, (co * ro), .inl (fa_fill (fun _ => 46) (fun _ => 0) (co * ro)))), (q10, .inl (cy11, (co * ro), .inl (fa_fill (fun _ => 46) (fun _ => 0) (co * ro)))), (l1, .inr (5, [.int (x1 + 1), .ref (D.1 1000), .int 0])), (l2, .inr (5, [.int (x2 + 1), .ref (D.1 1000), .int 0]))] := hD
  have hK : va_K D vwCl [(cy3, .int), (cy5, .int), (cy7, .int), (cy9, .char), (cy11, .char)] s := hK
  refine lv_aload_n hx hb dX9_begins_81 rfl (lv_at hl 1 rfl) ?_
  refine va_get (D := D) (ci := 16) (v := .ref l3) (C := RX9) (T := TX9) (N := 13) hx hb hts hb_0 hown hK hP 0 rfl rfl 10 (by decide) hw_18 (fun _ h9 => h9) rfl dX9_begins_82 ?_
  refine mc_v (wr := [(mo, .inr (16, [.int (nI co), .int (nI ro), .int th, .ref q2, .ref q4, .ref q6, .ref q8, .ref q10, .ref l1, .ref l2, .ref l3, .int rel, .ref l4])), (l4, .inr (5, [.int x4, .ref (D.1 1000), .int 0])), (q2, .inl (cy3, (co * ro), .inl (fun _ => 0))), (q4, .inl (cy5, (co * ro), .inl (fun _ => 0))), (q6, .inl (cy7, (co * ro), .inl (fun _ => 0))), (q8, .inl (cy9, (co * ro), .inl (fa_fill (fun _ => 46) (fun _ => 0) (co * ro)))), (q10, .inl (cy11, (co * ro), .inl (fa_fill (fun _ => 46) (fun _ => 0) (co * ro)))), (l1, .inr (5, [.int (x1 + 1), .ref (D.1 1000), .int 0])), (l2, .inr (5, [.int (x2 + 1), .ref (D.1 1000), .int 0]))]) (va_runV (As := []) (rest := []) ⟨hx, hb, hml, hown, hts⟩ (c_alClear l hst D l3 x3 (D.1 1000) H.size) (cwV 0 hts (gi_c (List.mem_cons_of_mem _ (List.mem_append_left _ (List.mem_of_getElem? (i := 13) rfl))) rfl (gi_c (List.mem_cons_of_mem _ (List.mem_append_left _ (List.mem_of_getElem? (i := 14) rfl))) rfl (gi_c (List.mem_cons_of_mem _ (List.mem_append_left _ (List.mem_of_getElem? (i := 15) rfl))) rfl (gi_c (List.mem_cons_of_mem _ (List.mem_append_left _ (List.mem_of_getElem? (i := 16) rfl))) rfl (goodIn_sub hb_2 (List.all_eq_true.mpr gw_c_alClear)))))) rfl rfl rfl (by decide +kernel) ⟨Nat.le_of_ble_eq_true rfl, Nat.le_of_ble_eq_true rfl⟩) (pr_V (As := []) (b := l3) (C := RJx4a65c) hP hD hK hS hA hE [1] [] rfl rfl rfl 1 5 rfl rfl rfl) rfl rfl hl.1 rfl (lv_room (Nat.le_of_ble_eq_true rfl)) dX9_begins_85 ⟨Nat.le_of_ble_eq_true rfl, Nat.le_of_ble_eq_true rfl⟩) hP hD hK hS hA [1] [0, 2, 3, 4, 5, 6, 7, 8, 9] rfl rfl (by decide) (by decide) (fun _ H locs w20 hP hD hK hS => ?_)
  have hP : va_P D vwCl [(mo, .inr (16, [.int (nI co), .int (nI ro), .int th, .ref q2, .ref q4, .ref q6, .ref q8, .ref q10, .ref l1, .ref l2, .ref l3, .int rel, .ref l4])), (l4, .inr (5, [.int x4, .ref (D.1 1000), .int 0])), (q2, .inl (cy3, (co * ro), .inl (fun _ => 0))), (q4, .inl (cy5, (co * ro), .inl (fun _ => 0))), (q6, .inl (cy7, (co * ro), .inl (fun _ => 0))), (q8, .inl (cy9, (co * ro), .inl (fa_fill (fun _ => 46) (fun _ => 0) (co * ro)))), (q10, .inl (cy11, (co * ro), .inl (fa_fill (fun _ => 46) (fun _ => 0) (co * ro)))), (l1, .inr (5, [.int (x1 + 1), .ref (D.1 1000), .int 0])), (l2, .inr (5, [.int (x2 + 1), .ref (D.1 1000), .int 0])), (l3, .inr (5, [.int (x3 + 1), .ref (D.1 1000), .int 0]))] H := hP
  have hD : va_D A [(mo, .inr (16, [.int (nI co), .int (nI ro), .int th, .ref q2, .ref q4, .ref q6, .ref q8, .ref q10, .ref l1, .ref l2, .ref l3, .int rel, .ref l4])), (l4, .inr (5, [.int x4, .ref (D.1 1000), .int 0])), (q2, .inl (cy3, (co * ro), .inl (fun _ => 0))), (q4, .inl (cy5, (co * ro), .inl (fun _ => 0))), (q6, .inl (cy7, (co * ro), .inl (fun _ => 0))), (q8, .inl (cy9, (co * ro), .inl (fa_fill (fun _ => 46) (fun _ => 0) (co * ro)))), (q10, .inl (cy11, (co * ro), .inl (fa_fill (fun _ => 46) (fun _ => 0) (co * ro)))), (l1, .inr (5, [.int (x1 + 1), .ref (D.1 1000), .int 0])), (l2, .inr (5, [.int (x2 + 1), .ref (D.1 1000), .int 0])), (l3, .inr (5, [.int (x3 + 1), .ref (D.1 1000), .int 0]))] := hD
  have hK : va_K D vwCl [(cy3, .int), (cy5, .int), (cy7, .int), (cy9, .char), (cy11, .char)] s := hK
  refine lv_aload_n hx hb dX9_begins_88 rfl (lv_at hl 1 rfl) ?_
  refine va_get (D := D) (ci := 16) (v := .ref l4) (C := RX9) (T := TX9) (N := 13) hx hb hts hb_0 hown hK hP 0 rfl rfl 12 (by decide) hw_19 (fun _ h9 => h9) rfl dX9_begins_89 ?_
  refine mc_v (wr := [(mo, .inr (16, [.int (nI co), .int (nI ro), .int th, .ref q2, .ref q4, .ref q6, .ref q8, .ref q10, .ref l1, .ref l2, .ref l3, .int rel, .ref l4])), (q2, .inl (cy3, (co * ro), .inl (fun _ => 0))), (q4, .inl (cy5, (co * ro), .inl (fun _ => 0))), (q6, .inl (cy7, (co * ro), .inl (fun _ => 0))), (q8, .inl (cy9, (co * ro), .inl (fa_fill (fun _ => 46) (fun _ => 0) (co * ro)))), (q10, .inl (cy11, (co * ro), .inl (fa_fill (fun _ => 46) (fun _ => 0) (co * ro)))), (l1, .inr (5, [.int (x1 + 1), .ref (D.1 1000), .int 0])), (l2, .inr (5, [.int (x2 + 1), .ref (D.1 1000), .int 0])), (l3, .inr (5, [.int (x3 + 1), .ref (D.1 1000), .int 0]))]) (va_runV (As := []) (rest := []) ⟨hx, hb, hml, hown, hts⟩ (c_alClear l hst D l4 x4 (D.1 1000) H.size) (cwV 0 hts (gi_c (List.mem_cons_of_mem _ (List.mem_append_left _ (List.mem_of_getElem? (i := 13) rfl))) rfl (gi_c (List.mem_cons_of_mem _ (List.mem_append_left _ (List.mem_of_getElem? (i := 14) rfl))) rfl (gi_c (List.mem_cons_of_mem _ (List.mem_append_left _ (List.mem_of_getElem? (i := 15) rfl))) rfl (gi_c (List.mem_cons_of_mem _ (List.mem_append_left _ (List.mem_of_getElem? (i := 16) rfl))) rfl (goodIn_sub hb_2 (List.all_eq_true.mpr gw_c_alClear)))))) rfl rfl rfl (by decide +kernel) ⟨Nat.le_of_ble_eq_true rfl, Nat.le_of_ble_eq_true rfl⟩) (pr_V (As := []) (b := l4) (C := RJx4a65c) hP hD hK hS hA hE [1] [] rfl rfl rfl 1 5 rfl rfl rfl) rfl rfl hl.1 rfl (lv_room (Nat.le_of_ble_eq_true rfl)) dX9_begins_92 ⟨Nat.le_of_ble_eq_true rfl, Nat.le_of_ble_eq_true rfl⟩) hP hD hK hS hA [1] [0, 2, 3, 4, 5, 6, 7, 8, 9] rfl rfl (by decide) (by decide) (fun _ H locs w22 hP hD hK hS => ?_)
  have hP : va_P D vwCl [(mo, .inr (16, [.int (nI co), .int (nI ro), .int th, .ref q2, .ref q4, .ref q6, .ref q8, .ref q10, .ref l1, .ref l2, .ref l3, .int rel, .ref l4])), (q2, .inl (cy3, (co * ro), .inl (fun _ => 0))), (q4, .inl (cy5, (co * ro), .inl (fun _ => 0))), (q6, .inl (cy7, (co * ro), .inl (fun _ => 0))), (q8, .inl (cy9, (co * ro), .inl (fa_fill (fun _ => 46) (fun _ => 0) (co * ro)))), (q10, .inl (cy11, (co * ro), .inl (fa_fill (fun _ => 46) (fun _ => 0) (co * ro)))), (l1, .inr (5, [.int (x1 + 1), .ref (D.1 1000), .int 0])), (l2, .inr (5, [.int (x2 + 1), .ref (D.1 1000), .int 0])), (l3, .inr (5, [.int (x3 + 1), .ref (D.1 1000), .int 0])), (l4, .inr (5, [.int (x4 + 1), .ref (D.1 1000), .int 0]))] H := hP
  have hD : va_D A [(mo, .inr (16, [.int (nI co), .int (nI ro), .int th, .ref q2, .ref q4, .ref q6, .ref q8, .ref q10, .ref l1, .ref l2, .ref l3, .int rel, .ref l4])), (q2, .inl (cy3, (co * ro), .inl (fun _ => 0))), (q4, .inl (cy5, (co * ro), .inl (fun _ => 0))), (q6, .inl (cy7, (co * ro), .inl (fun _ => 0))), (q8, .inl (cy9, (co * ro), .inl (fa_fill (fun _ => 46) (fun _ => 0) (co * ro)))), (q10, .inl (cy11, (co * ro), .inl (fa_fill (fun _ => 46) (fun _ => 0) (co * ro)))), (l1, .inr (5, [.int (x1 + 1), .ref (D.1 1000), .int 0])), (l2, .inr (5, [.int (x2 + 1), .ref (D.1 1000), .int 0])), (l3, .inr (5, [.int (x3 + 1), .ref (D.1 1000), .int 0])), (l4, .inr (5, [.int (x4 + 1), .ref (D.1 1000), .int 0]))] := hD
  have hK : va_K D vwCl [(cy3, .int), (cy5, .int), (cy7, .int), (cy9, .char), (cy11, .char)] s := hK
  refine lv_aload_n hx hb dX9_begins_95 rfl (lv_at hl 1 rfl) ?_
  refine lv_iconst (v := -1) hx hb dX9_begins_96 (by decide) ?_
  refine va_put (D := D) (ci := 16) (v := .int (-1)) (ty := .int) (C := RX9) (T := TX9) (N := 13) hx hb hts hb_0 tyX9 tyX9_ok nmX9 hown hK hP hD hS 0 rfl rfl 11 (by decide) hw_20 (fun _ h9 => h9) rfl (by decide +kernel) rfl rfl (Nat.le_of_ble_eq_true rfl) dX9_begins_97 (fun H locs hP hD hS => ?_)
  have hP : va_P D vwCl [(mo, .inr (16, [.int (nI co), .int (nI ro), .int th, .ref q2, .ref q4, .ref q6, .ref q8, .ref q10, .ref l1, .ref l2, .ref l3, .int (-1), .ref l4])), (q2, .inl (cy3, (co * ro), .inl (fun _ => 0))), (q4, .inl (cy5, (co * ro), .inl (fun _ => 0))), (q6, .inl (cy7, (co * ro), .inl (fun _ => 0))), (q8, .inl (cy9, (co * ro), .inl (fa_fill (fun _ => 46) (fun _ => 0) (co * ro)))), (q10, .inl (cy11, (co * ro), .inl (fa_fill (fun _ => 46) (fun _ => 0) (co * ro)))), (l1, .inr (5, [.int (x1 + 1), .ref (D.1 1000), .int 0])), (l2, .inr (5, [.int (x2 + 1), .ref (D.1 1000), .int 0])), (l3, .inr (5, [.int (x3 + 1), .ref (D.1 1000), .int 0])), (l4, .inr (5, [.int (x4 + 1), .ref (D.1 1000), .int 0]))] H := hP
  have hD : va_D A [(mo, .inr (16, [.int (nI co), .int (nI ro), .int th, .ref q2, .ref q4, .ref q6, .ref q8, .ref q10, .ref l1, .ref l2, .ref l3, .int (-1), .ref l4])), (q2, .inl (cy3, (co * ro), .inl (fun _ => 0))), (q4, .inl (cy5, (co * ro), .inl (fun _ => 0))), (q6, .inl (cy7, (co * ro), .inl (fun _ => 0))), (q8, .inl (cy9, (co * ro), .inl (fa_fill (fun _ => 46) (fun _ => 0) (co * ro)))), (q10, .inl (cy11, (co * ro), .inl (fa_fill (fun _ => 46) (fun _ => 0) (co * ro)))), (l1, .inr (5, [.int (x1 + 1), .ref (D.1 1000), .int 0])), (l2, .inr (5, [.int (x2 + 1), .ref (D.1 1000), .int 0])), (l3, .inr (5, [.int (x3 + 1), .ref (D.1 1000), .int 0])), (l4, .inr (5, [.int (x4 + 1), .ref (D.1 1000), .int 0]))] := hD
  exact mr_v hx hb hr (fun k9 => [q2, q4, q6, q8, q10].getD k9 0, fun k9 => [cy3, cy5, cy7, cy9, cy11].getD k9 0) (trivial) (hP.sub [0, 1, 2, 3, 4, 5, 6, 7, 8, 9] rfl) (hK.sub [0, 1, 2, 3, 4] rfl) (hD.sub [0, 1, 2, 3, 4, 5, 6, 7, 8, 9] (by decide) rfl) hS (Nat.le_of_ble_eq_true rfl) (Nat.le_of_ble_eq_true rfl) hlocks dX9_begins_100

def us_c_X9_init : List Cond := .code yX9_init cX9_init 1 none :: (([.methodLink RX9 1 objectInit, .instanceMethod objectInit, .code objectInit ⟨#[0xb1]⟩ 1 none, .fieldLink RX9 7 "ControlWoodModel" "columns" "I", .fieldLink RX9 13 "ControlWoodModel" "rows" "I", .fieldLink RX9 16 "ControlWoodModel" "thrown" "I", .arrayClass .int, .fieldLink RX9 19 "ControlWoodModel" "growth" "[I", .fieldLink RX9 23 "ControlWoodModel" "height" "[I", .fieldLink RX9 26 "ControlWoodModel" "shown" "[I", .arrayClass .char, .fieldLink RX9 29 "ControlWoodModel" "kind" "[C", .fieldLink RX9 33 "ControlWoodModel" "shownKind" "[C", .classLink RX9 36 RJx4a65c, .instantiable RJx4a65c 3, .initialized RJx4a65c, .methodLink RX9 38 yJx4a65c_init_da8c8, .instanceMethod yJx4a65c_init_da8c8, .fieldLink RX9 39 "ControlWoodModel" "controls" "Ljava/util/ArrayList;", .fieldLink RX9 43 "ControlWoodModel" "courses" "Ljava/util/ArrayList;", .fieldLink RX9 46 "ControlWoodModel" "runners" "Ljava/util/ArrayList;", .fieldLink RX9 49 "ControlWoodModel" "relay" "I", .fieldLink RX9 52 "ControlWoodModel" "teams" "Ljava/util/ArrayList;", .methodLink RX9 55 yX9_begins, .instanceMethod yX9_begins, .selects RX9 yX9_begins yX9_begins, .initialized RX9] : List Cond) ++ (wsX90 ++ (wsJx4a65c0 ++ (us_c_alInit ++ (us_c_begins ++ ([]))))))
theorem gw_c_X9_init : ∀ w ∈ us_c_X9_init, goodWord w = true := gw_cons rfl (gw_app (by decide +kernel) (gw_app gwf_X9 (gw_app gwf_Jx4a65c (gw_app gw_c_alInit (gw_app gw_c_begins (fun _ h => nomatch h))))))
set_option maxHeartbeats 4000000 in
set_option maxRecDepth 100000 in
/-- a new reference object -/
theorem c_X9_init (l : Launch) (hst : l.stackTraces = false) (D : va_G) (mo : Nat) (sz : Nat) : Met l yX9_init us_c_X9_init { frames := 4, cells := 14, slots := 857, locals := 75 } (pw D [.ref mo] [] [(mo, .inr (16, [.int 0, .int 0, .int 0, .null, .null, .null, .null, .null, .null, .null, .null, .int 0, .null]))] sz) (va_Qv (fun _ : ((Nat → Nat) × (Nat → ClassId)) => True) (qb D (va_A [(mo, .inr (16, [.int 0, .int 0, .int 0, .null, .null, .null, .null, .null, .null, .null, .null, .int 0, .null]))] sz) (fun u : ((Nat → Nat) × (Nat → ClassId)) => [(mo, .inr (16, [.int 5, .int 5, .int 0, .ref (u.1 0), .ref (u.1 1), .ref (u.1 2), .ref (u.1 3), .ref (u.1 4), .ref (u.1 5), .ref (u.1 6), .ref (u.1 7), .int (-1), .ref (u.1 8)])), (u.1 0, .inl (u.2 0, 25, .inl (fun _ => 0))), (u.1 1, .inl (u.2 1, 25, .inl (fun _ => 0))), (u.1 2, .inl (u.2 2, 25, .inl (fun _ => 0))), (u.1 3, .inl (u.2 3, 25, .inl fK5)), (u.1 4, .inl (u.2 4, 25, .inl fK5)), (u.1 5, .inr (5, [.int 1, .ref (D.1 1000), .int 0])), (u.1 6, .inr (5, [.int 1, .ref (D.1 1000), .int 0])), (u.1 7, .inr (5, [.int 1, .ref (D.1 1000), .int 0])), (u.1 8, .inr (5, [.int 1, .ref (D.1 1000), .int 0]))]) (fun u : ((Nat → Nat) × (Nat → ClassId)) => ([(u.2 0, .int), (u.2 1, .int), (u.2 2, .int), (u.2 3, .char), (u.2 4, .char)] : List (ClassId × FieldType)))) (va_A [(mo, .inr (16, [.int 0, .int 0, .int 0, .null, .null, .null, .null, .null, .null, .null, .null, .int 0, .null]))] sz)) 14 857 (va_A [(mo, .inr (16, [.int 0, .int 0, .int 0, .null, .null, .null, .null, .null, .null, .null, .null, .int 0, .null]))] sz) := by
  refine op_M (Qc := fun A => (va_Qv (fun _ : ((Nat → Nat) × (Nat → ClassId)) => True) (qb D A (fun u : ((Nat → Nat) × (Nat → ClassId)) => [(mo, .inr (16, [.int 5, .int 5, .int 0, .ref (u.1 0), .ref (u.1 1), .ref (u.1 2), .ref (u.1 3), .ref (u.1 4), .ref (u.1 5), .ref (u.1 6), .ref (u.1 7), .int (-1), .ref (u.1 8)])), (u.1 0, .inl (u.2 0, 25, .inl (fun _ => 0))), (u.1 1, .inl (u.2 1, 25, .inl (fun _ => 0))), (u.1 2, .inl (u.2 2, 25, .inl (fun _ => 0))), (u.1 3, .inl (u.2 3, 25, .inl fK5)), (u.1 4, .inl (u.2 4, 25, .inl fK5)), (u.1 5, .inr (5, [.int 1, .ref (D.1 1000), .int 0])), (u.1 6, .inr (5, [.int 1, .ref (D.1 1000), .int 0])), (u.1 7, .inr (5, [.int 1, .ref (D.1 1000), .int 0])), (u.1 8, .inr (5, [.int 1, .ref (D.1 1000), .int 0]))]) (fun u : ((Nat → Nat) × (Nat → ClassId)) => ([(u.2 0, .int), (u.2 1, .int), (u.2 2, .int), (u.2 3, .char), (u.2 4, .char)] : List (ClassId × FieldType)))) A)) (by decide +kernel) rfl (Nat.le_of_ble_eq_true rfl) ?_
  intro p e s m args below meth c A ls hx hb hr hml hts hown hlocks hmn htab hA hD hS hP hK hE hsz hl
  have hown : s.vm.findClass RX9 = some m.cls := hown
  have hl : lv_has ls 1 [(0, .ref mo)] := hl
  have hw_0 := hts (.methodLink RX9 1 objectInit) (List.mem_cons_of_mem _ (List.mem_append_left _ (List.mem_of_getElem? (i := 0) rfl)))
  have hw_1 := hts (.instanceMethod objectInit) (List.mem_cons_of_mem _ (List.mem_append_left _ (List.mem_of_getElem? (i := 1) rfl)))
  have hw_2 := hts (.code objectInit ⟨#[0xb1]⟩ 1 none) (List.mem_cons_of_mem _ (List.mem_append_left _ (List.mem_of_getElem? (i := 2) rfl)))
  have hw_3 := hts (.fieldLink RX9 7 "ControlWoodModel" "columns" "I") (List.mem_cons_of_mem _ (List.mem_append_left _ (List.mem_of_getElem? (i := 3) rfl)))
  have hw_4 := hts (.fieldLink RX9 13 "ControlWoodModel" "rows" "I") (List.mem_cons_of_mem _ (List.mem_append_left _ (List.mem_of_getElem? (i := 4) rfl)))
  have hw_5 := hts (.fieldLink RX9 16 "ControlWoodModel" "thrown" "I") (List.mem_cons_of_mem _ (List.mem_append_left _ (List.mem_of_getElem? (i := 5) rfl)))
  have hw_6 := hts (.arrayClass .int) (List.mem_cons_of_mem _ (List.mem_append_left _ (List.mem_of_getElem? (i := 6) rfl)))
  have hw_7 := hts (.fieldLink RX9 19 "ControlWoodModel" "growth" "[I") (List.mem_cons_of_mem _ (List.mem_append_left _ (List.mem_of_getElem? (i := 7) rfl)))
  have hw_8 := hts (.fieldLink RX9 23 "ControlWoodModel" "height" "[I") (List.mem_cons_of_mem _ (List.mem_append_left _ (List.mem_of_getElem? (i := 8) rfl)))
  have hw_9 := hts (.fieldLink RX9 26 "ControlWoodModel" "shown" "[I") (List.mem_cons_of_mem _ (List.mem_append_left _ (List.mem_of_getElem? (i := 9) rfl)))
  have hw_10 := hts (.arrayClass .char) (List.mem_cons_of_mem _ (List.mem_append_left _ (List.mem_of_getElem? (i := 10) rfl)))
  have hw_11 := hts (.fieldLink RX9 29 "ControlWoodModel" "kind" "[C") (List.mem_cons_of_mem _ (List.mem_append_left _ (List.mem_of_getElem? (i := 11) rfl)))
  have hw_12 := hts (.fieldLink RX9 33 "ControlWoodModel" "shownKind" "[C") (List.mem_cons_of_mem _ (List.mem_append_left _ (List.mem_of_getElem? (i := 12) rfl)))
  have hw_13 := hts (.classLink RX9 36 RJx4a65c) (List.mem_cons_of_mem _ (List.mem_append_left _ (List.mem_of_getElem? (i := 13) rfl)))
  have hw_14 := hts (.instantiable RJx4a65c 3) (List.mem_cons_of_mem _ (List.mem_append_left _ (List.mem_of_getElem? (i := 14) rfl)))
  have hw_15 := hts (.initialized RJx4a65c) (List.mem_cons_of_mem _ (List.mem_append_left _ (List.mem_of_getElem? (i := 15) rfl)))
  have hw_16 := hts (.methodLink RX9 38 yJx4a65c_init_da8c8) (List.mem_cons_of_mem _ (List.mem_append_left _ (List.mem_of_getElem? (i := 16) rfl)))
  have hw_17 := hts (.instanceMethod yJx4a65c_init_da8c8) (List.mem_cons_of_mem _ (List.mem_append_left _ (List.mem_of_getElem? (i := 17) rfl)))
  have hw_18 := hts (.fieldLink RX9 39 "ControlWoodModel" "controls" "Ljava/util/ArrayList;") (List.mem_cons_of_mem _ (List.mem_append_left _ (List.mem_of_getElem? (i := 18) rfl)))
  have hw_19 := hts (.fieldLink RX9 43 "ControlWoodModel" "courses" "Ljava/util/ArrayList;") (List.mem_cons_of_mem _ (List.mem_append_left _ (List.mem_of_getElem? (i := 19) rfl)))
  have hw_20 := hts (.fieldLink RX9 46 "ControlWoodModel" "runners" "Ljava/util/ArrayList;") (List.mem_cons_of_mem _ (List.mem_append_left _ (List.mem_of_getElem? (i := 20) rfl)))
  have hw_21 := hts (.fieldLink RX9 49 "ControlWoodModel" "relay" "I") (List.mem_cons_of_mem _ (List.mem_append_left _ (List.mem_of_getElem? (i := 21) rfl)))
  have hw_22 := hts (.fieldLink RX9 52 "ControlWoodModel" "teams" "Ljava/util/ArrayList;") (List.mem_cons_of_mem _ (List.mem_append_left _ (List.mem_of_getElem? (i := 22) rfl)))
  have hw_23 := hts (.methodLink RX9 55 yX9_begins) (List.mem_cons_of_mem _ (List.mem_append_left _ (List.mem_of_getElem? (i := 23) rfl)))
  have hw_24 := hts (.instanceMethod yX9_begins) (List.mem_cons_of_mem _ (List.mem_append_left _ (List.mem_of_getElem? (i := 24) rfl)))
  have hw_25 := hts (.selects RX9 yX9_begins yX9_begins) (List.mem_cons_of_mem _ (List.mem_append_left _ (List.mem_of_getElem? (i := 25) rfl)))
  have hw_26 := hts (.initialized RX9) (List.mem_cons_of_mem _ (List.mem_append_left _ (List.mem_of_getElem? (i := 26) rfl)))
  have hb_0 : ∀ w ∈ wsX90, w ∈ us_c_X9_init := fun w h => List.mem_cons_of_mem _ (List.mem_append_right _ (List.mem_append_left _ h))
  have hb_1 : ∀ w ∈ wsJx4a65c0, w ∈ us_c_X9_init := fun w h => List.mem_cons_of_mem _ (List.mem_append_right _ (List.mem_append_right _ (List.mem_append_left _ h)))
  have hb_2 : ∀ w ∈ us_c_alInit, w ∈ us_c_X9_init := fun w h => List.mem_cons_of_mem _ (List.mem_append_right _ (List.mem_append_right _ (List.mem_append_right _ (List.mem_append_left _ h))))
  have hb_3 : ∀ w ∈ us_c_begins, w ∈ us_c_X9_init := fun w h => List.mem_cons_of_mem _ (List.mem_append_right _ (List.mem_append_right _ (List.mem_append_right _ (List.mem_append_right _ (List.mem_append_left _ h)))))
  refine lv_aload_n hx hb dX9_init_0 rfl (lv_at hl 0 rfl) ?_
  refine W.objInit hx hb hown hw_0 hw_1 hw_2 rfl (by rw [hml]; exact hl.1) rfl dX9_init_1 (Nat.le_of_ble_eq_true rfl) (Nat.le_of_ble_eq_true rfl) ?_
  refine W.eq (g2 := F0 m 4 ls []) rfl ?_
  refine lv_aload_n hx hb dX9_init_4 rfl (lv_at hl 0 rfl) ?_
  refine lv_iconst (v := 5) hx hb dX9_init_5 (by decide) ?_
  refine va_put (D := D) (ci := 16) (v := .int 5) (ty := .int) (C := RX9) (T := TX9) (N := 13) hx hb hts hb_0 tyX9 tyX9_ok nmX9 hown hK hP hD hS 0 rfl rfl 0 (by decide) hw_3 (fun _ h9 => h9) rfl (by decide +kernel) rfl rfl (Nat.le_of_ble_eq_true rfl) dX9_init_6 (fun H locs hP hD hS => ?_)
  have hP : va_P D vwCl [(mo, .inr (16, [.int 5, .int 0, .int 0, .null, .null, .null, .null, .null, .null, .null, .null, .int 0, .null]))] H := hP
  have hD : va_D A [(mo, .inr (16, [.int 5, .int 0, .int 0, .null, .null, .null, .null, .null, .null, .null, .null, .int 0, .null]))] := hD
  refine lv_aload_n hx hb dX9_init_9 rfl (lv_at hl 0 rfl) ?_
  refine lv_iconst (v := 5) hx hb dX9_init_10 (by decide) ?_
  refine va_put (D := D) (ci := 16) (v := .int 5) (ty := .int) (C := RX9) (T := TX9) (N := 13) hx hb hts hb_0 tyX9 tyX9_ok nmX9 hown hK hP hD hS 0 rfl rfl 1 (by decide) hw_4 (fun _ h9 => h9) rfl (by decide +kernel) rfl rfl (Nat.le_of_ble_eq_true rfl) dX9_init_11 (fun H locs hP hD hS => ?_)
  have hP : va_P D vwCl [(mo, .inr (16, [.int 5, .int 5, .int 0, .null, .null, .null, .null, .null, .null, .null, .null, .int 0, .null]))] H := hP
  have hD : va_D A [(mo, .inr (16, [.int 5, .int 5, .int 0, .null, .null, .null, .null, .null, .null, .null, .null, .int 0, .null]))] := hD
  refine lv_aload_n hx hb dX9_init_14 rfl (lv_at hl 0 rfl) ?_
  refine lv_iconst (v := 0) hx hb dX9_init_15 (by decide) ?_
  refine va_put (D := D) (ci := 16) (v := .int 0) (ty := .int) (C := RX9) (T := TX9) (N := 13) hx hb hts hb_0 tyX9 tyX9_ok nmX9 hown hK hP hD hS 0 rfl rfl 2 (by decide) hw_5 (fun _ h9 => h9) rfl (by decide +kernel) rfl rfl (Nat.le_of_ble_eq_true rfl) dX9_init_16 (fun H locs hP hD hS => ?_)
  have hP : va_P D vwCl [(mo, .inr (16, [.int 5, .int 5, .int 0, .null, .null, .null, .null, .null, .null, .null, .null, .int 0, .null]))] H := hP
  have hD : va_D A [(mo, .inr (16, [.int 5, .int 5, .int 0, .null, .null, .null, .null, .null, .null, .null, .null, .int 0, .null]))] := hD
  refine lv_aload_n hx hb dX9_init_19 rfl (lv_at hl 0 rfl) ?_
  refine lv_bipush (v := 25) hx hb dX9_init_20 (by decide) ?_
  refine va_newa (atype := .int) (ty := .int) (a0 := (25, .inl (fun _ => 0))) hx hb hw_6 rfl hK hP hD hS hA (N' := 25) (fun _ => rfl) (by decide) (by decide) (Nat.le_of_ble_eq_true rfl) (Nat.le_of_ble_eq_true rfl) (Nat.le_of_ble_eq_true rfl) dX9_init_22 (fun q1 cy2 H hK hP hD hS => ?_)
  have hK : va_K D vwCl [(cy2, .int)] s := hK
  have hP : va_P D vwCl [(mo, .inr (16, [.int 5, .int 5, .int 0, .null, .null, .null, .null, .null, .null, .null, .null, .int 0, .null])), (q1, .inl (cy2, 25, .inl (fun _ => 0)))] H := hP
  have hD : va_D A [(mo, .inr (16, [.int 5, .int 5, .int 0, .null, .null, .null, .null, .null, .null, .null, .null, .int 0, .null])), (q1, .inl (cy2, 25, .inl (fun _ => 0)))] := hD
  refine W.widen (k := 1) (n := 25) (Nat.le_of_ble_eq_true rfl) (Nat.le_of_ble_eq_true rfl) ?_
  refine va_put (D := D) (ci := 16) (v := .ref q1) (ty := (.array .int)) (C := RX9) (T := TX9) (N := 13) hx hb hts hb_0 tyX9 tyX9_ok nmX9 hown hK hP hD hS 0 rfl rfl 3 (by decide) hw_7 (fun _ h9 => h9) rfl (by decide +kernel) rfl rfl (Nat.le_of_ble_eq_true rfl) dX9_init_24 (fun H locs hP hD hS => ?_)
  have hP : va_P D vwCl [(mo, .inr (16, [.int 5, .int 5, .int 0, .ref q1, .null, .null, .null, .null, .null, .null, .null, .int 0, .null])), (q1, .inl (cy2, 25, .inl (fun _ => 0)))] H := hP
  have hD : va_D A [(mo, .inr (16, [.int 5, .int 5, .int 0, .ref q1, .null, .null, .null, .null, .null, .null, .null, .int 0, .null])), (q1, .inl (cy2, 25, .inl (fun _ => 0)))] := hD
  refine lv_aload_n hx hb dX9_init_27 rfl (lv_at hl 0 rfl) ?_
  refine lv_bipush (v := 25) hx hb dX9_init_28 (by decide) ?_
  refine va_newa (atype := .int) (ty := .int) (a0 := (25, .inl (fun _ => 0))) hx hb hw_6 rfl hK hP hD hS hA (N' := 25) (fun _ => rfl) (by decide) (by decide) (Nat.le_of_ble_eq_true rfl) (Nat.le_of_ble_eq_true rfl) (Nat.le_of_ble_eq_true rfl) dX9_init_30 (fun q3 cy4 H hK hP hD hS => ?_)
  have hK : va_K D vwCl [(cy2, .int), (cy4, .int)] s := hK
  have hP : va_P D vwCl [(mo, .inr (16, [.int 5, .int 5, .int 0, .ref q1, .null, .null, .null, .null, .null, .null, .null, .int 0, .null])), (q1, .inl (cy2, 25, .inl (fun _ => 0))), (q3, .inl (cy4, 25, .inl (fun _ => 0)))] H := hP
  have hD : va_D A [(mo, .inr (16, [.int 5, .int 5, .int 0, .ref q1, .null, .null, .null, .null, .null, .null, .null, .int 0, .null])), (q1, .inl (cy2, 25, .inl (fun _ => 0))), (q3, .inl (cy4, 25, .inl (fun _ => 0)))] := hD
  refine W.widen (k := 2) (n := 50) (Nat.le_of_ble_eq_true rfl) (Nat.le_of_ble_eq_true rfl) ?_
  refine va_put (D := D) (ci := 16) (v := .ref q3) (ty := (.array .int)) (C := RX9) (T := TX9) (N := 13) hx hb hts hb_0 tyX9 tyX9_ok nmX9 hown hK hP hD hS 0 rfl rfl 4 (by decide) hw_8 (fun _ h9 => h9) rfl (by decide +kernel) rfl rfl (Nat.le_of_ble_eq_true rfl) dX9_init_32 (fun H locs hP hD hS => ?_)
  have hP : va_P D vwCl [(mo, .inr (16, [.int 5, .int 5, .int 0, .ref q1, .ref q3, .null, .null, .null, .null, .null, .null, .int 0, .null])), (q1, .inl (cy2, 25, .inl (fun _ => 0))), (q3, .inl (cy4, 25, .inl (fun _ => 0)))] H := hP
  have hD : va_D A [(mo, .inr (16, [.int 5, .int 5, .int 0, .ref q1, .ref q3, .null, .null, .null, .null, .null, .null, .int 0, .null])), (q1, .inl (cy2, 25, .inl (fun _ => 0))), (q3, .inl (cy4, 25, .inl (fun _ => 0)))] := hD
  refine lv_aload_n hx hb dX9_init_35 rfl (lv_at hl 0 rfl) ?_
  refine lv_bipush (v := 25) hx hb dX9_init_36 (by decide) ?_
  refine va_newa (atype := .int) (ty := .int) (a0 := (25, .inl (fun _ => 0))) hx hb hw_6 rfl hK hP hD hS hA (N' := 25) (fun _ => rfl) (by decide) (by decide) (Nat.le_of_ble_eq_true rfl) (Nat.le_of_ble_eq_true rfl) (Nat.le_of_ble_eq_true rfl) dX9_init_38 (fun q5 cy6 H hK hP hD hS => ?_)
  have hK : va_K D vwCl [(cy2, .int), (cy4, .int), (cy6, .int)] s := hK
  have hP : va_P D vwCl [(mo, .inr (16, [.int 5, .int 5, .int 0, .ref q1, .ref q3, .null, .null, .null, .null, .null, .null, .int 0, .null])), (q1, .inl (cy2, 25, .inl (fun _ => 0))), (q3, .inl (cy4, 25, .inl (fun _ => 0))), (q5, .inl (cy6, 25, .inl (fun _ => 0)))] H := hP
  have hD : va_D A [(mo, .inr (16, [.int 5, .int 5, .int 0, .ref q1, .ref q3, .null, .null, .null, .null, .null, .null, .int 0, .null])), (q1, .inl (cy2, 25, .inl (fun _ => 0))), (q3, .inl (cy4, 25, .inl (fun _ => 0))), (q5, .inl (cy6, 25, .inl (fun _ => 0)))] := hD
  refine W.widen (k := 3) (n := 75) (Nat.le_of_ble_eq_true rfl) (Nat.le_of_ble_eq_true rfl) ?_
  refine va_put (D := D) (ci := 16) (v := .ref q5) (ty := (.array .int)) (C := RX9) (T := TX9) (N := 13) hx hb hts hb_0 tyX9 tyX9_ok nmX9 hown hK hP hD hS 0 rfl rfl 5 (by decide) hw_9 (fun _ h9 => h9) rfl (by decide +kernel) rfl rfl (Nat.le_of_ble_eq_true rfl) dX9_init_40 (fun H locs hP hD hS => ?_)
  have hP : va_P D vwCl [(mo, .inr (16, [.int 5, .int 5, .int 0, .ref q1, .ref q3, .ref q5, .null, .null, .null, .null, .null, .int 0, .null])), (q1, .inl (cy2, 25, .inl (fun _ => 0))), (q3, .inl (cy4, 25, .inl (fun _ => 0))), (q5, .inl (cy6, 25, .inl (fun _ => 0)))] H := hP
  have hD : va_D A [(mo, .inr (16, [.int 5, .int 5, .int 0, .ref q1, .ref q3, .ref q5, .null, .null, .null, .null, .null, .int 0, .null])), (q1, .inl (cy2, 25, .inl (fun _ => 0))), (q3, .inl (cy4, 25, .inl (fun _ => 0))), (q5, .inl (cy6, 25, .inl (fun _ => 0)))] := hD
  refine lv_aload_n hx hb dX9_init_43 rfl (lv_at hl 0 rfl) ?_
  refine lv_bipush (v := 25) hx hb dX9_init_44 (by decide) ?_
  refine va_newa (atype := .char) (ty := .char) (a0 := (25, .inl (fun _ => 0))) hx hb hw_10 rfl hK hP hD hS hA (N' := 25) (fun _ => rfl) (by decide) (by decide) (Nat.le_of_ble_eq_true rfl) (Nat.le_of_ble_eq_true rfl) (Nat.le_of_ble_eq_true rfl) dX9_init_46 (fun q7 cy8 H hK hP hD hS => ?_)
  have hK : va_K D vwCl [(cy2, .int), (cy4, .int), (cy6, .int), (cy8, .char)] s := hK
  have hP : va_P D vwCl [(mo, .inr (16, [.int 5, .int 5, .int 0, .ref q1, .ref q3, .ref q5, .null, .null, .null, .null, .null, .int 0, .null])), (q1, .inl (cy2, 25, .inl (fun _ => 0))), (q3, .inl (cy4, 25, .inl (fun _ => 0))), (q5, .inl (cy6, 25, .inl (fun _ => 0))), (q7, .inl (cy8, 25, .inl (fun _ => 0)))] H := hP
  have hD : va_D A [(mo, .inr (16, [.int 5, .int 5, .int 0, .ref q1, .ref q3, .ref q5, .null, .null, .null, .null, .null, .int 0, .null])), (q1, .inl (cy2, 25, .inl (fun _ => 0))), (q3, .inl (cy4, 25, .inl (fun _ => 0))), (q5, .inl (cy6, 25, .inl (fun _ => 0))), (q7, .inl (cy8, 25, .inl (fun _ => 0)))] := hD
  refine W.widen (k := 4) (n := 100) (Nat.le_of_ble_eq_true rfl) (Nat.le_of_ble_eq_true rfl) ?_
  refine va_put (D := D) (ci := 16) (v := .ref q7) (ty := (.array .char)) (C := RX9) (T := TX9) (N := 13) hx hb hts hb_0 tyX9 tyX9_ok nmX9 hown hK hP hD hS 0 rfl rfl 6 (by decide) hw_11 (fun _ h9 => h9) rfl (by decide +kernel) rfl rfl (Nat.le_of_ble_eq_true rfl) dX9_init_48 (fun H locs hP hD hS => ?_)
  have hP : va_P D vwCl [(mo, .inr (16, [.int 5, .int 5, .int 0, .ref q1, .ref q3, .ref q5, .ref q7, .null, .null, .null, .null, .int 0, .null])), (q1, .inl (cy2, 25, .inl (fun _ => 0))), (q3, .inl (cy4, 25, .inl (fun _ => 0))), (q5, .inl (cy6, 25, .inl (fun _ => 0))), (q7, .inl (cy8, 25, .inl (fun _ => 0)))] H := hP
  have hD : va_D A [(mo, .inr (16, [.int 5, .int 5, .int 0, .ref q1, .ref q3, .ref q5, .ref q7, .null, .null, .null, .null, .int 0, .null])), (q1, .inl (cy2, 25, .inl (fun _ => 0))), (q3, .inl (cy4, 25, .inl (fun _ => 0))), (q5, .inl (cy6, 25, .inl (fun _ => 0))), (q7, .inl (cy8, 25, .inl (fun _ => 0)))] := hD
  refine lv_aload_n hx hb dX9_init_51 rfl (lv_at hl 0 rfl) ?_
  refine lv_bipush (v := 25) hx hb dX9_init_52 (by decide) ?_
  refine va_newa (atype := .char) (ty := .char) (a0 := (25, .inl (fun _ => 0))) hx hb hw_10 rfl hK hP hD hS hA (N' := 25) (fun _ => rfl) (by decide) (by decide) (Nat.le_of_ble_eq_true rfl) (Nat.le_of_ble_eq_true rfl) (Nat.le_of_ble_eq_true rfl) dX9_init_54 (fun q9 cy10 H hK hP hD hS => ?_)
  have hK : va_K D vwCl [(cy2, .int), (cy4, .int), (cy6, .int), (cy8, .char), (cy10, .char)] s := hK
  have hP : va_P D vwCl [(mo, .inr (16, [.int 5, .int 5, .int 0, .ref q1, .ref q3, .ref q5, .ref q7, .null, .null, .null, .null, .int 0, .null])), (q1, .inl (cy2, 25, .inl (fun _ => 0))), (q3, .inl (cy4, 25, .inl (fun _ => 0))), (q5, .inl (cy6, 25, .inl (fun _ => 0))), (q7, .inl (cy8, 25, .inl (fun _ => 0))), (q9, .inl (cy10, 25, .inl (fun _ => 0)))] H := hP
  have hD : va_D A [(mo, .inr (16, [.int 5, .int 5, .int 0, .ref q1, .ref q3, .ref q5, .ref q7, .null, .null, .null, .null, .int 0, .null])), (q1, .inl (cy2, 25, .inl (fun _ => 0))), (q3, .inl (cy4, 25, .inl (fun _ => 0))), (q5, .inl (cy6, 25, .inl (fun _ => 0))), (q7, .inl (cy8, 25, .inl (fun _ => 0))), (q9, .inl (cy10, 25, .inl (fun _ => 0)))] := hD
  refine W.widen (k := 5) (n := 125) (Nat.le_of_ble_eq_true rfl) (Nat.le_of_ble_eq_true rfl) ?_
  refine va_put (D := D) (ci := 16) (v := .ref q9) (ty := (.array .char)) (C := RX9) (T := TX9) (N := 13) hx hb hts hb_0 tyX9 tyX9_ok nmX9 hown hK hP hD hS 0 rfl rfl 7 (by decide) hw_12 (fun _ h9 => h9) rfl (by decide +kernel) rfl rfl (Nat.le_of_ble_eq_true rfl) dX9_init_56 (fun H locs hP hD hS => ?_)
  have hP : va_P D vwCl [(mo, .inr (16, [.int 5, .int 5, .int 0, .ref q1, .ref q3, .ref q5, .ref q7, .ref q9, .null, .null, .null, .int 0, .null])), (q1, .inl (cy2, 25, .inl (fun _ => 0))), (q3, .inl (cy4, 25, .inl (fun _ => 0))), (q5, .inl (cy6, 25, .inl (fun _ => 0))), (q7, .inl (cy8, 25, .inl (fun _ => 0))), (q9, .inl (cy10, 25, .inl (fun _ => 0)))] H := hP
  have hD : va_D A [(mo, .inr (16, [.int 5, .int 5, .int 0, .ref q1, .ref q3, .ref q5, .ref q7, .ref q9, .null, .null, .null, .int 0, .null])), (q1, .inl (cy2, 25, .inl (fun _ => 0))), (q3, .inl (cy4, 25, .inl (fun _ => 0))), (q5, .inl (cy6, 25, .inl (fun _ => 0))), (q7, .inl (cy8, 25, .inl (fun _ => 0))), (q9, .inl (cy10, 25, .inl (fun _ => 0)))] := hD
  refine lv_aload_n hx hb dX9_init_59 rfl (lv_at hl 0 rfl) ?_
  refine va_new (ci := 5) (fs := [.int 0, .null, .int 0]) (C := RJx4a65c) (T := TJx4a65c) (N := 3) hx hb hts hb_1 tyJx4a65c tyJx4a65c_ok hown hw_13 hw_14 hw_15 hK hP hD hS hA rfl (by decide +kernel) (Nat.le_of_ble_eq_true rfl) (Nat.le_of_ble_eq_true rfl) dX9_init_60 (fun q11 H hP hD hS => ?_)
  have hP : va_P D vwCl [(mo, .inr (16, [.int 5, .int 5, .int 0, .ref q1, .ref q3, .ref q5, .ref q7, .ref q9, .null, .null, .null, .int 0, .null])), (q1, .inl (cy2, 25, .inl (fun _ => 0))), (q3, .inl (cy4, 25, .inl (fun _ => 0))), (q5, .inl (cy6, 25, .inl (fun _ => 0))), (q7, .inl (cy8, 25, .inl (fun _ => 0))), (q9, .inl (cy10, 25, .inl (fun _ => 0))), (q11, .inr (5, [.int 0, .null, .int 0]))] H := hP
  have hD : va_D A [(mo, .inr (16, [.int 5, .int 5, .int 0, .ref q1, .ref q3, .ref q5, .ref q7, .ref q9, .null, .null, .null, .int 0, .null])), (q1, .inl (cy2, 25, .inl (fun _ => 0))), (q3, .inl (cy4, 25, .inl (fun _ => 0))), (q5, .inl (cy6, 25, .inl (fun _ => 0))), (q7, .inl (cy8, 25, .inl (fun _ => 0))), (q9, .inl (cy10, 25, .inl (fun _ => 0))), (q11, .inr (5, [.int 0, .null, .int 0]))] := hD
  refine W.widen (k := 6) (n := 128) (Nat.le_of_ble_eq_true rfl) (Nat.le_of_ble_eq_true rfl) ?_
  refine lv_dup hx hb dX9_init_63 rfl ?_
  refine mc_v (wr := [(mo, .inr (16, [.int 5, .int 5, .int 0, .ref q1, .ref q3, .ref q5, .ref q7, .ref q9, .null, .null, .null, .int 0, .null])), (q1, .inl (cy2, 25, .inl (fun _ => 0))), (q3, .inl (cy4, 25, .inl (fun _ => 0))), (q5, .inl (cy6, 25, .inl (fun _ => 0))), (q7, .inl (cy8, 25, .inl (fun _ => 0))), (q9, .inl (cy10, 25, .inl (fun _ => 0)))]) (va_runI (As := []) (rest := [.ref q11, .ref mo]) ⟨hx, hb, hml, hown, hts⟩ (c_alInit l hst D q11 0 0 H.size) (cwI 0 hts (goodIn_sub hb_2 (List.all_eq_true.mpr gw_c_alInit)) rfl rfl rfl hw_15 hw_16 hw_17 rfl (by decide +kernel) ⟨Nat.le_of_ble_eq_true rfl, Nat.le_of_ble_eq_true rfl⟩) (pr_S (As := [.ref q11]) hP hD hK hS hA hE [6] [] rfl rfl rfl) rfl rfl hl.1 rfl (lv_room (Nat.le_of_ble_eq_true rfl)) dX9_init_64 ⟨Nat.le_of_ble_eq_true rfl, Nat.le_of_ble_eq_true rfl⟩) hP hD hK hS hA [6] [0, 1, 2, 3, 4, 5] rfl rfl (by decide) (by decide) (fun _ H locs w12 hP hD hK hS => ?_)
  have hP : va_P D vwCl [(mo, .inr (16, [.int 5, .int 5, .int 0, .ref q1, .ref q3, .ref q5, .ref q7, .ref q9, .null, .null, .null, .int 0, .null])), (q1, .inl (cy2, 25, .inl (fun _ => 0))), (q3, .inl (cy4, 25, .inl (fun _ => 0))), (q5, .inl (cy6, 25, .inl (fun _ => 0))), (q7, .inl (cy8, 25, .inl (fun _ => 0))), (q9, .inl (cy10, 25, .inl (fun _ => 0))), (q11, .inr (5, [.int 0, .ref (D.1 1000), .int 0]))] H := hP
  have hD : va_D A [(mo, .inr (16, [.int 5, .int 5, .int 0, .ref q1, .ref q3, .ref q5, .ref q7, .ref q9, .null, .null, .null, .int 0, .null])), (q1, .inl (cy2, 25, .inl (fun _ => 0))), (q3, .inl (cy4, 25, .inl (fun _ => 0))), (q5, .inl (cy6, 25, .inl (fun _ => 0))), (q7, .inl (cy8, 25, .inl (fun _ => 0))), (q9, .inl (cy10, 25, .inl (fun _ => 0))), (q11, .inr (5, [.int 0, .ref (D.1 1000), .int 0]))] := hD
  have hK : va_K D vwCl [(cy2, .int), (cy4, .int), (cy6, .int), (cy8, .char), (cy10, .char)] s := hK
  refine va_putF (D := D) (ci := 16) (v := .ref q11) (ty := (.object "java/util/ArrayList")) (C := RX9) (T := TX9) (N := 13) hx hb hts hb_0 tyX9 tyX9_ok nmX9 hown hK hP hD hS 0 rfl rfl 8 (by decide) hw_18 (fun _ h9 => h9) rfl hmn rfl (by decide +kernel) rfl rfl (Nat.le_of_ble_eq_true rfl) dX9_init_67 (fun H locs hP hD hS => ?_)
  have hP : va_P D vwCl [(mo, .inr (16, [.int 5, .int 5, .int 0, .ref q1, .ref q3, .ref q5, .ref q7, .ref q9, .ref q11, .null, .null, .int 0, .null])), (q1, .inl (cy2, 25, .inl (fun _ => 0))), (q3, .inl (cy4, 25, .inl (fun _ => 0))), (q5, .inl (cy6, 25, .inl (fun _ => 0))), (q7, .inl (cy8, 25, .inl (fun _ => 0))), (q9, .inl (cy10, 25, .inl (fun _ => 0))), (q11, .inr (5, [.int 0, .ref (D.1 1000), .int 0]))] H := hP
  have hD : va_D A [(mo, .inr (16, [.int 5, .int 5, .int 0, .ref q1, .ref q3, .ref q5, .ref q7, .ref q9, .ref q11, .null, .null, .int 0, .null])), (q1, .inl (cy2, 25, .inl (fun _ => 0))), (q3, .inl (cy4, 25, .inl (fun _ => 0))), (q5, .inl (cy6, 25, .inl (fun _ => 0))), (q7, .inl (cy8, 25, .inl (fun _ => 0))), (q9, .inl (cy10, 25, .inl (fun _ => 0))), (q11, .inr (5, [.int 0, .ref (D.1 1000), .int 0]))] := hD
  refine lv_aload_n hx hb dX9_init_70 rfl (lv_at hl 0 rfl) ?_
  refine va_new (ci := 5) (fs := [.int 0, .null, .int 0]) (C := RJx4a65c) (T := TJx4a65c) (N := 3) hx hb hts hb_1 tyJx4a65c tyJx4a65c_ok hown hw_13 hw_14 hw_15 hK hP hD hS hA rfl (by decide +kernel) (Nat.le_of_ble_eq_true rfl) (Nat.le_of_ble_eq_true rfl) dX9_init_71 (fun q14 H hP hD hS => ?_)
  have hP : va_P D vwCl [(mo, .inr (16, [.int 5, .int 5, .int 0, .ref q1, .ref q3, .ref q5, .ref q7, .ref q9, .ref q11, .null, .null, .int 0, .null])), (q1, .inl (cy2, 25, .inl (fun _ => 0))), (q3, .inl (cy4, 25, .inl (fun _ => 0))), (q5, .inl (cy6, 25, .inl (fun _ => 0))), (q7, .inl (cy8, 25, .inl (fun _ => 0))), (q9, .inl (cy10, 25, .inl (fun _ => 0))), (q11, .inr (5, [.int 0, .ref (D.1 1000), .int 0])), (q14, .inr (5, [.int 0, .null, .int 0]))] H := hP
  have hD : va_D A [(mo, .inr (16, [.int 5, .int 5, .int 0, .ref q1, .ref q3, .ref q5, .ref q7, .ref q9, .ref q11, .null, .null, .int 0, .null])), (q1, .inl (cy2, 25, .inl (fun _ => 0))), (q3, .inl (cy4, 25, .inl (fun _ => 0))), (q5, .inl (cy6, 25, .inl (fun _ => 0))), (q7, .inl (cy8, 25, .inl (fun _ => 0))), (q9, .inl (cy10, 25, .inl (fun _ => 0))), (q11, .inr (5, [.int 0, .ref (D.1 1000), .int 0])), (q14, .inr (5, [.int 0, .null, .int 0]))] := hD
  refine W.widen (k := 7) (n := 131) (Nat.le_of_ble_eq_true rfl) (Nat.le_of_ble_eq_true rfl) ?_
  refine lv_dup hx hb dX9_init_74 rfl ?_
  refine mc_v (wr := [(mo, .inr (16, [.int 5, .int 5, .int 0, .ref q1, .ref q3, .ref q5, .ref q7, .ref q9, .ref q11, .null, .null, .int 0, .null])), (q1, .inl (cy2, 25, .inl (fun _ => 0))), (q3, .inl (cy4, 25, .inl (fun _ => 0))), (q5, .inl (cy6, 25, .inl (fun _ => 0))), (q7, .inl (cy8, 25, .inl (fun _ => 0))), (q9, .inl (cy10, 25, .inl (fun _ => 0))), (q11, .inr (5, [.int 0, .ref (D.1 1000), .int 0]))]) (va_runI (As := []) (rest := [.ref q14, .ref mo]) ⟨hx, hb, hml, hown, hts⟩ (c_alInit l hst D q14 0 0 H.size) (cwI 0 hts (goodIn_sub hb_2 (List.all_eq_true.mpr gw_c_alInit)) rfl rfl rfl hw_15 hw_16 hw_17 rfl (by decide +kernel) ⟨Nat.le_of_ble_eq_true rfl, Nat.le_of_ble_eq_true rfl⟩) (pr_S (As := [.ref q14]) hP hD hK hS hA hE [7] [] rfl rfl rfl) rfl rfl hl.1 rfl (lv_room (Nat.le_of_ble_eq_true rfl)) dX9_init_75 ⟨Nat.le_of_ble_eq_true rfl, Nat.le_of_ble_eq_true rfl⟩) hP hD hK hS hA [7] [0, 1, 2, 3, 4, 5, 6] rfl rfl (by decide) (by decide) (fun _ H locs w15 hP hD hK hS => ?_)
  have hP : va_P D vwCl [(mo, .inr (16, [.int 5, .int 5, .int 0, .ref q1, .ref q3, .ref q5, .ref q7, .ref q9, .ref q11, .null, .null, .int 0, .null])), (q1, .inl (cy2, 25, .inl (fun _ => 0))), (q3, .inl (cy4, 25, .inl (fun _ => 0))), (q5, .inl (cy6, 25, .inl (fun _ => 0))), (q7, .inl (cy8, 25, .inl (fun _ => 0))), (q9, .inl (cy10, 25, .inl (fun _ => 0))), (q11, .inr (5, [.int 0, .ref (D.1 1000), .int 0])), (q14, .inr (5, [.int 0, .ref (D.1 1000), .int 0]))] H := hP
  have hD : va_D A [(mo, .inr (16, [.int 5, .int 5, .int 0, .ref q1, .ref q3, .ref q5, .ref q7, .ref q9, .ref q11, .null, .null, .int 0, .null])), (q1, .inl (cy2, 25, .inl (fun _ => 0))), (q3, .inl (cy4, 25, .inl (fun _ => 0))), (q5, .inl (cy6, 25, .inl (fun _ => 0))), (q7, .inl (cy8, 25, .inl (fun _ => 0))), (q9, .inl (cy10, 25, .inl (fun _ => 0))), (q11, .inr (5, [.int 0, .ref (D.1 1000), .int 0])), (q14, .inr (5, [.int 0, .ref (D.1 1000), .int 0]))] := hD
  have hK : va_K D vwCl [(cy2, .int), (cy4, .int), (cy6, .int), (cy8, .char), (cy10, .char)] s := hK
  refine va_putF (D := D) (ci := 16) (v := .ref q14) (ty := (.object "java/util/ArrayList")) (C := RX9) (T := TX9) (N := 13) hx hb hts hb_0 tyX9 tyX9_ok nmX9 hown hK hP hD hS 0 rfl rfl 9 (by decide) hw_19 (fun _ h9 => h9) rfl hmn rfl (by decide +kernel) rfl rfl (Nat.le_of_ble_eq_true rfl) dX9_init_78 (fun H locs hP hD hS => ?_)
  have hP : va_P D vwCl [(mo, .inr (16, [.int 5, .int 5, .int 0, .ref q1, .ref q3, .ref q5, .ref q7, .ref q9, .ref q11, .ref q14, .null, .int 0, .null])), (q1, .inl (cy2, 25, .inl (fun _ => 0))), (q3, .inl (cy4, 25, .inl (fun _ => 0))), (q5, .inl (cy6, 25, .inl (fun _ => 0))), (q7, .inl (cy8, 25, .inl (fun _ => 0))), (q9, .inl (cy10, 25, .inl (fun _ => 0))), (q11, .inr (5, [.int 0, .ref (D.1 1000), .int 0])), (q14, .inr (5, [.int 0, .ref (D.1 1000), .int 0]))] H := hP
  have hD : va_D A [(mo, .inr (16, [.int 5, .int 5, .int 0, .ref q1, .ref q3, .ref q5, .ref q7, .ref q9, .ref q11, .ref q14, .null, .int 0, .null])), (q1, .inl (cy2, 25, .inl (fun _ => 0))), (q3, .inl (cy4, 25, .inl (fun _ => 0))), (q5, .inl (cy6, 25, .inl (fun _ => 0))), (q7, .inl (cy8, 25, .inl (fun _ => 0))), (q9, .inl (cy10, 25, .inl (fun _ => 0))), (q11, .inr (5, [.int 0, .ref (D.1 1000), .int 0])), (q14, .inr (5, [.int 0, .ref (D.1 1000), .int 0]))] := hD
  refine lv_aload_n hx hb dX9_init_81 rfl (lv_at hl 0 rfl) ?_
  refine va_new (ci := 5) (fs := [.int 0, .null, .int 0]) (C := RJx4a65c) (T := TJx4a65c) (N := 3) hx hb hts hb_1 tyJx4a65c tyJx4a65c_ok hown hw_13 hw_14 hw_15 hK hP hD hS hA rfl (by decide +kernel) (Nat.le_of_ble_eq_true rfl) (Nat.le_of_ble_eq_true rfl) dX9_init_82 (fun q17 H hP hD hS => ?_)
  have hP : va_P D vwCl [(mo, .inr (16, [.int 5, .int 5, .int 0, .ref q1, .ref q3, .ref q5, .ref q7, .ref q9, .ref q11, .ref q14, .null, .int 0, .null])), (q1, .inl (cy2, 25, .inl (fun _ => 0))), (q3, .inl (cy4, 25, .inl (fun _ => 0))), (q5, .inl (cy6, 25, .inl (fun _ => 0))), (q7, .inl (cy8, 25, .inl (fun _ => 0))), (q9, .inl (cy10, 25, .inl (fun _ => 0))), (q11, .inr (5, [.int 0, .ref (D.1 1000), .int 0])), (q14, .inr (5, [.int 0, .ref (D.1 1000), .int 0])), (q17, .inr (5, [.int 0, .null, .int 0]))] H := hP
  have hD : va_D A [(mo, .inr (16, [.int 5, .int 5, .int 0, .ref q1, .ref q3, .ref q5, .ref q7, .ref q9, .ref q11, .ref q14, .null, .int 0, .null])), (q1, .inl (cy2, 25, .inl (fun _ => 0))), (q3, .inl (cy4, 25, .inl (fun _ => 0))), (q5, .inl (cy6, 25, .inl (fun _ => 0))), (q7, .inl (cy8, 25, .inl (fun _ => 0))), (q9, .inl (cy10, 25, .inl (fun _ => 0))), (q11, .inr (5, [.int 0, .ref (D.1 1000), .int 0])), (q14, .inr (5, [.int 0, .ref (D.1 1000), .int 0])), (q17, .inr (5, [.int 0, .null, .int 0]))] := hD
  refine W.widen (k := 8) (n := 134) (Nat.le_of_ble_eq_true rfl) (Nat.le_of_ble_eq_true rfl) ?_
  refine lv_dup hx hb dX9_init_85 rfl ?_
  refine mc_v (wr := [(mo, .inr (16, [.int 5, .int 5, .int 0, .ref q1, .ref q3, .ref q5, .ref q7, .ref q9, .ref q11, .ref q14, .null, .int 0, .null])), (q1, .inl (cy2, 25, .inl (fun _ => 0))), (q3, .inl (cy4, 25, .inl (fun _ => 0))), (q5, .inl (cy6, 25, .inl (fun _ => 0))), (q7, .inl (cy8, 25, .inl (fun _ => 0))), (q9, .inl (cy10, 25, .inl (fun _ => 0))), (q11, .inr (5, [.int 0, .ref (D.1 1000), .int 0])), (q14, .inr (5, [.int 0, .ref (D.1 1000), .int 0]))]) (va_runI (As := []) (rest := [.ref q17, .ref mo]) ⟨hx, hb, hml, hown, hts⟩ (c_alInit l hst D q17 0 0 H.size) (cwI 0 hts (goodIn_sub hb_2 (List.all_eq_true.mpr gw_c_alInit)) rfl rfl rfl hw_15 hw_16 hw_17 rfl (by decide +kernel) ⟨Nat.le_of_ble_eq_true rfl, Nat.le_of_ble_eq_true rfl⟩) (pr_S (As := [.ref q17]) hP hD hK hS hA hE [8] [] rfl rfl rfl) rfl rfl hl.1 rfl (lv_room (Nat.le_of_ble_eq_true rfl)) dX9_init_86 ⟨Nat.le_of_ble_eq_true rfl, Nat.le_of_ble_eq_true rfl⟩) hP hD hK hS hA [8] [0, 1, 2, 3, 4, 5, 6, 7] rfl rfl (by decide) (by decide) (fun _ H locs w18 hP hD hK hS => ?_)
  have hP : va_P D vwCl [(mo, .inr (16, [.int 5, .int 5, .int 0, .ref q1, .ref q3, .ref q5, .ref q7, .ref q9, .ref q11, .ref q14, .null, .int 0, .null])), (q1, .inl (cy2, 25, .inl (fun _ => 0))), (q3, .inl (cy4, 25, .inl (fun _ => 0))), (q5, .inl (cy6, 25, .inl (fun _ => 0))), (q7, .inl (cy8, 25, .inl (fun _ => 0))), (q9, .inl (cy10, 25, .inl (fun _ => 0))), (q11, .inr (5, [.int 0, .ref (D.1 1000), .int 0])), (q14, .inr (5, [.int 0, .ref (D.1 1000), .int 0])), (q17, .inr (5, [.int 0, .ref (D.1 1000), .int 0]))] H := hP
  have hD : va_D A [(mo, .inr (16, [.int 5, .int 5, .int 0, .ref q1, .ref q3, .ref q5, .ref q7, .ref q9, .ref q11, .ref q14, .null, .int 0, .null])), (q1, .inl (cy2, 25, .inl (fun _ => 0))), (q3, .inl (cy4, 25, .inl (fun _ => 0))), (q5, .inl (cy6, 25, .inl (fun _ => 0))), (q7, .inl (cy8, 25, .inl (fun _ => 0))), (q9, .inl (cy10, 25, .inl (fun _ => 0))), (q11, .inr (5, [.int 0, .ref (D.1 1000), .int 0])), (q14, .inr (5, [.int 0, .ref (D.1 1000), .int 0])), (q17, .inr (5, [.int 0, .ref (D.1 1000), .int 0]))] := hD
  have hK : va_K D vwCl [(cy2, .int), (cy4, .int), (cy6, .int), (cy8, .char), (cy10, .char)] s := hK
  refine va_putF (D := D) (ci := 16) (v := .ref q17) (ty := (.object "java/util/ArrayList")) (C := RX9) (T := TX9) (N := 13) hx hb hts hb_0 tyX9 tyX9_ok nmX9 hown hK hP hD hS 0 rfl rfl 10 (by decide) hw_20 (fun _ h9 => h9) rfl hmn rfl (by decide +kernel) rfl rfl (Nat.le_of_ble_eq_true rfl) dX9_init_89 (fun H locs hP hD hS => ?_)
  have hP : va_P D vwCl [(mo, .inr (16, [.int 5, .int 5, .int 0, .ref q1, .ref q3, .ref q5, .ref q7, .ref q9, .ref q11, .ref q14, .ref q17, .int 0, .null])), (q1, .inl (cy2, 25, .inl (fun _ => 0))), (q3, .inl (cy4, 25, .inl (fun _ => 0))), (q5, .inl (cy6, 25, .inl (fun _ => 0))), (q7, .inl (cy8, 25, .inl (fun _ => 0))), (q9, .inl (cy10, 25, .inl (fun _ => 0))), (q11, .inr (5, [.int 0, .ref (D.1 1000), .int 0])), (q14, .inr (5, [.int 0, .ref (D.1 1000), .int 0])), (q17, .inr (5, [.int 0, .ref (D.1 1000), .int 0]))] H := hP
  have hD : va_D A [(mo, .inr (16, [.int 5, .int 5, .int 0, .ref q1, .ref q3, .ref q5, .ref q7, .ref q9, .ref q11, .ref q14, .ref q17, .int 0, .null])), (q1, .inl (cy2, 25, .inl (fun _ => 0))), (q3, .inl (cy4, 25, .inl (fun _ => 0))), (q5, .inl (cy6, 25, .inl (fun _ => 0))), (q7, .inl (cy8, 25, .inl (fun _ => 0))), (q9, .inl (cy10, 25, .inl (fun _ => 0))), (q11, .inr (5, [.int 0, .ref (D.1 1000), .int 0])), (q14, .inr (5, [.int 0, .ref (D.1 1000), .int 0])), (q17, .inr (5, [.int 0, .ref (D.1 1000), .int 0]))] := hD
  refine lv_aload_n hx hb dX9_init_92 rfl (lv_at hl 0 rfl) ?_
  refine lv_iconst (v := -1) hx hb dX9_init_93 (by decide) ?_
  refine va_put (D := D) (ci := 16) (v := .int (-1)) (ty := .int) (C := RX9) (T := TX9) (N := 13) hx hb hts hb_0 tyX9 tyX9_ok nmX9 hown hK hP hD hS 0 rfl rfl 11 (by decide) hw_21 (fun _ h9 => h9) rfl (by decide +kernel) rfl rfl (Nat.le_of_ble_eq_true rfl) dX9_init_94 (fun H locs hP hD hS => ?_)
  have hP : va_P D vwCl [(mo, .inr (16, [.int 5, .int 5, .int 0, .ref q1, .ref q3, .ref q5, .ref q7, .ref q9, .ref q11, .ref q14, .ref q17, .int (-1), .null])), (q1, .inl (cy2, 25, .inl (fun _ => 0))), (q3, .inl (cy4, 25, .inl (fun _ => 0))), (q5, .inl (cy6, 25, .inl (fun _ => 0))), (q7, .inl (cy8, 25, .inl (fun _ => 0))), (q9, .inl (cy10, 25, .inl (fun _ => 0))), (q11, .inr (5, [.int 0, .ref (D.1 1000), .int 0])), (q14, .inr (5, [.int 0, .ref (D.1 1000), .int 0])), (q17, .inr (5, [.int 0, .ref (D.1 1000), .int 0]))] H := hP
  have hD : va_D A [(mo, .inr (16, [.int 5, .int 5, .int 0, .ref q1, .ref q3, .ref q5, .ref q7, .ref q9, .ref q11, .ref q14, .ref q17, .int (-1), .null])), (q1, .inl (cy2, 25, .inl (fun _ => 0))), (q3, .inl (cy4, 25, .inl (fun _ => 0))), (q5, .inl (cy6, 25, .inl (fun _ => 0))), (q7, .inl (cy8, 25, .inl (fun _ => 0))), (q9, .inl (cy10, 25, .inl (fun _ => 0))), (q11, .inr (5, [.int 0, .ref (D.1 1000), .int 0])), (q14, .inr (5, [.int 0, .ref (D.1 1000), .int 0])), (q17, .inr (5, [.int 0, .ref (D.1 1000), .int 0]))] := hD
  refine lv_aload_n hx hb dX9_init_97 rfl (lv_at hl 0 rfl) ?_
  refine va_new (ci := 5) (fs := [.int 0, .null, .int 0]) (C := RJx4a65c) (T := TJx4a65c) (N := 3) hx hb hts hb_1 tyJx4a65c tyJx4a65c_ok hown hw_13 hw_14 hw_15 hK hP hD hS hA rfl (by decide +kernel) (Nat.le_of_ble_eq_true rfl) (Nat.le_of_ble_eq_true rfl) dX9_init_98 (fun q20 H hP hD hS => ?_)
  have hP : va_P D vwCl [(mo, .inr (16, [.int 5, .int 5, .int 0, .ref q1, .ref q3, .ref q5, .ref q7, .ref q9, .ref q11, .ref q14, .ref q17, .int (-1), .null])), (q1, .inl (cy2, 25, .inl (fun _ => 0))), (q3, .inl (cy4, 25, .inl (fun _ => 0))), (q5, .inl (cy6, 25, .inl (fun _ => 0))), (q7, .inl (cy8, 25, .inl (fun _ => 0))), (q9, .inl (cy10, 25, .inl (fun _ => 0))), (q11, .inr (5, [.int 0, .ref (D.1 1000), .int 0])), (q14, .inr (5, [.int 0, .ref (D.1 1000), .int 0])), (q17, .inr (5, [.int 0, .ref (D.1 1000), .int 0])), (q20, .inr (5, [.int 0, .null, .int 0]))] H := hP
  have hD : va_D A [(mo, .inr (16, [.int 5, .int 5, .int 0, .ref q1, .ref q3, .ref q5, .ref q7, .ref q9, .ref q11, .ref q14, .ref q17, .int (-1), .null])), (q1, .inl (cy2, 25, .inl (fun _ => 0))), (q3, .inl (cy4, 25, .inl (fun _ => 0))), (q5, .inl (cy6, 25, .inl (fun _ => 0))), (q7, .inl (cy8, 25, .inl (fun _ => 0))), (q9, .inl (cy10, 25, .inl (fun _ => 0))), (q11, .inr (5, [.int 0, .ref (D.1 1000), .int 0])), (q14, .inr (5, [.int 0, .ref (D.1 1000), .int 0])), (q17, .inr (5, [.int 0, .ref (D.1 1000), .int 0])), (q20, .inr (5, [.int 0, .null, .int 0]))] := hD
  refine W.widen (k := 9) (n := 137) (Nat.le_of_ble_eq_true rfl) (Nat.le_of_ble_eq_true rfl) ?_
  refine lv_dup hx hb dX9_init_101 rfl ?_
  refine mc_v (wr := [(mo, .inr (16, [.int 5, .int 5, .int 0, .ref q1, .ref q3, .ref q5, .ref q7, .ref q9, .ref q11, .ref q14, .ref q17, .int (-1), .null])), (q1, .inl (cy2, 25, .inl (fun _ => 0))), (q3, .inl (cy4, 25, .inl (fun _ => 0))), (q5, .inl (cy6, 25, .inl (fun _ => 0))), (q7, .inl (cy8, 25, .inl (fun _ => 0))), (q9, .inl (cy10, 25, .inl (fun _ => 0))), (q11, .inr (5, [.int 0, .ref (D.1 1000), .int 0])), (q14, .inr (5, [.int 0, .ref (D.1 1000), .int 0])), (q17, .inr (5, [.int 0, .ref (D.1 1000), .int 0]))]) (va_runI (As := []) (rest := [.ref q20, .ref mo]) ⟨hx, hb, hml, hown, hts⟩ (c_alInit l hst D q20 0 0 H.size) (cwI 0 hts (goodIn_sub hb_2 (List.all_eq_true.mpr gw_c_alInit)) rfl rfl rfl hw_15 hw_16 hw_17 rfl (by decide +kernel) ⟨Nat.le_of_ble_eq_true rfl, Nat.le_of_ble_eq_true rfl⟩) (pr_S (As := [.ref q20]) hP hD hK hS hA hE [9] [] rfl rfl rfl) rfl rfl hl.1 rfl (lv_room (Nat.le_of_ble_eq_true rfl)) dX9_init_102 ⟨Nat.le_of_ble_eq_true rfl, Nat.le_of_ble_eq_true rfl⟩) hP hD hK hS hA [9] [0, 1, 2, 3, 4, 5, 6, 7, 8] rfl rfl (by decide) (by decide) (fun _ H locs w21 hP hD hK hS => ?_)
  have hP : va_P D vwCl [(mo, .inr (16, [.int 5, .int 5, .int 0, .ref q1, .ref q3, .ref q5, .ref q7, .ref q9, .ref q11, .ref q14, .ref q17, .int (-1), .null])), (q1, .inl (cy2, 25, .inl (fun _ => 0))), (q3, .inl (cy4, 25, .inl (fun _ => 0))), (q5, .inl (cy6, 25, .inl (fun _ => 0))), (q7, .inl (cy8, 25, .inl (fun _ => 0))), (q9, .inl (cy10, 25, .inl (fun _ => 0))), (q11, .inr (5, [.int 0, .ref (D.1 1000), .int 0])), (q14, .inr (5, [.int 0, .ref (D.1 1000), .int 0])), (q17, .inr (5, [.int 0, .ref (D.1 1000), .int 0])), (q20, .inr (5, [.int 0, .ref (D.1 1000), .int 0]))] H := hP
  have hD : va_D A [(mo, .inr (16, [.int 5, .int 5, .int 0, .ref q1, .ref q3, .ref q5, .ref q7, .ref q9, .ref q11, .ref q14, .ref q17, .int (-1), .null])), (q1, .inl (cy2, 25, .inl (fun _ => 0))), (q3, .inl (cy4, 25, .inl (fun _ => 0))), (q5, .inl (cy6, 25, .inl (fun _ => 0))), (q7, .inl (cy8, 25, .inl (fun _ => 0))), (q9, .inl (cy10, 25, .inl (fun _ => 0))), (q11, .inr (5, [.int 0, .ref (D.1 1000), .int 0])), (q14, .inr (5, [.int 0, .ref (D.1 1000), .int 0])), (q17, .inr (5, [.int 0, .ref (D.1 1000), .int 0])), (q20, .inr (5, [.int 0, .ref (D.1 1000), .int 0]))] := hD
  have hK : va_K D vwCl [(cy2, .int), (cy4, .int), (cy6, .int), (cy8, .char), (cy10, .char)] s := hK
  refine va_putF (D := D) (ci := 16) (v := .ref q20) (ty := (.object "java/util/ArrayList")) (C := RX9) (T := TX9) (N := 13) hx hb hts hb_0 tyX9 tyX9_ok nmX9 hown hK hP hD hS 0 rfl rfl 12 (by decide) hw_22 (fun _ h9 => h9) rfl hmn rfl (by decide +kernel) rfl rfl (Nat.le_of_ble_eq_true rfl) dX9_init_105 (fun H locs hP hD hS => ?_)
  have hP : va_P D vwCl [(mo, .inr (16, [.int 5, .int 5, .int 0, .ref q1, .ref q3, .ref q5, .ref q7, .ref q9, .ref q11, .ref q14, .ref q17, .int (-1), .ref q20])), (q1, .inl (cy2, 25, .inl (fun _ => 0))), (q3, .inl (cy4, 25, .inl (fun _ => 0))), (q5, .inl (cy6, 25, .inl (fun _ => 0))), (q7, .inl (cy8, 25, .inl (fun _ => 0))), (q9, .inl (cy10, 25, .inl (fun _ => 0))), (q11, .inr (5, [.int 0, .ref (D.1 1000), .int 0])), (q14, .inr (5, [.int 0, .ref (D.1 1000), .int 0])), (q17, .inr (5, [.int 0, .ref (D.1 1000), .int 0])), (q20, .inr (5, [.int 0, .ref (D.1 1000), .int 0]))] H := hP
  have hD : va_D A [(mo, .inr (16, [.int 5, .int 5, .int 0, .ref q1, .ref q3, .ref q5, .ref q7, .ref q9, .ref q11, .ref q14, .ref q17, .int (-1), .ref q20])), (q1, .inl (cy2, 25, .inl (fun _ => 0))), (q3, .inl (cy4, 25, .inl (fun _ => 0))), (q5, .inl (cy6, 25, .inl (fun _ => 0))), (q7, .inl (cy8, 25, .inl (fun _ => 0))), (q9, .inl (cy10, 25, .inl (fun _ => 0))), (q11, .inr (5, [.int 0, .ref (D.1 1000), .int 0])), (q14, .inr (5, [.int 0, .ref (D.1 1000), .int 0])), (q17, .inr (5, [.int 0, .ref (D.1 1000), .int 0])), (q20, .inr (5, [.int 0, .ref (D.1 1000), .int 0]))] := hD
  have hP := hP.sub (ws' := [(mo, .inr (16, [.int 5, .int 5, .int 0, .ref q1, .ref q3, .ref q5, .ref q7, .ref q9, .ref q11, .ref q14, .ref q17, .int (-1), .ref q20])), (q11, .inr (5, [.int 0, .ref (D.1 1000), .int 0])), (q14, .inr (5, [.int 0, .ref (D.1 1000), .int 0])), (q17, .inr (5, [.int 0, .ref (D.1 1000), .int 0])), (q20, .inr (5, [.int 0, .ref (D.1 1000), .int 0]))]) [0, 6, 7, 8, 9] rfl
  have hD := hD.sub (ws' := [(mo, .inr (16, [.int 5, .int 5, .int 0, .ref q1, .ref q3, .ref q5, .ref q7, .ref q9, .ref q11, .ref q14, .ref q17, .int (-1), .ref q20])), (q11, .inr (5, [.int 0, .ref (D.1 1000), .int 0])), (q14, .inr (5, [.int 0, .ref (D.1 1000), .int 0])), (q17, .inr (5, [.int 0, .ref (D.1 1000), .int 0])), (q20, .inr (5, [.int 0, .ref (D.1 1000), .int 0]))]) [0, 6, 7, 8, 9] (by decide) rfl
  have hK := hK.sub (tys' := []) [] rfl
  refine lv_aload_n hx hb dX9_init_108 rfl (lv_at hl 0 rfl) ?_
  refine lv_iconst (v := 5) hx hb dX9_init_109 (by decide) ?_
  refine lv_iconst (v := 5) hx hb dX9_init_110 (by decide) ?_
  refine mc_v (wr := []) (va_runV (As := [.int 5, .int 5]) (rest := []) ⟨hx, hb, hml, hown, hts⟩ (c_begins l hst D mo 5 5 0 q1 q3 q5 q7 q9 q11 q14 q17 (-1) q20 0 0 0 0 5 5 H.size (by decide)) (cwV 2 hts (gi_c (List.mem_cons_of_mem _ (List.mem_append_left _ (List.mem_of_getElem? (i := 23) rfl))) rfl (gi_c (List.mem_cons_of_mem _ (List.mem_append_left _ (List.mem_of_getElem? (i := 24) rfl))) rfl (gi_c (List.mem_cons_of_mem _ (List.mem_append_left _ (List.mem_of_getElem? (i := 25) rfl))) rfl (gi_c (List.mem_cons_of_mem _ (List.mem_append_left _ (List.mem_of_getElem? (i := 26) rfl))) rfl (goodIn_sub hb_3 (List.all_eq_true.mpr gw_c_begins)))))) rfl rfl rfl (by decide +kernel) ⟨Nat.le_of_ble_eq_true rfl, Nat.le_of_ble_eq_true rfl⟩) (pr_V (As := [.int 5, .int 5]) (b := mo) (C := RX9) hP hD hK hS hA hE [0, 1, 2, 3, 4] [] rfl rfl rfl 0 16 rfl rfl rfl) rfl rfl hl.1 rfl (lv_room (Nat.le_of_ble_eq_true rfl)) dX9_init_111 ⟨Nat.le_of_ble_eq_true rfl, Nat.le_of_ble_eq_true rfl⟩) hP hD hK hS hA [0, 1, 2, 3, 4] [] rfl rfl (by decide) (by decide) (fun u23 H locs w24 hP hD hK hS => ?_)
  have hP : va_P D vwCl [(mo, .inr (16, [.int (nI 5), .int (nI 5), .int 0, .ref (u23.1 0), .ref (u23.1 1), .ref (u23.1 2), .ref (u23.1 3), .ref (u23.1 4), .ref q11, .ref q14, .ref q17, .int (-1), .ref q20])), (u23.1 0, .inl (u23.2 0, 5 * 5, .inl (fun _ => 0))), (u23.1 1, .inl (u23.2 1, 5 * 5, .inl (fun _ => 0))), (u23.1 2, .inl (u23.2 2, 5 * 5, .inl (fun _ => 0))), (u23.1 3, .inl (u23.2 3, 5 * 5, .inl (fa_fill (fun _ => 46) (fun _ => 0) (5 * 5)))), (u23.1 4, .inl (u23.2 4, 5 * 5, .inl (fa_fill (fun _ => 46) (fun _ => 0) (5 * 5)))), (q11, .inr (5, [.int (0 + 1), .ref (D.1 1000), .int 0])), (q14, .inr (5, [.int (0 + 1), .ref (D.1 1000), .int 0])), (q17, .inr (5, [.int (0 + 1), .ref (D.1 1000), .int 0])), (q20, .inr (5, [.int (0 + 1), .ref (D.1 1000), .int 0]))] H := hP
  have hD : va_D A [(mo, .inr (16, [.int (nI 5), .int (nI 5), .int 0, .ref (u23.1 0), .ref (u23.1 1), .ref (u23.1 2), .ref (u23.1 3), .ref (u23.1 4), .ref q11, .ref q14, .ref q17, .int (-1), .ref q20])), (u23.1 0, .inl (u23.2 0, 5 * 5, .inl (fun _ => 0))), (u23.1 1, .inl (u23.2 1, 5 * 5, .inl (fun _ => 0))), (u23.1 2, .inl (u23.2 2, 5 * 5, .inl (fun _ => 0))), (u23.1 3, .inl (u23.2 3, 5 * 5, .inl (fa_fill (fun _ => 46) (fun _ => 0) (5 * 5)))), (u23.1 4, .inl (u23.2 4, 5 * 5, .inl (fa_fill (fun _ => 46) (fun _ => 0) (5 * 5)))), (q11, .inr (5, [.int (0 + 1), .ref (D.1 1000), .int 0])), (q14, .inr (5, [.int (0 + 1), .ref (D.1 1000), .int 0])), (q17, .inr (5, [.int (0 + 1), .ref (D.1 1000), .int 0])), (q20, .inr (5, [.int (0 + 1), .ref (D.1 1000), .int 0]))] := hD
  have hK : va_K D vwCl [(u23.2 0, .int), (u23.2 1, .int), (u23.2 2, .int), (u23.2 3, .char), (u23.2 4, .char)] s := hK
  exact mr_v hx hb hr (fun k9 => [u23.1 0, u23.1 1, u23.1 2, u23.1 3, u23.1 4, q11, q14, q17, q20].getD k9 0, fun k9 => [u23.2 0, u23.2 1, u23.2 2, u23.2 3, u23.2 4].getD k9 0) (trivial) (hP.sub [0, 1, 2, 3, 4, 5, 6, 7, 8, 9] rfl) (hK.sub [0, 1, 2, 3, 4] rfl) (hD.sub [0, 1, 2, 3, 4, 5, 6, 7, 8, 9] (by decide) rfl) hS (Nat.le_of_ble_eq_true rfl) (Nat.le_of_ble_eq_true rfl) hlocks dX9_init_114

def us_c_mland : List Cond := .code yX9_land cX9_land 3 (some .int) :: (([.constantLong RX9 68 (3), .constantLong RX9 70 (12), .methodLink RX9 72 yX9_in, .static yX9_in, .initialized RX9, .methodLink RX9 76 yX9_fails, .instanceMethod yX9_fails, .selects RX9 yX9_fails yX9_fails, .methodLink RX9 55 yX9_begins, .instanceMethod yX9_begins, .selects RX9 yX9_begins yX9_begins, .methodLink RX9 80 yX9_tells, .instanceMethod yX9_tells, .selects RX9 yX9_tells yX9_tells] : List Cond) ++ (us_c_in ++ (us_c_fails ++ (us_c_begins ++ (us_c_tells ++ ([]))))))
theorem gw_c_mland : ∀ w ∈ us_c_mland, goodWord w = true := gw_cons rfl (gw_app (by decide +kernel) (gw_app gw_c_in (gw_app gw_c_fails (gw_app gw_c_begins (gw_app gw_c_tells (fun _ h => nomatch h))))))
set_option maxHeartbeats 4000000 in
set_option maxRecDepth 100000 in
/-- the reference: land -/
theorem c_mland (l : Launch) (hst : l.stackTraces = false) (D : va_G) (mo : Nat) (th : Int32) (m1 : Nat) (m2 : Nat) (m3 : Nat) (m4 : Nat) (m5 : Nat) (l1 : Nat) (l2 : Nat) (l3 : Nat) (l4 : Nat) (p0 : Int32) (p1 : Int32) (sz : Nat) : Met l yX9_land us_c_mland { frames := 2, cells := 5, slots := 720, locals := 46 } (pw D [.ref mo, .int p0, .int p1] [] [(mo, .inr (16, [.int 5, .int 5, .int th, .ref m1, .ref m2, .ref m3, .ref m4, .ref m5, .ref l1, .ref l2, .ref l3, .int (-1), .ref l4])), (l1, .inr (5, [.int 1, .ref (D.1 1000), .int 0])), (l2, .inr (5, [.int 1, .ref (D.1 1000), .int 0])), (l3, .inr (5, [.int 1, .ref (D.1 1000), .int 0])), (l4, .inr (5, [.int 1, .ref (D.1 1000), .int 0]))] sz) (va_Qi (fun (r : Int32) (u : (Int32 × (Nat → Nat) × (Nat → Int32))) => u.1 = kf_land p0 p1 ∧ (kf_land p0 p1 = 0 → r = rf_land p0 p1)) (qb D (va_A [(mo, .inr (16, [.int 5, .int 5, .int th, .ref m1, .ref m2, .ref m3, .ref m4, .ref m5, .ref l1, .ref l2, .ref l3, .int (-1), .ref l4])), (l1, .inr (5, [.int 1, .ref (D.1 1000), .int 0])), (l2, .inr (5, [.int 1, .ref (D.1 1000), .int 0])), (l3, .inr (5, [.int 1, .ref (D.1 1000), .int 0])), (l4, .inr (5, [.int 1, .ref (D.1 1000), .int 0]))] sz) (fun u : (Int32 × (Nat → Nat) × (Nat → Int32)) => [(mo, .inr (16, [.int (u.2.2 0), .int (u.2.2 1), .int u.1, .ref (u.2.1 0), .ref (u.2.1 1), .ref (u.2.1 2), .ref (u.2.1 3), .ref (u.2.1 4), .ref (u.2.1 5), .ref (u.2.1 6), .ref (u.2.1 7), .int (u.2.2 2), .ref (u.2.1 8)]))]) (fun u : (Int32 × (Nat → Nat) × (Nat → Int32)) => ([] : List (ClassId × FieldType)))) (va_A [(mo, .inr (16, [.int 5, .int 5, .int th, .ref m1, .ref m2, .ref m3, .ref m4, .ref m5, .ref l1, .ref l2, .ref l3, .int (-1), .ref l4])), (l1, .inr (5, [.int 1, .ref (D.1 1000), .int 0])), (l2, .inr (5, [.int 1, .ref (D.1 1000), .int 0])), (l3, .inr (5, [.int 1, .ref (D.1 1000), .int 0])), (l4, .inr (5, [.int 1, .ref (D.1 1000), .int 0]))] sz)) 5 720 (va_A [(mo, .inr (16, [.int 5, .int 5, .int th, .ref m1, .ref m2, .ref m3, .ref m4, .ref m5, .ref l1, .ref l2, .ref l3, .int (-1), .ref l4])), (l1, .inr (5, [.int 1, .ref (D.1 1000), .int 0])), (l2, .inr (5, [.int 1, .ref (D.1 1000), .int 0])), (l3, .inr (5, [.int 1, .ref (D.1 1000), .int 0])), (l4, .inr (5, [.int 1, .ref (D.1 1000), .int 0]))] sz) := by
  refine op_M (Qc := fun A => (va_Qi (fun (r : Int32) (u : (Int32 × (Nat → Nat) × (Nat → Int32))) => u.1 = kf_land p0 p1 ∧ (kf_land p0 p1 = 0 → r = rf_land p0 p1)) (qb D A (fun u : (Int32 × (Nat → Nat) × (Nat → Int32)) => [(mo, .inr (16, [.int (u.2.2 0), .int (u.2.2 1), .int u.1, .ref (u.2.1 0), .ref (u.2.1 1), .ref (u.2.1 2), .ref (u.2.1 3), .ref (u.2.1 4), .ref (u.2.1 5), .ref (u.2.1 6), .ref (u.2.1 7), .int (u.2.2 2), .ref (u.2.1 8)]))]) (fun u : (Int32 × (Nat → Nat) × (Nat → Int32)) => ([] : List (ClassId × FieldType)))) A)) (by decide +kernel) rfl (Nat.le_of_ble_eq_true rfl) ?_
  intro p e s m args below meth c A ls hx hb hr hml hts hown hlocks hmn htab hA hD hS hP hK hE hsz hl
  have hown : s.vm.findClass RX9 = some m.cls := hown
  have hl : lv_has ls 3 [(0, .ref mo), (1, .int p0), (2, .int p1)] := hl
  have hw_0 := hts (.constantLong RX9 68 (3)) (List.mem_cons_of_mem _ (List.mem_append_left _ (List.mem_of_getElem? (i := 0) rfl)))
  have hw_1 := hts (.constantLong RX9 70 (12)) (List.mem_cons_of_mem _ (List.mem_append_left _ (List.mem_of_getElem? (i := 1) rfl)))
  have hw_2 := hts (.methodLink RX9 72 yX9_in) (List.mem_cons_of_mem _ (List.mem_append_left _ (List.mem_of_getElem? (i := 2) rfl)))
  have hw_3 := hts (.static yX9_in) (List.mem_cons_of_mem _ (List.mem_append_left _ (List.mem_of_getElem? (i := 3) rfl)))
  have hw_4 := hts (.initialized RX9) (List.mem_cons_of_mem _ (List.mem_append_left _ (List.mem_of_getElem? (i := 4) rfl)))
  have hw_5 := hts (.methodLink RX9 76 yX9_fails) (List.mem_cons_of_mem _ (List.mem_append_left _ (List.mem_of_getElem? (i := 5) rfl)))
  have hw_6 := hts (.instanceMethod yX9_fails) (List.mem_cons_of_mem _ (List.mem_append_left _ (List.mem_of_getElem? (i := 6) rfl)))
  have hw_7 := hts (.selects RX9 yX9_fails yX9_fails) (List.mem_cons_of_mem _ (List.mem_append_left _ (List.mem_of_getElem? (i := 7) rfl)))
  have hw_8 := hts (.methodLink RX9 55 yX9_begins) (List.mem_cons_of_mem _ (List.mem_append_left _ (List.mem_of_getElem? (i := 8) rfl)))
  have hw_9 := hts (.instanceMethod yX9_begins) (List.mem_cons_of_mem _ (List.mem_append_left _ (List.mem_of_getElem? (i := 9) rfl)))
  have hw_10 := hts (.selects RX9 yX9_begins yX9_begins) (List.mem_cons_of_mem _ (List.mem_append_left _ (List.mem_of_getElem? (i := 10) rfl)))
  have hw_11 := hts (.methodLink RX9 80 yX9_tells) (List.mem_cons_of_mem _ (List.mem_append_left _ (List.mem_of_getElem? (i := 11) rfl)))
  have hw_12 := hts (.instanceMethod yX9_tells) (List.mem_cons_of_mem _ (List.mem_append_left _ (List.mem_of_getElem? (i := 12) rfl)))
  have hw_13 := hts (.selects RX9 yX9_tells yX9_tells) (List.mem_cons_of_mem _ (List.mem_append_left _ (List.mem_of_getElem? (i := 13) rfl)))
  have hb_0 : ∀ w ∈ us_c_in, w ∈ us_c_mland := fun w h => List.mem_cons_of_mem _ (List.mem_append_right _ (List.mem_append_left _ h))
  have hb_1 : ∀ w ∈ us_c_fails, w ∈ us_c_mland := fun w h => List.mem_cons_of_mem _ (List.mem_append_right _ (List.mem_append_right _ (List.mem_append_left _ h)))
  have hb_2 : ∀ w ∈ us_c_begins, w ∈ us_c_mland := fun w h => List.mem_cons_of_mem _ (List.mem_append_right _ (List.mem_append_right _ (List.mem_append_right _ (List.mem_append_left _ h))))
  have hb_3 : ∀ w ∈ us_c_tells, w ∈ us_c_mland := fun w h => List.mem_cons_of_mem _ (List.mem_append_right _ (List.mem_append_right _ (List.mem_append_right _ (List.mem_append_right _ (List.mem_append_left _ h)))))
  refine lv_iload_n hx hb dX9_land_0 rfl (lv_at hl 1 rfl) ?_
  refine lv_i2l hx hb dX9_land_1 rfl ?_
  refine lv_topl (fun x1 e1 => ?_)
  obtain rfl : x1 = p0.toInt64 := e1
  refine lv_ldc2 hx hb hown hw_0 dX9_land_2 ?_
  refine lv_ldc2 hx hb hown hw_1 dX9_land_5 ?_
  refine mc_i (wr := [(mo, .inr (16, [.int 5, .int 5, .int th, .ref m1, .ref m2, .ref m3, .ref m4, .ref m5, .ref l1, .ref l2, .ref l3, .int (-1), .ref l4])), (l1, .inr (5, [.int 1, .ref (D.1 1000), .int 0])), (l2, .inr (5, [.int 1, .ref (D.1 1000), .int 0])), (l3, .inr (5, [.int 1, .ref (D.1 1000), .int 0])), (l4, .inr (5, [.int 1, .ref (D.1 1000), .int 0]))]) (va_runS (As := [.long p0.toInt64, .long 3, .long 12]) (rest := []) ⟨hx, hb, hml, hown, hts⟩ (c_in l hst D p0 3 12 3 12 s.heap.size (by decide) (by decide)) (va_cwS 3 hts (gi_c (List.mem_cons_of_mem _ (List.mem_append_left _ (List.mem_of_getElem? (i := 2) rfl))) rfl (gi_c (List.mem_cons_of_mem _ (List.mem_append_left _ (List.mem_of_getElem? (i := 3) rfl))) rfl (gi_c (List.mem_cons_of_mem _ (List.mem_append_left _ (List.mem_of_getElem? (i := 4) rfl))) rfl (goodIn_sub hb_0 (List.all_eq_true.mpr gw_c_in))))) rfl rfl rfl (by decide +kernel) ⟨Nat.le_of_ble_eq_true rfl, Nat.le_of_ble_eq_true rfl⟩) (pr_S (As := [.long p0.toInt64, .long 3, .long 12]) hP hD hK hS hA hE [] [] rfl rfl rfl) rfl rfl hl.1 rfl (lv_room (Nat.le_of_ble_eq_true rfl)) dX9_land_8 ⟨Nat.le_of_ble_eq_true rfl, Nat.le_of_ble_eq_true rfl⟩) hP hD hK hS hA [] [0, 1, 2, 3, 4] rfl rfl (by decide) (by decide) (fun r3 _ H locs w2 hP hD hK hS => ?_)
  have hP : va_P D vwCl [(mo, .inr (16, [.int 5, .int 5, .int th, .ref m1, .ref m2, .ref m3, .ref m4, .ref m5, .ref l1, .ref l2, .ref l3, .int (-1), .ref l4])), (l1, .inr (5, [.int 1, .ref (D.1 1000), .int 0])), (l2, .inr (5, [.int 1, .ref (D.1 1000), .int 0])), (l3, .inr (5, [.int 1, .ref (D.1 1000), .int 0])), (l4, .inr (5, [.int 1, .ref (D.1 1000), .int 0]))] H := hP
  have hD : va_D A [(mo, .inr (16, [.int 5, .int 5, .int th, .ref m1, .ref m2, .ref m3, .ref m4, .ref m5, .ref l1, .ref l2, .ref l3, .int (-1), .ref l4])), (l1, .inr (5, [.int 1, .ref (D.1 1000), .int 0])), (l2, .inr (5, [.int 1, .ref (D.1 1000), .int 0])), (l3, .inr (5, [.int 1, .ref (D.1 1000), .int 0])), (l4, .inr (5, [.int 1, .ref (D.1 1000), .int 0]))] := hD
  have hK : va_K D vwCl [] s := hK
  obtain rfl : r3 = (if inR p0 3 12 then 1 else 0) := w2
  refine lv_if_eq (tgt := 28) hx hb dX9_land_11 (by decide) (fun h4 => ?_) (fun h4 => ?_)
  · refine lv_aload_n hx hb dX9_land_28 rfl (lv_at hl 0 rfl) ?_
    refine lv_iconst (v := 1) hx hb dX9_land_29 (by decide) ?_
    refine mc_i (wr := [(l1, .inr (5, [.int 1, .ref (D.1 1000), .int 0])), (l2, .inr (5, [.int 1, .ref (D.1 1000), .int 0])), (l3, .inr (5, [.int 1, .ref (D.1 1000), .int 0])), (l4, .inr (5, [.int 1, .ref (D.1 1000), .int 0]))]) (va_runV (As := [.int 1]) (rest := []) ⟨hx, hb, hml, hown, hts⟩ (c_fails l hst D mo 5 5 th m1 m2 m3 m4 m5 l1 l2 l3 (-1) l4 1 H.size) (cwV 1 hts (gi_c (List.mem_cons_of_mem _ (List.mem_append_left _ (List.mem_of_getElem? (i := 5) rfl))) rfl (gi_c (List.mem_cons_of_mem _ (List.mem_append_left _ (List.mem_of_getElem? (i := 6) rfl))) rfl (gi_c (List.mem_cons_of_mem _ (List.mem_append_left _ (List.mem_of_getElem? (i := 7) rfl))) rfl (gi_c (List.mem_cons_of_mem _ (List.mem_append_left _ (List.mem_of_getElem? (i := 4) rfl))) rfl (goodIn_sub hb_1 (List.all_eq_true.mpr gw_c_fails)))))) rfl rfl rfl (by decide +kernel) ⟨Nat.le_of_ble_eq_true rfl, Nat.le_of_ble_eq_true rfl⟩) (pr_V (As := [.int 1]) (b := mo) (C := RX9) hP hD hK hS hA hE [0] [] rfl rfl rfl 0 16 rfl rfl rfl) rfl rfl hl.1 rfl (lv_room (Nat.le_of_ble_eq_true rfl)) dX9_land_30 ⟨Nat.le_of_ble_eq_true rfl, Nat.le_of_ble_eq_true rfl⟩) hP hD hK hS hA [0] [1, 2, 3, 4] rfl rfl (by decide) (by decide) (fun r6 _ H locs w5 hP hD hK hS => ?_)
    have hP : va_P D vwCl [(l1, .inr (5, [.int 1, .ref (D.1 1000), .int 0])), (l2, .inr (5, [.int 1, .ref (D.1 1000), .int 0])), (l3, .inr (5, [.int 1, .ref (D.1 1000), .int 0])), (l4, .inr (5, [.int 1, .ref (D.1 1000), .int 0])), (mo, .inr (16, [.int 5, .int 5, .int 1, .ref m1, .ref m2, .ref m3, .ref m4, .ref m5, .ref l1, .ref l2, .ref l3, .int (-1), .ref l4]))] H := hP
    have hD : va_D A [(l1, .inr (5, [.int 1, .ref (D.1 1000), .int 0])), (l2, .inr (5, [.int 1, .ref (D.1 1000), .int 0])), (l3, .inr (5, [.int 1, .ref (D.1 1000), .int 0])), (l4, .inr (5, [.int 1, .ref (D.1 1000), .int 0])), (mo, .inr (16, [.int 5, .int 5, .int 1, .ref m1, .ref m2, .ref m3, .ref m4, .ref m5, .ref l1, .ref l2, .ref l3, .int (-1), .ref l4]))] := hD
    have hK : va_K D vwCl [] s := hK
    obtain rfl : r6 = 0 := w5
    exact mr_i hx hb hr (1, fun k9 => [m1, m2, m3, m4, m5, l1, l2, l3, l4].getD k9 0, fun k9 => [5, 5, -1].getD k9 0) (⟨(if_neg (ite01_0 h4)).symm, fun q9 => absurd ((if_neg (ite01_0 h4)).symm.trans q9) (by decide)⟩) (hP.sub [4] rfl) (hK.sub [] rfl) (hD.sub [4] (by decide) rfl) hS (Nat.le_of_ble_eq_true rfl) (Nat.le_of_ble_eq_true rfl) hlocks dX9_land_33
  · refine lv_iload_n hx hb dX9_land_14 rfl (lv_at hl 2 rfl) ?_
    refine lv_i2l hx hb dX9_land_15 rfl ?_
    refine lv_topl (fun x7 e7 => ?_)
    obtain rfl : x7 = p1.toInt64 := e7
    refine lv_ldc2 hx hb hown hw_0 dX9_land_16 ?_
    refine lv_ldc2 hx hb hown hw_1 dX9_land_19 ?_
    refine mc_i (wr := [(mo, .inr (16, [.int 5, .int 5, .int th, .ref m1, .ref m2, .ref m3, .ref m4, .ref m5, .ref l1, .ref l2, .ref l3, .int (-1), .ref l4])), (l1, .inr (5, [.int 1, .ref (D.1 1000), .int 0])), (l2, .inr (5, [.int 1, .ref (D.1 1000), .int 0])), (l3, .inr (5, [.int 1, .ref (D.1 1000), .int 0])), (l4, .inr (5, [.int 1, .ref (D.1 1000), .int 0]))]) (va_runS (As := [.long p1.toInt64, .long 3, .long 12]) (rest := []) ⟨hx, hb, hml, hown, hts⟩ (c_in l hst D p1 3 12 3 12 H.size (by decide) (by decide)) (va_cwS 3 hts (gi_c (List.mem_cons_of_mem _ (List.mem_append_left _ (List.mem_of_getElem? (i := 2) rfl))) rfl (gi_c (List.mem_cons_of_mem _ (List.mem_append_left _ (List.mem_of_getElem? (i := 3) rfl))) rfl (gi_c (List.mem_cons_of_mem _ (List.mem_append_left _ (List.mem_of_getElem? (i := 4) rfl))) rfl (goodIn_sub hb_0 (List.all_eq_true.mpr gw_c_in))))) rfl rfl rfl (by decide +kernel) ⟨Nat.le_of_ble_eq_true rfl, Nat.le_of_ble_eq_true rfl⟩) (pr_S (As := [.long p1.toInt64, .long 3, .long 12]) hP hD hK hS hA hE [] [] rfl rfl rfl) rfl rfl hl.1 rfl (lv_room (Nat.le_of_ble_eq_true rfl)) dX9_land_22 ⟨Nat.le_of_ble_eq_true rfl, Nat.le_of_ble_eq_true rfl⟩) hP hD hK hS hA [] [0, 1, 2, 3, 4] rfl rfl (by decide) (by decide) (fun r9 _ H locs w8 hP hD hK hS => ?_)
    have hP : va_P D vwCl [(mo, .inr (16, [.int 5, .int 5, .int th, .ref m1, .ref m2, .ref m3, .ref m4, .ref m5, .ref l1, .ref l2, .ref l3, .int (-1), .ref l4])), (l1, .inr (5, [.int 1, .ref (D.1 1000), .int 0])), (l2, .inr (5, [.int 1, .ref (D.1 1000), .int 0])), (l3, .inr (5, [.int 1, .ref (D.1 1000), .int 0])), (l4, .inr (5, [.int 1, .ref (D.1 1000), .int 0]))] H := hP
    have hD : va_D A [(mo, .inr (16, [.int 5, .int 5, .int th, .ref m1, .ref m2, .ref m3, .ref m4, .ref m5, .ref l1, .ref l2, .ref l3, .int (-1), .ref l4])), (l1, .inr (5, [.int 1, .ref (D.1 1000), .int 0])), (l2, .inr (5, [.int 1, .ref (D.1 1000), .int 0])), (l3, .inr (5, [.int 1, .ref (D.1 1000), .int 0])), (l4, .inr (5, [.int 1, .ref (D.1 1000), .int 0]))] := hD
    have hK : va_K D vwCl [] s := hK
    obtain rfl : r9 = (if inR p1 3 12 then 1 else 0) := w8
    refine lv_if_ne (tgt := 34) hx hb dX9_land_25 (by decide) (fun h10 => ?_) (fun h10 => ?_)
    · obtain ⟨k0, hk0, rfl⟩ := inR_nI (M := 12) (by decide) (by decide) (ite01_1 h4)
      obtain ⟨k1, hk1, rfl⟩ := inR_nI (M := 12) (by decide) (by decide) (ite01_1 h10)
      have hN : k0 * k1 ≤ 144 := Nat.mul_le_mul hk0 hk1
      refine lv_aload_n hx hb dX9_land_34 rfl (lv_at hl 0 rfl) ?_
      refine lv_iload_n hx hb dX9_land_35 rfl (lv_at hl 1 rfl) ?_
      refine lv_iload_n hx hb dX9_land_36 rfl (lv_at hl 2 rfl) ?_
      refine mc_v (wr := []) (va_runV (As := [.int (nI k0), .int (nI k1)]) (rest := []) ⟨hx, hb, hml, hown, hts⟩ (c_begins l hst D mo 5 5 th m1 m2 m3 m4 m5 l1 l2 l3 (-1) l4 1 1 1 1 k0 k1 H.size (hN)) (cwV 2 hts (gi_c (List.mem_cons_of_mem _ (List.mem_append_left _ (List.mem_of_getElem? (i := 8) rfl))) rfl (gi_c (List.mem_cons_of_mem _ (List.mem_append_left _ (List.mem_of_getElem? (i := 9) rfl))) rfl (gi_c (List.mem_cons_of_mem _ (List.mem_append_left _ (List.mem_of_getElem? (i := 10) rfl))) rfl (gi_c (List.mem_cons_of_mem _ (List.mem_append_left _ (List.mem_of_getElem? (i := 4) rfl))) rfl (goodIn_sub hb_2 (List.all_eq_true.mpr gw_c_begins)))))) rfl rfl rfl (by decide +kernel) ⟨Nat.le_of_ble_eq_true rfl, Nat.le_of_ble_eq_true rfl⟩) (pr_V (As := [.int (nI k0), .int (nI k1)]) (b := mo) (C := RX9) hP hD hK hS hA hE [0, 1, 2, 3, 4] [] rfl rfl rfl 0 16 rfl rfl rfl) rfl rfl hl.1 rfl (lv_room (Nat.le_of_ble_eq_true rfl)) dX9_land_37 ⟨Nat.le_of_ble_eq_true rfl, Nat.le_of_ble_eq_true rfl⟩) hP hD hK hS hA [0, 1, 2, 3, 4] [] rfl rfl (by decide) (by decide) (fun u11 H locs w12 hP hD hK hS => ?_)
      have hP : va_P D vwCl [(mo, .inr (16, [.int (nI k0), .int (nI k1), .int th, .ref (u11.1 0), .ref (u11.1 1), .ref (u11.1 2), .ref (u11.1 3), .ref (u11.1 4), .ref l1, .ref l2, .ref l3, .int (-1), .ref l4])), (u11.1 0, .inl (u11.2 0, k0 * k1, .inl (fun _ => 0))), (u11.1 1, .inl (u11.2 1, k0 * k1, .inl (fun _ => 0))), (u11.1 2, .inl (u11.2 2, k0 * k1, .inl (fun _ => 0))), (u11.1 3, .inl (u11.2 3, k0 * k1, .inl (fa_fill (fun _ => 46) (fun _ => 0) (k0 * k1)))), (u11.1 4, .inl (u11.2 4, k0 * k1, .inl (fa_fill (fun _ => 46) (fun _ => 0) (k0 * k1)))), (l1, .inr (5, [.int (1 + 1), .ref (D.1 1000), .int 0])), (l2, .inr (5, [.int (1 + 1), .ref (D.1 1000), .int 0])), (l3, .inr (5, [.int (1 + 1), .ref (D.1 1000), .int 0])), (l4, .inr (5, [.int (1 + 1), .ref (D.1 1000), .int 0]))] H := hP
      have hD : va_D A [(mo, .inr (16, [.int (nI k0), .int (nI k1), .int th, .ref (u11.1 0), .ref (u11.1 1), .ref (u11.1 2), .ref (u11.1 3), .ref (u11.1 4), .ref l1, .ref l2, .ref l3, .int (-1), .ref l4])), (u11.1 0, .inl (u11.2 0, k0 * k1, .inl (fun _ => 0))), (u11.1 1, .inl (u11.2 1, k0 * k1, .inl (fun _ => 0))), (u11.1 2, .inl (u11.2 2, k0 * k1, .inl (fun _ => 0))), (u11.1 3, .inl (u11.2 3, k0 * k1, .inl (fa_fill (fun _ => 46) (fun _ => 0) (k0 * k1)))), (u11.1 4, .inl (u11.2 4, k0 * k1, .inl (fa_fill (fun _ => 46) (fun _ => 0) (k0 * k1)))), (l1, .inr (5, [.int (1 + 1), .ref (D.1 1000), .int 0])), (l2, .inr (5, [.int (1 + 1), .ref (D.1 1000), .int 0])), (l3, .inr (5, [.int (1 + 1), .ref (D.1 1000), .int 0])), (l4, .inr (5, [.int (1 + 1), .ref (D.1 1000), .int 0]))] := hD
      have hK : va_K D vwCl [(u11.2 0, .int), (u11.2 1, .int), (u11.2 2, .int), (u11.2 3, .char), (u11.2 4, .char)] s := hK
      refine lv_aload_n hx hb dX9_land_40 rfl (lv_at hl 0 rfl) ?_
      refine lv_iload_n hx hb dX9_land_41 rfl (lv_at hl 1 rfl) ?_
      refine lv_iload_n hx hb dX9_land_42 rfl (lv_at hl 2 rfl) ?_
      refine lv_imul hx hb dX9_land_43 ?_
      refine lv_topi (fun x14 e14 => ?_)
      obtain rfl : x14 = nI (k0 * k1) := e14.trans (pk_mul k0 k1)
      refine mc_i (wr := [(u11.1 0, .inl (u11.2 0, k0 * k1, .inl (fun _ => 0))), (u11.1 1, .inl (u11.2 1, k0 * k1, .inl (fun _ => 0))), (u11.1 2, .inl (u11.2 2, k0 * k1, .inl (fun _ => 0))), (u11.1 3, .inl (u11.2 3, k0 * k1, .inl (fa_fill (fun _ => 46) (fun _ => 0) (k0 * k1)))), (u11.1 4, .inl (u11.2 4, k0 * k1, .inl (fa_fill (fun _ => 46) (fun _ => 0) (k0 * k1)))), (l1, .inr (5, [.int (1 + 1), .ref (D.1 1000), .int 0])), (l2, .inr (5, [.int (1 + 1), .ref (D.1 1000), .int 0])), (l3, .inr (5, [.int (1 + 1), .ref (D.1 1000), .int 0])), (l4, .inr (5, [.int (1 + 1), .ref (D.1 1000), .int 0]))]) (va_runV (As := [.int (nI (k0 * k1))]) (rest := []) ⟨hx, hb, hml, hown, hts⟩ (c_tells l hst D mo (nI k0) (nI k1) th (u11.1 0) (u11.1 1) (u11.1 2) (u11.1 3) (u11.1 4) l1 l2 l3 (-1) l4 (nI (k0 * k1)) H.size) (cwV 1 hts (gi_c (List.mem_cons_of_mem _ (List.mem_append_left _ (List.mem_of_getElem? (i := 11) rfl))) rfl (gi_c (List.mem_cons_of_mem _ (List.mem_append_left _ (List.mem_of_getElem? (i := 12) rfl))) rfl (gi_c (List.mem_cons_of_mem _ (List.mem_append_left _ (List.mem_of_getElem? (i := 13) rfl))) rfl (gi_c (List.mem_cons_of_mem _ (List.mem_append_left _ (List.mem_of_getElem? (i := 4) rfl))) rfl (goodIn_sub hb_3 (List.all_eq_true.mpr gw_c_tells)))))) rfl rfl rfl (by decide +kernel) ⟨Nat.le_of_ble_eq_true rfl, Nat.le_of_ble_eq_true rfl⟩) (pr_V (As := [.int (nI (k0 * k1))]) (b := mo) (C := RX9) hP hD hK hS hA hE [0] [] rfl rfl rfl 0 16 rfl rfl rfl) rfl rfl hl.1 rfl (lv_room (Nat.le_of_ble_eq_true rfl)) dX9_land_44 ⟨Nat.le_of_ble_eq_true rfl, Nat.le_of_ble_eq_true rfl⟩) hP hD hK hS hA [0] [1, 2, 3, 4, 5, 6, 7, 8, 9] rfl rfl (by decide) (by decide) (fun r16 _ H locs w15 hP hD hK hS => ?_)
      have hP : va_P D vwCl [(u11.1 0, .inl (u11.2 0, k0 * k1, .inl (fun _ => 0))), (u11.1 1, .inl (u11.2 1, k0 * k1, .inl (fun _ => 0))), (u11.1 2, .inl (u11.2 2, k0 * k1, .inl (fun _ => 0))), (u11.1 3, .inl (u11.2 3, k0 * k1, .inl (fa_fill (fun _ => 46) (fun _ => 0) (k0 * k1)))), (u11.1 4, .inl (u11.2 4, k0 * k1, .inl (fa_fill (fun _ => 46) (fun _ => 0) (k0 * k1)))), (l1, .inr (5, [.int (1 + 1), .ref (D.1 1000), .int 0])), (l2, .inr (5, [.int (1 + 1), .ref (D.1 1000), .int 0])), (l3, .inr (5, [.int (1 + 1), .ref (D.1 1000), .int 0])), (l4, .inr (5, [.int (1 + 1), .ref (D.1 1000), .int 0])), (mo, .inr (16, [.int (nI k0), .int (nI k1), .int 0, .ref (u11.1 0), .ref (u11.1 1), .ref (u11.1 2), .ref (u11.1 3), .ref (u11.1 4), .ref l1, .ref l2, .ref l3, .int (-1), .ref l4]))] H := hP
      have hD : va_D A [(u11.1 0, .inl (u11.2 0, k0 * k1, .inl (fun _ => 0))), (u11.1 1, .inl (u11.2 1, k0 * k1, .inl (fun _ => 0))), (u11.1 2, .inl (u11.2 2, k0 * k1, .inl (fun _ => 0))), (u11.1 3, .inl (u11.2 3, k0 * k1, .inl (fa_fill (fun _ => 46) (fun _ => 0) (k0 * k1)))), (u11.1 4, .inl (u11.2 4, k0 * k1, .inl (fa_fill (fun _ => 46) (fun _ => 0) (k0 * k1)))), (l1, .inr (5, [.int (1 + 1), .ref (D.1 1000), .int 0])), (l2, .inr (5, [.int (1 + 1), .ref (D.1 1000), .int 0])), (l3, .inr (5, [.int (1 + 1), .ref (D.1 1000), .int 0])), (l4, .inr (5, [.int (1 + 1), .ref (D.1 1000), .int 0])), (mo, .inr (16, [.int (nI k0), .int (nI k1), .int 0, .ref (u11.1 0), .ref (u11.1 1), .ref (u11.1 2), .ref (u11.1 3), .ref (u11.1 4), .ref l1, .ref l2, .ref l3, .int (-1), .ref l4]))] := hD
      have hK : va_K D vwCl [(u11.2 0, .int), (u11.2 1, .int), (u11.2 2, .int), (u11.2 3, .char), (u11.2 4, .char)] s := hK
      obtain rfl : r16 = (nI (k0 * k1)) := w15
      exact mr_i hx hb hr (0, fun k9 => [u11.1 0, u11.1 1, u11.1 2, u11.1 3, u11.1 4, l1, l2, l3, l4].getD k9 0, fun k9 => [nI k0, nI k1, -1].getD k9 0) (⟨((if_pos (ite01_1 h4)).trans (if_pos (ite01_1 h10))).symm, fun _ => (pk_mul k0 k1).symm⟩) (hP.sub [9] rfl) (hK.sub [] rfl) (hD.sub [9] (by decide) rfl) hS (Nat.le_of_ble_eq_true rfl) (Nat.le_of_ble_eq_true rfl) hlocks dX9_land_47
    · refine lv_aload_n hx hb dX9_land_28 rfl (lv_at hl 0 rfl) ?_
      refine lv_iconst (v := 1) hx hb dX9_land_29 (by decide) ?_
      refine mc_i (wr := [(l1, .inr (5, [.int 1, .ref (D.1 1000), .int 0])), (l2, .inr (5, [.int 1, .ref (D.1 1000), .int 0])), (l3, .inr (5, [.int 1, .ref (D.1 1000), .int 0])), (l4, .inr (5, [.int 1, .ref (D.1 1000), .int 0]))]) (va_runV (As := [.int 1]) (rest := []) ⟨hx, hb, hml, hown, hts⟩ (c_fails l hst D mo 5 5 th m1 m2 m3 m4 m5 l1 l2 l3 (-1) l4 1 H.size) (cwV 1 hts (gi_c (List.mem_cons_of_mem _ (List.mem_append_left _ (List.mem_of_getElem? (i := 5) rfl))) rfl (gi_c (List.mem_cons_of_mem _ (List.mem_append_left _ (List.mem_of_getElem? (i := 6) rfl))) rfl (gi_c (List.mem_cons_of_mem _ (List.mem_append_left _ (List.mem_of_getElem? (i := 7) rfl))) rfl (gi_c (List.mem_cons_of_mem _ (List.mem_append_left _ (List.mem_of_getElem? (i := 4) rfl))) rfl (goodIn_sub hb_1 (List.all_eq_true.mpr gw_c_fails)))))) rfl rfl rfl (by decide +kernel) ⟨Nat.le_of_ble_eq_true rfl, Nat.le_of_ble_eq_true rfl⟩) (pr_V (As := [.int 1]) (b := mo) (C := RX9) hP hD hK hS hA hE [0] [] rfl rfl rfl 0 16 rfl rfl rfl) rfl rfl hl.1 rfl (lv_room (Nat.le_of_ble_eq_true rfl)) dX9_land_30 ⟨Nat.le_of_ble_eq_true rfl, Nat.le_of_ble_eq_true rfl⟩) hP hD hK hS hA [0] [1, 2, 3, 4] rfl rfl (by decide) (by decide) (fun r18 _ H locs w17 hP hD hK hS => ?_)
      have hP : va_P D vwCl [(l1, .inr (5, [.int 1, .ref (D.1 1000), .int 0])), (l2, .inr (5, [.int 1, .ref (D.1 1000), .int 0])), (l3, .inr (5, [.int 1, .ref (D.1 1000), .int 0])), (l4, .inr (5, [.int 1, .ref (D.1 1000), .int 0])), (mo, .inr (16, [.int 5, .int 5, .int 1, .ref m1, .ref m2, .ref m3, .ref m4, .ref m5, .ref l1, .ref l2, .ref l3, .int (-1), .ref l4]))] H := hP
      have hD : va_D A [(l1, .inr (5, [.int 1, .ref (D.1 1000), .int 0])), (l2, .inr (5, [.int 1, .ref (D.1 1000), .int 0])), (l3, .inr (5, [.int 1, .ref (D.1 1000), .int 0])), (l4, .inr (5, [.int 1, .ref (D.1 1000), .int 0])), (mo, .inr (16, [.int 5, .int 5, .int 1, .ref m1, .ref m2, .ref m3, .ref m4, .ref m5, .ref l1, .ref l2, .ref l3, .int (-1), .ref l4]))] := hD
      have hK : va_K D vwCl [] s := hK
      obtain rfl : r18 = 0 := w17
      exact mr_i hx hb hr (1, fun k9 => [m1, m2, m3, m4, m5, l1, l2, l3, l4].getD k9 0, fun k9 => [5, 5, -1].getD k9 0) (⟨((if_pos (ite01_1 h4)).trans (if_neg (ite01_0 h10))).symm, fun q9 => absurd (((if_pos (ite01_1 h4)).trans (if_neg (ite01_0 h10))).symm.trans q9) (by decide)⟩) (hP.sub [4] rfl) (hK.sub [] rfl) (hD.sub [4] (by decide) rfl) hS (Nat.le_of_ble_eq_true rfl) (Nat.le_of_ble_eq_true rfl) hlocks dX9_land_33

def us_c_mshow : List Cond := .code yX9_show cX9_show 5 (some .int) :: (([.methodLink RX9 83 yX9_isCell, .instanceMethod yX9_isCell, .selects RX9 yX9_isCell yX9_isCell, .initialized RX9, .constantLong RX9 87 (9), .methodLink RX9 72 yX9_in, .static yX9_in, .methodLink RX9 76 yX9_fails, .instanceMethod yX9_fails, .selects RX9 yX9_fails yX9_fails, .methodLink RX9 89 yX9_isKind, .static yX9_isKind, .fieldLink RX9 26 "ControlWoodModel" "shown" "[I", .fieldLink RX9 33 "ControlWoodModel" "shownKind" "[C", .methodLink RX9 80 yX9_tells, .instanceMethod yX9_tells, .selects RX9 yX9_tells yX9_tells] : List Cond) ++ (us_c_isCell ++ (us_c_in ++ (us_c_fails ++ (us_c_isKind ++ (wsX90 ++ (us_c_tells ++ ([]))))))))
theorem gw_c_mshow : ∀ w ∈ us_c_mshow, goodWord w = true := gw_cons rfl (gw_app (by decide +kernel) (gw_app gw_c_isCell (gw_app gw_c_in (gw_app gw_c_fails (gw_app gw_c_isKind (gw_app gwf_X9 (gw_app gw_c_tells (fun _ h => nomatch h))))))))
set_option maxHeartbeats 4000000 in
set_option maxRecDepth 100000 in
/-- the reference: show -/
theorem c_mshow (l : Launch) (hst : l.stackTraces = false) (D : va_G) (mo : Nat) (th : Int32) (m1 : Nat) (m2 : Nat) (m3 : Nat) (m4 : Nat) (m5 : Nat) (l1 : Nat) (l2 : Nat) (l3 : Nat) (l4 : Nat) (cm1 : ClassId) (cm3 : ClassId) (cm5 : ClassId) (p0 : Int32) (p1 : Int32) (p2 : Int32) (sz : Nat) : Met l yX9_show us_c_mshow { frames := 2, cells := 0, slots := 0, locals := 46 } (pw D [.ref mo, .int p0, .int p1, .int p2] [(cm1, .int), (cm3, .int), (cm5, .char)] [(mo, .inr (16, [.int 5, .int 5, .int th, .ref m1, .ref m2, .ref m3, .ref m4, .ref m5, .ref l1, .ref l2, .ref l3, .int (-1), .ref l4])), (m1, .inl (cm1, 25, .inl (fun _ => 0))), (m3, .inl (cm3, 25, .inl (fun _ => 0))), (m5, .inl (cm5, 25, .inl fK5))] sz) (va_Qi (fun (r : Int32) (u : (Int32 × (Nat → Nat) × (Nat → Int32))) => u.1 = kf_show p0 p1 p2 ∧ (kf_show p0 p1 p2 = 0 → r = rf_show p0 p1 p2)) (qb D (va_A [(mo, .inr (16, [.int 5, .int 5, .int th, .ref m1, .ref m2, .ref m3, .ref m4, .ref m5, .ref l1, .ref l2, .ref l3, .int (-1), .ref l4])), (m1, .inl (cm1, 25, .inl (fun _ => 0))), (m3, .inl (cm3, 25, .inl (fun _ => 0))), (m5, .inl (cm5, 25, .inl fK5))] sz) (fun u : (Int32 × (Nat → Nat) × (Nat → Int32)) => [(mo, .inr (16, [.int (u.2.2 0), .int (u.2.2 1), .int u.1, .ref (u.2.1 0), .ref (u.2.1 1), .ref (u.2.1 2), .ref (u.2.1 3), .ref (u.2.1 4), .ref (u.2.1 5), .ref (u.2.1 6), .ref (u.2.1 7), .int (u.2.2 2), .ref (u.2.1 8)]))]) (fun u : (Int32 × (Nat → Nat) × (Nat → Int32)) => ([] : List (ClassId × FieldType)))) (va_A [(mo, .inr (16, [.int 5, .int 5, .int th, .ref m1, .ref m2, .ref m3, .ref m4, .ref m5, .ref l1, .ref l2, .ref l3, .int (-1), .ref l4])), (m1, .inl (cm1, 25, .inl (fun _ => 0))), (m3, .inl (cm3, 25, .inl (fun _ => 0))), (m5, .inl (cm5, 25, .inl fK5))] sz)) 0 0 (va_A [(mo, .inr (16, [.int 5, .int 5, .int th, .ref m1, .ref m2, .ref m3, .ref m4, .ref m5, .ref l1, .ref l2, .ref l3, .int (-1), .ref l4])), (m1, .inl (cm1, 25, .inl (fun _ => 0))), (m3, .inl (cm3, 25, .inl (fun _ => 0))), (m5, .inl (cm5, 25, .inl fK5))] sz) := by
  refine op_M (Qc := fun A => (va_Qi (fun (r : Int32) (u : (Int32 × (Nat → Nat) × (Nat → Int32))) => u.1 = kf_show p0 p1 p2 ∧ (kf_show p0 p1 p2 = 0 → r = rf_show p0 p1 p2)) (qb D A (fun u : (Int32 × (Nat → Nat) × (Nat → Int32)) => [(mo, .inr (16, [.int (u.2.2 0), .int (u.2.2 1), .int u.1, .ref (u.2.1 0), .ref (u.2.1 1), .ref (u.2.1 2), .ref (u.2.1 3), .ref (u.2.1 4), .ref (u.2.1 5), .ref (u.2.1 6), .ref (u.2.1 7), .int (u.2.2 2), .ref (u.2.1 8)]))]) (fun u : (Int32 × (Nat → Nat) × (Nat → Int32)) => ([] : List (ClassId × FieldType)))) A)) (by decide +kernel) rfl (Nat.le_of_ble_eq_true rfl) ?_
  intro p e s m args below meth c A ls hx hb hr hml hts hown hlocks hmn htab hA hD hS hP hK hE hsz hl
  have hown : s.vm.findClass RX9 = some m.cls := hown
  have hl : lv_has ls 5 [(0, .ref mo), (1, .int p0), (2, .int p1), (3, .int p2)] := hl
  have hw_0 := hts (.methodLink RX9 83 yX9_isCell) (List.mem_cons_of_mem _ (List.mem_append_left _ (List.mem_of_getElem? (i := 0) rfl)))
  have hw_1 := hts (.instanceMethod yX9_isCell) (List.mem_cons_of_mem _ (List.mem_append_left _ (List.mem_of_getElem? (i := 1) rfl)))
  have hw_2 := hts (.selects RX9 yX9_isCell yX9_isCell) (List.mem_cons_of_mem _ (List.mem_append_left _ (List.mem_of_getElem? (i := 2) rfl)))
  have hw_3 := hts (.initialized RX9) (List.mem_cons_of_mem _ (List.mem_append_left _ (List.mem_of_getElem? (i := 3) rfl)))
  have hw_4 := hts (.constantLong RX9 87 (9)) (List.mem_cons_of_mem _ (List.mem_append_left _ (List.mem_of_getElem? (i := 4) rfl)))
  have hw_5 := hts (.methodLink RX9 72 yX9_in) (List.mem_cons_of_mem _ (List.mem_append_left _ (List.mem_of_getElem? (i := 5) rfl)))
  have hw_6 := hts (.static yX9_in) (List.mem_cons_of_mem _ (List.mem_append_left _ (List.mem_of_getElem? (i := 6) rfl)))
  have hw_7 := hts (.methodLink RX9 76 yX9_fails) (List.mem_cons_of_mem _ (List.mem_append_left _ (List.mem_of_getElem? (i := 7) rfl)))
  have hw_8 := hts (.instanceMethod yX9_fails) (List.mem_cons_of_mem _ (List.mem_append_left _ (List.mem_of_getElem? (i := 8) rfl)))
  have hw_9 := hts (.selects RX9 yX9_fails yX9_fails) (List.mem_cons_of_mem _ (List.mem_append_left _ (List.mem_of_getElem? (i := 9) rfl)))
  have hw_10 := hts (.methodLink RX9 89 yX9_isKind) (List.mem_cons_of_mem _ (List.mem_append_left _ (List.mem_of_getElem? (i := 10) rfl)))
  have hw_11 := hts (.static yX9_isKind) (List.mem_cons_of_mem _ (List.mem_append_left _ (List.mem_of_getElem? (i := 11) rfl)))
  have hw_12 := hts (.fieldLink RX9 26 "ControlWoodModel" "shown" "[I") (List.mem_cons_of_mem _ (List.mem_append_left _ (List.mem_of_getElem? (i := 12) rfl)))
  have hw_13 := hts (.fieldLink RX9 33 "ControlWoodModel" "shownKind" "[C") (List.mem_cons_of_mem _ (List.mem_append_left _ (List.mem_of_getElem? (i := 13) rfl)))
  have hw_14 := hts (.methodLink RX9 80 yX9_tells) (List.mem_cons_of_mem _ (List.mem_append_left _ (List.mem_of_getElem? (i := 14) rfl)))
  have hw_15 := hts (.instanceMethod yX9_tells) (List.mem_cons_of_mem _ (List.mem_append_left _ (List.mem_of_getElem? (i := 15) rfl)))
  have hw_16 := hts (.selects RX9 yX9_tells yX9_tells) (List.mem_cons_of_mem _ (List.mem_append_left _ (List.mem_of_getElem? (i := 16) rfl)))
  have hb_0 : ∀ w ∈ us_c_isCell, w ∈ us_c_mshow := fun w h => List.mem_cons_of_mem _ (List.mem_append_right _ (List.mem_append_left _ h))
  have hb_1 : ∀ w ∈ us_c_in, w ∈ us_c_mshow := fun w h => List.mem_cons_of_mem _ (List.mem_append_right _ (List.mem_append_right _ (List.mem_append_left _ h)))
  have hb_2 : ∀ w ∈ us_c_fails, w ∈ us_c_mshow := fun w h => List.mem_cons_of_mem _ (List.mem_append_right _ (List.mem_append_right _ (List.mem_append_right _ (List.mem_append_left _ h))))
  have hb_3 : ∀ w ∈ us_c_isKind, w ∈ us_c_mshow := fun w h => List.mem_cons_of_mem _ (List.mem_append_right _ (List.mem_append_right _ (List.mem_append_right _ (List.mem_append_right _ (List.mem_append_left _ h)))))
  have hb_4 : ∀ w ∈ wsX90, w ∈ us_c_mshow := fun w h => List.mem_cons_of_mem _ (List.mem_append_right _ (List.mem_append_right _ (List.mem_append_right _ (List.mem_append_right _ (List.mem_append_right _ (List.mem_append_left _ h))))))
  have hb_5 : ∀ w ∈ us_c_tells, w ∈ us_c_mshow := fun w h => List.mem_cons_of_mem _ (List.mem_append_right _ (List.mem_append_right _ (List.mem_append_right _ (List.mem_append_right _ (List.mem_append_right _ (List.mem_append_right _ (List.mem_append_left _ h)))))))
  refine lv_aload_n hx hb dX9_show_0 rfl (lv_at hl 0 rfl) ?_
  refine lv_iload_n hx hb dX9_show_1 rfl (lv_at hl 1 rfl) ?_
  refine mc_i (wr := [(m3, .inl (cm3, 25, .inl (fun _ => 0))), (m5, .inl (cm5, 25, .inl fK5))]) (va_runV (As := [.int p0]) (rest := []) ⟨hx, hb, hml, hown, hts⟩ (c_isCell l hst D mo th m1 m2 m3 m4 m5 l1 l2 l3 l4 cm1 p0 s.heap.size) (cwV 1 hts (gi_c (List.mem_cons_of_mem _ (List.mem_append_left _ (List.mem_of_getElem? (i := 0) rfl))) rfl (gi_c (List.mem_cons_of_mem _ (List.mem_append_left _ (List.mem_of_getElem? (i := 1) rfl))) rfl (gi_c (List.mem_cons_of_mem _ (List.mem_append_left _ (List.mem_of_getElem? (i := 2) rfl))) rfl (gi_c (List.mem_cons_of_mem _ (List.mem_append_left _ (List.mem_of_getElem? (i := 3) rfl))) rfl (goodIn_sub hb_0 (List.all_eq_true.mpr gw_c_isCell)))))) rfl rfl rfl (by decide +kernel) ⟨Nat.le_of_ble_eq_true rfl, Nat.le_of_ble_eq_true rfl⟩) (pr_V (As := [.int p0]) (b := mo) (C := RX9) hP hD hK hS hA hE [0, 1] [0] rfl rfl rfl 0 16 rfl rfl rfl) rfl rfl hl.1 rfl (lv_room (Nat.le_of_ble_eq_true rfl)) dX9_show_2 ⟨Nat.le_of_ble_eq_true rfl, Nat.le_of_ble_eq_true rfl⟩) hP hD hK hS hA [0, 1] [2, 3] rfl rfl (by decide) (by decide) (fun r2 _ H locs w1 hP hD hK hS => ?_)
  have hP : va_P D vwCl [(m3, .inl (cm3, 25, .inl (fun _ => 0))), (m5, .inl (cm5, 25, .inl fK5)), (mo, .inr (16, [.int 5, .int 5, .int th, .ref m1, .ref m2, .ref m3, .ref m4, .ref m5, .ref l1, .ref l2, .ref l3, .int (-1), .ref l4])), (m1, .inl (cm1, 25, .inl (fun _ => 0)))] H := hP
  have hD : va_D A [(m3, .inl (cm3, 25, .inl (fun _ => 0))), (m5, .inl (cm5, 25, .inl fK5)), (mo, .inr (16, [.int 5, .int 5, .int th, .ref m1, .ref m2, .ref m3, .ref m4, .ref m5, .ref l1, .ref l2, .ref l3, .int (-1), .ref l4])), (m1, .inl (cm1, 25, .inl (fun _ => 0)))] := hD
  have hK : va_K D vwCl [(cm1, .int), (cm3, .int), (cm5, .char)] s := hK
  obtain rfl : r2 = (if inI p0 25 then 1 else 0) := w1
  refine lv_if_ne (tgt := 14) hx hb dX9_show_5 (by decide) (fun h3 => ?_) (fun h3 => ?_)
  · obtain ⟨k0, hk0, rfl⟩ := inI_nI (ite01_1 h3)
    refine lv_iload_n hx hb dX9_show_14 rfl (lv_at hl 2 rfl) ?_
    refine lv_i2l hx hb dX9_show_15 rfl ?_
    refine lv_topl (fun x4 e4 => ?_)
    obtain rfl : x4 = p1.toInt64 := e4
    refine lv_lconst (v := 0) hx hb dX9_show_16 (by decide) ?_
    refine lv_ldc2 hx hb hown hw_4 dX9_show_17 ?_
    refine mc_i (wr := [(m3, .inl (cm3, 25, .inl (fun _ => 0))), (m5, .inl (cm5, 25, .inl fK5)), (mo, .inr (16, [.int 5, .int 5, .int th, .ref m1, .ref m2, .ref m3, .ref m4, .ref m5, .ref l1, .ref l2, .ref l3, .int (-1), .ref l4])), (m1, .inl (cm1, 25, .inl (fun _ => 0)))]) (va_runS (As := [.long p1.toInt64, .long 0, .long 9]) (rest := []) ⟨hx, hb, hml, hown, hts⟩ (c_in l hst D p1 0 9 0 9 H.size (by decide) (by decide)) (va_cwS 3 hts (gi_c (List.mem_cons_of_mem _ (List.mem_append_left _ (List.mem_of_getElem? (i := 5) rfl))) rfl (gi_c (List.mem_cons_of_mem _ (List.mem_append_left _ (List.mem_of_getElem? (i := 6) rfl))) rfl (gi_c (List.mem_cons_of_mem _ (List.mem_append_left _ (List.mem_of_getElem? (i := 3) rfl))) rfl (goodIn_sub hb_1 (List.all_eq_true.mpr gw_c_in))))) rfl rfl rfl (by decide +kernel) ⟨Nat.le_of_ble_eq_true rfl, Nat.le_of_ble_eq_true rfl⟩) (pr_S (As := [.long p1.toInt64, .long 0, .long 9]) hP hD hK hS hA hE [] [] rfl rfl rfl) rfl rfl hl.1 rfl (lv_room (Nat.le_of_ble_eq_true rfl)) dX9_show_20 ⟨Nat.le_of_ble_eq_true rfl, Nat.le_of_ble_eq_true rfl⟩) hP hD hK hS hA [] [0, 1, 2, 3] rfl rfl (by decide) (by decide) (fun r6 _ H locs w5 hP hD hK hS => ?_)
    have hP : va_P D vwCl [(m3, .inl (cm3, 25, .inl (fun _ => 0))), (m5, .inl (cm5, 25, .inl fK5)), (mo, .inr (16, [.int 5, .int 5, .int th, .ref m1, .ref m2, .ref m3, .ref m4, .ref m5, .ref l1, .ref l2, .ref l3, .int (-1), .ref l4])), (m1, .inl (cm1, 25, .inl (fun _ => 0)))] H := hP
    have hD : va_D A [(m3, .inl (cm3, 25, .inl (fun _ => 0))), (m5, .inl (cm5, 25, .inl fK5)), (mo, .inr (16, [.int 5, .int 5, .int th, .ref m1, .ref m2, .ref m3, .ref m4, .ref m5, .ref l1, .ref l2, .ref l3, .int (-1), .ref l4])), (m1, .inl (cm1, 25, .inl (fun _ => 0)))] := hD
    have hK : va_K D vwCl [(cm1, .int), (cm3, .int), (cm5, .char)] s := hK
    obtain rfl : r6 = (if inR p1 0 9 then 1 else 0) := w5
    refine lv_if_eq (tgt := 33) hx hb dX9_show_23 (by decide) (fun h7 => ?_) (fun h7 => ?_)
    · refine lv_aload_n hx hb dX9_show_33 rfl (lv_at hl 0 rfl) ?_
      refine lv_iconst (v := 2) hx hb dX9_show_34 (by decide) ?_
      refine mc_i (wr := [(m3, .inl (cm3, 25, .inl (fun _ => 0))), (m5, .inl (cm5, 25, .inl fK5)), (m1, .inl (cm1, 25, .inl (fun _ => 0)))]) (va_runV (As := [.int 2]) (rest := []) ⟨hx, hb, hml, hown, hts⟩ (c_fails l hst D mo 5 5 th m1 m2 m3 m4 m5 l1 l2 l3 (-1) l4 2 H.size) (cwV 1 hts (gi_c (List.mem_cons_of_mem _ (List.mem_append_left _ (List.mem_of_getElem? (i := 7) rfl))) rfl (gi_c (List.mem_cons_of_mem _ (List.mem_append_left _ (List.mem_of_getElem? (i := 8) rfl))) rfl (gi_c (List.mem_cons_of_mem _ (List.mem_append_left _ (List.mem_of_getElem? (i := 9) rfl))) rfl (gi_c (List.mem_cons_of_mem _ (List.mem_append_left _ (List.mem_of_getElem? (i := 3) rfl))) rfl (goodIn_sub hb_2 (List.all_eq_true.mpr gw_c_fails)))))) rfl rfl rfl (by decide +kernel) ⟨Nat.le_of_ble_eq_true rfl, Nat.le_of_ble_eq_true rfl⟩) (pr_V (As := [.int 2]) (b := mo) (C := RX9) hP hD hK hS hA hE [2] [] rfl rfl rfl 2 16 rfl rfl rfl) rfl rfl hl.1 rfl (lv_room (Nat.le_of_ble_eq_true rfl)) dX9_show_35 ⟨Nat.le_of_ble_eq_true rfl, Nat.le_of_ble_eq_true rfl⟩) hP hD hK hS hA [2] [0, 1, 3] rfl rfl (by decide) (by decide) (fun r9 _ H locs w8 hP hD hK hS => ?_)
      have hP : va_P D vwCl [(m3, .inl (cm3, 25, .inl (fun _ => 0))), (m5, .inl (cm5, 25, .inl fK5)), (m1, .inl (cm1, 25, .inl (fun _ => 0))), (mo, .inr (16, [.int 5, .int 5, .int 2, .ref m1, .ref m2, .ref m3, .ref m4, .ref m5, .ref l1, .ref l2, .ref l3, .int (-1), .ref l4]))] H := hP
      have hD : va_D A [(m3, .inl (cm3, 25, .inl (fun _ => 0))), (m5, .inl (cm5, 25, .inl fK5)), (m1, .inl (cm1, 25, .inl (fun _ => 0))), (mo, .inr (16, [.int 5, .int 5, .int 2, .ref m1, .ref m2, .ref m3, .ref m4, .ref m5, .ref l1, .ref l2, .ref l3, .int (-1), .ref l4]))] := hD
      have hK : va_K D vwCl [(cm1, .int), (cm3, .int), (cm5, .char)] s := hK
      obtain rfl : r9 = 0 := w8
      exact mr_i hx hb hr (2, fun k9 => [m1, m2, m3, m4, m5, l1, l2, l3, l4].getD k9 0, fun k9 => [5, 5, -1].getD k9 0) (⟨((if_pos (ite01_1 h3)).trans (if_neg (ite01_0 h7))).symm, fun q9 => absurd (((if_pos (ite01_1 h3)).trans (if_neg (ite01_0 h7))).symm.trans q9) (by decide)⟩) (hP.sub [3] rfl) (hK.sub [] rfl) (hD.sub [3] (by decide) rfl) hS (Nat.le_of_ble_eq_true rfl) (Nat.le_of_ble_eq_true rfl) hlocks dX9_show_38
    · refine lv_iload_n hx hb dX9_show_26 rfl (lv_at hl 3 rfl) ?_
      refine mc_i (wr := [(m3, .inl (cm3, 25, .inl (fun _ => 0))), (m5, .inl (cm5, 25, .inl fK5)), (mo, .inr (16, [.int 5, .int 5, .int th, .ref m1, .ref m2, .ref m3, .ref m4, .ref m5, .ref l1, .ref l2, .ref l3, .int (-1), .ref l4])), (m1, .inl (cm1, 25, .inl (fun _ => 0)))]) (va_runS (As := [.int p2]) (rest := []) ⟨hx, hb, hml, hown, hts⟩ (c_isKind l hst D p2 H.size) (va_cwS 1 hts (gi_c (List.mem_cons_of_mem _ (List.mem_append_left _ (List.mem_of_getElem? (i := 10) rfl))) rfl (gi_c (List.mem_cons_of_mem _ (List.mem_append_left _ (List.mem_of_getElem? (i := 11) rfl))) rfl (gi_c (List.mem_cons_of_mem _ (List.mem_append_left _ (List.mem_of_getElem? (i := 3) rfl))) rfl (goodIn_sub hb_3 (List.all_eq_true.mpr gw_c_isKind))))) rfl rfl rfl (by decide +kernel) ⟨Nat.le_of_ble_eq_true rfl, Nat.le_of_ble_eq_true rfl⟩) (pr_S (As := [.int p2]) hP hD hK hS hA hE [] [] rfl rfl rfl) rfl rfl hl.1 rfl (lv_room (Nat.le_of_ble_eq_true rfl)) dX9_show_27 ⟨Nat.le_of_ble_eq_true rfl, Nat.le_of_ble_eq_true rfl⟩) hP hD hK hS hA [] [0, 1, 2, 3] rfl rfl (by decide) (by decide) (fun r11 _ H locs w10 hP hD hK hS => ?_)
      have hP : va_P D vwCl [(m3, .inl (cm3, 25, .inl (fun _ => 0))), (m5, .inl (cm5, 25, .inl fK5)), (mo, .inr (16, [.int 5, .int 5, .int th, .ref m1, .ref m2, .ref m3, .ref m4, .ref m5, .ref l1, .ref l2, .ref l3, .int (-1), .ref l4])), (m1, .inl (cm1, 25, .inl (fun _ => 0)))] H := hP
      have hD : va_D A [(m3, .inl (cm3, 25, .inl (fun _ => 0))), (m5, .inl (cm5, 25, .inl fK5)), (mo, .inr (16, [.int 5, .int 5, .int th, .ref m1, .ref m2, .ref m3, .ref m4, .ref m5, .ref l1, .ref l2, .ref l3, .int (-1), .ref l4])), (m1, .inl (cm1, 25, .inl (fun _ => 0)))] := hD
      have hK : va_K D vwCl [(cm1, .int), (cm3, .int), (cm5, .char)] s := hK
      obtain rfl : r11 = (if okK p2 then 1 else 0) := w10
      refine lv_if_ne (tgt := 39) hx hb dX9_show_30 (by decide) (fun h12 => ?_) (fun h12 => ?_)
      · refine lv_aload_n hx hb dX9_show_39 rfl (lv_at hl 0 rfl) ?_
        refine va_get (D := D) (ci := 16) (v := .ref m3) (C := RX9) (T := TX9) (N := 13) hx hb hts hb_4 hown hK hP 2 rfl rfl 5 (by decide) hw_12 (fun _ h9 => h9) rfl dX9_show_40 ?_
        refine lv_iload_n hx hb dX9_show_43 rfl (lv_at hl 1 rfl) ?_
        refine va_iald hx hb hK hP 0 1 rfl rfl (vp_in_nI (n := k0) (by omega) (by decide)) dX9_show_44 ?_
        refine lv_topi (fun x13 e13 => ?_)
        obtain rfl : x13 = 0 := e13
        refine lv_istore (lv' := [(4, .int 0), (0, .ref mo), (1, .int (nI k0)), (2, .int p1), (3, .int p2)]) hx hb dX9_show_45 hl (by decide) rfl (fun ls hl => ?_)
        refine lv_aload_n hx hb dX9_show_47 rfl (lv_at hl 1 rfl) ?_
        refine va_get (D := D) (ci := 16) (v := .ref m3) (C := RX9) (T := TX9) (N := 13) hx hb hts hb_4 hown hK hP 2 rfl rfl 5 (by decide) hw_12 (fun _ h9 => h9) rfl dX9_show_48 ?_
        refine lv_iload_n hx hb dX9_show_51 rfl (lv_at hl 2 rfl) ?_
        refine lv_iload_n hx hb dX9_show_52 rfl (lv_at hl 3 rfl) ?_
        refine va_iast hx hb hK hP hD hS 0 1 rfl rfl (vp_in_nI (n := k0) (by omega) (by decide)) dX9_show_53 (fun H locs hP hD hS => ?_)
        have hP : va_P D vwCl [(m3, .inl (cm3, 25, .inl (upd (fun _ => 0) ((nI k0).toNatClampNeg) p1))), (m5, .inl (cm5, 25, .inl fK5)), (mo, .inr (16, [.int 5, .int 5, .int th, .ref m1, .ref m2, .ref m3, .ref m4, .ref m5, .ref l1, .ref l2, .ref l3, .int (-1), .ref l4])), (m1, .inl (cm1, 25, .inl (fun _ => 0)))] H := hP
        have hD : va_D A [(m3, .inl (cm3, 25, .inl (upd (fun _ => 0) ((nI k0).toNatClampNeg) p1))), (m5, .inl (cm5, 25, .inl fK5)), (mo, .inr (16, [.int 5, .int 5, .int th, .ref m1, .ref m2, .ref m3, .ref m4, .ref m5, .ref l1, .ref l2, .ref l3, .int (-1), .ref l4])), (m1, .inl (cm1, 25, .inl (fun _ => 0)))] := hD
        refine lv_aload_n hx hb dX9_show_54 rfl (lv_at hl 1 rfl) ?_
        refine va_get (D := D) (ci := 16) (v := .ref m5) (C := RX9) (T := TX9) (N := 13) hx hb hts hb_4 hown hK hP 2 rfl rfl 7 (by decide) hw_13 (fun _ h9 => h9) rfl dX9_show_55 ?_
        refine lv_iload_n hx hb dX9_show_58 rfl (lv_at hl 2 rfl) ?_
        refine lv_iload_n hx hb dX9_show_59 rfl (lv_at hl 4 rfl) ?_
        refine va_cast hx hb hK hP hD hS 1 2 rfl rfl (vp_in_nI (n := k0) (by omega) (by decide)) dX9_show_60 (fun H locs hP hD hS => ?_)
        have hP : va_P D vwCl [(m3, .inl (cm3, 25, .inl (upd (fun _ => 0) ((nI k0).toNatClampNeg) p1))), (m5, .inl (cm5, 25, .inl (upd fK5 ((nI k0).toNatClampNeg) (vp_nar .char p2)))), (mo, .inr (16, [.int 5, .int 5, .int th, .ref m1, .ref m2, .ref m3, .ref m4, .ref m5, .ref l1, .ref l2, .ref l3, .int (-1), .ref l4])), (m1, .inl (cm1, 25, .inl (fun _ => 0)))] H := hP
        have hD : va_D A [(m3, .inl (cm3, 25, .inl (upd (fun _ => 0) ((nI k0).toNatClampNeg) p1))), (m5, .inl (cm5, 25, .inl (upd fK5 ((nI k0).toNatClampNeg) (vp_nar .char p2)))), (mo, .inr (16, [.int 5, .int 5, .int th, .ref m1, .ref m2, .ref m3, .ref m4, .ref m5, .ref l1, .ref l2, .ref l3, .int (-1), .ref l4])), (m1, .inl (cm1, 25, .inl (fun _ => 0)))] := hD
        refine lv_aload_n hx hb dX9_show_61 rfl (lv_at hl 1 rfl) ?_
        refine lv_iload hx hb dX9_show_62 (lv_at hl 0 rfl) ?_
        refine mc_i (wr := [(m3, .inl (cm3, 25, .inl (upd (fun _ => 0) ((nI k0).toNatClampNeg) p1))), (m5, .inl (cm5, 25, .inl (upd fK5 ((nI k0).toNatClampNeg) (vp_nar .char p2)))), (m1, .inl (cm1, 25, .inl (fun _ => 0)))]) (va_runV (As := [.int 0]) (rest := []) ⟨hx, hb, hml, hown, hts⟩ (c_tells l hst D mo 5 5 th m1 m2 m3 m4 m5 l1 l2 l3 (-1) l4 0 H.size) (cwV 1 hts (gi_c (List.mem_cons_of_mem _ (List.mem_append_left _ (List.mem_of_getElem? (i := 14) rfl))) rfl (gi_c (List.mem_cons_of_mem _ (List.mem_append_left _ (List.mem_of_getElem? (i := 15) rfl))) rfl (gi_c (List.mem_cons_of_mem _ (List.mem_append_left _ (List.mem_of_getElem? (i := 16) rfl))) rfl (gi_c (List.mem_cons_of_mem _ (List.mem_append_left _ (List.mem_of_getElem? (i := 3) rfl))) rfl (goodIn_sub hb_5 (List.all_eq_true.mpr gw_c_tells)))))) rfl rfl rfl (by decide +kernel) ⟨Nat.le_of_ble_eq_true rfl, Nat.le_of_ble_eq_true rfl⟩) (pr_V (As := [.int 0]) (b := mo) (C := RX9) hP hD hK hS hA hE [2] [] rfl rfl rfl 2 16 rfl rfl rfl) rfl rfl hl.1 rfl (lv_room (Nat.le_of_ble_eq_true rfl)) dX9_show_64 ⟨Nat.le_of_ble_eq_true rfl, Nat.le_of_ble_eq_true rfl⟩) hP hD hK hS hA [2] [0, 1, 3] rfl rfl (by decide) (by decide) (fun r15 _ H locs w14 hP hD hK hS => ?_)
        have hP : va_P D vwCl [(m3, .inl (cm3, 25, .inl (upd (fun _ => 0) ((nI k0).toNatClampNeg) p1))), (m5, .inl (cm5, 25, .inl (upd fK5 ((nI k0).toNatClampNeg) (vp_nar .char p2)))), (m1, .inl (cm1, 25, .inl (fun _ => 0))), (mo, .inr (16, [.int 5, .int 5, .int 0, .ref m1, .ref m2, .ref m3, .ref m4, .ref m5, .ref l1, .ref l2, .ref l3, .int (-1), .ref l4]))] H := hP
        have hD : va_D A [(m3, .inl (cm3, 25, .inl (upd (fun _ => 0) ((nI k0).toNatClampNeg) p1))), (m5, .inl (cm5, 25, .inl (upd fK5 ((nI k0).toNatClampNeg) (vp_nar .char p2)))), (m1, .inl (cm1, 25, .inl (fun _ => 0))), (mo, .inr (16, [.int 5, .int 5, .int 0, .ref m1, .ref m2, .ref m3, .ref m4, .ref m5, .ref l1, .ref l2, .ref l3, .int (-1), .ref l4]))] := hD
        have hK : va_K D vwCl [(cm1, .int), (cm3, .int), (cm5, .char)] s := hK
        obtain rfl : r15 = 0 := w14
        exact mr_i hx hb hr (0, fun k9 => [m1, m2, m3, m4, m5, l1, l2, l3, l4].getD k9 0, fun k9 => [5, 5, -1].getD k9 0) (⟨((if_pos (ite01_1 h3)).trans ((if_pos (ite01_1 h7)).trans (if_pos (ite01_1 h12)))).symm, fun _ => rfl⟩) (hP.sub [3] rfl) (hK.sub [] rfl) (hD.sub [3] (by decide) rfl) hS (Nat.le_of_ble_eq_true rfl) (Nat.le_of_ble_eq_true rfl) hlocks dX9_show_67
      · refine lv_aload_n hx hb dX9_show_33 rfl (lv_at hl 0 rfl) ?_
        refine lv_iconst (v := 2) hx hb dX9_show_34 (by decide) ?_
        refine mc_i (wr := [(m3, .inl (cm3, 25, .inl (fun _ => 0))), (m5, .inl (cm5, 25, .inl fK5)), (m1, .inl (cm1, 25, .inl (fun _ => 0)))]) (va_runV (As := [.int 2]) (rest := []) ⟨hx, hb, hml, hown, hts⟩ (c_fails l hst D mo 5 5 th m1 m2 m3 m4 m5 l1 l2 l3 (-1) l4 2 H.size) (cwV 1 hts (gi_c (List.mem_cons_of_mem _ (List.mem_append_left _ (List.mem_of_getElem? (i := 7) rfl))) rfl (gi_c (List.mem_cons_of_mem _ (List.mem_append_left _ (List.mem_of_getElem? (i := 8) rfl))) rfl (gi_c (List.mem_cons_of_mem _ (List.mem_append_left _ (List.mem_of_getElem? (i := 9) rfl))) rfl (gi_c (List.mem_cons_of_mem _ (List.mem_append_left _ (List.mem_of_getElem? (i := 3) rfl))) rfl (goodIn_sub hb_2 (List.all_eq_true.mpr gw_c_fails)))))) rfl rfl rfl (by decide +kernel) ⟨Nat.le_of_ble_eq_true rfl, Nat.le_of_ble_eq_true rfl⟩) (pr_V (As := [.int 2]) (b := mo) (C := RX9) hP hD hK hS hA hE [2] [] rfl rfl rfl 2 16 rfl rfl rfl) rfl rfl hl.1 rfl (lv_room (Nat.le_of_ble_eq_true rfl)) dX9_show_35 ⟨Nat.le_of_ble_eq_true rfl, Nat.le_of_ble_eq_true rfl⟩) hP hD hK hS hA [2] [0, 1, 3] rfl rfl (by decide) (by decide) (fun r17 _ H locs w16 hP hD hK hS => ?_)
        have hP : va_P D vwCl [(m3, .inl (cm3, 25, .inl (fun _ => 0))), (m5, .inl (cm5, 25, .inl fK5)), (m1, .inl (cm1, 25, .inl (fun _ => 0))), (mo, .inr (16, [.int 5, .int 5, .int 2, .ref m1, .ref m2, .ref m3, .ref m4, .ref m5, .ref l1, .ref l2, .ref l3, .int (-1), .ref l4]))] H := hP
        have hD : va_D A [(m3, .inl (cm3, 25, .inl (fun _ => 0))), (m5, .inl (cm5, 25, .inl fK5)), (m1, .inl (cm1, 25, .inl (fun _ => 0))), (mo, .inr (16, [.int 5, .int 5, .int 2, .ref m1, .ref m2, .ref m3, .ref m4, .ref m5, .ref l1, .ref l2, .ref l3, .int (-1), .ref l4]))] := hD
        have hK : va_K D vwCl [(cm1, .int), (cm3, .int), (cm5, .char)] s := hK
        obtain rfl : r17 = 0 := w16
        exact mr_i hx hb hr (2, fun k9 => [m1, m2, m3, m4, m5, l1, l2, l3, l4].getD k9 0, fun k9 => [5, 5, -1].getD k9 0) (⟨((if_pos (ite01_1 h3)).trans ((if_pos (ite01_1 h7)).trans (if_neg (ite01_0 h12)))).symm, fun q9 => absurd (((if_pos (ite01_1 h3)).trans ((if_pos (ite01_1 h7)).trans (if_neg (ite01_0 h12)))).symm.trans q9) (by decide)⟩) (hP.sub [3] rfl) (hK.sub [] rfl) (hD.sub [3] (by decide) rfl) hS (Nat.le_of_ble_eq_true rfl) (Nat.le_of_ble_eq_true rfl) hlocks dX9_show_38
  · refine lv_aload_n hx hb dX9_show_8 rfl (lv_at hl 0 rfl) ?_
    refine lv_iconst (v := 1) hx hb dX9_show_9 (by decide) ?_
    refine mc_i (wr := [(m3, .inl (cm3, 25, .inl (fun _ => 0))), (m5, .inl (cm5, 25, .inl fK5)), (m1, .inl (cm1, 25, .inl (fun _ => 0)))]) (va_runV (As := [.int 1]) (rest := []) ⟨hx, hb, hml, hown, hts⟩ (c_fails l hst D mo 5 5 th m1 m2 m3 m4 m5 l1 l2 l3 (-1) l4 1 H.size) (cwV 1 hts (gi_c (List.mem_cons_of_mem _ (List.mem_append_left _ (List.mem_of_getElem? (i := 7) rfl))) rfl (gi_c (List.mem_cons_of_mem _ (List.mem_append_left _ (List.mem_of_getElem? (i := 8) rfl))) rfl (gi_c (List.mem_cons_of_mem _ (List.mem_append_left _ (List.mem_of_getElem? (i := 9) rfl))) rfl (gi_c (List.mem_cons_of_mem _ (List.mem_append_left _ (List.mem_of_getElem? (i := 3) rfl))) rfl (goodIn_sub hb_2 (List.all_eq_true.mpr gw_c_fails)))))) rfl rfl rfl (by decide +kernel) ⟨Nat.le_of_ble_eq_true rfl, Nat.le_of_ble_eq_true rfl⟩) (pr_V (As := [.int 1]) (b := mo) (C := RX9) hP hD hK hS hA hE [2] [] rfl rfl rfl 2 16 rfl rfl rfl) rfl rfl hl.1 rfl (lv_room (Nat.le_of_ble_eq_true rfl)) dX9_show_10 ⟨Nat.le_of_ble_eq_true rfl, Nat.le_of_ble_eq_true rfl⟩) hP hD hK hS hA [2] [0, 1, 3] rfl rfl (by decide) (by decide) (fun r19 _ H locs w18 hP hD hK hS => ?_)
    have hP : va_P D vwCl [(m3, .inl (cm3, 25, .inl (fun _ => 0))), (m5, .inl (cm5, 25, .inl fK5)), (m1, .inl (cm1, 25, .inl (fun _ => 0))), (mo, .inr (16, [.int 5, .int 5, .int 1, .ref m1, .ref m2, .ref m3, .ref m4, .ref m5, .ref l1, .ref l2, .ref l3, .int (-1), .ref l4]))] H := hP
    have hD : va_D A [(m3, .inl (cm3, 25, .inl (fun _ => 0))), (m5, .inl (cm5, 25, .inl fK5)), (m1, .inl (cm1, 25, .inl (fun _ => 0))), (mo, .inr (16, [.int 5, .int 5, .int 1, .ref m1, .ref m2, .ref m3, .ref m4, .ref m5, .ref l1, .ref l2, .ref l3, .int (-1), .ref l4]))] := hD
    have hK : va_K D vwCl [(cm1, .int), (cm3, .int), (cm5, .char)] s := hK
    obtain rfl : r19 = 0 := w18
    exact mr_i hx hb hr (1, fun k9 => [m1, m2, m3, m4, m5, l1, l2, l3, l4].getD k9 0, fun k9 => [5, 5, -1].getD k9 0) (⟨(if_neg (ite01_0 h3)).symm, fun q9 => absurd ((if_neg (ite01_0 h3)).symm.trans q9) (by decide)⟩) (hP.sub [3] rfl) (hK.sub [] rfl) (hD.sub [3] (by decide) rfl) hS (Nat.le_of_ble_eq_true rfl) (Nat.le_of_ble_eq_true rfl) hlocks dX9_show_13

def us_c_mchangeover : List Cond := .code yX9_changeover cX9_changeover 7 (some .int) :: (([.constantLong RX9 341 (2), .methodLink RX9 72 yX9_in, .static yX9_in, .initialized RX9, .methodLink RX9 76 yX9_fails, .instanceMethod yX9_fails, .selects RX9 yX9_fails yX9_fails, .constantLong RX9 237 (99999), .constantLong RX9 268 (-1), .methodLink RX9 80 yX9_tells, .instanceMethod yX9_tells, .selects RX9 yX9_tells yX9_tells, .methodLink RX9 317 Lib.Math.min.name, .static Lib.Math.min.name, .initialized "java/lang/Math", .code Lib.Math.min.name Lib.Math.min.code 2 (some .int)] : List Cond) ++ (us_c_in ++ (us_c_fails ++ (us_c_tells ++ ([])))))
theorem gw_c_mchangeover : ∀ w ∈ us_c_mchangeover, goodWord w = true := gw_cons rfl (gw_app (by decide +kernel) (gw_app gw_c_in (gw_app gw_c_fails (gw_app gw_c_tells (fun _ h => nomatch h)))))
set_option maxHeartbeats 4000000 in
set_option maxRecDepth 100000 in
/-- the reference: changeover -/
theorem c_mchangeover (l : Launch) (hst : l.stackTraces = false) (D : va_G) (mo : Nat) (th : Int32) (m1 : Nat) (m2 : Nat) (m3 : Nat) (m4 : Nat) (m5 : Nat) (l1 : Nat) (l2 : Nat) (l3 : Nat) (l4 : Nat) (p0 : Int32) (p1 : Int32) (p2 : Int32) (p3 : Int32) (sz : Nat) : Met l yX9_changeover us_c_mchangeover { frames := 1, cells := 0, slots := 0, locals := 25 } (pw D [.ref mo, .int p0, .int p1, .int p2, .int p3] [] [(mo, .inr (16, [.int 5, .int 5, .int th, .ref m1, .ref m2, .ref m3, .ref m4, .ref m5, .ref l1, .ref l2, .ref l3, .int (-1), .ref l4]))] sz) (va_Qi (fun (r : Int32) (u : (Int32 × (Nat → Nat) × (Nat → Int32))) => u.1 = kf_changeover p0 p1 p2 p3 ∧ (kf_changeover p0 p1 p2 p3 = 0 → r = rf_changeover p0 p1 p2 p3)) (qb D (va_A [(mo, .inr (16, [.int 5, .int 5, .int th, .ref m1, .ref m2, .ref m3, .ref m4, .ref m5, .ref l1, .ref l2, .ref l3, .int (-1), .ref l4]))] sz) (fun u : (Int32 × (Nat → Nat) × (Nat → Int32)) => [(mo, .inr (16, [.int (u.2.2 0), .int (u.2.2 1), .int u.1, .ref (u.2.1 0), .ref (u.2.1 1), .ref (u.2.1 2), .ref (u.2.1 3), .ref (u.2.1 4), .ref (u.2.1 5), .ref (u.2.1 6), .ref (u.2.1 7), .int (u.2.2 2), .ref (u.2.1 8)]))]) (fun u : (Int32 × (Nat → Nat) × (Nat → Int32)) => ([] : List (ClassId × FieldType)))) (va_A [(mo, .inr (16, [.int 5, .int 5, .int th, .ref m1, .ref m2, .ref m3, .ref m4, .ref m5, .ref l1, .ref l2, .ref l3, .int (-1), .ref l4]))] sz)) 0 0 (va_A [(mo, .inr (16, [.int 5, .int 5, .int th, .ref m1, .ref m2, .ref m3, .ref m4, .ref m5, .ref l1, .ref l2, .ref l3, .int (-1), .ref l4]))] sz) := by
  refine op_M (Qc := fun A => (va_Qi (fun (r : Int32) (u : (Int32 × (Nat → Nat) × (Nat → Int32))) => u.1 = kf_changeover p0 p1 p2 p3 ∧ (kf_changeover p0 p1 p2 p3 = 0 → r = rf_changeover p0 p1 p2 p3)) (qb D A (fun u : (Int32 × (Nat → Nat) × (Nat → Int32)) => [(mo, .inr (16, [.int (u.2.2 0), .int (u.2.2 1), .int u.1, .ref (u.2.1 0), .ref (u.2.1 1), .ref (u.2.1 2), .ref (u.2.1 3), .ref (u.2.1 4), .ref (u.2.1 5), .ref (u.2.1 6), .ref (u.2.1 7), .int (u.2.2 2), .ref (u.2.1 8)]))]) (fun u : (Int32 × (Nat → Nat) × (Nat → Int32)) => ([] : List (ClassId × FieldType)))) A)) (by decide +kernel) rfl (Nat.le_of_ble_eq_true rfl) ?_
  intro p e s m args below meth c A ls hx hb hr hml hts hown hlocks hmn htab hA hD hS hP hK hE hsz hl
  have hown : s.vm.findClass RX9 = some m.cls := hown
  have hl : lv_has ls 7 [(0, .ref mo), (1, .int p0), (2, .int p1), (3, .int p2), (4, .int p3)] := hl
  have hw_0 := hts (.constantLong RX9 341 (2)) (List.mem_cons_of_mem _ (List.mem_append_left _ (List.mem_of_getElem? (i := 0) rfl)))
  have hw_1 := hts (.methodLink RX9 72 yX9_in) (List.mem_cons_of_mem _ (List.mem_append_left _ (List.mem_of_getElem? (i := 1) rfl)))
  have hw_2 := hts (.static yX9_in) (List.mem_cons_of_mem _ (List.mem_append_left _ (List.mem_of_getElem? (i := 2) rfl)))
  have hw_3 := hts (.initialized RX9) (List.mem_cons_of_mem _ (List.mem_append_left _ (List.mem_of_getElem? (i := 3) rfl)))
  have hw_4 := hts (.methodLink RX9 76 yX9_fails) (List.mem_cons_of_mem _ (List.mem_append_left _ (List.mem_of_getElem? (i := 4) rfl)))
  have hw_5 := hts (.instanceMethod yX9_fails) (List.mem_cons_of_mem _ (List.mem_append_left _ (List.mem_of_getElem? (i := 5) rfl)))
  have hw_6 := hts (.selects RX9 yX9_fails yX9_fails) (List.mem_cons_of_mem _ (List.mem_append_left _ (List.mem_of_getElem? (i := 6) rfl)))
  have hw_7 := hts (.constantLong RX9 237 (99999)) (List.mem_cons_of_mem _ (List.mem_append_left _ (List.mem_of_getElem? (i := 7) rfl)))
  have hw_8 := hts (.constantLong RX9 268 (-1)) (List.mem_cons_of_mem _ (List.mem_append_left _ (List.mem_of_getElem? (i := 8) rfl)))
  have hw_9 := hts (.methodLink RX9 80 yX9_tells) (List.mem_cons_of_mem _ (List.mem_append_left _ (List.mem_of_getElem? (i := 9) rfl)))
  have hw_10 := hts (.instanceMethod yX9_tells) (List.mem_cons_of_mem _ (List.mem_append_left _ (List.mem_of_getElem? (i := 10) rfl)))
  have hw_11 := hts (.selects RX9 yX9_tells yX9_tells) (List.mem_cons_of_mem _ (List.mem_append_left _ (List.mem_of_getElem? (i := 11) rfl)))
  have hw_12 := hts (.methodLink RX9 317 Lib.Math.min.name) (List.mem_cons_of_mem _ (List.mem_append_left _ (List.mem_of_getElem? (i := 12) rfl)))
  have hw_13 := hts (.static Lib.Math.min.name) (List.mem_cons_of_mem _ (List.mem_append_left _ (List.mem_of_getElem? (i := 13) rfl)))
  have hw_14 := hts (.initialized "java/lang/Math") (List.mem_cons_of_mem _ (List.mem_append_left _ (List.mem_of_getElem? (i := 14) rfl)))
  have hw_15 := hts (.code Lib.Math.min.name Lib.Math.min.code 2 (some .int)) (List.mem_cons_of_mem _ (List.mem_append_left _ (List.mem_of_getElem? (i := 15) rfl)))
  have hb_0 : ∀ w ∈ us_c_in, w ∈ us_c_mchangeover := fun w h => List.mem_cons_of_mem _ (List.mem_append_right _ (List.mem_append_left _ h))
  have hb_1 : ∀ w ∈ us_c_fails, w ∈ us_c_mchangeover := fun w h => List.mem_cons_of_mem _ (List.mem_append_right _ (List.mem_append_right _ (List.mem_append_left _ h)))
  have hb_2 : ∀ w ∈ us_c_tells, w ∈ us_c_mchangeover := fun w h => List.mem_cons_of_mem _ (List.mem_append_right _ (List.mem_append_right _ (List.mem_append_right _ (List.mem_append_left _ h))))
  refine lv_iload_n hx hb dX9_changeover_0 rfl (lv_at hl 1 rfl) ?_
  refine lv_i2l hx hb dX9_changeover_1 rfl ?_
  refine lv_topl (fun x1 e1 => ?_)
  obtain rfl : x1 = p0.toInt64 := e1
  refine lv_lconst (v := 0) hx hb dX9_changeover_2 (by decide) ?_
  refine lv_ldc2 hx hb hown hw_0 dX9_changeover_3 ?_
  refine mc_i (wr := [(mo, .inr (16, [.int 5, .int 5, .int th, .ref m1, .ref m2, .ref m3, .ref m4, .ref m5, .ref l1, .ref l2, .ref l3, .int (-1), .ref l4]))]) (va_runS (As := [.long p0.toInt64, .long 0, .long 2]) (rest := []) ⟨hx, hb, hml, hown, hts⟩ (c_in l hst D p0 0 2 0 2 s.heap.size (by decide) (by decide)) (va_cwS 3 hts (gi_c (List.mem_cons_of_mem _ (List.mem_append_left _ (List.mem_of_getElem? (i := 1) rfl))) rfl (gi_c (List.mem_cons_of_mem _ (List.mem_append_left _ (List.mem_of_getElem? (i := 2) rfl))) rfl (gi_c (List.mem_cons_of_mem _ (List.mem_append_left _ (List.mem_of_getElem? (i := 3) rfl))) rfl (goodIn_sub hb_0 (List.all_eq_true.mpr gw_c_in))))) rfl rfl rfl (by decide +kernel) ⟨Nat.le_of_ble_eq_true rfl, Nat.le_of_ble_eq_true rfl⟩) (pr_S (As := [.long p0.toInt64, .long 0, .long 2]) hP hD hK hS hA hE [] [] rfl rfl rfl) rfl rfl hl.1 rfl (lv_room (Nat.le_of_ble_eq_true rfl)) dX9_changeover_6 ⟨Nat.le_of_ble_eq_true rfl, Nat.le_of_ble_eq_true rfl⟩) hP hD hK hS hA [] [0] rfl rfl (by decide) (by decide) (fun r3 _ H locs w2 hP hD hK hS => ?_)
  have hP : va_P D vwCl [(mo, .inr (16, [.int 5, .int 5, .int th, .ref m1, .ref m2, .ref m3, .ref m4, .ref m5, .ref l1, .ref l2, .ref l3, .int (-1), .ref l4]))] H := hP
  have hD : va_D A [(mo, .inr (16, [.int 5, .int 5, .int th, .ref m1, .ref m2, .ref m3, .ref m4, .ref m5, .ref l1, .ref l2, .ref l3, .int (-1), .ref l4]))] := hD
  have hK : va_K D vwCl [] s := hK
  obtain rfl : r3 = (if inR p0 0 2 then 1 else 0) := w2
  refine lv_if_eq (tgt := 51) hx hb dX9_changeover_9 (by decide) (fun h4 => ?_) (fun h4 => ?_)
  · refine lv_aload_n hx hb dX9_changeover_51 rfl (lv_at hl 0 rfl) ?_
    refine lv_iconst (v := 1) hx hb dX9_changeover_52 (by decide) ?_
    refine mc_i (wr := []) (va_runV (As := [.int 1]) (rest := []) ⟨hx, hb, hml, hown, hts⟩ (c_fails l hst D mo 5 5 th m1 m2 m3 m4 m5 l1 l2 l3 (-1) l4 1 H.size) (cwV 1 hts (gi_c (List.mem_cons_of_mem _ (List.mem_append_left _ (List.mem_of_getElem? (i := 4) rfl))) rfl (gi_c (List.mem_cons_of_mem _ (List.mem_append_left _ (List.mem_of_getElem? (i := 5) rfl))) rfl (gi_c (List.mem_cons_of_mem _ (List.mem_append_left _ (List.mem_of_getElem? (i := 6) rfl))) rfl (gi_c (List.mem_cons_of_mem _ (List.mem_append_left _ (List.mem_of_getElem? (i := 3) rfl))) rfl (goodIn_sub hb_1 (List.all_eq_true.mpr gw_c_fails)))))) rfl rfl rfl (by decide +kernel) ⟨Nat.le_of_ble_eq_true rfl, Nat.le_of_ble_eq_true rfl⟩) (pr_V (As := [.int 1]) (b := mo) (C := RX9) hP hD hK hS hA hE [0] [] rfl rfl rfl 0 16 rfl rfl rfl) rfl rfl hl.1 rfl (lv_room (Nat.le_of_ble_eq_true rfl)) dX9_changeover_53 ⟨Nat.le_of_ble_eq_true rfl, Nat.le_of_ble_eq_true rfl⟩) hP hD hK hS hA [0] [] rfl rfl (by decide) (by decide) (fun r6 _ H locs w5 hP hD hK hS => ?_)
    have hP : va_P D vwCl [(mo, .inr (16, [.int 5, .int 5, .int 1, .ref m1, .ref m2, .ref m3, .ref m4, .ref m5, .ref l1, .ref l2, .ref l3, .int (-1), .ref l4]))] H := hP
    have hD : va_D A [(mo, .inr (16, [.int 5, .int 5, .int 1, .ref m1, .ref m2, .ref m3, .ref m4, .ref m5, .ref l1, .ref l2, .ref l3, .int (-1), .ref l4]))] := hD
    have hK : va_K D vwCl [] s := hK
    obtain rfl : r6 = 0 := w5
    exact mr_i hx hb hr (1, fun k9 => [m1, m2, m3, m4, m5, l1, l2, l3, l4].getD k9 0, fun k9 => [5, 5, -1].getD k9 0) (⟨(if_neg (ite01_0 h4)).symm, fun q9 => absurd ((if_neg (ite01_0 h4)).symm.trans q9) (by decide)⟩) (hP.sub [0] rfl) (hK.sub [] rfl) (hD.sub [0] (by decide) rfl) hS (Nat.le_of_ble_eq_true rfl) (Nat.le_of_ble_eq_true rfl) hlocks dX9_changeover_56
  · refine lv_iload_n hx hb dX9_changeover_12 rfl (lv_at hl 2 rfl) ?_
    refine lv_i2l hx hb dX9_changeover_13 rfl ?_
    refine lv_topl (fun x7 e7 => ?_)
    obtain rfl : x7 = p1.toInt64 := e7
    refine lv_lconst (v := 0) hx hb dX9_changeover_14 (by decide) ?_
    refine lv_ldc2 hx hb hown hw_7 dX9_changeover_15 ?_
    refine mc_i (wr := [(mo, .inr (16, [.int 5, .int 5, .int th, .ref m1, .ref m2, .ref m3, .ref m4, .ref m5, .ref l1, .ref l2, .ref l3, .int (-1), .ref l4]))]) (va_runS (As := [.long p1.toInt64, .long 0, .long 99999]) (rest := []) ⟨hx, hb, hml, hown, hts⟩ (c_in l hst D p1 0 99999 0 99999 H.size (by decide) (by decide)) (va_cwS 3 hts (gi_c (List.mem_cons_of_mem _ (List.mem_append_left _ (List.mem_of_getElem? (i := 1) rfl))) rfl (gi_c (List.mem_cons_of_mem _ (List.mem_append_left _ (List.mem_of_getElem? (i := 2) rfl))) rfl (gi_c (List.mem_cons_of_mem _ (List.mem_append_left _ (List.mem_of_getElem? (i := 3) rfl))) rfl (goodIn_sub hb_0 (List.all_eq_true.mpr gw_c_in))))) rfl rfl rfl (by decide +kernel) ⟨Nat.le_of_ble_eq_true rfl, Nat.le_of_ble_eq_true rfl⟩) (pr_S (As := [.long p1.toInt64, .long 0, .long 99999]) hP hD hK hS hA hE [] [] rfl rfl rfl) rfl rfl hl.1 rfl (lv_room (Nat.le_of_ble_eq_true rfl)) dX9_changeover_18 ⟨Nat.le_of_ble_eq_true rfl, Nat.le_of_ble_eq_true rfl⟩) hP hD hK hS hA [] [0] rfl rfl (by decide) (by decide) (fun r9 _ H locs w8 hP hD hK hS => ?_)
    have hP : va_P D vwCl [(mo, .inr (16, [.int 5, .int 5, .int th, .ref m1, .ref m2, .ref m3, .ref m4, .ref m5, .ref l1, .ref l2, .ref l3, .int (-1), .ref l4]))] H := hP
    have hD : va_D A [(mo, .inr (16, [.int 5, .int 5, .int th, .ref m1, .ref m2, .ref m3, .ref m4, .ref m5, .ref l1, .ref l2, .ref l3, .int (-1), .ref l4]))] := hD
    have hK : va_K D vwCl [] s := hK
    obtain rfl : r9 = (if inR p1 0 99999 then 1 else 0) := w8
    refine lv_if_eq (tgt := 51) hx hb dX9_changeover_21 (by decide) (fun h10 => ?_) (fun h10 => ?_)
    · refine lv_aload_n hx hb dX9_changeover_51 rfl (lv_at hl 0 rfl) ?_
      refine lv_iconst (v := 1) hx hb dX9_changeover_52 (by decide) ?_
      refine mc_i (wr := []) (va_runV (As := [.int 1]) (rest := []) ⟨hx, hb, hml, hown, hts⟩ (c_fails l hst D mo 5 5 th m1 m2 m3 m4 m5 l1 l2 l3 (-1) l4 1 H.size) (cwV 1 hts (gi_c (List.mem_cons_of_mem _ (List.mem_append_left _ (List.mem_of_getElem? (i := 4) rfl))) rfl (gi_c (List.mem_cons_of_mem _ (List.mem_append_left _ (List.mem_of_getElem? (i := 5) rfl))) rfl (gi_c (List.mem_cons_of_mem _ (List.mem_append_left _ (List.mem_of_getElem? (i := 6) rfl))) rfl (gi_c (List.mem_cons_of_mem _ (List.mem_append_left _ (List.mem_of_getElem? (i := 3) rfl))) rfl (goodIn_sub hb_1 (List.all_eq_true.mpr gw_c_fails)))))) rfl rfl rfl (by decide +kernel) ⟨Nat.le_of_ble_eq_true rfl, Nat.le_of_ble_eq_true rfl⟩) (pr_V (As := [.int 1]) (b := mo) (C := RX9) hP hD hK hS hA hE [0] [] rfl rfl rfl 0 16 rfl rfl rfl) rfl rfl hl.1 rfl (lv_room (Nat.le_of_ble_eq_true rfl)) dX9_changeover_53 ⟨Nat.le_of_ble_eq_true rfl, Nat.le_of_ble_eq_true rfl⟩) hP hD hK hS hA [0] [] rfl rfl (by decide) (by decide) (fun r12 _ H locs w11 hP hD hK hS => ?_)
      have hP : va_P D vwCl [(mo, .inr (16, [.int 5, .int 5, .int 1, .ref m1, .ref m2, .ref m3, .ref m4, .ref m5, .ref l1, .ref l2, .ref l3, .int (-1), .ref l4]))] H := hP
      have hD : va_D A [(mo, .inr (16, [.int 5, .int 5, .int 1, .ref m1, .ref m2, .ref m3, .ref m4, .ref m5, .ref l1, .ref l2, .ref l3, .int (-1), .ref l4]))] := hD
      have hK : va_K D vwCl [] s := hK
      obtain rfl : r12 = 0 := w11
      exact mr_i hx hb hr (1, fun k9 => [m1, m2, m3, m4, m5, l1, l2, l3, l4].getD k9 0, fun k9 => [5, 5, -1].getD k9 0) (⟨((if_pos (ite01_1 h4)).trans (if_neg (ite01_0 h10))).symm, fun q9 => absurd (((if_pos (ite01_1 h4)).trans (if_neg (ite01_0 h10))).symm.trans q9) (by decide)⟩) (hP.sub [0] rfl) (hK.sub [] rfl) (hD.sub [0] (by decide) rfl) hS (Nat.le_of_ble_eq_true rfl) (Nat.le_of_ble_eq_true rfl) hlocks dX9_changeover_56
    · refine lv_iload_n hx hb dX9_changeover_24 rfl (lv_at hl 3 rfl) ?_
      refine lv_i2l hx hb dX9_changeover_25 rfl ?_
      refine lv_topl (fun x13 e13 => ?_)
      obtain rfl : x13 = p2.toInt64 := e13
      refine lv_lconst (v := 0) hx hb dX9_changeover_26 (by decide) ?_
      refine lv_ldc2 hx hb hown hw_7 dX9_changeover_27 ?_
      refine mc_i (wr := [(mo, .inr (16, [.int 5, .int 5, .int th, .ref m1, .ref m2, .ref m3, .ref m4, .ref m5, .ref l1, .ref l2, .ref l3, .int (-1), .ref l4]))]) (va_runS (As := [.long p2.toInt64, .long 0, .long 99999]) (rest := []) ⟨hx, hb, hml, hown, hts⟩ (c_in l hst D p2 0 99999 0 99999 H.size (by decide) (by decide)) (va_cwS 3 hts (gi_c (List.mem_cons_of_mem _ (List.mem_append_left _ (List.mem_of_getElem? (i := 1) rfl))) rfl (gi_c (List.mem_cons_of_mem _ (List.mem_append_left _ (List.mem_of_getElem? (i := 2) rfl))) rfl (gi_c (List.mem_cons_of_mem _ (List.mem_append_left _ (List.mem_of_getElem? (i := 3) rfl))) rfl (goodIn_sub hb_0 (List.all_eq_true.mpr gw_c_in))))) rfl rfl rfl (by decide +kernel) ⟨Nat.le_of_ble_eq_true rfl, Nat.le_of_ble_eq_true rfl⟩) (pr_S (As := [.long p2.toInt64, .long 0, .long 99999]) hP hD hK hS hA hE [] [] rfl rfl rfl) rfl rfl hl.1 rfl (lv_room (Nat.le_of_ble_eq_true rfl)) dX9_changeover_30 ⟨Nat.le_of_ble_eq_true rfl, Nat.le_of_ble_eq_true rfl⟩) hP hD hK hS hA [] [0] rfl rfl (by decide) (by decide) (fun r15 _ H locs w14 hP hD hK hS => ?_)
      have hP : va_P D vwCl [(mo, .inr (16, [.int 5, .int 5, .int th, .ref m1, .ref m2, .ref m3, .ref m4, .ref m5, .ref l1, .ref l2, .ref l3, .int (-1), .ref l4]))] H := hP
      have hD : va_D A [(mo, .inr (16, [.int 5, .int 5, .int th, .ref m1, .ref m2, .ref m3, .ref m4, .ref m5, .ref l1, .ref l2, .ref l3, .int (-1), .ref l4]))] := hD
      have hK : va_K D vwCl [] s := hK
      obtain rfl : r15 = (if inR p2 0 99999 then 1 else 0) := w14
      refine lv_if_eq (tgt := 51) hx hb dX9_changeover_33 (by decide) (fun h16 => ?_) (fun h16 => ?_)
      · refine lv_aload_n hx hb dX9_changeover_51 rfl (lv_at hl 0 rfl) ?_
        refine lv_iconst (v := 1) hx hb dX9_changeover_52 (by decide) ?_
        refine mc_i (wr := []) (va_runV (As := [.int 1]) (rest := []) ⟨hx, hb, hml, hown, hts⟩ (c_fails l hst D mo 5 5 th m1 m2 m3 m4 m5 l1 l2 l3 (-1) l4 1 H.size) (cwV 1 hts (gi_c (List.mem_cons_of_mem _ (List.mem_append_left _ (List.mem_of_getElem? (i := 4) rfl))) rfl (gi_c (List.mem_cons_of_mem _ (List.mem_append_left _ (List.mem_of_getElem? (i := 5) rfl))) rfl (gi_c (List.mem_cons_of_mem _ (List.mem_append_left _ (List.mem_of_getElem? (i := 6) rfl))) rfl (gi_c (List.mem_cons_of_mem _ (List.mem_append_left _ (List.mem_of_getElem? (i := 3) rfl))) rfl (goodIn_sub hb_1 (List.all_eq_true.mpr gw_c_fails)))))) rfl rfl rfl (by decide +kernel) ⟨Nat.le_of_ble_eq_true rfl, Nat.le_of_ble_eq_true rfl⟩) (pr_V (As := [.int 1]) (b := mo) (C := RX9) hP hD hK hS hA hE [0] [] rfl rfl rfl 0 16 rfl rfl rfl) rfl rfl hl.1 rfl (lv_room (Nat.le_of_ble_eq_true rfl)) dX9_changeover_53 ⟨Nat.le_of_ble_eq_true rfl, Nat.le_of_ble_eq_true rfl⟩) hP hD hK hS hA [0] [] rfl rfl (by decide) (by decide) (fun r18 _ H locs w17 hP hD hK hS => ?_)
        have hP : va_P D vwCl [(mo, .inr (16, [.int 5, .int 5, .int 1, .ref m1, .ref m2, .ref m3, .ref m4, .ref m5, .ref l1, .ref l2, .ref l3, .int (-1), .ref l4]))] H := hP
        have hD : va_D A [(mo, .inr (16, [.int 5, .int 5, .int 1, .ref m1, .ref m2, .ref m3, .ref m4, .ref m5, .ref l1, .ref l2, .ref l3, .int (-1), .ref l4]))] := hD
        have hK : va_K D vwCl [] s := hK
        obtain rfl : r18 = 0 := w17
        exact mr_i hx hb hr (1, fun k9 => [m1, m2, m3, m4, m5, l1, l2, l3, l4].getD k9 0, fun k9 => [5, 5, -1].getD k9 0) (⟨((if_pos (ite01_1 h4)).trans ((if_pos (ite01_1 h10)).trans (if_neg (ite01_0 h16)))).symm, fun q9 => absurd (((if_pos (ite01_1 h4)).trans ((if_pos (ite01_1 h10)).trans (if_neg (ite01_0 h16)))).symm.trans q9) (by decide)⟩) (hP.sub [0] rfl) (hK.sub [] rfl) (hD.sub [0] (by decide) rfl) hS (Nat.le_of_ble_eq_true rfl) (Nat.le_of_ble_eq_true rfl) hlocks dX9_changeover_56
      · refine lv_iload hx hb dX9_changeover_36 (lv_at hl 4 rfl) ?_
        refine lv_i2l hx hb dX9_changeover_38 rfl ?_
        refine lv_topl (fun x19 e19 => ?_)
        obtain rfl : x19 = p3.toInt64 := e19
        refine lv_ldc2 hx hb hown hw_8 dX9_changeover_39 ?_
        refine lv_ldc2 hx hb hown hw_7 dX9_changeover_42 ?_
        refine mc_i (wr := [(mo, .inr (16, [.int 5, .int 5, .int th, .ref m1, .ref m2, .ref m3, .ref m4, .ref m5, .ref l1, .ref l2, .ref l3, .int (-1), .ref l4]))]) (va_runS (As := [.long p3.toInt64, .long (-1), .long 99999]) (rest := []) ⟨hx, hb, hml, hown, hts⟩ (c_in l hst D p3 (-1) 99999 (-1) 99999 H.size (by decide) (by decide)) (va_cwS 3 hts (gi_c (List.mem_cons_of_mem _ (List.mem_append_left _ (List.mem_of_getElem? (i := 1) rfl))) rfl (gi_c (List.mem_cons_of_mem _ (List.mem_append_left _ (List.mem_of_getElem? (i := 2) rfl))) rfl (gi_c (List.mem_cons_of_mem _ (List.mem_append_left _ (List.mem_of_getElem? (i := 3) rfl))) rfl (goodIn_sub hb_0 (List.all_eq_true.mpr gw_c_in))))) rfl rfl rfl (by decide +kernel) ⟨Nat.le_of_ble_eq_true rfl, Nat.le_of_ble_eq_true rfl⟩) (pr_S (As := [.long p3.toInt64, .long (-1), .long 99999]) hP hD hK hS hA hE [] [] rfl rfl rfl) rfl rfl hl.1 rfl (lv_room (Nat.le_of_ble_eq_true rfl)) dX9_changeover_45 ⟨Nat.le_of_ble_eq_true rfl, Nat.le_of_ble_eq_true rfl⟩) hP hD hK hS hA [] [0] rfl rfl (by decide) (by decide) (fun r21 _ H locs w20 hP hD hK hS => ?_)
        have hP : va_P D vwCl [(mo, .inr (16, [.int 5, .int 5, .int th, .ref m1, .ref m2, .ref m3, .ref m4, .ref m5, .ref l1, .ref l2, .ref l3, .int (-1), .ref l4]))] H := hP
        have hD : va_D A [(mo, .inr (16, [.int 5, .int 5, .int th, .ref m1, .ref m2, .ref m3, .ref m4, .ref m5, .ref l1, .ref l2, .ref l3, .int (-1), .ref l4]))] := hD
        have hK : va_K D vwCl [] s := hK
        obtain rfl : r21 = (if inR p3 (-1) 99999 then 1 else 0) := w20
        refine lv_if_ne (tgt := 57) hx hb dX9_changeover_48 (by decide) (fun h22 => ?_) (fun h22 => ?_)
        · obtain ⟨k0, hk0, rfl⟩ := inR_nI (M := 2) (by decide) (by decide) (ite01_1 h4)
          have hlo := ((ite01_1 h22)).1
          rcases (show k0 = 0 ∨ k0 = 1 ∨ k0 = 2 by omega) with rfl | rfl | rfl
          · refine lv_iload_n hx hb dX9_changeover_57 rfl (lv_at hl 2 rfl) ?_
            refine lv_istore (lv' := [(5, .int p1), (0, .ref mo), (1, .int (nI 0)), (2, .int p1), (3, .int p2), (4, .int p3)]) hx hb dX9_changeover_58 hl (by decide) rfl (fun ls hl => ?_)
            refine lv_iconst (v := 0) hx hb dX9_changeover_60 (by decide) ?_
            refine lv_istore (lv' := [(6, .int 0), (5, .int p1), (0, .ref mo), (1, .int (nI 0)), (2, .int p1), (3, .int p2), (4, .int p3)]) hx hb dX9_changeover_61 hl (by decide) rfl (fun ls hl => ?_)
            refine lv_iload hx hb dX9_changeover_63 (lv_at hl 0 rfl) ?_
            refine lv_iload_n hx hb dX9_changeover_65 rfl (lv_at hl 3 rfl) ?_
            refine lv_icmp_ge (tgt := 98) hx hb dX9_changeover_66 (by decide) (fun h23 => ?_) (fun h23 => absurd (by exact (nI_leI (a := 0) (b := 0) (by omega) (by omega)).mpr (by omega)) h23)
            refine lv_aload_n hx hb dX9_changeover_98 rfl (lv_at hl 2 rfl) ?_
            refine lv_iload hx hb dX9_changeover_99 (lv_at hl 1 rfl) ?_
            refine mc_i (wr := []) (va_runV (As := [.int p1]) (rest := []) ⟨hx, hb, hml, hown, hts⟩ (c_tells l hst D mo 5 5 th m1 m2 m3 m4 m5 l1 l2 l3 (-1) l4 p1 H.size) (cwV 1 hts (gi_c (List.mem_cons_of_mem _ (List.mem_append_left _ (List.mem_of_getElem? (i := 9) rfl))) rfl (gi_c (List.mem_cons_of_mem _ (List.mem_append_left _ (List.mem_of_getElem? (i := 10) rfl))) rfl (gi_c (List.mem_cons_of_mem _ (List.mem_append_left _ (List.mem_of_getElem? (i := 11) rfl))) rfl (gi_c (List.mem_cons_of_mem _ (List.mem_append_left _ (List.mem_of_getElem? (i := 3) rfl))) rfl (goodIn_sub hb_2 (List.all_eq_true.mpr gw_c_tells)))))) rfl rfl rfl (by decide +kernel) ⟨Nat.le_of_ble_eq_true rfl, Nat.le_of_ble_eq_true rfl⟩) (pr_V (As := [.int p1]) (b := mo) (C := RX9) hP hD hK hS hA hE [0] [] rfl rfl rfl 0 16 rfl rfl rfl) rfl rfl hl.1 rfl (lv_room (Nat.le_of_ble_eq_true rfl)) dX9_changeover_101 ⟨Nat.le_of_ble_eq_true rfl, Nat.le_of_ble_eq_true rfl⟩) hP hD hK hS hA [0] [] rfl rfl (by decide) (by decide) (fun r25 _ H locs w24 hP hD hK hS => ?_)
            have hP : va_P D vwCl [(mo, .inr (16, [.int 5, .int 5, .int 0, .ref m1, .ref m2, .ref m3, .ref m4, .ref m5, .ref l1, .ref l2, .ref l3, .int (-1), .ref l4]))] H := hP
            have hD : va_D A [(mo, .inr (16, [.int 5, .int 5, .int 0, .ref m1, .ref m2, .ref m3, .ref m4, .ref m5, .ref l1, .ref l2, .ref l3, .int (-1), .ref l4]))] := hD
            have hK : va_K D vwCl [] s := hK
            obtain rfl : p1 = r25 := w24.symm
            exact mr_i hx hb hr (0, fun k9 => [m1, m2, m3, m4, m5, l1, l2, l3, l4].getD k9 0, fun k9 => [5, 5, -1].getD k9 0) (⟨((if_pos (ite01_1 h4)).trans ((if_pos (ite01_1 h10)).trans ((if_pos (ite01_1 h16)).trans (if_pos (ite01_1 h22))))).symm, fun _ => (rfl).trans (cvR_0 p1 p2 p3).symm⟩) (hP.sub [0] rfl) (hK.sub [] rfl) (hD.sub [0] (by decide) rfl) hS (Nat.le_of_ble_eq_true rfl) (Nat.le_of_ble_eq_true rfl) hlocks dX9_changeover_104
          · refine lv_iload_n hx hb dX9_changeover_57 rfl (lv_at hl 2 rfl) ?_
            refine lv_istore (lv' := [(5, .int p1), (0, .ref mo), (1, .int (nI 1)), (2, .int p1), (3, .int p2), (4, .int p3)]) hx hb dX9_changeover_58 hl (by decide) rfl (fun ls hl => ?_)
            refine lv_iconst (v := 0) hx hb dX9_changeover_60 (by decide) ?_
            refine lv_istore (lv' := [(6, .int 0), (5, .int p1), (0, .ref mo), (1, .int (nI 1)), (2, .int p1), (3, .int p2), (4, .int p3)]) hx hb dX9_changeover_61 hl (by decide) rfl (fun ls hl => ?_)
            refine lv_iload hx hb dX9_changeover_63 (lv_at hl 0 rfl) ?_
            refine lv_iload_n hx hb dX9_changeover_65 rfl (lv_at hl 3 rfl) ?_
            refine lv_icmp_ge (tgt := 98) hx hb dX9_changeover_66 (by decide) (fun h26 => absurd h26 (by exact fun q9 => absurd ((nI_leI (a := 1) (b := 0) (by omega) (by omega)).mp q9) (by omega))) (fun h26 => ?_)
            refine lv_iload hx hb dX9_changeover_69 (lv_at hl 6 rfl) ?_
            refine lv_if_lt (tgt := 86) hx hb dX9_changeover_71 (by decide) (fun h27 => ?_) (fun h27 => ?_)
            · refine lv_iload hx hb dX9_changeover_86 (lv_at hl 1 rfl) ?_
              refine lv_iload_n hx hb dX9_changeover_88 rfl (lv_at hl 5 rfl) ?_
              refine lv_iadd hx hb dX9_changeover_89 ?_
              refine lv_topi (fun x28 e28 => ?_)
              refine lv_istore (lv' := [(5, .int x28), (6, .int 0), (0, .ref mo), (1, .int (nI 1)), (2, .int p1), (3, .int p2), (4, .int p3)]) hx hb dX9_changeover_90 hl (by decide) rfl (fun ls hl => ?_)
              obtain ⟨x29, e29⟩ : ∃ z : Int32, z = 0 + 1 := ⟨_, rfl⟩
              refine lv_iinc (v := x29) (lv' := [(6, .int x29), (5, .int x28), (0, .ref mo), (1, .int (nI 1)), (2, .int p1), (3, .int p2), (4, .int p3)]) hx hb dX9_changeover_92 hl (k := 1) rfl (by rw [e29]; rfl) (by decide) rfl (fun ls hl => ?_)
              obtain rfl : x29 = 1 := e29.trans (by decide)
              refine lv_goto (tgt := 63) hx hb dX9_changeover_95 (by decide) ?_
              refine lv_iload hx hb dX9_changeover_63 (lv_at hl 0 rfl) ?_
              refine lv_iload_n hx hb dX9_changeover_65 rfl (lv_at hl 3 rfl) ?_
              refine lv_icmp_ge (tgt := 98) hx hb dX9_changeover_66 (by decide) (fun h30 => ?_) (fun h30 => absurd (by exact (nI_leI (a := 1) (b := 1) (by omega) (by omega)).mpr (by omega)) h30)
              refine lv_aload_n hx hb dX9_changeover_98 rfl (lv_at hl 2 rfl) ?_
              refine lv_iload hx hb dX9_changeover_99 (lv_at hl 1 rfl) ?_
              refine mc_i (wr := []) (va_runV (As := [.int x28]) (rest := []) ⟨hx, hb, hml, hown, hts⟩ (c_tells l hst D mo 5 5 th m1 m2 m3 m4 m5 l1 l2 l3 (-1) l4 x28 H.size) (cwV 1 hts (gi_c (List.mem_cons_of_mem _ (List.mem_append_left _ (List.mem_of_getElem? (i := 9) rfl))) rfl (gi_c (List.mem_cons_of_mem _ (List.mem_append_left _ (List.mem_of_getElem? (i := 10) rfl))) rfl (gi_c (List.mem_cons_of_mem _ (List.mem_append_left _ (List.mem_of_getElem? (i := 11) rfl))) rfl (gi_c (List.mem_cons_of_mem _ (List.mem_append_left _ (List.mem_of_getElem? (i := 3) rfl))) rfl (goodIn_sub hb_2 (List.all_eq_true.mpr gw_c_tells)))))) rfl rfl rfl (by decide +kernel) ⟨Nat.le_of_ble_eq_true rfl, Nat.le_of_ble_eq_true rfl⟩) (pr_V (As := [.int x28]) (b := mo) (C := RX9) hP hD hK hS hA hE [0] [] rfl rfl rfl 0 16 rfl rfl rfl) rfl rfl hl.1 rfl (lv_room (Nat.le_of_ble_eq_true rfl)) dX9_changeover_101 ⟨Nat.le_of_ble_eq_true rfl, Nat.le_of_ble_eq_true rfl⟩) hP hD hK hS hA [0] [] rfl rfl (by decide) (by decide) (fun r32 _ H locs w31 hP hD hK hS => ?_)
              have hP : va_P D vwCl [(mo, .inr (16, [.int 5, .int 5, .int 0, .ref m1, .ref m2, .ref m3, .ref m4, .ref m5, .ref l1, .ref l2, .ref l3, .int (-1), .ref l4]))] H := hP
              have hD : va_D A [(mo, .inr (16, [.int 5, .int 5, .int 0, .ref m1, .ref m2, .ref m3, .ref m4, .ref m5, .ref l1, .ref l2, .ref l3, .int (-1), .ref l4]))] := hD
              have hK : va_K D vwCl [] s := hK
              obtain rfl : x28 = r32 := w31.symm
              exact mr_i hx hb hr (0, fun k9 => [m1, m2, m3, m4, m5, l1, l2, l3, l4].getD k9 0, fun k9 => [5, 5, -1].getD k9 0) (⟨((if_pos (ite01_1 h4)).trans ((if_pos (ite01_1 h10)).trans ((if_pos (ite01_1 h16)).trans (if_pos (ite01_1 h22))))).symm, fun _ => ((cvS_1 (cv_m1 hlo h27) e28).trans (congrArg (cvS p2 p3) (rfl))).trans (cvR_1 p1 p2 p3).symm⟩) (hP.sub [0] rfl) (hK.sub [] rfl) (hD.sub [0] (by decide) rfl) hS (Nat.le_of_ble_eq_true rfl) (Nat.le_of_ble_eq_true rfl) hlocks dX9_changeover_104
            · refine lv_iload hx hb dX9_changeover_74 (lv_at hl 6 rfl) ?_
              refine lv_iload hx hb dX9_changeover_76 (lv_at hl 1 rfl) ?_
              refine lv_iload_n hx hb dX9_changeover_78 rfl (lv_at hl 5 rfl) ?_
              refine lv_iadd hx hb dX9_changeover_79 ?_
              refine lv_topi (fun x33 e33 => ?_)
              refine va_mmin hx hb (by rw [hml]; exact hl.1.symm) hown hw_12 hw_13 hw_14 hw_15 (Nat.le_of_ble_eq_true rfl) (Nat.le_of_ble_eq_true rfl) (Nat.le_of_ble_eq_true rfl) (Nat.le_of_ble_eq_true rfl) dX9_changeover_80 ?_
              refine lv_topi (fun x34 e34 => ?_)
              refine lv_goto (tgt := 90) hx hb dX9_changeover_83 (by decide) ?_
              refine lv_istore (lv' := [(5, .int x34), (6, .int 0), (0, .ref mo), (1, .int (nI 1)), (2, .int p1), (3, .int p2), (4, .int p3)]) hx hb dX9_changeover_90 hl (by decide) rfl (fun ls hl => ?_)
              obtain ⟨x35, e35⟩ : ∃ z : Int32, z = 0 + 1 := ⟨_, rfl⟩
              refine lv_iinc (v := x35) (lv' := [(6, .int x35), (5, .int x34), (0, .ref mo), (1, .int (nI 1)), (2, .int p1), (3, .int p2), (4, .int p3)]) hx hb dX9_changeover_92 hl (k := 1) rfl (by rw [e35]; rfl) (by decide) rfl (fun ls hl => ?_)
              obtain rfl : x35 = 1 := e35.trans (by decide)
              refine lv_goto (tgt := 63) hx hb dX9_changeover_95 (by decide) ?_
              refine lv_iload hx hb dX9_changeover_63 (lv_at hl 0 rfl) ?_
              refine lv_iload_n hx hb dX9_changeover_65 rfl (lv_at hl 3 rfl) ?_
              refine lv_icmp_ge (tgt := 98) hx hb dX9_changeover_66 (by decide) (fun h36 => ?_) (fun h36 => absurd (by exact (nI_leI (a := 1) (b := 1) (by omega) (by omega)).mpr (by omega)) h36)
              refine lv_aload_n hx hb dX9_changeover_98 rfl (lv_at hl 2 rfl) ?_
              refine lv_iload hx hb dX9_changeover_99 (lv_at hl 1 rfl) ?_
              refine mc_i (wr := []) (va_runV (As := [.int x34]) (rest := []) ⟨hx, hb, hml, hown, hts⟩ (c_tells l hst D mo 5 5 th m1 m2 m3 m4 m5 l1 l2 l3 (-1) l4 x34 H.size) (cwV 1 hts (gi_c (List.mem_cons_of_mem _ (List.mem_append_left _ (List.mem_of_getElem? (i := 9) rfl))) rfl (gi_c (List.mem_cons_of_mem _ (List.mem_append_left _ (List.mem_of_getElem? (i := 10) rfl))) rfl (gi_c (List.mem_cons_of_mem _ (List.mem_append_left _ (List.mem_of_getElem? (i := 11) rfl))) rfl (gi_c (List.mem_cons_of_mem _ (List.mem_append_left _ (List.mem_of_getElem? (i := 3) rfl))) rfl (goodIn_sub hb_2 (List.all_eq_true.mpr gw_c_tells)))))) rfl rfl rfl (by decide +kernel) ⟨Nat.le_of_ble_eq_true rfl, Nat.le_of_ble_eq_true rfl⟩) (pr_V (As := [.int x34]) (b := mo) (C := RX9) hP hD hK hS hA hE [0] [] rfl rfl rfl 0 16 rfl rfl rfl) rfl rfl hl.1 rfl (lv_room (Nat.le_of_ble_eq_true rfl)) dX9_changeover_101 ⟨Nat.le_of_ble_eq_true rfl, Nat.le_of_ble_eq_true rfl⟩) hP hD hK hS hA [0] [] rfl rfl (by decide) (by decide) (fun r38 _ H locs w37 hP hD hK hS => ?_)
              have hP : va_P D vwCl [(mo, .inr (16, [.int 5, .int 5, .int 0, .ref m1, .ref m2, .ref m3, .ref m4, .ref m5, .ref l1, .ref l2, .ref l3, .int (-1), .ref l4]))] H := hP
              have hD : va_D A [(mo, .inr (16, [.int 5, .int 5, .int 0, .ref m1, .ref m2, .ref m3, .ref m4, .ref m5, .ref l1, .ref l2, .ref l3, .int (-1), .ref l4]))] := hD
              have hK : va_K D vwCl [] s := hK
              obtain rfl : x34 = r38 := w37.symm
              exact mr_i hx hb hr (0, fun k9 => [m1, m2, m3, m4, m5, l1, l2, l3, l4].getD k9 0, fun k9 => [5, 5, -1].getD k9 0) (⟨((if_pos (ite01_1 h4)).trans ((if_pos (ite01_1 h10)).trans ((if_pos (ite01_1 h16)).trans (if_pos (ite01_1 h22))))).symm, fun _ => ((cvM h27 e33 e34).trans (congrArg (cvS p2 p3) (rfl))).trans (cvR_1 p1 p2 p3).symm⟩) (hP.sub [0] rfl) (hK.sub [] rfl) (hD.sub [0] (by decide) rfl) hS (Nat.le_of_ble_eq_true rfl) (Nat.le_of_ble_eq_true rfl) hlocks dX9_changeover_104
          · refine lv_iload_n hx hb dX9_changeover_57 rfl (lv_at hl 2 rfl) ?_
            refine lv_istore (lv' := [(5, .int p1), (0, .ref mo), (1, .int (nI 2)), (2, .int p1), (3, .int p2), (4, .int p3)]) hx hb dX9_changeover_58 hl (by decide) rfl (fun ls hl => ?_)
            refine lv_iconst (v := 0) hx hb dX9_changeover_60 (by decide) ?_
            refine lv_istore (lv' := [(6, .int 0), (5, .int p1), (0, .ref mo), (1, .int (nI 2)), (2, .int p1), (3, .int p2), (4, .int p3)]) hx hb dX9_changeover_61 hl (by decide) rfl (fun ls hl => ?_)
            refine lv_iload hx hb dX9_changeover_63 (lv_at hl 0 rfl) ?_
            refine lv_iload_n hx hb dX9_changeover_65 rfl (lv_at hl 3 rfl) ?_
            refine lv_icmp_ge (tgt := 98) hx hb dX9_changeover_66 (by decide) (fun h39 => absurd h39 (by exact fun q9 => absurd ((nI_leI (a := 2) (b := 0) (by omega) (by omega)).mp q9) (by omega))) (fun h39 => ?_)
            refine lv_iload hx hb dX9_changeover_69 (lv_at hl 6 rfl) ?_
            refine lv_if_lt (tgt := 86) hx hb dX9_changeover_71 (by decide) (fun h40 => ?_) (fun h40 => ?_)
            · refine lv_iload hx hb dX9_changeover_86 (lv_at hl 1 rfl) ?_
              refine lv_iload_n hx hb dX9_changeover_88 rfl (lv_at hl 5 rfl) ?_
              refine lv_iadd hx hb dX9_changeover_89 ?_
              refine lv_topi (fun x41 e41 => ?_)
              refine lv_istore (lv' := [(5, .int x41), (6, .int 0), (0, .ref mo), (1, .int (nI 2)), (2, .int p1), (3, .int p2), (4, .int p3)]) hx hb dX9_changeover_90 hl (by decide) rfl (fun ls hl => ?_)
              obtain ⟨x42, e42⟩ : ∃ z : Int32, z = 0 + 1 := ⟨_, rfl⟩
              refine lv_iinc (v := x42) (lv' := [(6, .int x42), (5, .int x41), (0, .ref mo), (1, .int (nI 2)), (2, .int p1), (3, .int p2), (4, .int p3)]) hx hb dX9_changeover_92 hl (k := 1) rfl (by rw [e42]; rfl) (by decide) rfl (fun ls hl => ?_)
              obtain rfl : x42 = 1 := e42.trans (by decide)
              refine lv_goto (tgt := 63) hx hb dX9_changeover_95 (by decide) ?_
              refine lv_iload hx hb dX9_changeover_63 (lv_at hl 0 rfl) ?_
              refine lv_iload_n hx hb dX9_changeover_65 rfl (lv_at hl 3 rfl) ?_
              refine lv_icmp_ge (tgt := 98) hx hb dX9_changeover_66 (by decide) (fun h43 => absurd h43 (by exact fun q9 => absurd ((nI_leI (a := 2) (b := 1) (by omega) (by omega)).mp q9) (by omega))) (fun h43 => ?_)
              refine lv_iload hx hb dX9_changeover_69 (lv_at hl 6 rfl) ?_
              refine lv_if_lt (tgt := 86) hx hb dX9_changeover_71 (by decide) (fun h44 => ?_) (fun h44 => ?_)
              · refine lv_iload hx hb dX9_changeover_86 (lv_at hl 1 rfl) ?_
                refine lv_iload_n hx hb dX9_changeover_88 rfl (lv_at hl 5 rfl) ?_
                refine lv_iadd hx hb dX9_changeover_89 ?_
                refine lv_topi (fun x45 e45 => ?_)
                refine lv_istore (lv' := [(5, .int x45), (6, .int 1), (0, .ref mo), (1, .int (nI 2)), (2, .int p1), (3, .int p2), (4, .int p3)]) hx hb dX9_changeover_90 hl (by decide) rfl (fun ls hl => ?_)
                obtain ⟨x46, e46⟩ : ∃ z : Int32, z = 1 + 1 := ⟨_, rfl⟩
                refine lv_iinc (v := x46) (lv' := [(6, .int x46), (5, .int x45), (0, .ref mo), (1, .int (nI 2)), (2, .int p1), (3, .int p2), (4, .int p3)]) hx hb dX9_changeover_92 hl (k := 1) rfl (by rw [e46]; rfl) (by decide) rfl (fun ls hl => ?_)
                obtain rfl : x46 = 2 := e46.trans (by decide)
                refine lv_goto (tgt := 63) hx hb dX9_changeover_95 (by decide) ?_
                refine lv_iload hx hb dX9_changeover_63 (lv_at hl 0 rfl) ?_
                refine lv_iload_n hx hb dX9_changeover_65 rfl (lv_at hl 3 rfl) ?_
                refine lv_icmp_ge (tgt := 98) hx hb dX9_changeover_66 (by decide) (fun h47 => ?_) (fun h47 => absurd (by exact (nI_leI (a := 2) (b := 2) (by omega) (by omega)).mpr (by omega)) h47)
                refine lv_aload_n hx hb dX9_changeover_98 rfl (lv_at hl 2 rfl) ?_
                refine lv_iload hx hb dX9_changeover_99 (lv_at hl 1 rfl) ?_
                refine mc_i (wr := []) (va_runV (As := [.int x45]) (rest := []) ⟨hx, hb, hml, hown, hts⟩ (c_tells l hst D mo 5 5 th m1 m2 m3 m4 m5 l1 l2 l3 (-1) l4 x45 H.size) (cwV 1 hts (gi_c (List.mem_cons_of_mem _ (List.mem_append_left _ (List.mem_of_getElem? (i := 9) rfl))) rfl (gi_c (List.mem_cons_of_mem _ (List.mem_append_left _ (List.mem_of_getElem? (i := 10) rfl))) rfl (gi_c (List.mem_cons_of_mem _ (List.mem_append_left _ (List.mem_of_getElem? (i := 11) rfl))) rfl (gi_c (List.mem_cons_of_mem _ (List.mem_append_left _ (List.mem_of_getElem? (i := 3) rfl))) rfl (goodIn_sub hb_2 (List.all_eq_true.mpr gw_c_tells)))))) rfl rfl rfl (by decide +kernel) ⟨Nat.le_of_ble_eq_true rfl, Nat.le_of_ble_eq_true rfl⟩) (pr_V (As := [.int x45]) (b := mo) (C := RX9) hP hD hK hS hA hE [0] [] rfl rfl rfl 0 16 rfl rfl rfl) rfl rfl hl.1 rfl (lv_room (Nat.le_of_ble_eq_true rfl)) dX9_changeover_101 ⟨Nat.le_of_ble_eq_true rfl, Nat.le_of_ble_eq_true rfl⟩) hP hD hK hS hA [0] [] rfl rfl (by decide) (by decide) (fun r49 _ H locs w48 hP hD hK hS => ?_)
                have hP : va_P D vwCl [(mo, .inr (16, [.int 5, .int 5, .int 0, .ref m1, .ref m2, .ref m3, .ref m4, .ref m5, .ref l1, .ref l2, .ref l3, .int (-1), .ref l4]))] H := hP
                have hD : va_D A [(mo, .inr (16, [.int 5, .int 5, .int 0, .ref m1, .ref m2, .ref m3, .ref m4, .ref m5, .ref l1, .ref l2, .ref l3, .int (-1), .ref l4]))] := hD
                have hK : va_K D vwCl [] s := hK
                obtain rfl : x45 = r49 := w48.symm
                exact mr_i hx hb hr (0, fun k9 => [m1, m2, m3, m4, m5, l1, l2, l3, l4].getD k9 0, fun k9 => [5, 5, -1].getD k9 0) (⟨((if_pos (ite01_1 h4)).trans ((if_pos (ite01_1 h10)).trans ((if_pos (ite01_1 h16)).trans (if_pos (ite01_1 h22))))).symm, fun _ => ((cvS_1 (cv_m1 hlo h44) e45).trans (congrArg (cvS p2 p3) ((cvS_1 (cv_m1 hlo h40) e41).trans (congrArg (cvS p2 p3) (rfl))))).trans (cvR_2 p1 p2 p3).symm⟩) (hP.sub [0] rfl) (hK.sub [] rfl) (hD.sub [0] (by decide) rfl) hS (Nat.le_of_ble_eq_true rfl) (Nat.le_of_ble_eq_true rfl) hlocks dX9_changeover_104
              · refine lv_iload hx hb dX9_changeover_74 (lv_at hl 6 rfl) ?_
                refine lv_iload hx hb dX9_changeover_76 (lv_at hl 1 rfl) ?_
                refine lv_iload_n hx hb dX9_changeover_78 rfl (lv_at hl 5 rfl) ?_
                refine lv_iadd hx hb dX9_changeover_79 ?_
                refine lv_topi (fun x50 e50 => ?_)
                refine va_mmin hx hb (by rw [hml]; exact hl.1.symm) hown hw_12 hw_13 hw_14 hw_15 (Nat.le_of_ble_eq_true rfl) (Nat.le_of_ble_eq_true rfl) (Nat.le_of_ble_eq_true rfl) (Nat.le_of_ble_eq_true rfl) dX9_changeover_80 ?_
                refine lv_topi (fun x51 e51 => ?_)
                refine lv_goto (tgt := 90) hx hb dX9_changeover_83 (by decide) ?_
                refine lv_istore (lv' := [(5, .int x51), (6, .int 1), (0, .ref mo), (1, .int (nI 2)), (2, .int p1), (3, .int p2), (4, .int p3)]) hx hb dX9_changeover_90 hl (by decide) rfl (fun ls hl => ?_)
                obtain ⟨x52, e52⟩ : ∃ z : Int32, z = 1 + 1 := ⟨_, rfl⟩
                refine lv_iinc (v := x52) (lv' := [(6, .int x52), (5, .int x51), (0, .ref mo), (1, .int (nI 2)), (2, .int p1), (3, .int p2), (4, .int p3)]) hx hb dX9_changeover_92 hl (k := 1) rfl (by rw [e52]; rfl) (by decide) rfl (fun ls hl => ?_)
                obtain rfl : x52 = 2 := e52.trans (by decide)
                refine lv_goto (tgt := 63) hx hb dX9_changeover_95 (by decide) ?_
                refine lv_iload hx hb dX9_changeover_63 (lv_at hl 0 rfl) ?_
                refine lv_iload_n hx hb dX9_changeover_65 rfl (lv_at hl 3 rfl) ?_
                refine lv_icmp_ge (tgt := 98) hx hb dX9_changeover_66 (by decide) (fun h53 => ?_) (fun h53 => absurd (by exact (nI_leI (a := 2) (b := 2) (by omega) (by omega)).mpr (by omega)) h53)
                refine lv_aload_n hx hb dX9_changeover_98 rfl (lv_at hl 2 rfl) ?_
                refine lv_iload hx hb dX9_changeover_99 (lv_at hl 1 rfl) ?_
                refine mc_i (wr := []) (va_runV (As := [.int x51]) (rest := []) ⟨hx, hb, hml, hown, hts⟩ (c_tells l hst D mo 5 5 th m1 m2 m3 m4 m5 l1 l2 l3 (-1) l4 x51 H.size) (cwV 1 hts (gi_c (List.mem_cons_of_mem _ (List.mem_append_left _ (List.mem_of_getElem? (i := 9) rfl))) rfl (gi_c (List.mem_cons_of_mem _ (List.mem_append_left _ (List.mem_of_getElem? (i := 10) rfl))) rfl (gi_c (List.mem_cons_of_mem _ (List.mem_append_left _ (List.mem_of_getElem? (i := 11) rfl))) rfl (gi_c (List.mem_cons_of_mem _ (List.mem_append_left _ (List.mem_of_getElem? (i := 3) rfl))) rfl (goodIn_sub hb_2 (List.all_eq_true.mpr gw_c_tells)))))) rfl rfl rfl (by decide +kernel) ⟨Nat.le_of_ble_eq_true rfl, Nat.le_of_ble_eq_true rfl⟩) (pr_V (As := [.int x51]) (b := mo) (C := RX9) hP hD hK hS hA hE [0] [] rfl rfl rfl 0 16 rfl rfl rfl) rfl rfl hl.1 rfl (lv_room (Nat.le_of_ble_eq_true rfl)) dX9_changeover_101 ⟨Nat.le_of_ble_eq_true rfl, Nat.le_of_ble_eq_true rfl⟩) hP hD hK hS hA [0] [] rfl rfl (by decide) (by decide) (fun r55 _ H locs w54 hP hD hK hS => ?_)
                have hP : va_P D vwCl [(mo, .inr (16, [.int 5, .int 5, .int 0, .ref m1, .ref m2, .ref m3, .ref m4, .ref m5, .ref l1, .ref l2, .ref l3, .int (-1), .ref l4]))] H := hP
                have hD : va_D A [(mo, .inr (16, [.int 5, .int 5, .int 0, .ref m1, .ref m2, .ref m3, .ref m4, .ref m5, .ref l1, .ref l2, .ref l3, .int (-1), .ref l4]))] := hD
                have hK : va_K D vwCl [] s := hK
                obtain rfl : x51 = r55 := w54.symm
                exact mr_i hx hb hr (0, fun k9 => [m1, m2, m3, m4, m5, l1, l2, l3, l4].getD k9 0, fun k9 => [5, 5, -1].getD k9 0) (⟨((if_pos (ite01_1 h4)).trans ((if_pos (ite01_1 h10)).trans ((if_pos (ite01_1 h16)).trans (if_pos (ite01_1 h22))))).symm, fun _ => ((cvM h44 e50 e51).trans (congrArg (cvS p2 p3) ((cvS_1 (cv_m1 hlo h40) e41).trans (congrArg (cvS p2 p3) (rfl))))).trans (cvR_2 p1 p2 p3).symm⟩) (hP.sub [0] rfl) (hK.sub [] rfl) (hD.sub [0] (by decide) rfl) hS (Nat.le_of_ble_eq_true rfl) (Nat.le_of_ble_eq_true rfl) hlocks dX9_changeover_104
            · refine lv_iload hx hb dX9_changeover_74 (lv_at hl 6 rfl) ?_
              refine lv_iload hx hb dX9_changeover_76 (lv_at hl 1 rfl) ?_
              refine lv_iload_n hx hb dX9_changeover_78 rfl (lv_at hl 5 rfl) ?_
              refine lv_iadd hx hb dX9_changeover_79 ?_
              refine lv_topi (fun x56 e56 => ?_)
              refine va_mmin hx hb (by rw [hml]; exact hl.1.symm) hown hw_12 hw_13 hw_14 hw_15 (Nat.le_of_ble_eq_true rfl) (Nat.le_of_ble_eq_true rfl) (Nat.le_of_ble_eq_true rfl) (Nat.le_of_ble_eq_true rfl) dX9_changeover_80 ?_
              refine lv_topi (fun x57 e57 => ?_)
              refine lv_goto (tgt := 90) hx hb dX9_changeover_83 (by decide) ?_
              refine lv_istore (lv' := [(5, .int x57), (6, .int 0), (0, .ref mo), (1, .int (nI 2)), (2, .int p1), (3, .int p2), (4, .int p3)]) hx hb dX9_changeover_90 hl (by decide) rfl (fun ls hl => ?_)
              obtain ⟨x58, e58⟩ : ∃ z : Int32, z = 0 + 1 := ⟨_, rfl⟩
              refine lv_iinc (v := x58) (lv' := [(6, .int x58), (5, .int x57), (0, .ref mo), (1, .int (nI 2)), (2, .int p1), (3, .int p2), (4, .int p3)]) hx hb dX9_changeover_92 hl (k := 1) rfl (by rw [e58]; rfl) (by decide) rfl (fun ls hl => ?_)
              obtain rfl : x58 = 1 := e58.trans (by decide)
              refine lv_goto (tgt := 63) hx hb dX9_changeover_95 (by decide) ?_
              refine lv_iload hx hb dX9_changeover_63 (lv_at hl 0 rfl) ?_
              refine lv_iload_n hx hb dX9_changeover_65 rfl (lv_at hl 3 rfl) ?_
              refine lv_icmp_ge (tgt := 98) hx hb dX9_changeover_66 (by decide) (fun h59 => absurd h59 (by exact fun q9 => absurd ((nI_leI (a := 2) (b := 1) (by omega) (by omega)).mp q9) (by omega))) (fun h59 => ?_)
              refine lv_iload hx hb dX9_changeover_69 (lv_at hl 6 rfl) ?_
              refine lv_if_lt (tgt := 86) hx hb dX9_changeover_71 (by decide) (fun h60 => ?_) (fun h60 => ?_)
              · refine lv_iload hx hb dX9_changeover_86 (lv_at hl 1 rfl) ?_
                refine lv_iload_n hx hb dX9_changeover_88 rfl (lv_at hl 5 rfl) ?_
                refine lv_iadd hx hb dX9_changeover_89 ?_
                refine lv_topi (fun x61 e61 => ?_)
                refine lv_istore (lv' := [(5, .int x61), (6, .int 1), (0, .ref mo), (1, .int (nI 2)), (2, .int p1), (3, .int p2), (4, .int p3)]) hx hb dX9_changeover_90 hl (by decide) rfl (fun ls hl => ?_)
                obtain ⟨x62, e62⟩ : ∃ z : Int32, z = 1 + 1 := ⟨_, rfl⟩
                refine lv_iinc (v := x62) (lv' := [(6, .int x62), (5, .int x61), (0, .ref mo), (1, .int (nI 2)), (2, .int p1), (3, .int p2), (4, .int p3)]) hx hb dX9_changeover_92 hl (k := 1) rfl (by rw [e62]; rfl) (by decide) rfl (fun ls hl => ?_)
                obtain rfl : x62 = 2 := e62.trans (by decide)
                refine lv_goto (tgt := 63) hx hb dX9_changeover_95 (by decide) ?_
                refine lv_iload hx hb dX9_changeover_63 (lv_at hl 0 rfl) ?_
                refine lv_iload_n hx hb dX9_changeover_65 rfl (lv_at hl 3 rfl) ?_
                refine lv_icmp_ge (tgt := 98) hx hb dX9_changeover_66 (by decide) (fun h63 => ?_) (fun h63 => absurd (by exact (nI_leI (a := 2) (b := 2) (by omega) (by omega)).mpr (by omega)) h63)
                refine lv_aload_n hx hb dX9_changeover_98 rfl (lv_at hl 2 rfl) ?_
                refine lv_iload hx hb dX9_changeover_99 (lv_at hl 1 rfl) ?_
                refine mc_i (wr := []) (va_runV (As := [.int x61]) (rest := []) ⟨hx, hb, hml, hown, hts⟩ (c_tells l hst D mo 5 5 th m1 m2 m3 m4 m5 l1 l2 l3 (-1) l4 x61 H.size) (cwV 1 hts (gi_c (List.mem_cons_of_mem _ (List.mem_append_left _ (List.mem_of_getElem? (i := 9) rfl))) rfl (gi_c (List.mem_cons_of_mem _ (List.mem_append_left _ (List.mem_of_getElem? (i := 10) rfl))) rfl (gi_c (List.mem_cons_of_mem _ (List.mem_append_left _ (List.mem_of_getElem? (i := 11) rfl))) rfl (gi_c (List.mem_cons_of_mem _ (List.mem_append_left _ (List.mem_of_getElem? (i := 3) rfl))) rfl (goodIn_sub hb_2 (List.all_eq_true.mpr gw_c_tells)))))) rfl rfl rfl (by decide +kernel) ⟨Nat.le_of_ble_eq_true rfl, Nat.le_of_ble_eq_true rfl⟩) (pr_V (As := [.int x61]) (b := mo) (C := RX9) hP hD hK hS hA hE [0] [] rfl rfl rfl 0 16 rfl rfl rfl) rfl rfl hl.1 rfl (lv_room (Nat.le_of_ble_eq_true rfl)) dX9_changeover_101 ⟨Nat.le_of_ble_eq_true rfl, Nat.le_of_ble_eq_true rfl⟩) hP hD hK hS hA [0] [] rfl rfl (by decide) (by decide) (fun r65 _ H locs w64 hP hD hK hS => ?_)
                have hP : va_P D vwCl [(mo, .inr (16, [.int 5, .int 5, .int 0, .ref m1, .ref m2, .ref m3, .ref m4, .ref m5, .ref l1, .ref l2, .ref l3, .int (-1), .ref l4]))] H := hP
                have hD : va_D A [(mo, .inr (16, [.int 5, .int 5, .int 0, .ref m1, .ref m2, .ref m3, .ref m4, .ref m5, .ref l1, .ref l2, .ref l3, .int (-1), .ref l4]))] := hD
                have hK : va_K D vwCl [] s := hK
                obtain rfl : x61 = r65 := w64.symm
                exact mr_i hx hb hr (0, fun k9 => [m1, m2, m3, m4, m5, l1, l2, l3, l4].getD k9 0, fun k9 => [5, 5, -1].getD k9 0) (⟨((if_pos (ite01_1 h4)).trans ((if_pos (ite01_1 h10)).trans ((if_pos (ite01_1 h16)).trans (if_pos (ite01_1 h22))))).symm, fun _ => ((cvS_1 (cv_m1 hlo h60) e61).trans (congrArg (cvS p2 p3) ((cvM h40 e56 e57).trans (congrArg (cvS p2 p3) (rfl))))).trans (cvR_2 p1 p2 p3).symm⟩) (hP.sub [0] rfl) (hK.sub [] rfl) (hD.sub [0] (by decide) rfl) hS (Nat.le_of_ble_eq_true rfl) (Nat.le_of_ble_eq_true rfl) hlocks dX9_changeover_104
              · refine lv_iload hx hb dX9_changeover_74 (lv_at hl 6 rfl) ?_
                refine lv_iload hx hb dX9_changeover_76 (lv_at hl 1 rfl) ?_
                refine lv_iload_n hx hb dX9_changeover_78 rfl (lv_at hl 5 rfl) ?_
                refine lv_iadd hx hb dX9_changeover_79 ?_
                refine lv_topi (fun x66 e66 => ?_)
                refine va_mmin hx hb (by rw [hml]; exact hl.1.symm) hown hw_12 hw_13 hw_14 hw_15 (Nat.le_of_ble_eq_true rfl) (Nat.le_of_ble_eq_true rfl) (Nat.le_of_ble_eq_true rfl) (Nat.le_of_ble_eq_true rfl) dX9_changeover_80 ?_
                refine lv_topi (fun x67 e67 => ?_)
                refine lv_goto (tgt := 90) hx hb dX9_changeover_83 (by decide) ?_
                refine lv_istore (lv' := [(5, .int x67), (6, .int 1), (0, .ref mo), (1, .int (nI 2)), (2, .int p1), (3, .int p2), (4, .int p3)]) hx hb dX9_changeover_90 hl (by decide) rfl (fun ls hl => ?_)
                obtain ⟨x68, e68⟩ : ∃ z : Int32, z = 1 + 1 := ⟨_, rfl⟩
                refine lv_iinc (v := x68) (lv' := [(6, .int x68), (5, .int x67), (0, .ref mo), (1, .int (nI 2)), (2, .int p1), (3, .int p2), (4, .int p3)]) hx hb dX9_changeover_92 hl (k := 1) rfl (by rw [e68]; rfl) (by decide) rfl (fun ls hl => ?_)
                obtain rfl : x68 = 2 := e68.trans (by decide)
                refine lv_goto (tgt := 63) hx hb dX9_changeover_95 (by decide) ?_
                refine lv_iload hx hb dX9_changeover_63 (lv_at hl 0 rfl) ?_
                refine lv_iload_n hx hb dX9_changeover_65 rfl (lv_at hl 3 rfl) ?_
                refine lv_icmp_ge (tgt := 98) hx hb dX9_changeover_66 (by decide) (fun h69 => ?_) (fun h69 => absurd (by exact (nI_leI (a := 2) (b := 2) (by omega) (by omega)).mpr (by omega)) h69)
                refine lv_aload_n hx hb dX9_changeover_98 rfl (lv_at hl 2 rfl) ?_
                refine lv_iload hx hb dX9_changeover_99 (lv_at hl 1 rfl) ?_
                refine mc_i (wr := []) (va_runV (As := [.int x67]) (rest := []) ⟨hx, hb, hml, hown, hts⟩ (c_tells l hst D mo 5 5 th m1 m2 m3 m4 m5 l1 l2 l3 (-1) l4 x67 H.size) (cwV 1 hts (gi_c (List.mem_cons_of_mem _ (List.mem_append_left _ (List.mem_of_getElem? (i := 9) rfl))) rfl (gi_c (List.mem_cons_of_mem _ (List.mem_append_left _ (List.mem_of_getElem? (i := 10) rfl))) rfl (gi_c (List.mem_cons_of_mem _ (List.mem_append_left _ (List.mem_of_getElem? (i := 11) rfl))) rfl (gi_c (List.mem_cons_of_mem _ (List.mem_append_left _ (List.mem_of_getElem? (i := 3) rfl))) rfl (goodIn_sub hb_2 (List.all_eq_true.mpr gw_c_tells)))))) rfl rfl rfl (by decide +kernel) ⟨Nat.le_of_ble_eq_true rfl, Nat.le_of_ble_eq_true rfl⟩) (pr_V (As := [.int x67]) (b := mo) (C := RX9) hP hD hK hS hA hE [0] [] rfl rfl rfl 0 16 rfl rfl rfl) rfl rfl hl.1 rfl (lv_room (Nat.le_of_ble_eq_true rfl)) dX9_changeover_101 ⟨Nat.le_of_ble_eq_true rfl, Nat.le_of_ble_eq_true rfl⟩) hP hD hK hS hA [0] [] rfl rfl (by decide) (by decide) (fun r71 _ H locs w70 hP hD hK hS => ?_)
                have hP : va_P D vwCl [(mo, .inr (16, [.int 5, .int 5, .int 0, .ref m1, .ref m2, .ref m3, .ref m4, .ref m5, .ref l1, .ref l2, .ref l3, .int (-1), .ref l4]))] H := hP
                have hD : va_D A [(mo, .inr (16, [.int 5, .int 5, .int 0, .ref m1, .ref m2, .ref m3, .ref m4, .ref m5, .ref l1, .ref l2, .ref l3, .int (-1), .ref l4]))] := hD
                have hK : va_K D vwCl [] s := hK
                obtain rfl : x67 = r71 := w70.symm
                exact mr_i hx hb hr (0, fun k9 => [m1, m2, m3, m4, m5, l1, l2, l3, l4].getD k9 0, fun k9 => [5, 5, -1].getD k9 0) (⟨((if_pos (ite01_1 h4)).trans ((if_pos (ite01_1 h10)).trans ((if_pos (ite01_1 h16)).trans (if_pos (ite01_1 h22))))).symm, fun _ => ((cvM h60 e66 e67).trans (congrArg (cvS p2 p3) ((cvM h40 e56 e57).trans (congrArg (cvS p2 p3) (rfl))))).trans (cvR_2 p1 p2 p3).symm⟩) (hP.sub [0] rfl) (hK.sub [] rfl) (hD.sub [0] (by decide) rfl) hS (Nat.le_of_ble_eq_true rfl) (Nat.le_of_ble_eq_true rfl) hlocks dX9_changeover_104
        · refine lv_aload_n hx hb dX9_changeover_51 rfl (lv_at hl 0 rfl) ?_
          refine lv_iconst (v := 1) hx hb dX9_changeover_52 (by decide) ?_
          refine mc_i (wr := []) (va_runV (As := [.int 1]) (rest := []) ⟨hx, hb, hml, hown, hts⟩ (c_fails l hst D mo 5 5 th m1 m2 m3 m4 m5 l1 l2 l3 (-1) l4 1 H.size) (cwV 1 hts (gi_c (List.mem_cons_of_mem _ (List.mem_append_left _ (List.mem_of_getElem? (i := 4) rfl))) rfl (gi_c (List.mem_cons_of_mem _ (List.mem_append_left _ (List.mem_of_getElem? (i := 5) rfl))) rfl (gi_c (List.mem_cons_of_mem _ (List.mem_append_left _ (List.mem_of_getElem? (i := 6) rfl))) rfl (gi_c (List.mem_cons_of_mem _ (List.mem_append_left _ (List.mem_of_getElem? (i := 3) rfl))) rfl (goodIn_sub hb_1 (List.all_eq_true.mpr gw_c_fails)))))) rfl rfl rfl (by decide +kernel) ⟨Nat.le_of_ble_eq_true rfl, Nat.le_of_ble_eq_true rfl⟩) (pr_V (As := [.int 1]) (b := mo) (C := RX9) hP hD hK hS hA hE [0] [] rfl rfl rfl 0 16 rfl rfl rfl) rfl rfl hl.1 rfl (lv_room (Nat.le_of_ble_eq_true rfl)) dX9_changeover_53 ⟨Nat.le_of_ble_eq_true rfl, Nat.le_of_ble_eq_true rfl⟩) hP hD hK hS hA [0] [] rfl rfl (by decide) (by decide) (fun r73 _ H locs w72 hP hD hK hS => ?_)
          have hP : va_P D vwCl [(mo, .inr (16, [.int 5, .int 5, .int 1, .ref m1, .ref m2, .ref m3, .ref m4, .ref m5, .ref l1, .ref l2, .ref l3, .int (-1), .ref l4]))] H := hP
          have hD : va_D A [(mo, .inr (16, [.int 5, .int 5, .int 1, .ref m1, .ref m2, .ref m3, .ref m4, .ref m5, .ref l1, .ref l2, .ref l3, .int (-1), .ref l4]))] := hD
          have hK : va_K D vwCl [] s := hK
          obtain rfl : r73 = 0 := w72
          exact mr_i hx hb hr (1, fun k9 => [m1, m2, m3, m4, m5, l1, l2, l3, l4].getD k9 0, fun k9 => [5, 5, -1].getD k9 0) (⟨((if_pos (ite01_1 h4)).trans ((if_pos (ite01_1 h10)).trans ((if_pos (ite01_1 h16)).trans (if_neg (ite01_0 h22))))).symm, fun q9 => absurd (((if_pos (ite01_1 h4)).trans ((if_pos (ite01_1 h10)).trans ((if_pos (ite01_1 h16)).trans (if_neg (ite01_0 h22))))).symm.trans q9) (by decide)⟩) (hP.sub [0] rfl) (hK.sub [] rfl) (hD.sub [0] (by decide) rfl) hS (Nat.le_of_ble_eq_true rfl) (Nat.le_of_ble_eq_true rfl) hlocks dX9_changeover_56
