theorem dX6_needWay_0 : decode cX6_needWay 0 = .ok (.iload_n 0, 1) := by decide +kernel
theorem dX6_needWay_1 : decode cX6_needWay 1 = .ok (.ldc 193, 2) := by decide +kernel
theorem dX6_needWay_3 : decode cX6_needWay 3 = .ok (.if_icmp .lt 14, 3) := by decide +kernel
theorem dX6_needWay_17 : decode cX6_needWay 17 = .ok (.iload_n 0, 1) := by decide +kernel
theorem dX6_needWay_18 : decode cX6_needWay 18 = .ok (.ireturn, 1) := by decide +kernel
theorem dX1_begin_0 : decode cX1_begin 0 = .ok (.aload_n 0, 1) := by decide +kernel
theorem dX1_begin_1 : decode cX1_begin 1 = .ok (.iload_n 1, 1) := by decide +kernel
theorem dX1_begin_2 : decode cX1_begin 2 = .ok (.putfield 9, 3) := by decide +kernel
theorem dX1_begin_5 : decode cX1_begin 5 = .ok (.aload_n 0, 1) := by decide +kernel
theorem dX1_begin_6 : decode cX1_begin 6 = .ok (.iload_n 2, 1) := by decide +kernel
theorem dX1_begin_7 : decode cX1_begin 7 = .ok (.putfield 15, 3) := by decide +kernel
theorem dX1_begin_10 : decode cX1_begin 10 = .ok (.aload_n 0, 1) := by decide +kernel
theorem dX1_begin_11 : decode cX1_begin 11 = .ok (.iload_n 3, 1) := by decide +kernel
theorem dX1_begin_12 : decode cX1_begin 12 = .ok (.putfield 18, 3) := by decide +kernel
theorem dX1_begin_15 : decode cX1_begin 15 = .ok (.aload_n 0, 1) := by decide +kernel
theorem dX1_begin_16 : decode cX1_begin 16 = .ok (.iconst 0, 1) := by decide +kernel
theorem dX1_begin_17 : decode cX1_begin 17 = .ok (.putfield 21, 3) := by decide +kernel
theorem dX1_begin_20 : decode cX1_begin 20 = .ok (.aload_n 0, 1) := by decide +kernel
theorem dX1_begin_21 : decode cX1_begin 21 = .ok (.iconst (-1), 1) := by decide +kernel
theorem dX1_begin_22 : decode cX1_begin 22 = .ok (.putfield 24, 3) := by decide +kernel
theorem dX1_begin_25 : decode cX1_begin 25 = .ok (.aload_n 0, 1) := by decide +kernel
theorem dX1_begin_26 : decode cX1_begin 26 = .ok (.iconst (-1), 1) := by decide +kernel
theorem dX1_begin_27 : decode cX1_begin 27 = .ok (.putfield 27, 3) := by decide +kernel
theorem dX1_begin_30 : decode cX1_begin 30 = .ok (.return_, 1) := by decide +kernel
theorem dX3_begin_0 : decode cX3_begin 0 = .ok (.aload_n 0, 1) := by decide +kernel
theorem dX3_begin_1 : decode cX3_begin 1 = .ok (.iload_n 1, 1) := by decide +kernel
theorem dX3_begin_2 : decode cX3_begin 2 = .ok (.putfield 22, 3) := by decide +kernel
theorem dX3_begin_5 : decode cX3_begin 5 = .ok (.aload_n 0, 1) := by decide +kernel
theorem dX3_begin_6 : decode cX3_begin 6 = .ok (.iconst 0, 1) := by decide +kernel
theorem dX3_begin_7 : decode cX3_begin 7 = .ok (.putfield 26, 3) := by decide +kernel
theorem dX3_begin_10 : decode cX3_begin 10 = .ok (.iconst 0, 1) := by decide +kernel
theorem dX3_begin_11 : decode cX3_begin 11 = .ok (.istore_n 2, 1) := by decide +kernel
theorem dX3_begin_12 : decode cX3_begin 12 = .ok (.iload_n 2, 1) := by decide +kernel
theorem dX3_begin_13 : decode cX3_begin 13 = .ok (.bipush 10, 2) := by decide +kernel
theorem dX3_begin_15 : decode cX3_begin 15 = .ok (.if_icmp .ge 16, 3) := by decide +kernel
theorem dX3_begin_18 : decode cX3_begin 18 = .ok (.aload_n 0, 1) := by decide +kernel
theorem dX3_begin_19 : decode cX3_begin 19 = .ok (.getfield 18, 3) := by decide +kernel
theorem dX3_begin_22 : decode cX3_begin 22 = .ok (.iload_n 2, 1) := by decide +kernel
theorem dX3_begin_23 : decode cX3_begin 23 = .ok (.iconst 0, 1) := by decide +kernel
theorem dX3_begin_24 : decode cX3_begin 24 = .ok (.bastore, 1) := by decide +kernel
theorem dX3_begin_25 : decode cX3_begin 25 = .ok (.iinc 2 1, 3) := by decide +kernel
theorem dX3_begin_28 : decode cX3_begin 28 = .ok (.goto (-16), 3) := by decide +kernel
theorem dX3_begin_31 : decode cX3_begin 31 = .ok (.return_, 1) := by decide +kernel
theorem dX6_cell_0 : decode cX6_cell 0 = .ok (.aload_n 0, 1) := by decide +kernel
theorem dX6_cell_1 : decode cX6_cell 1 = .ok (.iload_n 1, 1) := by decide +kernel
theorem dX6_cell_2 : decode cX6_cell 2 = .ok (.invokevirtual 91, 3) := by decide +kernel
theorem dX6_cell_5 : decode cX6_cell 5 = .ok (.iload_n 2, 1) := by decide +kernel
theorem dX6_cell_6 : decode cX6_cell 6 = .ok (.iconst 0, 1) := by decide +kernel
theorem dX6_cell_7 : decode cX6_cell 7 = .ok (.bipush 9, 2) := by decide +kernel
theorem dX6_cell_9 : decode cX6_cell 9 = .ok (.invokestatic 71, 3) := by decide +kernel
theorem dX6_cell_12 : decode cX6_cell 12 = .ok (.iload_n 3, 1) := by decide +kernel
theorem dX6_cell_13 : decode cX6_cell 13 = .ok (.iconst 0, 1) := by decide +kernel
theorem dX6_cell_14 : decode cX6_cell 14 = .ok (.bipush 9, 2) := by decide +kernel
theorem dX6_cell_16 : decode cX6_cell 16 = .ok (.invokestatic 71, 3) := by decide +kernel
theorem dX6_cell_19 : decode cX6_cell 19 = .ok (.iload 4, 2) := by decide +kernel
theorem dX6_cell_21 : decode cX6_cell 21 = .ok (.invokestatic 95, 3) := by decide +kernel
theorem dX6_cell_24 : decode cX6_cell 24 = .ok (.aload_n 0, 1) := by decide +kernel
theorem dX6_cell_25 : decode cX6_cell 25 = .ok (.getfield 12, 3) := by decide +kernel
theorem dX6_cell_28 : decode cX6_cell 28 = .ok (.getfield 99, 3) := by decide +kernel
theorem dX6_cell_31 : decode cX6_cell 31 = .ok (.iload_n 1, 1) := by decide +kernel
theorem dX6_cell_32 : decode cX6_cell 32 = .ok (.iaload, 1) := by decide +kernel
theorem dX6_cell_33 : decode cX6_cell 33 = .ok (.istore 5, 2) := by decide +kernel
theorem dX6_cell_35 : decode cX6_cell 35 = .ok (.aload_n 0, 1) := by decide +kernel
theorem dX6_cell_36 : decode cX6_cell 36 = .ok (.getfield 12, 3) := by decide +kernel
theorem dX6_cell_39 : decode cX6_cell 39 = .ok (.getfield 99, 3) := by decide +kernel
theorem dX6_cell_42 : decode cX6_cell 42 = .ok (.iload_n 1, 1) := by decide +kernel
theorem dX6_cell_43 : decode cX6_cell 43 = .ok (.iload_n 2, 1) := by decide +kernel
theorem dX6_cell_44 : decode cX6_cell 44 = .ok (.iastore, 1) := by decide +kernel
theorem dX6_cell_45 : decode cX6_cell 45 = .ok (.aload_n 0, 1) := by decide +kernel
theorem dX6_cell_46 : decode cX6_cell 46 = .ok (.getfield 12, 3) := by decide +kernel
theorem dX6_cell_49 : decode cX6_cell 49 = .ok (.getfield 102, 3) := by decide +kernel
theorem dX6_cell_52 : decode cX6_cell 52 = .ok (.iload_n 1, 1) := by decide +kernel
theorem dX6_cell_53 : decode cX6_cell 53 = .ok (.iload_n 3, 1) := by decide +kernel
theorem dX6_cell_54 : decode cX6_cell 54 = .ok (.iastore, 1) := by decide +kernel
theorem dX6_cell_55 : decode cX6_cell 55 = .ok (.aload_n 0, 1) := by decide +kernel
theorem dX6_cell_56 : decode cX6_cell 56 = .ok (.getfield 12, 3) := by decide +kernel
theorem dX6_cell_59 : decode cX6_cell 59 = .ok (.getfield 105, 3) := by decide +kernel
theorem dX6_cell_62 : decode cX6_cell 62 = .ok (.iload_n 1, 1) := by decide +kernel
theorem dX6_cell_63 : decode cX6_cell 63 = .ok (.iload 4, 2) := by decide +kernel
theorem dX6_cell_65 : decode cX6_cell 65 = .ok (.castore, 1) := by decide +kernel
theorem dX6_cell_66 : decode cX6_cell 66 = .ok (.iload 5, 2) := by decide +kernel
theorem dX6_cell_68 : decode cX6_cell 68 = .ok (.ireturn, 1) := by decide +kernel
theorem dX6_show_0 : decode cX6_show 0 = .ok (.aload_n 0, 1) := by decide +kernel
theorem dX6_show_1 : decode cX6_show 1 = .ok (.iload_n 1, 1) := by decide +kernel
theorem dX6_show_2 : decode cX6_show 2 = .ok (.invokevirtual 91, 3) := by decide +kernel
theorem dX6_show_5 : decode cX6_show 5 = .ok (.iload_n 2, 1) := by decide +kernel
theorem dX6_show_6 : decode cX6_show 6 = .ok (.iconst 0, 1) := by decide +kernel
theorem dX6_show_7 : decode cX6_show 7 = .ok (.bipush 9, 2) := by decide +kernel
theorem dX6_show_9 : decode cX6_show 9 = .ok (.invokestatic 71, 3) := by decide +kernel
theorem dX6_show_12 : decode cX6_show 12 = .ok (.iload_n 3, 1) := by decide +kernel
theorem dX6_show_13 : decode cX6_show 13 = .ok (.invokestatic 95, 3) := by decide +kernel
theorem dX6_show_16 : decode cX6_show 16 = .ok (.aload_n 0, 1) := by decide +kernel
theorem dX6_show_17 : decode cX6_show 17 = .ok (.getfield 12, 3) := by decide +kernel
theorem dX6_show_20 : decode cX6_show 20 = .ok (.getfield 113, 3) := by decide +kernel
theorem dX6_show_23 : decode cX6_show 23 = .ok (.iload_n 1, 1) := by decide +kernel
theorem dX6_show_24 : decode cX6_show 24 = .ok (.iaload, 1) := by decide +kernel
theorem dX6_show_25 : decode cX6_show 25 = .ok (.istore 4, 2) := by decide +kernel
theorem dX6_show_27 : decode cX6_show 27 = .ok (.aload_n 0, 1) := by decide +kernel
theorem dX6_show_28 : decode cX6_show 28 = .ok (.getfield 12, 3) := by decide +kernel
theorem dX6_show_31 : decode cX6_show 31 = .ok (.getfield 113, 3) := by decide +kernel
theorem dX6_show_34 : decode cX6_show 34 = .ok (.iload_n 1, 1) := by decide +kernel
theorem dX6_show_35 : decode cX6_show 35 = .ok (.iload_n 2, 1) := by decide +kernel
theorem dX6_show_36 : decode cX6_show 36 = .ok (.iastore, 1) := by decide +kernel
theorem dX6_show_37 : decode cX6_show 37 = .ok (.aload_n 0, 1) := by decide +kernel
theorem dX6_show_38 : decode cX6_show 38 = .ok (.getfield 12, 3) := by decide +kernel
theorem dX6_show_41 : decode cX6_show 41 = .ok (.getfield 116, 3) := by decide +kernel
theorem dX6_show_44 : decode cX6_show 44 = .ok (.iload_n 1, 1) := by decide +kernel
theorem dX6_show_45 : decode cX6_show 45 = .ok (.iload_n 3, 1) := by decide +kernel
theorem dX6_show_46 : decode cX6_show 46 = .ok (.castore, 1) := by decide +kernel
theorem dX6_show_47 : decode cX6_show 47 = .ok (.iload 4, 2) := by decide +kernel
theorem dX6_show_49 : decode cX6_show 49 = .ok (.ireturn, 1) := by decide +kernel
theorem dX6_cost_0 : decode cX6_cost 0 = .ok (.aload_n 0, 1) := by decide +kernel
theorem dX6_cost_1 : decode cX6_cost 1 = .ok (.iload_n 1, 1) := by decide +kernel
theorem dX6_cost_2 : decode cX6_cost 2 = .ok (.invokevirtual 91, 3) := by decide +kernel
theorem dX6_cost_5 : decode cX6_cost 5 = .ok (.aload_n 0, 1) := by decide +kernel
theorem dX6_cost_6 : decode cX6_cost 6 = .ok (.iload_n 2, 1) := by decide +kernel
theorem dX6_cost_7 : decode cX6_cost 7 = .ok (.invokevirtual 91, 3) := by decide +kernel
theorem dX6_cost_10 : decode cX6_cost 10 = .ok (.aload_n 0, 1) := by decide +kernel
theorem dX6_cost_11 : decode cX6_cost 11 = .ok (.getfield 12, 3) := by decide +kernel
theorem dX6_cost_14 : decode cX6_cost 14 = .ok (.iload_n 1, 1) := by decide +kernel
theorem dX6_cost_15 : decode cX6_cost 15 = .ok (.iload_n 2, 1) := by decide +kernel
theorem dX6_cost_16 : decode cX6_cost 16 = .ok (.iload_n 3, 1) := by decide +kernel
theorem dX6_cost_17 : decode cX6_cost 17 = .ok (.invokevirtual 119, 3) := by decide +kernel
theorem dX6_cost_20 : decode cX6_cost 20 = .ok (.invokestatic 123, 3) := by decide +kernel
theorem dX6_cost_23 : decode cX6_cost 23 = .ok (.ireturn, 1) := by decide +kernel
theorem dX6_misled_0 : decode cX6_misled 0 = .ok (.aload_n 0, 1) := by decide +kernel
theorem dX6_misled_1 : decode cX6_misled 1 = .ok (.iload_n 1, 1) := by decide +kernel
theorem dX6_misled_2 : decode cX6_misled 2 = .ok (.invokevirtual 91, 3) := by decide +kernel
theorem dX6_misled_5 : decode cX6_misled 5 = .ok (.aload_n 0, 1) := by decide +kernel
theorem dX6_misled_6 : decode cX6_misled 6 = .ok (.iload_n 2, 1) := by decide +kernel
theorem dX6_misled_7 : decode cX6_misled 7 = .ok (.invokevirtual 91, 3) := by decide +kernel
theorem dX6_misled_10 : decode cX6_misled 10 = .ok (.aload_n 0, 1) := by decide +kernel
theorem dX6_misled_11 : decode cX6_misled 11 = .ok (.getfield 12, 3) := by decide +kernel
theorem dX6_misled_14 : decode cX6_misled 14 = .ok (.iload_n 1, 1) := by decide +kernel
theorem dX6_misled_15 : decode cX6_misled 15 = .ok (.iload_n 2, 1) := by decide +kernel
theorem dX6_misled_16 : decode cX6_misled 16 = .ok (.invokevirtual 127, 3) := by decide +kernel
theorem dX6_misled_19 : decode cX6_misled 19 = .ok (.invokestatic 123, 3) := by decide +kernel
theorem dX6_misled_22 : decode cX6_misled 22 = .ok (.ireturn, 1) := by decide +kernel
theorem dX6_control_0 : decode cX6_control 0 = .ok (.aload_n 0, 1) := by decide +kernel
theorem dX6_control_1 : decode cX6_control 1 = .ok (.iload_n 1, 1) := by decide +kernel
theorem dX6_control_2 : decode cX6_control 2 = .ok (.invokevirtual 91, 3) := by decide +kernel
theorem dX6_control_5 : decode cX6_control 5 = .ok (.iload_n 2, 1) := by decide +kernel
theorem dX6_control_6 : decode cX6_control 6 = .ok (.iconst 0, 1) := by decide +kernel
theorem dX6_control_7 : decode cX6_control 7 = .ok (.iconst 3, 1) := by decide +kernel
theorem dX6_control_8 : decode cX6_control 8 = .ok (.invokestatic 71, 3) := by decide +kernel
theorem dX6_control_11 : decode cX6_control 11 = .ok (.iload_n 3, 1) := by decide +kernel
theorem dX6_control_12 : decode cX6_control 12 = .ok (.iconst 0, 1) := by decide +kernel
theorem dX6_control_13 : decode cX6_control 13 = .ok (.bipush 99, 2) := by decide +kernel
theorem dX6_control_15 : decode cX6_control 15 = .ok (.invokestatic 71, 3) := by decide +kernel
theorem dX6_control_18 : decode cX6_control 18 = .ok (.aload_n 0, 1) := by decide +kernel
theorem dX6_control_19 : decode cX6_control 19 = .ok (.getfield 12, 3) := by decide +kernel
theorem dX6_control_22 : decode cX6_control 22 = .ok (.getfield 105, 3) := by decide +kernel
theorem dX6_control_25 : decode cX6_control 25 = .ok (.iload_n 1, 1) := by decide +kernel
theorem dX6_control_26 : decode cX6_control 26 = .ok (.caload, 1) := by decide +kernel
theorem dX6_control_27 : decode cX6_control 27 = .ok (.bipush 119, 2) := by decide +kernel
theorem dX6_control_29 : decode cX6_control 29 = .ok (.if_icmp .ne 13, 3) := by decide +kernel
theorem dX6_control_42 : decode cX6_control 42 = .ok (.aload_n 0, 1) := by decide +kernel
theorem dX6_control_43 : decode cX6_control 43 = .ok (.getfield 75, 3) := by decide +kernel
theorem dX6_control_46 : decode cX6_control 46 = .ok (.bipush 12, 2) := by decide +kernel
theorem dX6_control_48 : decode cX6_control 48 = .ok (.if_icmp .lt 13, 3) := by decide +kernel
theorem dX6_control_61 : decode cX6_control 61 = .ok (.aload_n 0, 1) := by decide +kernel
theorem dX6_control_62 : decode cX6_control 62 = .ok (.getfield 18, 3) := by decide +kernel
theorem dX6_control_65 : decode cX6_control 65 = .ok (.aload_n 0, 1) := by decide +kernel
theorem dX6_control_66 : decode cX6_control 66 = .ok (.getfield 75, 3) := by decide +kernel
theorem dX6_control_69 : decode cX6_control 69 = .ok (.aaload, 1) := by decide +kernel
theorem dX6_control_70 : decode cX6_control 70 = .ok (.iload_n 1, 1) := by decide +kernel
theorem dX6_control_71 : decode cX6_control 71 = .ok (.iload_n 2, 1) := by decide +kernel
theorem dX6_control_72 : decode cX6_control 72 = .ok (.iload_n 3, 1) := by decide +kernel
theorem dX6_control_73 : decode cX6_control 73 = .ok (.invokevirtual 143, 3) := by decide +kernel
theorem dX6_control_76 : decode cX6_control 76 = .ok (.aload_n 0, 1) := by decide +kernel
theorem dX6_control_77 : decode cX6_control 77 = .ok (.dup, 1) := by decide +kernel
theorem dX6_control_78 : decode cX6_control 78 = .ok (.getfield 75, 3) := by decide +kernel
theorem dX6_control_81 : decode cX6_control 81 = .ok (.iconst 1, 1) := by decide +kernel
theorem dX6_control_82 : decode cX6_control 82 = .ok (.iadd, 1) := by decide +kernel
theorem dX6_control_83 : decode cX6_control 83 = .ok (.putfield 75, 3) := by decide +kernel
theorem dX6_control_86 : decode cX6_control 86 = .ok (.aload_n 0, 1) := by decide +kernel
theorem dX6_control_87 : decode cX6_control 87 = .ok (.getfield 75, 3) := by decide +kernel
theorem dX6_control_90 : decode cX6_control 90 = .ok (.iconst 1, 1) := by decide +kernel
theorem dX6_control_91 : decode cX6_control 91 = .ok (.isub, 1) := by decide +kernel
theorem dX6_control_92 : decode cX6_control 92 = .ok (.ireturn, 1) := by decide +kernel
theorem dX6_course_0 : decode cX6_course 0 = .ok (.aload_n 0, 1) := by decide +kernel
theorem dX6_course_1 : decode cX6_course 1 = .ok (.iload_n 1, 1) := by decide +kernel
theorem dX6_course_2 : decode cX6_course 2 = .ok (.invokevirtual 91, 3) := by decide +kernel
theorem dX6_course_5 : decode cX6_course 5 = .ok (.aload_n 0, 1) := by decide +kernel
theorem dX6_course_6 : decode cX6_course 6 = .ok (.getfield 79, 3) := by decide +kernel
theorem dX6_course_9 : decode cX6_course 9 = .ok (.bipush 6, 2) := by decide +kernel
theorem dX6_course_11 : decode cX6_course 11 = .ok (.if_icmp .lt 13, 3) := by decide +kernel
theorem dX6_course_24 : decode cX6_course 24 = .ok (.aload_n 0, 1) := by decide +kernel
theorem dX6_course_25 : decode cX6_course 25 = .ok (.getfield 24, 3) := by decide +kernel
theorem dX6_course_28 : decode cX6_course 28 = .ok (.aload_n 0, 1) := by decide +kernel
theorem dX6_course_29 : decode cX6_course 29 = .ok (.getfield 79, 3) := by decide +kernel
theorem dX6_course_32 : decode cX6_course 32 = .ok (.aaload, 1) := by decide +kernel
theorem dX6_course_33 : decode cX6_course 33 = .ok (.iload_n 1, 1) := by decide +kernel
theorem dX6_course_34 : decode cX6_course 34 = .ok (.invokevirtual 155, 3) := by decide +kernel
theorem dX6_course_37 : decode cX6_course 37 = .ok (.aload_n 0, 1) := by decide +kernel
theorem dX6_course_38 : decode cX6_course 38 = .ok (.dup, 1) := by decide +kernel
theorem dX6_course_39 : decode cX6_course 39 = .ok (.getfield 79, 3) := by decide +kernel
theorem dX6_course_42 : decode cX6_course 42 = .ok (.iconst 1, 1) := by decide +kernel
theorem dX6_course_43 : decode cX6_course 43 = .ok (.iadd, 1) := by decide +kernel
theorem dX6_course_44 : decode cX6_course 44 = .ok (.putfield 79, 3) := by decide +kernel
theorem dX6_course_47 : decode cX6_course 47 = .ok (.aload_n 0, 1) := by decide +kernel
theorem dX6_course_48 : decode cX6_course 48 = .ok (.getfield 79, 3) := by decide +kernel
theorem dX6_course_51 : decode cX6_course 51 = .ok (.iconst 1, 1) := by decide +kernel
theorem dX6_course_52 : decode cX6_course 52 = .ok (.isub, 1) := by decide +kernel
theorem dX6_course_53 : decode cX6_course 53 = .ok (.ireturn, 1) := by decide +kernel
theorem dX6_late_0 : decode cX6_late 0 = .ok (.iload_n 1, 1) := by decide +kernel
theorem dX6_late_1 : decode cX6_late 1 = .ok (.iconst 0, 1) := by decide +kernel
theorem dX6_late_2 : decode cX6_late 2 = .ok (.sipush 9999, 3) := by decide +kernel
theorem dX6_late_5 : decode cX6_late 5 = .ok (.invokestatic 71, 3) := by decide +kernel
theorem dX6_late_8 : decode cX6_late 8 = .ok (.iload_n 2, 1) := by decide +kernel
theorem dX6_late_9 : decode cX6_late 9 = .ok (.iconst 0, 1) := by decide +kernel
theorem dX6_late_10 : decode cX6_late 10 = .ok (.sipush 9999, 3) := by decide +kernel
theorem dX6_late_13 : decode cX6_late 13 = .ok (.invokestatic 71, 3) := by decide +kernel
theorem dX6_late_16 : decode cX6_late 16 = .ok (.iload_n 3, 1) := by decide +kernel
theorem dX6_late_17 : decode cX6_late 17 = .ok (.iconst 0, 1) := by decide +kernel
theorem dX6_late_18 : decode cX6_late 18 = .ok (.bipush 99, 2) := by decide +kernel
theorem dX6_late_20 : decode cX6_late 20 = .ok (.invokestatic 71, 3) := by decide +kernel
theorem dX6_late_23 : decode cX6_late 23 = .ok (.iload_n 2, 1) := by decide +kernel
theorem dX6_late_24 : decode cX6_late 24 = .ok (.bipush 59, 2) := by decide +kernel
theorem dX6_late_26 : decode cX6_late 26 = .ok (.iadd, 1) := by decide +kernel
theorem dX6_late_27 : decode cX6_late 27 = .ok (.bipush 60, 2) := by decide +kernel
theorem dX6_late_29 : decode cX6_late 29 = .ok (.idiv, 1) := by decide +kernel
theorem dX6_late_30 : decode cX6_late 30 = .ok (.istore 4, 2) := by decide +kernel
theorem dX6_late_32 : decode cX6_late 32 = .ok (.iconst 0, 1) := by decide +kernel
theorem dX6_late_33 : decode cX6_late 33 = .ok (.iload_n 1, 1) := by decide +kernel
theorem dX6_late_34 : decode cX6_late 34 = .ok (.iload 4, 2) := by decide +kernel
theorem dX6_late_36 : decode cX6_late 36 = .ok (.iload_n 3, 1) := by decide +kernel
theorem dX6_late_37 : decode cX6_late 37 = .ok (.imul, 1) := by decide +kernel
theorem dX6_late_38 : decode cX6_late 38 = .ok (.isub, 1) := by decide +kernel
theorem dX6_late_39 : decode cX6_late 39 = .ok (.invokestatic 394, 3) := by decide +kernel
theorem dX6_late_42 : decode cX6_late 42 = .ok (.ireturn, 1) := by decide +kernel
theorem dX6_isFair_0 : decode cX6_isFair 0 = .ok (.aload_n 0, 1) := by decide +kernel
theorem dX6_isFair_1 : decode cX6_isFair 1 = .ok (.getfield 37, 3) := by decide +kernel
theorem dX6_isFair_4 : decode cX6_isFair 4 = .ok (.getfield 85, 3) := by decide +kernel
theorem dX6_isFair_7 : decode cX6_isFair 7 = .ok (.ifCond .ne 5, 3) := by decide +kernel
theorem dX6_isFair_10 : decode cX6_isFair 10 = .ok (.iconst 1, 1) := by decide +kernel
theorem dX6_isFair_11 : decode cX6_isFair 11 = .ok (.ireturn, 1) := by decide +kernel
theorem dX6_fairWays_0 : decode cX6_fairWays 0 = .ok (.aload_n 0, 1) := by decide +kernel
theorem dX6_fairWays_1 : decode cX6_fairWays 1 = .ok (.getfield 37, 3) := by decide +kernel
theorem dX6_fairWays_4 : decode cX6_fairWays 4 = .ok (.getfield 85, 3) := by decide +kernel
theorem dX6_fairWays_7 : decode cX6_fairWays 7 = .ok (.ifCond .ne 5, 3) := by decide +kernel
theorem dX6_fairWays_10 : decode cX6_fairWays 10 = .ok (.iconst 1, 1) := by decide +kernel
theorem dX6_fairWays_11 : decode cX6_fairWays 11 = .ok (.ireturn, 1) := by decide +kernel
theorem dX6_checksum_0 : decode cX6_checksum 0 = .ok (.ldc2_w 425, 3) := by decide +kernel
theorem dX6_checksum_3 : decode cX6_checksum 3 = .ok (.lstore_n 1, 1) := by decide +kernel
theorem dX6_checksum_4 : decode cX6_checksum 4 = .ok (.iconst 0, 1) := by decide +kernel
theorem dX6_checksum_5 : decode cX6_checksum 5 = .ok (.istore_n 3, 1) := by decide +kernel
theorem dX6_checksum_6 : decode cX6_checksum 6 = .ok (.iload_n 3, 1) := by decide +kernel
theorem dX6_checksum_7 : decode cX6_checksum 7 = .ok (.aload_n 0, 1) := by decide +kernel
theorem dX6_checksum_8 : decode cX6_checksum 8 = .ok (.getfield 82, 3) := by decide +kernel
theorem dX6_checksum_11 : decode cX6_checksum 11 = .ok (.if_icmp .ge 68, 3) := by decide +kernel
theorem dX6_checksum_79 : decode cX6_checksum 79 = .ok (.lload_n 1, 1) := by decide +kernel
theorem dX6_checksum_80 : decode cX6_checksum 80 = .ok (.lreturn, 1) := by decide +kernel
theorem dX6_isSound_0 : decode cX6_isSound 0 = .ok (.iconst 0, 1) := by decide +kernel
theorem dX6_isSound_1 : decode cX6_isSound 1 = .ok (.istore_n 1, 1) := by decide +kernel
theorem dX6_isSound_2 : decode cX6_isSound 2 = .ok (.iload_n 1, 1) := by decide +kernel
theorem dX6_isSound_3 : decode cX6_isSound 3 = .ok (.aload_n 0, 1) := by decide +kernel
theorem dX6_isSound_4 : decode cX6_isSound 4 = .ok (.getfield 82, 3) := by decide +kernel
theorem dX6_isSound_7 : decode cX6_isSound 7 = .ok (.if_icmp .ge 61, 3) := by decide +kernel
theorem dX6_isSound_68 : decode cX6_isSound 68 = .ok (.aload_n 0, 1) := by decide +kernel
theorem dX6_isSound_69 : decode cX6_isSound 69 = .ok (.getfield 12, 3) := by decide +kernel
theorem dX6_isSound_72 : decode cX6_isSound 72 = .ok (.invokevirtual 438, 3) := by decide +kernel
theorem dX6_isSound_75 : decode cX6_isSound 75 = .ok (.ireturn, 1) := by decide +kernel
theorem dX6_print_0 : decode cX6_print 0 = .ok (.aload_n 0, 1) := by decide +kernel
theorem dX6_print_1 : decode cX6_print 1 = .ok (.getfield 12, 3) := by decide +kernel
theorem dX6_print_4 : decode cX6_print 4 = .ok (.invokevirtual 109, 3) := by decide +kernel
theorem dX6_print_7 : decode cX6_print 7 = .ok (.ireturn, 1) := by decide +kernel
theorem dX6_land_0 : decode cX6_land 0 = .ok (.iload_n 1, 1) := by decide +kernel
theorem dX6_land_1 : decode cX6_land 1 = .ok (.iconst 3, 1) := by decide +kernel
theorem dX6_land_2 : decode cX6_land 2 = .ok (.bipush 12, 2) := by decide +kernel
theorem dX6_land_4 : decode cX6_land 4 = .ok (.invokestatic 71, 3) := by decide +kernel
theorem dX6_land_7 : decode cX6_land 7 = .ok (.iload_n 2, 1) := by decide +kernel
theorem dX6_land_8 : decode cX6_land 8 = .ok (.iconst 3, 1) := by decide +kernel
theorem dX6_land_9 : decode cX6_land 9 = .ok (.bipush 12, 2) := by decide +kernel
theorem dX6_land_11 : decode cX6_land 11 = .ok (.invokestatic 71, 3) := by decide +kernel
theorem dX6_land_14 : decode cX6_land 14 = .ok (.aload_n 0, 1) := by decide +kernel
theorem dX6_land_15 : decode cX6_land 15 = .ok (.getfield 12, 3) := by decide +kernel
theorem dX6_land_18 : decode cX6_land 18 = .ok (.iload_n 1, 1) := by decide +kernel
theorem dX6_land_19 : decode cX6_land 19 = .ok (.iload_n 2, 1) := by decide +kernel
theorem dX6_land_20 : decode cX6_land 20 = .ok (.invokevirtual 67, 3) := by decide +kernel
theorem dX6_land_23 : decode cX6_land 23 = .ok (.aload_n 0, 1) := by decide +kernel
theorem dX6_land_24 : decode cX6_land 24 = .ok (.iconst 0, 1) := by decide +kernel
theorem dX6_land_25 : decode cX6_land 25 = .ok (.putfield 75, 3) := by decide +kernel
theorem dX6_land_28 : decode cX6_land 28 = .ok (.aload_n 0, 1) := by decide +kernel
theorem dX6_land_29 : decode cX6_land 29 = .ok (.iconst 0, 1) := by decide +kernel
theorem dX6_land_30 : decode cX6_land 30 = .ok (.putfield 79, 3) := by decide +kernel
theorem dX6_land_33 : decode cX6_land 33 = .ok (.aload_n 0, 1) := by decide +kernel
theorem dX6_land_34 : decode cX6_land 34 = .ok (.iconst 0, 1) := by decide +kernel
theorem dX6_land_35 : decode cX6_land 35 = .ok (.putfield 82, 3) := by decide +kernel
theorem dX6_land_38 : decode cX6_land 38 = .ok (.aload_n 0, 1) := by decide +kernel
theorem dX6_land_39 : decode cX6_land 39 = .ok (.getfield 37, 3) := by decide +kernel
theorem dX6_land_42 : decode cX6_land 42 = .ok (.iconst 0, 1) := by decide +kernel
theorem dX6_land_43 : decode cX6_land 43 = .ok (.putfield 85, 3) := by decide +kernel
theorem dX6_land_46 : decode cX6_land 46 = .ok (.aload_n 0, 1) := by decide +kernel
theorem dX6_land_47 : decode cX6_land 47 = .ok (.getfield 12, 3) := by decide +kernel
theorem dX6_land_50 : decode cX6_land 50 = .ok (.getfield 88, 3) := by decide +kernel
theorem dX6_land_53 : decode cX6_land 53 = .ok (.ireturn, 1) := by decide +kernel
theorem dX6_changeover_0 : decode cX6_changeover 0 = .ok (.iload_n 1, 1) := by decide +kernel
theorem dX6_changeover_1 : decode cX6_changeover 1 = .ok (.iconst 0, 1) := by decide +kernel
theorem dX6_changeover_2 : decode cX6_changeover 2 = .ok (.iconst 2, 1) := by decide +kernel
theorem dX6_changeover_3 : decode cX6_changeover 3 = .ok (.invokestatic 71, 3) := by decide +kernel
theorem dX6_changeover_6 : decode cX6_changeover 6 = .ok (.iload_n 2, 1) := by decide +kernel
theorem dX6_changeover_7 : decode cX6_changeover 7 = .ok (.iconst 0, 1) := by decide +kernel
theorem dX6_changeover_8 : decode cX6_changeover 8 = .ok (.ldc 218, 2) := by decide +kernel
theorem dX6_changeover_10 : decode cX6_changeover 10 = .ok (.invokestatic 71, 3) := by decide +kernel
theorem dX6_changeover_13 : decode cX6_changeover 13 = .ok (.iload_n 3, 1) := by decide +kernel
theorem dX6_changeover_14 : decode cX6_changeover 14 = .ok (.iconst 0, 1) := by decide +kernel
theorem dX6_changeover_15 : decode cX6_changeover 15 = .ok (.ldc 218, 2) := by decide +kernel
theorem dX6_changeover_17 : decode cX6_changeover 17 = .ok (.invokestatic 71, 3) := by decide +kernel
theorem dX6_changeover_20 : decode cX6_changeover 20 = .ok (.iload 4, 2) := by decide +kernel
theorem dX6_changeover_22 : decode cX6_changeover 22 = .ok (.iconst (-1), 1) := by decide +kernel
theorem dX6_changeover_23 : decode cX6_changeover 23 = .ok (.ldc 218, 2) := by decide +kernel
theorem dX6_changeover_25 : decode cX6_changeover 25 = .ok (.invokestatic 71, 3) := by decide +kernel
theorem dX6_changeover_28 : decode cX6_changeover 28 = .ok (.iload_n 2, 1) := by decide +kernel
theorem dX6_changeover_29 : decode cX6_changeover 29 = .ok (.istore 5, 2) := by decide +kernel
theorem dX6_changeover_31 : decode cX6_changeover 31 = .ok (.iconst 0, 1) := by decide +kernel
theorem dX6_changeover_32 : decode cX6_changeover 32 = .ok (.istore 6, 2) := by decide +kernel
theorem dX6_changeover_34 : decode cX6_changeover 34 = .ok (.iload 6, 2) := by decide +kernel
theorem dX6_changeover_36 : decode cX6_changeover 36 = .ok (.iload_n 1, 1) := by decide +kernel
theorem dX6_changeover_37 : decode cX6_changeover 37 = .ok (.if_icmp .ge 32, 3) := by decide +kernel
theorem dX6_changeover_69 : decode cX6_changeover 69 = .ok (.iload 5, 2) := by decide +kernel
theorem dX6_changeover_71 : decode cX6_changeover 71 = .ok (.ireturn, 1) := by decide +kernel
theorem dX6_changeover_40 : decode cX6_changeover 40 = .ok (.iload 5, 2) := by decide +kernel
theorem dX6_changeover_42 : decode cX6_changeover 42 = .ok (.iload_n 3, 1) := by decide +kernel
theorem dX6_changeover_43 : decode cX6_changeover 43 = .ok (.iadd, 1) := by decide +kernel
theorem dX6_changeover_44 : decode cX6_changeover 44 = .ok (.istore 5, 2) := by decide +kernel
theorem dX6_changeover_46 : decode cX6_changeover 46 = .ok (.iload 4, 2) := by decide +kernel
theorem dX6_changeover_48 : decode cX6_changeover 48 = .ok (.iconst (-1), 1) := by decide +kernel
theorem dX6_changeover_49 : decode cX6_changeover 49 = .ok (.if_icmp .eq 14, 3) := by decide +kernel
theorem dX6_changeover_63 : decode cX6_changeover 63 = .ok (.iinc 6 1, 3) := by decide +kernel
theorem dX6_changeover_66 : decode cX6_changeover 66 = .ok (.goto (-32), 3) := by decide +kernel
theorem dX6_changeover_52 : decode cX6_changeover 52 = .ok (.iload 4, 2) := by decide +kernel
theorem dX6_changeover_54 : decode cX6_changeover 54 = .ok (.iload 5, 2) := by decide +kernel
theorem dX6_changeover_56 : decode cX6_changeover 56 = .ok (.if_icmp .ge 7, 3) := by decide +kernel
theorem dX6_changeover_59 : decode cX6_changeover 59 = .ok (.iload 4, 2) := by decide +kernel
theorem dX6_changeover_61 : decode cX6_changeover 61 = .ok (.istore 5, 2) := by decide +kernel
theorem dX5_setWay_0 : decode cX5_setWay 0 = .ok (.aload_n 0, 1) := by decide +kernel
theorem dX5_setWay_1 : decode cX5_setWay 1 = .ok (.getfield 15, 3) := by decide +kernel
theorem dX5_setWay_4 : decode cX5_setWay 4 = .ok (.iload_n 1, 1) := by decide +kernel
theorem dX5_setWay_5 : decode cX5_setWay 5 = .ok (.bipush 13, 2) := by decide +kernel
theorem dX5_setWay_7 : decode cX5_setWay 7 = .ok (.imul, 1) := by decide +kernel
theorem dX5_setWay_8 : decode cX5_setWay 8 = .ok (.iload_n 2, 1) := by decide +kernel
theorem dX5_setWay_9 : decode cX5_setWay 9 = .ok (.iadd, 1) := by decide +kernel
theorem dX5_setWay_10 : decode cX5_setWay 10 = .ok (.iload_n 3, 1) := by decide +kernel
theorem dX5_setWay_11 : decode cX5_setWay 11 = .ok (.ldc 22, 2) := by decide +kernel
theorem dX5_setWay_13 : decode cX5_setWay 13 = .ok (.if_icmp .lt 8, 3) := by decide +kernel
theorem dX5_setWay_21 : decode cX5_setWay 21 = .ok (.iload_n 3, 1) := by decide +kernel
theorem dX5_setWay_22 : decode cX5_setWay 22 = .ok (.iload 4, 2) := by decide +kernel
theorem dX5_setWay_24 : decode cX5_setWay 24 = .ok (.imul, 1) := by decide +kernel
theorem dX5_setWay_25 : decode cX5_setWay 25 = .ok (.sipush 1000, 3) := by decide +kernel
theorem dX5_setWay_28 : decode cX5_setWay 28 = .ok (.idiv, 1) := by decide +kernel
theorem dX5_setWay_29 : decode cX5_setWay 29 = .ok (.iastore, 1) := by decide +kernel
theorem dX5_setWay_30 : decode cX5_setWay 30 = .ok (.return_, 1) := by decide +kernel
theorem dX5_mostPoints_0 : decode cX5_mostPoints 0 = .ok (.iconst 0, 1) := by decide +kernel
theorem dX5_mostPoints_1 : decode cX5_mostPoints 1 = .ok (.istore_n 3, 1) := by decide +kernel
theorem dX5_mostPoints_2 : decode cX5_mostPoints 2 = .ok (.iconst 1, 1) := by decide +kernel
theorem dX5_mostPoints_3 : decode cX5_mostPoints 3 = .ok (.istore 4, 2) := by decide +kernel
theorem dX5_mostPoints_5 : decode cX5_mostPoints 5 = .ok (.iload 4, 2) := by decide +kernel
theorem dX5_mostPoints_7 : decode cX5_mostPoints 7 = .ok (.iconst 1, 1) := by decide +kernel
theorem dX5_mostPoints_8 : decode cX5_mostPoints 8 = .ok (.iload_n 1, 1) := by decide +kernel
theorem dX5_mostPoints_9 : decode cX5_mostPoints 9 = .ok (.ishl, 1) := by decide +kernel
theorem dX5_mostPoints_10 : decode cX5_mostPoints 10 = .ok (.if_icmp .ge 32, 3) := by decide +kernel
theorem dX5_mostPoints_42 : decode cX5_mostPoints 42 = .ok (.iload_n 3, 1) := by decide +kernel
theorem dX5_mostPoints_43 : decode cX5_mostPoints 43 = .ok (.ireturn, 1) := by decide +kernel
theorem dX6_listWays_0 : decode cX6_listWays 0 = .ok (.aload_n 0, 1) := by decide +kernel
theorem dX6_listWays_1 : decode cX6_listWays 1 = .ok (.getfield 12, 3) := by decide +kernel
theorem dX6_listWays_4 : decode cX6_listWays 4 = .ok (.iload_n 2, 1) := by decide +kernel
theorem dX6_listWays_5 : decode cX6_listWays 5 = .ok (.iconst 0, 1) := by decide +kernel
theorem dX6_listWays_6 : decode cX6_listWays 6 = .ok (.iconst 0, 1) := by decide +kernel
theorem dX6_listWays_7 : decode cX6_listWays 7 = .ok (.ldc 193, 2) := by decide +kernel
theorem dX6_listWays_9 : decode cX6_listWays 9 = .ok (.invokevirtual 535, 3) := by decide +kernel
theorem dX6_listWays_12 : decode cX6_listWays 12 = .ok (.iconst 0, 1) := by decide +kernel
theorem dX6_listWays_13 : decode cX6_listWays 13 = .ok (.istore 5, 2) := by decide +kernel
theorem dX6_listWays_15 : decode cX6_listWays 15 = .ok (.iload 5, 2) := by decide +kernel
theorem dX6_listWays_17 : decode cX6_listWays 17 = .ok (.aload_n 0, 1) := by decide +kernel
theorem dX6_listWays_18 : decode cX6_listWays 18 = .ok (.getfield 75, 3) := by decide +kernel
theorem dX6_listWays_21 : decode cX6_listWays 21 = .ok (.if_icmp .ge 39, 3) := by decide +kernel
theorem dX6_listWays_60 : decode cX6_listWays 60 = .ok (.aload_n 0, 1) := by decide +kernel
theorem dX6_listWays_61 : decode cX6_listWays 61 = .ok (.getfield 44, 3) := by decide +kernel
theorem dX6_listWays_64 : decode cX6_listWays 64 = .ok (.iload_n 1, 1) := by decide +kernel
theorem dX6_listWays_65 : decode cX6_listWays 65 = .ok (.bipush 12, 2) := by decide +kernel
theorem dX6_listWays_67 : decode cX6_listWays 67 = .ok (.aload_n 0, 1) := by decide +kernel
theorem dX6_listWays_68 : decode cX6_listWays 68 = .ok (.getfield 12, 3) := by decide +kernel
theorem dX6_listWays_71 : decode cX6_listWays 71 = .ok (.getfield 539, 3) := by decide +kernel
theorem dX6_listWays_74 : decode cX6_listWays 74 = .ok (.iload_n 3, 1) := by decide +kernel
theorem dX6_listWays_75 : decode cX6_listWays 75 = .ok (.iaload, 1) := by decide +kernel
theorem dX6_listWays_76 : decode cX6_listWays 76 = .ok (.iload 4, 2) := by decide +kernel
theorem dX6_listWays_78 : decode cX6_listWays 78 = .ok (.invokevirtual 542, 3) := by decide +kernel
theorem dX6_listWays_81 : decode cX6_listWays 81 = .ok (.return_, 1) := by decide +kernel
theorem dX6_score_0 : decode cX6_score 0 = .ok (.aload_n 0, 1) := by decide +kernel
theorem dX6_score_1 : decode cX6_score 1 = .ok (.iload_n 1, 1) := by decide +kernel
theorem dX6_score_2 : decode cX6_score 2 = .ok (.invokevirtual 91, 3) := by decide +kernel
theorem dX6_score_5 : decode cX6_score 5 = .ok (.iload_n 2, 1) := by decide +kernel
theorem dX6_score_6 : decode cX6_score 6 = .ok (.iconst 0, 1) := by decide +kernel
theorem dX6_score_7 : decode cX6_score 7 = .ok (.sipush 9999, 3) := by decide +kernel
theorem dX6_score_10 : decode cX6_score 10 = .ok (.invokestatic 71, 3) := by decide +kernel
theorem dX6_score_13 : decode cX6_score 13 = .ok (.iload_n 3, 1) := by decide +kernel
theorem dX6_score_14 : decode cX6_score 14 = .ok (.iconst 1, 1) := by decide +kernel
theorem dX6_score_15 : decode cX6_score 15 = .ok (.sipush 9999, 3) := by decide +kernel
theorem dX6_score_18 : decode cX6_score 18 = .ok (.invokestatic 71, 3) := by decide +kernel
theorem dX6_score_21 : decode cX6_score 21 = .ok (.iconst 0, 1) := by decide +kernel
theorem dX6_score_22 : decode cX6_score 22 = .ok (.istore 4, 2) := by decide +kernel
theorem dX6_score_24 : decode cX6_score 24 = .ok (.iload 4, 2) := by decide +kernel
theorem dX6_score_26 : decode cX6_score 26 = .ok (.aload_n 0, 1) := by decide +kernel
theorem dX6_score_27 : decode cX6_score 27 = .ok (.getfield 75, 3) := by decide +kernel
theorem dX6_score_30 : decode cX6_score 30 = .ok (.if_icmp .ge 47, 3) := by decide +kernel
theorem dX6_score_77 : decode cX6_score 77 = .ok (.aload_n 0, 1) := by decide +kernel
theorem dX6_score_78 : decode cX6_score 78 = .ok (.bipush 12, 2) := by decide +kernel
theorem dX6_score_80 : decode cX6_score 80 = .ok (.iload_n 1, 1) := by decide +kernel
theorem dX6_score_81 : decode cX6_score 81 = .ok (.iload_n 1, 1) := by decide +kernel
theorem dX6_score_82 : decode cX6_score 82 = .ok (.iload_n 3, 1) := by decide +kernel
theorem dX6_score_83 : decode cX6_score 83 = .ok (.invokevirtual 387, 3) := by decide +kernel
theorem dX6_score_86 : decode cX6_score 86 = .ok (.aload_n 0, 1) := by decide +kernel
theorem dX6_score_87 : decode cX6_score 87 = .ok (.getfield 44, 3) := by decide +kernel
theorem dX6_score_90 : decode cX6_score 90 = .ok (.aload_n 0, 1) := by decide +kernel
theorem dX6_score_91 : decode cX6_score 91 = .ok (.getfield 75, 3) := by decide +kernel
theorem dX6_score_94 : decode cX6_score 94 = .ok (.iload_n 2, 1) := by decide +kernel
theorem dX6_score_95 : decode cX6_score 95 = .ok (.invokevirtual 391, 3) := by decide +kernel
theorem dX6_score_98 : decode cX6_score 98 = .ok (.ireturn, 1) := by decide +kernel
/-! the answers of a new object -/
theorem cvS_1 {s t a x : Int32} (h : t = -1) (e : x = a + s) : x = cvS s t a := by
  unfold cvS
  rw [if_neg (fun q => q.1 h), e]
theorem cvS_2 {s t a x : Int32} (_h : ¬ t = -1) (h2 : x ≤ t) (e : x = a + s) : x = cvS s t a := by
  unfold cvS
  rw [if_neg (fun q => (fa_of_lt q.2).2.1 (by rw [← e]; exact h2)), e]
theorem cvS_3 {s t a x : Int32} (h : ¬ t = -1) (h2 : ¬ x ≤ t) (e : x = a + s) : t = cvS s t a := by
  unfold cvS
  rw [if_pos ⟨h, by rw [← e]; exact fa_of_nle h2⟩]
theorem cvR_0 (a b c : Int32) : rf_changeover (nI 0) a b c = a := by
  unfold rf_changeover cvR
  rw [if_pos (by decide)]
theorem cvR_1 (a b c : Int32) : rf_changeover (nI 1) a b c = cvS b c a := by
  unfold rf_changeover cvR
  rw [if_neg (by decide), if_pos (by decide)]
theorem cvR_2 (a b c : Int32) : rf_changeover (nI 2) a b c = cvS b c (cvS b c a) := by
  unfold rf_changeover cvR
  rw [if_neg (by decide), if_neg (by decide)]
theorem okF_nar (j : Nat) : vp_nar .char (okF j) = okF j := by
  unfold okF
  split
  · decide
  · decide
def us_c_needWay : List Cond := .code yX6_needWay cX6_needWay 1 (some .int) :: (([.constant RX6 193 (1000000)] : List Cond) ++ ([]))
theorem gw_c_needWay : ∀ w ∈ us_c_needWay, goodWord w = true := gw_cons rfl (gw_app (by decide +kernel) (fun _ h => nomatch h))
set_option maxHeartbeats 4000000 in
set_option maxRecDepth 100000 in
/-- needWay, where there is one -/
theorem c_needWay (l : Launch) (hst : l.stackTraces = false) (D : va_G) (v : Int32) (sz : Nat) (hv : v < 1000000) : Met l yX6_needWay us_c_needWay { frames := 0, cells := 0, slots := 0, locals := 0 } (pw D [.int v] [] [] sz) (va_Qi (fun (r : Int32) (_ : Unit) => r = v) (qb D (va_A [] sz) (fun _ : Unit => []) (fun _ : Unit => ([] : List (ClassId × FieldType)))) (va_A [] sz)) 0 0 (va_A [] sz) := by
  refine op_M (Qc := fun A => (va_Qi (fun (r : Int32) (_ : Unit) => r = v) (qb D A (fun _ : Unit => []) (fun _ : Unit => ([] : List (ClassId × FieldType)))) A)) (by decide +kernel) rfl (Nat.le_of_ble_eq_true rfl) ?_
  intro p e s m args below meth c A ls hx hb hr hml hts hown hlocks hmn htab hA hD hS hP hK hE hsz hl
  have hown : s.vm.findClass RX6 = some m.cls := hown
  have hl : lv_has ls 1 [(0, .int v)] := hl
  have hw_0 := hts (.constant RX6 193 (1000000)) (List.mem_cons_of_mem _ (List.mem_append_left _ (List.mem_of_getElem? (i := 0) rfl)))
  refine lv_iload_n hx hb dX6_needWay_0 rfl (lv_at hl 0 rfl) ?_
  refine lv_ldc hx hb hown hw_0 dX6_needWay_1 ?_
  refine lv_icmp_lt (tgt := 17) hx hb dX6_needWay_3 (by decide) (fun h1 => ?_) (fun h1 => absurd (by exact hv) h1)
  refine lv_iload_n hx hb dX6_needWay_17 rfl (lv_at hl 0 rfl) ?_
  exact mr_i hx hb hr () (rfl) (hP.sub [] rfl) (hK.sub [] rfl) (hD.sub [] (by decide) rfl) hS (Nat.le_of_ble_eq_true rfl) (Nat.le_of_ble_eq_true rfl) hlocks dX6_needWay_18

def us_c_postBegin : List Cond := .code yX1_begin cX1_begin 4 none :: (([.fieldLink RX1 9 "ControlWood$Post" "cell" "I", .fieldLink RX1 15 "ControlWood$Post" "site" "I", .fieldLink RX1 18 "ControlWood$Post" "points" "I", .fieldLink RX1 21 "ControlWood$Post" "deadFrom" "I", .fieldLink RX1 24 "ControlWood$Post" "deadTo" "I", .fieldLink RX1 27 "ControlWood$Post" "stolenFrom" "I"] : List Cond) ++ (wsX10 ++ ([])))
theorem gw_c_postBegin : ∀ w ∈ us_c_postBegin, goodWord w = true := gw_cons rfl (gw_app (by decide +kernel) (gw_app gwf_X1 (fun _ h => nomatch h)))
set_option maxHeartbeats 4000000 in
set_option maxRecDepth 100000 in
/-- a control begins -/
theorem c_postBegin (l : Launch) (hst : l.stackTraces = false) (D : va_G) (b : Nat) (v0 : Int32) (v1 : Int32) (v2 : Int32) (v3 : Int32) (v4 : Int32) (v5 : Int32) (p0 : Int32) (p1 : Int32) (p2 : Int32) (sz : Nat) : Met l yX1_begin us_c_postBegin { frames := 0, cells := 0, slots := 0, locals := 0 } (pw D [.ref b, .int p0, .int p1, .int p2] [] [(b, .inr (8, [.int v0, .int v1, .int v2, .int v3, .int v4, .int v5]))] sz) (va_Qv (fun _ : Unit => True) (qb D (va_A [(b, .inr (8, [.int v0, .int v1, .int v2, .int v3, .int v4, .int v5]))] sz) (fun _ : Unit => []) (fun _ : Unit => ([] : List (ClassId × FieldType)))) (va_A [(b, .inr (8, [.int v0, .int v1, .int v2, .int v3, .int v4, .int v5]))] sz)) 0 0 (va_A [(b, .inr (8, [.int v0, .int v1, .int v2, .int v3, .int v4, .int v5]))] sz) := by
  refine op_M (Qc := fun A => (va_Qv (fun _ : Unit => True) (qb D A (fun _ : Unit => []) (fun _ : Unit => ([] : List (ClassId × FieldType)))) A)) (by decide +kernel) rfl (Nat.le_of_ble_eq_true rfl) ?_
  intro p e s m args below meth c A ls hx hb hr hml hts hown hlocks hmn htab hA hD hS hP hK hE hsz hl
  have hown : s.vm.findClass RX1 = some m.cls := hown
  have hl : lv_has ls 4 [(0, .ref b), (1, .int p0), (2, .int p1), (3, .int p2)] := hl
  have hw_0 := hts (.fieldLink RX1 9 "ControlWood$Post" "cell" "I") (List.mem_cons_of_mem _ (List.mem_append_left _ (List.mem_of_getElem? (i := 0) rfl)))
  have hw_1 := hts (.fieldLink RX1 15 "ControlWood$Post" "site" "I") (List.mem_cons_of_mem _ (List.mem_append_left _ (List.mem_of_getElem? (i := 1) rfl)))
  have hw_2 := hts (.fieldLink RX1 18 "ControlWood$Post" "points" "I") (List.mem_cons_of_mem _ (List.mem_append_left _ (List.mem_of_getElem? (i := 2) rfl)))
  have hw_3 := hts (.fieldLink RX1 21 "ControlWood$Post" "deadFrom" "I") (List.mem_cons_of_mem _ (List.mem_append_left _ (List.mem_of_getElem? (i := 3) rfl)))
  have hw_4 := hts (.fieldLink RX1 24 "ControlWood$Post" "deadTo" "I") (List.mem_cons_of_mem _ (List.mem_append_left _ (List.mem_of_getElem? (i := 4) rfl)))
  have hw_5 := hts (.fieldLink RX1 27 "ControlWood$Post" "stolenFrom" "I") (List.mem_cons_of_mem _ (List.mem_append_left _ (List.mem_of_getElem? (i := 5) rfl)))
  have hb_0 : ∀ w ∈ wsX10, w ∈ us_c_postBegin := fun w h => List.mem_cons_of_mem _ (List.mem_append_right _ (List.mem_append_left _ h))
  refine lv_aload_n hx hb dX1_begin_0 rfl (lv_at hl 0 rfl) ?_
  refine lv_iload_n hx hb dX1_begin_1 rfl (lv_at hl 1 rfl) ?_
  refine va_put (D := D) (ci := 8) (v := .int p0) (ty := .int) (C := RX1) (T := TX1) (N := 6) hx hb hts hb_0 tyX1 tyX1_ok nmX1 hown hK hP hD hS 0 rfl rfl 0 (by decide) hw_0 (fun _ h9 => h9) rfl (by decide +kernel) rfl rfl (Nat.le_of_ble_eq_true rfl) dX1_begin_2 (fun H locs hP hD hS => ?_)
  have hP : va_P D vwCl [(b, .inr (8, [.int p0, .int v1, .int v2, .int v3, .int v4, .int v5]))] H := hP
  have hD : va_D A [(b, .inr (8, [.int p0, .int v1, .int v2, .int v3, .int v4, .int v5]))] := hD
  refine lv_aload_n hx hb dX1_begin_5 rfl (lv_at hl 0 rfl) ?_
  refine lv_iload_n hx hb dX1_begin_6 rfl (lv_at hl 2 rfl) ?_
  refine va_put (D := D) (ci := 8) (v := .int p1) (ty := .int) (C := RX1) (T := TX1) (N := 6) hx hb hts hb_0 tyX1 tyX1_ok nmX1 hown hK hP hD hS 0 rfl rfl 1 (by decide) hw_1 (fun _ h9 => h9) rfl (by decide +kernel) rfl rfl (Nat.le_of_ble_eq_true rfl) dX1_begin_7 (fun H locs hP hD hS => ?_)
  have hP : va_P D vwCl [(b, .inr (8, [.int p0, .int p1, .int v2, .int v3, .int v4, .int v5]))] H := hP
  have hD : va_D A [(b, .inr (8, [.int p0, .int p1, .int v2, .int v3, .int v4, .int v5]))] := hD
  refine lv_aload_n hx hb dX1_begin_10 rfl (lv_at hl 0 rfl) ?_
  refine lv_iload_n hx hb dX1_begin_11 rfl (lv_at hl 3 rfl) ?_
  refine va_put (D := D) (ci := 8) (v := .int p2) (ty := .int) (C := RX1) (T := TX1) (N := 6) hx hb hts hb_0 tyX1 tyX1_ok nmX1 hown hK hP hD hS 0 rfl rfl 2 (by decide) hw_2 (fun _ h9 => h9) rfl (by decide +kernel) rfl rfl (Nat.le_of_ble_eq_true rfl) dX1_begin_12 (fun H locs hP hD hS => ?_)
  have hP : va_P D vwCl [(b, .inr (8, [.int p0, .int p1, .int p2, .int v3, .int v4, .int v5]))] H := hP
  have hD : va_D A [(b, .inr (8, [.int p0, .int p1, .int p2, .int v3, .int v4, .int v5]))] := hD
  refine lv_aload_n hx hb dX1_begin_15 rfl (lv_at hl 0 rfl) ?_
  refine lv_iconst (v := 0) hx hb dX1_begin_16 (by decide) ?_
  refine va_put (D := D) (ci := 8) (v := .int 0) (ty := .int) (C := RX1) (T := TX1) (N := 6) hx hb hts hb_0 tyX1 tyX1_ok nmX1 hown hK hP hD hS 0 rfl rfl 3 (by decide) hw_3 (fun _ h9 => h9) rfl (by decide +kernel) rfl rfl (Nat.le_of_ble_eq_true rfl) dX1_begin_17 (fun H locs hP hD hS => ?_)
  have hP : va_P D vwCl [(b, .inr (8, [.int p0, .int p1, .int p2, .int 0, .int v4, .int v5]))] H := hP
  have hD : va_D A [(b, .inr (8, [.int p0, .int p1, .int p2, .int 0, .int v4, .int v5]))] := hD
  refine lv_aload_n hx hb dX1_begin_20 rfl (lv_at hl 0 rfl) ?_
  refine lv_iconst (v := -1) hx hb dX1_begin_21 (by decide) ?_
  refine va_put (D := D) (ci := 8) (v := .int (-1)) (ty := .int) (C := RX1) (T := TX1) (N := 6) hx hb hts hb_0 tyX1 tyX1_ok nmX1 hown hK hP hD hS 0 rfl rfl 4 (by decide) hw_4 (fun _ h9 => h9) rfl (by decide +kernel) rfl rfl (Nat.le_of_ble_eq_true rfl) dX1_begin_22 (fun H locs hP hD hS => ?_)
  have hP : va_P D vwCl [(b, .inr (8, [.int p0, .int p1, .int p2, .int 0, .int (-1), .int v5]))] H := hP
  have hD : va_D A [(b, .inr (8, [.int p0, .int p1, .int p2, .int 0, .int (-1), .int v5]))] := hD
  refine lv_aload_n hx hb dX1_begin_25 rfl (lv_at hl 0 rfl) ?_
  refine lv_iconst (v := -1) hx hb dX1_begin_26 (by decide) ?_
  refine va_put (D := D) (ci := 8) (v := .int (-1)) (ty := .int) (C := RX1) (T := TX1) (N := 6) hx hb hts hb_0 tyX1 tyX1_ok nmX1 hown hK hP hD hS 0 rfl rfl 5 (by decide) hw_5 (fun _ h9 => h9) rfl (by decide +kernel) rfl rfl (Nat.le_of_ble_eq_true rfl) dX1_begin_27 (fun H locs hP hD hS => ?_)
  have hP : va_P D vwCl [(b, .inr (8, [.int p0, .int p1, .int p2, .int 0, .int (-1), .int (-1)]))] H := hP
  have hD : va_D A [(b, .inr (8, [.int p0, .int p1, .int p2, .int 0, .int (-1), .int (-1)]))] := hD
  exact mr_v hx hb hr () (trivial) (hP.sub [] rfl) (hK.sub [] rfl) (hD.sub [] (by decide) rfl) hS (Nat.le_of_ble_eq_true rfl) (Nat.le_of_ble_eq_true rfl) hlocks dX1_begin_30

def us_c_routeBegin : List Cond := .code yX3_begin cX3_begin 3 none :: (([.fieldLink RX3 22 "ControlWood$Route" "start" "I", .fieldLink RX3 26 "ControlWood$Route" "places" "I", .fieldLink RX3 18 "ControlWood$Route" "voids" "[Z"] : List Cond) ++ (wsX30 ++ ([])))
theorem gw_c_routeBegin : ∀ w ∈ us_c_routeBegin, goodWord w = true := gw_cons rfl (gw_app (by decide +kernel) (gw_app gwf_X3 (fun _ h => nomatch h)))
set_option maxHeartbeats 4000000 in
set_option maxRecDepth 100000 in
/-- a course begins -/
theorem c_routeBegin (l : Launch) (hst : l.stackTraces = false) (D : va_G) (b : Nat) (v0 : Int32) (v1 : Int32) (o1 : Nat) (o2 : Nat) (o3 : Nat) (cv : ClassId) (f : Nat → Int32) (p0 : Int32) (sz : Nat) : Met l yX3_begin us_c_routeBegin { frames := 0, cells := 0, slots := 0, locals := 0 } (pw D [.ref b, .int p0] [(cv, .boolean)] [(b, .inr (10, [.int v0, .int v1, .ref o1, .ref o2, .ref o3])), (o3, .inl (cv, 10, .inl f))] sz) (va_Qv (fun _ : Unit => True) (qb D (va_A [(b, .inr (10, [.int v0, .int v1, .ref o1, .ref o2, .ref o3])), (o3, .inl (cv, 10, .inl f))] sz) (fun _ : Unit => []) (fun _ : Unit => ([] : List (ClassId × FieldType)))) (va_A [(b, .inr (10, [.int v0, .int v1, .ref o1, .ref o2, .ref o3])), (o3, .inl (cv, 10, .inl f))] sz)) 0 0 (va_A [(b, .inr (10, [.int v0, .int v1, .ref o1, .ref o2, .ref o3])), (o3, .inl (cv, 10, .inl f))] sz) := by
  refine op_M (Qc := fun A => (va_Qv (fun _ : Unit => True) (qb D A (fun _ : Unit => []) (fun _ : Unit => ([] : List (ClassId × FieldType)))) A)) (by decide +kernel) rfl (Nat.le_of_ble_eq_true rfl) ?_
  intro p e s m args below meth c A ls hx hb hr hml hts hown hlocks hmn htab hA hD hS hP hK hE hsz hl
  have hown : s.vm.findClass RX3 = some m.cls := hown
  have hl : lv_has ls 3 [(0, .ref b), (1, .int p0)] := hl
  have hw_0 := hts (.fieldLink RX3 22 "ControlWood$Route" "start" "I") (List.mem_cons_of_mem _ (List.mem_append_left _ (List.mem_of_getElem? (i := 0) rfl)))
  have hw_1 := hts (.fieldLink RX3 26 "ControlWood$Route" "places" "I") (List.mem_cons_of_mem _ (List.mem_append_left _ (List.mem_of_getElem? (i := 1) rfl)))
  have hw_2 := hts (.fieldLink RX3 18 "ControlWood$Route" "voids" "[Z") (List.mem_cons_of_mem _ (List.mem_append_left _ (List.mem_of_getElem? (i := 2) rfl)))
  have hb_0 : ∀ w ∈ wsX30, w ∈ us_c_routeBegin := fun w h => List.mem_cons_of_mem _ (List.mem_append_right _ (List.mem_append_left _ h))
  refine lv_aload_n hx hb dX3_begin_0 rfl (lv_at hl 0 rfl) ?_
  refine lv_iload_n hx hb dX3_begin_1 rfl (lv_at hl 1 rfl) ?_
  refine va_put (D := D) (ci := 10) (v := .int p0) (ty := .int) (C := RX3) (T := TX3) (N := 5) hx hb hts hb_0 tyX3 tyX3_ok nmX3 hown hK hP hD hS 0 rfl rfl 0 (by decide) hw_0 (fun _ h9 => h9) rfl (by decide +kernel) rfl rfl (Nat.le_of_ble_eq_true rfl) dX3_begin_2 (fun H locs hP hD hS => ?_)
  have hP : va_P D vwCl [(b, .inr (10, [.int p0, .int v1, .ref o1, .ref o2, .ref o3])), (o3, .inl (cv, 10, .inl f))] H := hP
  have hD : va_D A [(b, .inr (10, [.int p0, .int v1, .ref o1, .ref o2, .ref o3])), (o3, .inl (cv, 10, .inl f))] := hD
  refine lv_aload_n hx hb dX3_begin_5 rfl (lv_at hl 0 rfl) ?_
  refine lv_iconst (v := 0) hx hb dX3_begin_6 (by decide) ?_
  refine va_put (D := D) (ci := 10) (v := .int 0) (ty := .int) (C := RX3) (T := TX3) (N := 5) hx hb hts hb_0 tyX3 tyX3_ok nmX3 hown hK hP hD hS 0 rfl rfl 1 (by decide) hw_1 (fun _ h9 => h9) rfl (by decide +kernel) rfl rfl (Nat.le_of_ble_eq_true rfl) dX3_begin_7 (fun H locs hP hD hS => ?_)
  have hP : va_P D vwCl [(b, .inr (10, [.int p0, .int 0, .ref o1, .ref o2, .ref o3])), (o3, .inl (cv, 10, .inl f))] H := hP
  have hD : va_D A [(b, .inr (10, [.int p0, .int 0, .ref o1, .ref o2, .ref o3])), (o3, .inl (cv, 10, .inl f))] := hD
  refine lv_iconst (v := 0) hx hb dX3_begin_10 (by decide) ?_
  refine lv_istore_n (lv' := [(2, .int 0), (0, .ref b), (1, .int p0)]) hx hb dX3_begin_11 rfl hl (by decide) rfl (fun ls hl => ?_)
  refine lv_iload_n hx hb dX3_begin_12 rfl (lv_at hl 0 rfl) ?_
  refine lv_bipush (v := 10) hx hb dX3_begin_13 (by decide) ?_
  refine lv_icmp_ge (tgt := 31) hx hb dX3_begin_15 (by decide) (fun h1 => absurd h1 (by decide)) (fun h1 => ?_)
  refine lv_aload_n hx hb dX3_begin_18 rfl (lv_at hl 1 rfl) ?_
  refine va_get (D := D) (ci := 10) (v := .ref o3) (C := RX3) (T := TX3) (N := 5) hx hb hts hb_0 hown hK hP 0 rfl rfl 4 (by decide) hw_2 (fun _ h9 => h9) rfl dX3_begin_19 ?_
  refine lv_iload_n hx hb dX3_begin_22 rfl (lv_at hl 0 rfl) ?_
  refine lv_iconst (v := 0) hx hb dX3_begin_23 (by decide) ?_
  refine va_zast hx hb hK hP hD hS 1 0 rfl rfl (vp_in_nI (n := 0) (by decide) (by decide)) dX3_begin_24 (fun H locs hP hD hS => ?_)
  have hP : va_P D vwCl [(b, .inr (10, [.int p0, .int 0, .ref o1, .ref o2, .ref o3])), (o3, .inl (cv, 10, .inl (upd f ((0 : Int32).toNatClampNeg) (vp_nar .boolean 0))))] H := hP
  have hD : va_D A [(b, .inr (10, [.int p0, .int 0, .ref o1, .ref o2, .ref o3])), (o3, .inl (cv, 10, .inl (upd f ((0 : Int32).toNatClampNeg) (vp_nar .boolean 0))))] := hD
  obtain ⟨x2, e2⟩ : ∃ z : Int32, z = 0 + 1 := ⟨_, rfl⟩
  refine lv_iinc (v := x2) (lv' := [(2, .int x2), (0, .ref b), (1, .int p0)]) hx hb dX3_begin_25 hl (k := 0) rfl (by rw [e2]; rfl) (by decide) rfl (fun ls hl => ?_)
  obtain rfl : x2 = 1 := e2.trans (by decide)
  refine lv_goto (tgt := 12) hx hb dX3_begin_28 (by decide) ?_
  refine lv_iload_n hx hb dX3_begin_12 rfl (lv_at hl 0 rfl) ?_
  refine lv_bipush (v := 10) hx hb dX3_begin_13 (by decide) ?_
  refine lv_icmp_ge (tgt := 31) hx hb dX3_begin_15 (by decide) (fun h3 => absurd h3 (by decide)) (fun h3 => ?_)
  refine lv_aload_n hx hb dX3_begin_18 rfl (lv_at hl 1 rfl) ?_
  refine va_get (D := D) (ci := 10) (v := .ref o3) (C := RX3) (T := TX3) (N := 5) hx hb hts hb_0 hown hK hP 0 rfl rfl 4 (by decide) hw_2 (fun _ h9 => h9) rfl dX3_begin_19 ?_
  refine lv_iload_n hx hb dX3_begin_22 rfl (lv_at hl 0 rfl) ?_
  refine lv_iconst (v := 0) hx hb dX3_begin_23 (by decide) ?_
  refine va_zast hx hb hK hP hD hS 1 0 rfl rfl (vp_in_nI (n := 1) (by decide) (by decide)) dX3_begin_24 (fun H locs hP hD hS => ?_)
  have hP : va_P D vwCl [(b, .inr (10, [.int p0, .int 0, .ref o1, .ref o2, .ref o3])), (o3, .inl (cv, 10, .inl (upd (upd f ((0 : Int32).toNatClampNeg) (vp_nar .boolean 0)) ((1 : Int32).toNatClampNeg) (vp_nar .boolean 0))))] H := hP
  have hD : va_D A [(b, .inr (10, [.int p0, .int 0, .ref o1, .ref o2, .ref o3])), (o3, .inl (cv, 10, .inl (upd (upd f ((0 : Int32).toNatClampNeg) (vp_nar .boolean 0)) ((1 : Int32).toNatClampNeg) (vp_nar .boolean 0))))] := hD
  obtain ⟨x4, e4⟩ : ∃ z : Int32, z = 1 + 1 := ⟨_, rfl⟩
  refine lv_iinc (v := x4) (lv' := [(2, .int x4), (0, .ref b), (1, .int p0)]) hx hb dX3_begin_25 hl (k := 0) rfl (by rw [e4]; rfl) (by decide) rfl (fun ls hl => ?_)
  obtain rfl : x4 = 2 := e4.trans (by decide)
  refine lv_goto (tgt := 12) hx hb dX3_begin_28 (by decide) ?_
  refine lv_iload_n hx hb dX3_begin_12 rfl (lv_at hl 0 rfl) ?_
  refine lv_bipush (v := 10) hx hb dX3_begin_13 (by decide) ?_
  refine lv_icmp_ge (tgt := 31) hx hb dX3_begin_15 (by decide) (fun h5 => absurd h5 (by decide)) (fun h5 => ?_)
  refine lv_aload_n hx hb dX3_begin_18 rfl (lv_at hl 1 rfl) ?_
  refine va_get (D := D) (ci := 10) (v := .ref o3) (C := RX3) (T := TX3) (N := 5) hx hb hts hb_0 hown hK hP 0 rfl rfl 4 (by decide) hw_2 (fun _ h9 => h9) rfl dX3_begin_19 ?_
  refine lv_iload_n hx hb dX3_begin_22 rfl (lv_at hl 0 rfl) ?_
  refine lv_iconst (v := 0) hx hb dX3_begin_23 (by decide) ?_
  refine va_zast hx hb hK hP hD hS 1 0 rfl rfl (vp_in_nI (n := 2) (by decide) (by decide)) dX3_begin_24 (fun H locs hP hD hS => ?_)
  have hP : va_P D vwCl [(b, .inr (10, [.int p0, .int 0, .ref o1, .ref o2, .ref o3])), (o3, .inl (cv, 10, .inl (upd (upd (upd f ((0 : Int32).toNatClampNeg) (vp_nar .boolean 0)) ((1 : Int32).toNatClampNeg) (vp_nar .boolean 0)) ((2 : Int32).toNatClampNeg) (vp_nar .boolean 0))))] H := hP
  have hD : va_D A [(b, .inr (10, [.int p0, .int 0, .ref o1, .ref o2, .ref o3])), (o3, .inl (cv, 10, .inl (upd (upd (upd f ((0 : Int32).toNatClampNeg) (vp_nar .boolean 0)) ((1 : Int32).toNatClampNeg) (vp_nar .boolean 0)) ((2 : Int32).toNatClampNeg) (vp_nar .boolean 0))))] := hD
  obtain ⟨x6, e6⟩ : ∃ z : Int32, z = 2 + 1 := ⟨_, rfl⟩
  refine lv_iinc (v := x6) (lv' := [(2, .int x6), (0, .ref b), (1, .int p0)]) hx hb dX3_begin_25 hl (k := 0) rfl (by rw [e6]; rfl) (by decide) rfl (fun ls hl => ?_)
  obtain rfl : x6 = 3 := e6.trans (by decide)
  refine lv_goto (tgt := 12) hx hb dX3_begin_28 (by decide) ?_
  refine lv_iload_n hx hb dX3_begin_12 rfl (lv_at hl 0 rfl) ?_
  refine lv_bipush (v := 10) hx hb dX3_begin_13 (by decide) ?_
  refine lv_icmp_ge (tgt := 31) hx hb dX3_begin_15 (by decide) (fun h7 => absurd h7 (by decide)) (fun h7 => ?_)
  refine lv_aload_n hx hb dX3_begin_18 rfl (lv_at hl 1 rfl) ?_
  refine va_get (D := D) (ci := 10) (v := .ref o3) (C := RX3) (T := TX3) (N := 5) hx hb hts hb_0 hown hK hP 0 rfl rfl 4 (by decide) hw_2 (fun _ h9 => h9) rfl dX3_begin_19 ?_
  refine lv_iload_n hx hb dX3_begin_22 rfl (lv_at hl 0 rfl) ?_
  refine lv_iconst (v := 0) hx hb dX3_begin_23 (by decide) ?_
  refine va_zast hx hb hK hP hD hS 1 0 rfl rfl (vp_in_nI (n := 3) (by decide) (by decide)) dX3_begin_24 (fun H locs hP hD hS => ?_)
  have hP : va_P D vwCl [(b, .inr (10, [.int p0, .int 0, .ref o1, .ref o2, .ref o3])), (o3, .inl (cv, 10, .inl (upd (upd (upd (upd f ((0 : Int32).toNatClampNeg) (vp_nar .boolean 0)) ((1 : Int32).toNatClampNeg) (vp_nar .boolean 0)) ((2 : Int32).toNatClampNeg) (vp_nar .boolean 0)) ((3 : Int32).toNatClampNeg) (vp_nar .boolean 0))))] H := hP
  have hD : va_D A [(b, .inr (10, [.int p0, .int 0, .ref o1, .ref o2, .ref o3])), (o3, .inl (cv, 10, .inl (upd (upd (upd (upd f ((0 : Int32).toNatClampNeg) (vp_nar .boolean 0)) ((1 : Int32).toNatClampNeg) (vp_nar .boolean 0)) ((2 : Int32).toNatClampNeg) (vp_nar .boolean 0)) ((3 : Int32).toNatClampNeg) (vp_nar .boolean 0))))] := hD
  obtain ⟨x8, e8⟩ : ∃ z : Int32, z = 3 + 1 := ⟨_, rfl⟩
  refine lv_iinc (v := x8) (lv' := [(2, .int x8), (0, .ref b), (1, .int p0)]) hx hb dX3_begin_25 hl (k := 0) rfl (by rw [e8]; rfl) (by decide) rfl (fun ls hl => ?_)
  obtain rfl : x8 = 4 := e8.trans (by decide)
  refine lv_goto (tgt := 12) hx hb dX3_begin_28 (by decide) ?_
  refine lv_iload_n hx hb dX3_begin_12 rfl (lv_at hl 0 rfl) ?_
  refine lv_bipush (v := 10) hx hb dX3_begin_13 (by decide) ?_
  refine lv_icmp_ge (tgt := 31) hx hb dX3_begin_15 (by decide) (fun h9 => absurd h9 (by decide)) (fun h9 => ?_)
  refine lv_aload_n hx hb dX3_begin_18 rfl (lv_at hl 1 rfl) ?_
  refine va_get (D := D) (ci := 10) (v := .ref o3) (C := RX3) (T := TX3) (N := 5) hx hb hts hb_0 hown hK hP 0 rfl rfl 4 (by decide) hw_2 (fun _ h9 => h9) rfl dX3_begin_19 ?_
  refine lv_iload_n hx hb dX3_begin_22 rfl (lv_at hl 0 rfl) ?_
  refine lv_iconst (v := 0) hx hb dX3_begin_23 (by decide) ?_
  refine va_zast hx hb hK hP hD hS 1 0 rfl rfl (vp_in_nI (n := 4) (by decide) (by decide)) dX3_begin_24 (fun H locs hP hD hS => ?_)
  have hP : va_P D vwCl [(b, .inr (10, [.int p0, .int 0, .ref o1, .ref o2, .ref o3])), (o3, .inl (cv, 10, .inl (upd (upd (upd (upd (upd f ((0 : Int32).toNatClampNeg) (vp_nar .boolean 0)) ((1 : Int32).toNatClampNeg) (vp_nar .boolean 0)) ((2 : Int32).toNatClampNeg) (vp_nar .boolean 0)) ((3 : Int32).toNatClampNeg) (vp_nar .boolean 0)) ((4 : Int32).toNatClampNeg) (vp_nar .boolean 0))))] H := hP
  have hD : va_D A [(b, .inr (10, [.int p0, .int 0, .ref o1, .ref o2, .ref o3])), (o3, .inl (cv, 10, .inl (upd (upd (upd (upd (upd f ((0 : Int32).toNatClampNeg) (vp_nar .boolean 0)) ((1 : Int32).toNatClampNeg) (vp_nar .boolean 0)) ((2 : Int32).toNatClampNeg) (vp_nar .boolean 0)) ((3 : Int32).toNatClampNeg) (vp_nar .boolean 0)) ((4 : Int32).toNatClampNeg) (vp_nar .boolean 0))))] := hD
  obtain ⟨x10, e10⟩ : ∃ z : Int32, z = 4 + 1 := ⟨_, rfl⟩
  refine lv_iinc (v := x10) (lv' := [(2, .int x10), (0, .ref b), (1, .int p0)]) hx hb dX3_begin_25 hl (k := 0) rfl (by rw [e10]; rfl) (by decide) rfl (fun ls hl => ?_)
  obtain rfl : x10 = 5 := e10.trans (by decide)
  refine lv_goto (tgt := 12) hx hb dX3_begin_28 (by decide) ?_
  refine lv_iload_n hx hb dX3_begin_12 rfl (lv_at hl 0 rfl) ?_
  refine lv_bipush (v := 10) hx hb dX3_begin_13 (by decide) ?_
  refine lv_icmp_ge (tgt := 31) hx hb dX3_begin_15 (by decide) (fun h11 => absurd h11 (by decide)) (fun h11 => ?_)
  refine lv_aload_n hx hb dX3_begin_18 rfl (lv_at hl 1 rfl) ?_
  refine va_get (D := D) (ci := 10) (v := .ref o3) (C := RX3) (T := TX3) (N := 5) hx hb hts hb_0 hown hK hP 0 rfl rfl 4 (by decide) hw_2 (fun _ h9 => h9) rfl dX3_begin_19 ?_
  refine lv_iload_n hx hb dX3_begin_22 rfl (lv_at hl 0 rfl) ?_
  refine lv_iconst (v := 0) hx hb dX3_begin_23 (by decide) ?_
  refine va_zast hx hb hK hP hD hS 1 0 rfl rfl (vp_in_nI (n := 5) (by decide) (by decide)) dX3_begin_24 (fun H locs hP hD hS => ?_)
  have hP : va_P D vwCl [(b, .inr (10, [.int p0, .int 0, .ref o1, .ref o2, .ref o3])), (o3, .inl (cv, 10, .inl (upd (upd (upd (upd (upd (upd f ((0 : Int32).toNatClampNeg) (vp_nar .boolean 0)) ((1 : Int32).toNatClampNeg) (vp_nar .boolean 0)) ((2 : Int32).toNatClampNeg) (vp_nar .boolean 0)) ((3 : Int32).toNatClampNeg) (vp_nar .boolean 0)) ((4 : Int32).toNatClampNeg) (vp_nar .boolean 0)) ((5 : Int32).toNatClampNeg) (vp_nar .boolean 0))))] H := hP
  have hD : va_D A [(b, .inr (10, [.int p0, .int 0, .ref o1, .ref o2, .ref o3])), (o3, .inl (cv, 10, .inl (upd (upd (upd (upd (upd (upd f ((0 : Int32).toNatClampNeg) (vp_nar .boolean 0)) ((1 : Int32).toNatClampNeg) (vp_nar .boolean 0)) ((2 : Int32).toNatClampNeg) (vp_nar .boolean 0)) ((3 : Int32).toNatClampNeg) (vp_nar .boolean 0)) ((4 : Int32).toNatClampNeg) (vp_nar .boolean 0)) ((5 : Int32).toNatClampNeg) (vp_nar .boolean 0))))] := hD
  obtain ⟨x12, e12⟩ : ∃ z : Int32, z = 5 + 1 := ⟨_, rfl⟩
  refine lv_iinc (v := x12) (lv' := [(2, .int x12), (0, .ref b), (1, .int p0)]) hx hb dX3_begin_25 hl (k := 0) rfl (by rw [e12]; rfl) (by decide) rfl (fun ls hl => ?_)
  obtain rfl : x12 = 6 := e12.trans (by decide)
  refine lv_goto (tgt := 12) hx hb dX3_begin_28 (by decide) ?_
  refine lv_iload_n hx hb dX3_begin_12 rfl (lv_at hl 0 rfl) ?_
  refine lv_bipush (v := 10) hx hb dX3_begin_13 (by decide) ?_
  refine lv_icmp_ge (tgt := 31) hx hb dX3_begin_15 (by decide) (fun h13 => absurd h13 (by decide)) (fun h13 => ?_)
  refine lv_aload_n hx hb dX3_begin_18 rfl (lv_at hl 1 rfl) ?_
  refine va_get (D := D) (ci := 10) (v := .ref o3) (C := RX3) (T := TX3) (N := 5) hx hb hts hb_0 hown hK hP 0 rfl rfl 4 (by decide) hw_2 (fun _ h9 => h9) rfl dX3_begin_19 ?_
  refine lv_iload_n hx hb dX3_begin_22 rfl (lv_at hl 0 rfl) ?_
  refine lv_iconst (v := 0) hx hb dX3_begin_23 (by decide) ?_
  refine va_zast hx hb hK hP hD hS 1 0 rfl rfl (vp_in_nI (n := 6) (by decide) (by decide)) dX3_begin_24 (fun H locs hP hD hS => ?_)
  have hP : va_P D vwCl [(b, .inr (10, [.int p0, .int 0, .ref o1, .ref o2, .ref o3])), (o3, .inl (cv, 10, .inl (upd (upd (upd (upd (upd (upd (upd f ((0 : Int32).toNatClampNeg) (vp_nar .boolean 0)) ((1 : Int32).toNatClampNeg) (vp_nar .boolean 0)) ((2 : Int32).toNatClampNeg) (vp_nar .boolean 0)) ((3 : Int32).toNatClampNeg) (vp_nar .boolean 0)) ((4 : Int32).toNatClampNeg) (vp_nar .boolean 0)) ((5 : Int32).toNatClampNeg) (vp_nar .boolean 0)) ((6 : Int32).toNatClampNeg) (vp_nar .boolean 0))))] H := hP
  have hD : va_D A [(b, .inr (10, [.int p0, .int 0, .ref o1, .ref o2, .ref o3])), (o3, .inl (cv, 10, .inl (upd (upd (upd (upd (upd (upd (upd f ((0 : Int32).toNatClampNeg) (vp_nar .boolean 0)) ((1 : Int32).toNatClampNeg) (vp_nar .boolean 0)) ((2 : Int32).toNatClampNeg) (vp_nar .boolean 0)) ((3 : Int32).toNatClampNeg) (vp_nar .boolean 0)) ((4 : Int32).toNatClampNeg) (vp_nar .boolean 0)) ((5 : Int32).toNatClampNeg) (vp_nar .boolean 0)) ((6 : Int32).toNatClampNeg) (vp_nar .boolean 0))))] := hD
  obtain ⟨x14, e14⟩ : ∃ z : Int32, z = 6 + 1 := ⟨_, rfl⟩
  refine lv_iinc (v := x14) (lv' := [(2, .int x14), (0, .ref b), (1, .int p0)]) hx hb dX3_begin_25 hl (k := 0) rfl (by rw [e14]; rfl) (by decide) rfl (fun ls hl => ?_)
  obtain rfl : x14 = 7 := e14.trans (by decide)
  refine lv_goto (tgt := 12) hx hb dX3_begin_28 (by decide) ?_
  refine lv_iload_n hx hb dX3_begin_12 rfl (lv_at hl 0 rfl) ?_
  refine lv_bipush (v := 10) hx hb dX3_begin_13 (by decide) ?_
  refine lv_icmp_ge (tgt := 31) hx hb dX3_begin_15 (by decide) (fun h15 => absurd h15 (by decide)) (fun h15 => ?_)
  refine lv_aload_n hx hb dX3_begin_18 rfl (lv_at hl 1 rfl) ?_
  refine va_get (D := D) (ci := 10) (v := .ref o3) (C := RX3) (T := TX3) (N := 5) hx hb hts hb_0 hown hK hP 0 rfl rfl 4 (by decide) hw_2 (fun _ h9 => h9) rfl dX3_begin_19 ?_
  refine lv_iload_n hx hb dX3_begin_22 rfl (lv_at hl 0 rfl) ?_
  refine lv_iconst (v := 0) hx hb dX3_begin_23 (by decide) ?_
  refine va_zast hx hb hK hP hD hS 1 0 rfl rfl (vp_in_nI (n := 7) (by decide) (by decide)) dX3_begin_24 (fun H locs hP hD hS => ?_)
  have hP : va_P D vwCl [(b, .inr (10, [.int p0, .int 0, .ref o1, .ref o2, .ref o3])), (o3, .inl (cv, 10, .inl (upd (upd (upd (upd (upd (upd (upd (upd f ((0 : Int32).toNatClampNeg) (vp_nar .boolean 0)) ((1 : Int32).toNatClampNeg) (vp_nar .boolean 0)) ((2 : Int32).toNatClampNeg) (vp_nar .boolean 0)) ((3 : Int32).toNatClampNeg) (vp_nar .boolean 0)) ((4 : Int32).toNatClampNeg) (vp_nar .boolean 0)) ((5 : Int32).toNatClampNeg) (vp_nar .boolean 0)) ((6 : Int32).toNatClampNeg) (vp_nar .boolean 0)) ((7 : Int32).toNatClampNeg) (vp_nar .boolean 0))))] H := hP
  have hD : va_D A [(b, .inr (10, [.int p0, .int 0, .ref o1, .ref o2, .ref o3])), (o3, .inl (cv, 10, .inl (upd (upd (upd (upd (upd (upd (upd (upd f ((0 : Int32).toNatClampNeg) (vp_nar .boolean 0)) ((1 : Int32).toNatClampNeg) (vp_nar .boolean 0)) ((2 : Int32).toNatClampNeg) (vp_nar .boolean 0)) ((3 : Int32).toNatClampNeg) (vp_nar .boolean 0)) ((4 : Int32).toNatClampNeg) (vp_nar .boolean 0)) ((5 : Int32).toNatClampNeg) (vp_nar .boolean 0)) ((6 : Int32).toNatClampNeg) (vp_nar .boolean 0)) ((7 : Int32).toNatClampNeg) (vp_nar .boolean 0))))] := hD
  obtain ⟨x16, e16⟩ : ∃ z : Int32, z = 7 + 1 := ⟨_, rfl⟩
  refine lv_iinc (v := x16) (lv' := [(2, .int x16), (0, .ref b), (1, .int p0)]) hx hb dX3_begin_25 hl (k := 0) rfl (by rw [e16]; rfl) (by decide) rfl (fun ls hl => ?_)
  obtain rfl : x16 = 8 := e16.trans (by decide)
  refine lv_goto (tgt := 12) hx hb dX3_begin_28 (by decide) ?_
  refine lv_iload_n hx hb dX3_begin_12 rfl (lv_at hl 0 rfl) ?_
  refine lv_bipush (v := 10) hx hb dX3_begin_13 (by decide) ?_
  refine lv_icmp_ge (tgt := 31) hx hb dX3_begin_15 (by decide) (fun h17 => absurd h17 (by decide)) (fun h17 => ?_)
  refine lv_aload_n hx hb dX3_begin_18 rfl (lv_at hl 1 rfl) ?_
  refine va_get (D := D) (ci := 10) (v := .ref o3) (C := RX3) (T := TX3) (N := 5) hx hb hts hb_0 hown hK hP 0 rfl rfl 4 (by decide) hw_2 (fun _ h9 => h9) rfl dX3_begin_19 ?_
  refine lv_iload_n hx hb dX3_begin_22 rfl (lv_at hl 0 rfl) ?_
  refine lv_iconst (v := 0) hx hb dX3_begin_23 (by decide) ?_
  refine va_zast hx hb hK hP hD hS 1 0 rfl rfl (vp_in_nI (n := 8) (by decide) (by decide)) dX3_begin_24 (fun H locs hP hD hS => ?_)
  have hP : va_P D vwCl [(b, .inr (10, [.int p0, .int 0, .ref o1, .ref o2, .ref o3])), (o3, .inl (cv, 10, .inl (upd (upd (upd (upd (upd (upd (upd (upd (upd f ((0 : Int32).toNatClampNeg) (vp_nar .boolean 0)) ((1 : Int32).toNatClampNeg) (vp_nar .boolean 0)) ((2 : Int32).toNatClampNeg) (vp_nar .boolean 0)) ((3 : Int32).toNatClampNeg) (vp_nar .boolean 0)) ((4 : Int32).toNatClampNeg) (vp_nar .boolean 0)) ((5 : Int32).toNatClampNeg) (vp_nar .boolean 0)) ((6 : Int32).toNatClampNeg) (vp_nar .boolean 0)) ((7 : Int32).toNatClampNeg) (vp_nar .boolean 0)) ((8 : Int32).toNatClampNeg) (vp_nar .boolean 0))))] H := hP
  have hD : va_D A [(b, .inr (10, [.int p0, .int 0, .ref o1, .ref o2, .ref o3])), (o3, .inl (cv, 10, .inl (upd (upd (upd (upd (upd (upd (upd (upd (upd f ((0 : Int32).toNatClampNeg) (vp_nar .boolean 0)) ((1 : Int32).toNatClampNeg) (vp_nar .boolean 0)) ((2 : Int32).toNatClampNeg) (vp_nar .boolean 0)) ((3 : Int32).toNatClampNeg) (vp_nar .boolean 0)) ((4 : Int32).toNatClampNeg) (vp_nar .boolean 0)) ((5 : Int32).toNatClampNeg) (vp_nar .boolean 0)) ((6 : Int32).toNatClampNeg) (vp_nar .boolean 0)) ((7 : Int32).toNatClampNeg) (vp_nar .boolean 0)) ((8 : Int32).toNatClampNeg) (vp_nar .boolean 0))))] := hD
  obtain ⟨x18, e18⟩ : ∃ z : Int32, z = 8 + 1 := ⟨_, rfl⟩
  refine lv_iinc (v := x18) (lv' := [(2, .int x18), (0, .ref b), (1, .int p0)]) hx hb dX3_begin_25 hl (k := 0) rfl (by rw [e18]; rfl) (by decide) rfl (fun ls hl => ?_)
  obtain rfl : x18 = 9 := e18.trans (by decide)
  refine lv_goto (tgt := 12) hx hb dX3_begin_28 (by decide) ?_
  refine lv_iload_n hx hb dX3_begin_12 rfl (lv_at hl 0 rfl) ?_
  refine lv_bipush (v := 10) hx hb dX3_begin_13 (by decide) ?_
  refine lv_icmp_ge (tgt := 31) hx hb dX3_begin_15 (by decide) (fun h19 => absurd h19 (by decide)) (fun h19 => ?_)
  refine lv_aload_n hx hb dX3_begin_18 rfl (lv_at hl 1 rfl) ?_
  refine va_get (D := D) (ci := 10) (v := .ref o3) (C := RX3) (T := TX3) (N := 5) hx hb hts hb_0 hown hK hP 0 rfl rfl 4 (by decide) hw_2 (fun _ h9 => h9) rfl dX3_begin_19 ?_
  refine lv_iload_n hx hb dX3_begin_22 rfl (lv_at hl 0 rfl) ?_
  refine lv_iconst (v := 0) hx hb dX3_begin_23 (by decide) ?_
  refine va_zast hx hb hK hP hD hS 1 0 rfl rfl (vp_in_nI (n := 9) (by decide) (by decide)) dX3_begin_24 (fun H locs hP hD hS => ?_)
  have hP : va_P D vwCl [(b, .inr (10, [.int p0, .int 0, .ref o1, .ref o2, .ref o3])), (o3, .inl (cv, 10, .inl (upd (upd (upd (upd (upd (upd (upd (upd (upd (upd f ((0 : Int32).toNatClampNeg) (vp_nar .boolean 0)) ((1 : Int32).toNatClampNeg) (vp_nar .boolean 0)) ((2 : Int32).toNatClampNeg) (vp_nar .boolean 0)) ((3 : Int32).toNatClampNeg) (vp_nar .boolean 0)) ((4 : Int32).toNatClampNeg) (vp_nar .boolean 0)) ((5 : Int32).toNatClampNeg) (vp_nar .boolean 0)) ((6 : Int32).toNatClampNeg) (vp_nar .boolean 0)) ((7 : Int32).toNatClampNeg) (vp_nar .boolean 0)) ((8 : Int32).toNatClampNeg) (vp_nar .boolean 0)) ((9 : Int32).toNatClampNeg) (vp_nar .boolean 0))))] H := hP
  have hD : va_D A [(b, .inr (10, [.int p0, .int 0, .ref o1, .ref o2, .ref o3])), (o3, .inl (cv, 10, .inl (upd (upd (upd (upd (upd (upd (upd (upd (upd (upd f ((0 : Int32).toNatClampNeg) (vp_nar .boolean 0)) ((1 : Int32).toNatClampNeg) (vp_nar .boolean 0)) ((2 : Int32).toNatClampNeg) (vp_nar .boolean 0)) ((3 : Int32).toNatClampNeg) (vp_nar .boolean 0)) ((4 : Int32).toNatClampNeg) (vp_nar .boolean 0)) ((5 : Int32).toNatClampNeg) (vp_nar .boolean 0)) ((6 : Int32).toNatClampNeg) (vp_nar .boolean 0)) ((7 : Int32).toNatClampNeg) (vp_nar .boolean 0)) ((8 : Int32).toNatClampNeg) (vp_nar .boolean 0)) ((9 : Int32).toNatClampNeg) (vp_nar .boolean 0))))] := hD
  obtain ⟨x20, e20⟩ : ∃ z : Int32, z = 9 + 1 := ⟨_, rfl⟩
  refine lv_iinc (v := x20) (lv' := [(2, .int x20), (0, .ref b), (1, .int p0)]) hx hb dX3_begin_25 hl (k := 0) rfl (by rw [e20]; rfl) (by decide) rfl (fun ls hl => ?_)
  obtain rfl : x20 = 10 := e20.trans (by decide)
  refine lv_goto (tgt := 12) hx hb dX3_begin_28 (by decide) ?_
  refine lv_iload_n hx hb dX3_begin_12 rfl (lv_at hl 0 rfl) ?_
  refine lv_bipush (v := 10) hx hb dX3_begin_13 (by decide) ?_
  refine lv_icmp_ge (tgt := 31) hx hb dX3_begin_15 (by decide) (fun h21 => ?_) (fun h21 => absurd (by decide) h21)
  exact mr_v hx hb hr () (trivial) (hP.sub [] rfl) (hK.sub [] rfl) (hD.sub [] (by decide) rfl) hS (Nat.le_of_ble_eq_true rfl) (Nat.le_of_ble_eq_true rfl) hlocks dX3_begin_31

def us_c_cell : List Cond := .code yX6_cell cX6_cell 6 (some .int) :: (([.methodLink RX6 91 yX6_needCell, .instanceMethod yX6_needCell, .selects RX6 yX6_needCell yX6_needCell, .initialized RX6, .methodLink RX6 71 yX6_needRange, .static yX6_needRange, .methodLink RX6 95 yX6_needKind, .static yX6_needKind, .fieldLink RX6 12 "ControlWood" "ground" "LControlWood$Terrain;", .fieldLink RX6 99 "ControlWood$Terrain" "growths" "[I", .fieldLink RX6 102 "ControlWood$Terrain" "heights" "[I", .fieldLink RX6 105 "ControlWood$Terrain" "kinds" "[C"] : List Cond) ++ (us_c_needCell ++ (us_c_needRange ++ (us_c_needKind ++ (wsX60 ++ (wsX40 ++ ([])))))))
theorem gw_c_cell : ∀ w ∈ us_c_cell, goodWord w = true := gw_cons rfl (gw_app (by decide +kernel) (gw_app gw_c_needCell (gw_app gw_c_needRange (gw_app gw_c_needKind (gw_app gwf_X6 (gw_app gwf_X4 (fun _ h => nomatch h)))))))
set_option maxHeartbeats 4000000 in
set_option maxRecDepth 100000 in
/-- cell -/
theorem c_cell (l : Launch) (hst : l.stackTraces = false) (D : va_G) (x : Nat) (g : Nat) (ca : Nat) (co : Nat) (ra : Nat) (rl : Nat) (tr : Nat) (f9 : Nat) (f10 : Nat) (f11 : Nat) (f12 : Nat) (f13 : Nat) (a1 : Nat) (a2 : Nat) (a3 : Nat) (a4 : Nat) (a5 : Nat) (a6 : Nat) (a7 : Nat) (a8 : Nat) (a9 : Nat) (a10 : Nat) (a11 : Nat) (ck : ClassId) (cg : ClassId) (ch : ClassId) (p0 : Int32) (p1 : Int32) (p2 : Int32) (p3 : Int32) (sz : Nat) : vx_Met l yX6_cell us_c_cell { frames := 8, cells := 4, slots := 24, locals := 124 } (pw D [.ref x, .int p0, .int p1, .int p2, .int p3] [(ck, .char), (cg, .int), (ch, .int)] [(x, .inr (13, [.ref g, .ref ca, .int 0, .ref co, .int 0, .ref ra, .int 0, .ref rl, .ref tr, .ref f9, .ref f10, .ref f11, .ref f12, .ref f13])), (g, .inr (11, [.int 25, .ref a1, .ref a2, .ref a3, .ref a4, .ref a5, .ref a6, .ref a7, .ref a8, .ref a9, .ref a10, .ref a11, .int 0, .int 0])), (a3, .inl (ck, 144, .inl okF)), (a1, .inl (cg, 144, .inl (fun _ => 0))), (a2, .inl (ch, 144, .inl (fun _ => 0)))] sz) (va_Qi (fun (r : Int32) (_ : Unit) => kf_cell p0 p1 p2 p3 = 0 ∧ r = rf_cell p0 p1 p2 p3) (qb D (va_A [(x, .inr (13, [.ref g, .ref ca, .int 0, .ref co, .int 0, .ref ra, .int 0, .ref rl, .ref tr, .ref f9, .ref f10, .ref f11, .ref f12, .ref f13])), (g, .inr (11, [.int 25, .ref a1, .ref a2, .ref a3, .ref a4, .ref a5, .ref a6, .ref a7, .ref a8, .ref a9, .ref a10, .ref a11, .int 0, .int 0])), (a3, .inl (ck, 144, .inl okF)), (a1, .inl (cg, 144, .inl (fun _ => 0))), (a2, .inl (ch, 144, .inl (fun _ => 0)))] sz) (fun _ : Unit => []) (fun _ : Unit => ([] : List (ClassId × FieldType)))) (va_A [(x, .inr (13, [.ref g, .ref ca, .int 0, .ref co, .int 0, .ref ra, .int 0, .ref rl, .ref tr, .ref f9, .ref f10, .ref f11, .ref f12, .ref f13])), (g, .inr (11, [.int 25, .ref a1, .ref a2, .ref a3, .ref a4, .ref a5, .ref a6, .ref a7, .ref a8, .ref a9, .ref a10, .ref a11, .int 0, .int 0])), (a3, .inl (ck, 144, .inl okF)), (a1, .inl (cg, 144, .inl (fun _ => 0))), (a2, .inl (ch, 144, .inl (fun _ => 0)))] sz)) (vx_X (fun E => (E = "java/lang/IndexOutOfBoundsException" ∧ kf_cell p0 p1 p2 p3 = 1) ∨ (E = "java/lang/IllegalArgumentException" ∧ kf_cell p0 p1 p2 p3 = 2)) xb (va_A [(x, .inr (13, [.ref g, .ref ca, .int 0, .ref co, .int 0, .ref ra, .int 0, .ref rl, .ref tr, .ref f9, .ref f10, .ref f11, .ref f12, .ref f13])), (g, .inr (11, [.int 25, .ref a1, .ref a2, .ref a3, .ref a4, .ref a5, .ref a6, .ref a7, .ref a8, .ref a9, .ref a10, .ref a11, .int 0, .int 0])), (a3, .inl (ck, 144, .inl okF)), (a1, .inl (cg, 144, .inl (fun _ => 0))), (a2, .inl (ch, 144, .inl (fun _ => 0)))] sz)) 4 24 (va_A [(x, .inr (13, [.ref g, .ref ca, .int 0, .ref co, .int 0, .ref ra, .int 0, .ref rl, .ref tr, .ref f9, .ref f10, .ref f11, .ref f12, .ref f13])), (g, .inr (11, [.int 25, .ref a1, .ref a2, .ref a3, .ref a4, .ref a5, .ref a6, .ref a7, .ref a8, .ref a9, .ref a10, .ref a11, .int 0, .int 0])), (a3, .inl (ck, 144, .inl okF)), (a1, .inl (cg, 144, .inl (fun _ => 0))), (a2, .inl (ch, 144, .inl (fun _ => 0)))] sz) := by
  refine op_X (Qc := fun A => (va_Qi (fun (r : Int32) (_ : Unit) => kf_cell p0 p1 p2 p3 = 0 ∧ r = rf_cell p0 p1 p2 p3) (qb D A (fun _ : Unit => []) (fun _ : Unit => ([] : List (ClassId × FieldType)))) A)) (px := (fun E => (E = "java/lang/IndexOutOfBoundsException" ∧ kf_cell p0 p1 p2 p3 = 1) ∨ (E = "java/lang/IllegalArgumentException" ∧ kf_cell p0 p1 p2 p3 = 2))) (by decide +kernel) rfl (Nat.le_of_ble_eq_true rfl) ?_
  intro p e s m args below meth c A ls hx hb hr hml hts hown hlocks hmn htab hA hD hS hP hK hE hsz hl
  have hown : s.vm.findClass RX6 = some m.cls := hown
  have hl : lv_has ls 6 [(0, .ref x), (1, .int p0), (2, .int p1), (3, .int p2), (4, .int p3)] := hl
  have hw_0 := hts (.methodLink RX6 91 yX6_needCell) (List.mem_cons_of_mem _ (List.mem_append_left _ (List.mem_of_getElem? (i := 0) rfl)))
  have hw_1 := hts (.instanceMethod yX6_needCell) (List.mem_cons_of_mem _ (List.mem_append_left _ (List.mem_of_getElem? (i := 1) rfl)))
  have hw_2 := hts (.selects RX6 yX6_needCell yX6_needCell) (List.mem_cons_of_mem _ (List.mem_append_left _ (List.mem_of_getElem? (i := 2) rfl)))
  have hw_3 := hts (.initialized RX6) (List.mem_cons_of_mem _ (List.mem_append_left _ (List.mem_of_getElem? (i := 3) rfl)))
  have hw_4 := hts (.methodLink RX6 71 yX6_needRange) (List.mem_cons_of_mem _ (List.mem_append_left _ (List.mem_of_getElem? (i := 4) rfl)))
  have hw_5 := hts (.static yX6_needRange) (List.mem_cons_of_mem _ (List.mem_append_left _ (List.mem_of_getElem? (i := 5) rfl)))
  have hw_6 := hts (.methodLink RX6 95 yX6_needKind) (List.mem_cons_of_mem _ (List.mem_append_left _ (List.mem_of_getElem? (i := 6) rfl)))
  have hw_7 := hts (.static yX6_needKind) (List.mem_cons_of_mem _ (List.mem_append_left _ (List.mem_of_getElem? (i := 7) rfl)))
  have hw_8 := hts (.fieldLink RX6 12 "ControlWood" "ground" "LControlWood$Terrain;") (List.mem_cons_of_mem _ (List.mem_append_left _ (List.mem_of_getElem? (i := 8) rfl)))
  have hw_9 := hts (.fieldLink RX6 99 "ControlWood$Terrain" "growths" "[I") (List.mem_cons_of_mem _ (List.mem_append_left _ (List.mem_of_getElem? (i := 9) rfl)))
  have hw_10 := hts (.fieldLink RX6 102 "ControlWood$Terrain" "heights" "[I") (List.mem_cons_of_mem _ (List.mem_append_left _ (List.mem_of_getElem? (i := 10) rfl)))
  have hw_11 := hts (.fieldLink RX6 105 "ControlWood$Terrain" "kinds" "[C") (List.mem_cons_of_mem _ (List.mem_append_left _ (List.mem_of_getElem? (i := 11) rfl)))
  have hb_0 : ∀ w ∈ us_c_needCell, w ∈ us_c_cell := fun w h => List.mem_cons_of_mem _ (List.mem_append_right _ (List.mem_append_left _ h))
  have hb_1 : ∀ w ∈ us_c_needRange, w ∈ us_c_cell := fun w h => List.mem_cons_of_mem _ (List.mem_append_right _ (List.mem_append_right _ (List.mem_append_left _ h)))
  have hb_2 : ∀ w ∈ us_c_needKind, w ∈ us_c_cell := fun w h => List.mem_cons_of_mem _ (List.mem_append_right _ (List.mem_append_right _ (List.mem_append_right _ (List.mem_append_left _ h))))
  have hb_3 : ∀ w ∈ wsX60, w ∈ us_c_cell := fun w h => List.mem_cons_of_mem _ (List.mem_append_right _ (List.mem_append_right _ (List.mem_append_right _ (List.mem_append_right _ (List.mem_append_left _ h)))))
  have hb_4 : ∀ w ∈ wsX40, w ∈ us_c_cell := fun w h => List.mem_cons_of_mem _ (List.mem_append_right _ (List.mem_append_right _ (List.mem_append_right _ (List.mem_append_right _ (List.mem_append_right _ (List.mem_append_left _ h))))))
  refine lv_aload_n hx hb dX6_cell_0 rfl (lv_at hl 0 rfl) ?_
  refine lv_iload_n hx hb dX6_cell_1 rfl (lv_at hl 1 rfl) ?_
  refine mx_v (wr := [(a3, .inl (ck, 144, .inl okF)), (a1, .inl (cg, 144, .inl (fun _ => 0))), (a2, .inl (ch, 144, .inl (fun _ => 0)))]) (vx_runV (As := [.int p0]) (rest := []) ⟨hx, hb, hml, hown, hts⟩ (c_needCell l hst D x g ca co ra rl tr f9 f10 f11 f12 f13 25 a1 a2 a3 a4 a5 a6 a7 a8 a9 a10 a11 0 0 p0 s.heap.size) (cwV 1 hts (gi_c (List.mem_cons_of_mem _ (List.mem_append_left _ (List.mem_of_getElem? (i := 0) rfl))) rfl (gi_c (List.mem_cons_of_mem _ (List.mem_append_left _ (List.mem_of_getElem? (i := 1) rfl))) rfl (gi_c (List.mem_cons_of_mem _ (List.mem_append_left _ (List.mem_of_getElem? (i := 2) rfl))) rfl (gi_c (List.mem_cons_of_mem _ (List.mem_append_left _ (List.mem_of_getElem? (i := 3) rfl))) rfl (goodIn_sub hb_0 (List.all_eq_true.mpr gw_c_needCell)))))) rfl rfl rfl (by decide +kernel) ⟨Nat.le_of_ble_eq_true rfl, Nat.le_of_ble_eq_true rfl⟩) (pr_V (As := [.int p0]) (b := x) (C := RX6) hP hD hK hS hA hE [0, 1] [] rfl rfl rfl 0 13 rfl rfl rfl) rfl rfl hl.1 rfl (lv_room (Nat.le_of_ble_eq_true rfl)) dX6_cell_2 ⟨Nat.le_of_ble_eq_true rfl, Nat.le_of_ble_eq_true rfl⟩) hP hD hK hS hA [0, 1] [2, 3, 4] rfl rfl (by decide) (by decide) htab hlocks (fun E h => Or.inl (⟨h.1, (if_neg h.2)⟩)) (Nat.le_of_ble_eq_true rfl) (Nat.le_of_ble_eq_true rfl) (fun _ H locs w1 hP hD hK hS => ?_)
  have hP : va_P D vwCl [(a3, .inl (ck, 144, .inl okF)), (a1, .inl (cg, 144, .inl (fun _ => 0))), (a2, .inl (ch, 144, .inl (fun _ => 0))), (x, .inr (13, [.ref g, .ref ca, .int 0, .ref co, .int 0, .ref ra, .int 0, .ref rl, .ref tr, .ref f9, .ref f10, .ref f11, .ref f12, .ref f13])), (g, .inr (11, [.int 25, .ref a1, .ref a2, .ref a3, .ref a4, .ref a5, .ref a6, .ref a7, .ref a8, .ref a9, .ref a10, .ref a11, .int 0, .int 0]))] H := hP
  have hD : va_D A [(a3, .inl (ck, 144, .inl okF)), (a1, .inl (cg, 144, .inl (fun _ => 0))), (a2, .inl (ch, 144, .inl (fun _ => 0))), (x, .inr (13, [.ref g, .ref ca, .int 0, .ref co, .int 0, .ref ra, .int 0, .ref rl, .ref tr, .ref f9, .ref f10, .ref f11, .ref f12, .ref f13])), (g, .inr (11, [.int 25, .ref a1, .ref a2, .ref a3, .ref a4, .ref a5, .ref a6, .ref a7, .ref a8, .ref a9, .ref a10, .ref a11, .int 0, .int 0]))] := hD
  have hK : va_K D vwCl [(ck, .char), (cg, .int), (ch, .int)] s := hK
  have v0 := w1
  obtain ⟨k0, hk0, rfl⟩ := inI_nI v0
  refine lv_iload_n hx hb dX6_cell_5 rfl (lv_at hl 2 rfl) ?_
  refine lv_iconst (v := 0) hx hb dX6_cell_6 (by decide) ?_
  refine lv_bipush (v := 9) hx hb dX6_cell_7 (by decide) ?_
  refine mx_v (wr := [(a3, .inl (ck, 144, .inl okF)), (a1, .inl (cg, 144, .inl (fun _ => 0))), (a2, .inl (ch, 144, .inl (fun _ => 0))), (x, .inr (13, [.ref g, .ref ca, .int 0, .ref co, .int 0, .ref ra, .int 0, .ref rl, .ref tr, .ref f9, .ref f10, .ref f11, .ref f12, .ref f13])), (g, .inr (11, [.int 25, .ref a1, .ref a2, .ref a3, .ref a4, .ref a5, .ref a6, .ref a7, .ref a8, .ref a9, .ref a10, .ref a11, .int 0, .int 0]))]) (vx_runS (As := [.int p1, .int 0, .int 9]) (rest := []) ⟨hx, hb, hml, hown, hts⟩ (c_needRange l hst D p1 0 9 H.size) (va_cwS 3 hts (gi_c (List.mem_cons_of_mem _ (List.mem_append_left _ (List.mem_of_getElem? (i := 4) rfl))) rfl (gi_c (List.mem_cons_of_mem _ (List.mem_append_left _ (List.mem_of_getElem? (i := 5) rfl))) rfl (gi_c (List.mem_cons_of_mem _ (List.mem_append_left _ (List.mem_of_getElem? (i := 3) rfl))) rfl (goodIn_sub hb_1 (List.all_eq_true.mpr gw_c_needRange))))) rfl rfl rfl (by decide +kernel) ⟨Nat.le_of_ble_eq_true rfl, Nat.le_of_ble_eq_true rfl⟩) (pr_S (As := [.int p1, .int 0, .int 9]) hP hD hK hS hA hE [] [] rfl rfl rfl) rfl rfl hl.1 rfl (lv_room (Nat.le_of_ble_eq_true rfl)) dX6_cell_9 ⟨Nat.le_of_ble_eq_true rfl, Nat.le_of_ble_eq_true rfl⟩) hP hD hK hS hA [] [0, 1, 2, 3, 4] rfl rfl (by decide) (by decide) htab hlocks (fun E h => Or.inr (⟨h.1, ((if_pos v0).trans (if_neg h.2))⟩)) (Nat.le_of_ble_eq_true rfl) (Nat.le_of_ble_eq_true rfl) (fun _ H locs w3 hP hD hK hS => ?_)
  have hP : va_P D vwCl [(a3, .inl (ck, 144, .inl okF)), (a1, .inl (cg, 144, .inl (fun _ => 0))), (a2, .inl (ch, 144, .inl (fun _ => 0))), (x, .inr (13, [.ref g, .ref ca, .int 0, .ref co, .int 0, .ref ra, .int 0, .ref rl, .ref tr, .ref f9, .ref f10, .ref f11, .ref f12, .ref f13])), (g, .inr (11, [.int 25, .ref a1, .ref a2, .ref a3, .ref a4, .ref a5, .ref a6, .ref a7, .ref a8, .ref a9, .ref a10, .ref a11, .int 0, .int 0]))] H := hP
  have hD : va_D A [(a3, .inl (ck, 144, .inl okF)), (a1, .inl (cg, 144, .inl (fun _ => 0))), (a2, .inl (ch, 144, .inl (fun _ => 0))), (x, .inr (13, [.ref g, .ref ca, .int 0, .ref co, .int 0, .ref ra, .int 0, .ref rl, .ref tr, .ref f9, .ref f10, .ref f11, .ref f12, .ref f13])), (g, .inr (11, [.int 25, .ref a1, .ref a2, .ref a3, .ref a4, .ref a5, .ref a6, .ref a7, .ref a8, .ref a9, .ref a10, .ref a11, .int 0, .int 0]))] := hD
  have hK : va_K D vwCl [(ck, .char), (cg, .int), (ch, .int)] s := hK
  have v1 := w3
  refine lv_iload_n hx hb dX6_cell_12 rfl (lv_at hl 3 rfl) ?_
  refine lv_iconst (v := 0) hx hb dX6_cell_13 (by decide) ?_
  refine lv_bipush (v := 9) hx hb dX6_cell_14 (by decide) ?_
  refine mx_v (wr := [(a3, .inl (ck, 144, .inl okF)), (a1, .inl (cg, 144, .inl (fun _ => 0))), (a2, .inl (ch, 144, .inl (fun _ => 0))), (x, .inr (13, [.ref g, .ref ca, .int 0, .ref co, .int 0, .ref ra, .int 0, .ref rl, .ref tr, .ref f9, .ref f10, .ref f11, .ref f12, .ref f13])), (g, .inr (11, [.int 25, .ref a1, .ref a2, .ref a3, .ref a4, .ref a5, .ref a6, .ref a7, .ref a8, .ref a9, .ref a10, .ref a11, .int 0, .int 0]))]) (vx_runS (As := [.int p2, .int 0, .int 9]) (rest := []) ⟨hx, hb, hml, hown, hts⟩ (c_needRange l hst D p2 0 9 H.size) (va_cwS 3 hts (gi_c (List.mem_cons_of_mem _ (List.mem_append_left _ (List.mem_of_getElem? (i := 4) rfl))) rfl (gi_c (List.mem_cons_of_mem _ (List.mem_append_left _ (List.mem_of_getElem? (i := 5) rfl))) rfl (gi_c (List.mem_cons_of_mem _ (List.mem_append_left _ (List.mem_of_getElem? (i := 3) rfl))) rfl (goodIn_sub hb_1 (List.all_eq_true.mpr gw_c_needRange))))) rfl rfl rfl (by decide +kernel) ⟨Nat.le_of_ble_eq_true rfl, Nat.le_of_ble_eq_true rfl⟩) (pr_S (As := [.int p2, .int 0, .int 9]) hP hD hK hS hA hE [] [] rfl rfl rfl) rfl rfl hl.1 rfl (lv_room (Nat.le_of_ble_eq_true rfl)) dX6_cell_16 ⟨Nat.le_of_ble_eq_true rfl, Nat.le_of_ble_eq_true rfl⟩) hP hD hK hS hA [] [0, 1, 2, 3, 4] rfl rfl (by decide) (by decide) htab hlocks (fun E h => Or.inr (⟨h.1, ((if_pos v0).trans ((if_pos v1).trans (if_neg h.2)))⟩)) (Nat.le_of_ble_eq_true rfl) (Nat.le_of_ble_eq_true rfl) (fun _ H locs w5 hP hD hK hS => ?_)
  have hP : va_P D vwCl [(a3, .inl (ck, 144, .inl okF)), (a1, .inl (cg, 144, .inl (fun _ => 0))), (a2, .inl (ch, 144, .inl (fun _ => 0))), (x, .inr (13, [.ref g, .ref ca, .int 0, .ref co, .int 0, .ref ra, .int 0, .ref rl, .ref tr, .ref f9, .ref f10, .ref f11, .ref f12, .ref f13])), (g, .inr (11, [.int 25, .ref a1, .ref a2, .ref a3, .ref a4, .ref a5, .ref a6, .ref a7, .ref a8, .ref a9, .ref a10, .ref a11, .int 0, .int 0]))] H := hP
  have hD : va_D A [(a3, .inl (ck, 144, .inl okF)), (a1, .inl (cg, 144, .inl (fun _ => 0))), (a2, .inl (ch, 144, .inl (fun _ => 0))), (x, .inr (13, [.ref g, .ref ca, .int 0, .ref co, .int 0, .ref ra, .int 0, .ref rl, .ref tr, .ref f9, .ref f10, .ref f11, .ref f12, .ref f13])), (g, .inr (11, [.int 25, .ref a1, .ref a2, .ref a3, .ref a4, .ref a5, .ref a6, .ref a7, .ref a8, .ref a9, .ref a10, .ref a11, .int 0, .int 0]))] := hD
  have hK : va_K D vwCl [(ck, .char), (cg, .int), (ch, .int)] s := hK
  have v2 := w5
  refine lv_iload hx hb dX6_cell_19 (lv_at hl 4 rfl) ?_
  refine mx_v (wr := [(a3, .inl (ck, 144, .inl okF)), (a1, .inl (cg, 144, .inl (fun _ => 0))), (a2, .inl (ch, 144, .inl (fun _ => 0))), (x, .inr (13, [.ref g, .ref ca, .int 0, .ref co, .int 0, .ref ra, .int 0, .ref rl, .ref tr, .ref f9, .ref f10, .ref f11, .ref f12, .ref f13])), (g, .inr (11, [.int 25, .ref a1, .ref a2, .ref a3, .ref a4, .ref a5, .ref a6, .ref a7, .ref a8, .ref a9, .ref a10, .ref a11, .int 0, .int 0]))]) (vx_runS (As := [.int p3]) (rest := []) ⟨hx, hb, hml, hown, hts⟩ (c_needKind l hst D p3 H.size) (va_cwS 1 hts (gi_c (List.mem_cons_of_mem _ (List.mem_append_left _ (List.mem_of_getElem? (i := 6) rfl))) rfl (gi_c (List.mem_cons_of_mem _ (List.mem_append_left _ (List.mem_of_getElem? (i := 7) rfl))) rfl (gi_c (List.mem_cons_of_mem _ (List.mem_append_left _ (List.mem_of_getElem? (i := 3) rfl))) rfl (goodIn_sub hb_2 (List.all_eq_true.mpr gw_c_needKind))))) rfl rfl rfl (by decide +kernel) ⟨Nat.le_of_ble_eq_true rfl, Nat.le_of_ble_eq_true rfl⟩) (pr_S (As := [.int p3]) hP hD hK hS hA hE [] [] rfl rfl rfl) rfl rfl hl.1 rfl (lv_room (Nat.le_of_ble_eq_true rfl)) dX6_cell_21 ⟨Nat.le_of_ble_eq_true rfl, Nat.le_of_ble_eq_true rfl⟩) hP hD hK hS hA [] [0, 1, 2, 3, 4] rfl rfl (by decide) (by decide) htab hlocks (fun E h => Or.inr (⟨h.1, ((if_pos v0).trans ((if_pos v1).trans ((if_pos v2).trans (if_neg h.2))))⟩)) (Nat.le_of_ble_eq_true rfl) (Nat.le_of_ble_eq_true rfl) (fun _ H locs w7 hP hD hK hS => ?_)
  have hP : va_P D vwCl [(a3, .inl (ck, 144, .inl okF)), (a1, .inl (cg, 144, .inl (fun _ => 0))), (a2, .inl (ch, 144, .inl (fun _ => 0))), (x, .inr (13, [.ref g, .ref ca, .int 0, .ref co, .int 0, .ref ra, .int 0, .ref rl, .ref tr, .ref f9, .ref f10, .ref f11, .ref f12, .ref f13])), (g, .inr (11, [.int 25, .ref a1, .ref a2, .ref a3, .ref a4, .ref a5, .ref a6, .ref a7, .ref a8, .ref a9, .ref a10, .ref a11, .int 0, .int 0]))] H := hP
  have hD : va_D A [(a3, .inl (ck, 144, .inl okF)), (a1, .inl (cg, 144, .inl (fun _ => 0))), (a2, .inl (ch, 144, .inl (fun _ => 0))), (x, .inr (13, [.ref g, .ref ca, .int 0, .ref co, .int 0, .ref ra, .int 0, .ref rl, .ref tr, .ref f9, .ref f10, .ref f11, .ref f12, .ref f13])), (g, .inr (11, [.int 25, .ref a1, .ref a2, .ref a3, .ref a4, .ref a5, .ref a6, .ref a7, .ref a8, .ref a9, .ref a10, .ref a11, .int 0, .int 0]))] := hD
  have hK : va_K D vwCl [(ck, .char), (cg, .int), (ch, .int)] s := hK
  have v3 := w7
  refine lv_aload_n hx hb dX6_cell_24 rfl (lv_at hl 0 rfl) ?_
  refine va_get (D := D) (ci := 13) (v := .ref g) (C := RX6) (T := TX6) (N := 14) hx hb hts hb_3 hown hK hP 3 rfl rfl 0 (by decide) hw_8 (fun _ h9 => h9) rfl dX6_cell_25 ?_
  refine va_get (D := D) (ci := 11) (v := .ref a1) (C := RX4) (T := TX4) (N := 14) hx hb hts hb_4 hown hK hP 4 rfl rfl 1 (by decide) hw_9 (fun _ h9 => h9) rfl dX6_cell_28 ?_
  refine lv_iload_n hx hb dX6_cell_31 rfl (lv_at hl 1 rfl) ?_
  refine va_iald hx hb hK hP 1 1 rfl rfl (vp_in_nI (n := k0) (by omega) (by decide)) dX6_cell_32 ?_
  refine lv_topi (fun x9 e9 => ?_)
  obtain rfl : x9 = 0 := e9
  refine lv_istore (lv' := [(5, .int 0), (0, .ref x), (1, .int (nI k0)), (2, .int p1), (3, .int p2), (4, .int p3)]) hx hb dX6_cell_33 hl (by decide) rfl (fun ls hl => ?_)
  refine lv_aload_n hx hb dX6_cell_35 rfl (lv_at hl 1 rfl) ?_
  refine va_get (D := D) (ci := 13) (v := .ref g) (C := RX6) (T := TX6) (N := 14) hx hb hts hb_3 hown hK hP 3 rfl rfl 0 (by decide) hw_8 (fun _ h9 => h9) rfl dX6_cell_36 ?_
  refine va_get (D := D) (ci := 11) (v := .ref a1) (C := RX4) (T := TX4) (N := 14) hx hb hts hb_4 hown hK hP 4 rfl rfl 1 (by decide) hw_9 (fun _ h9 => h9) rfl dX6_cell_39 ?_
  refine lv_iload_n hx hb dX6_cell_42 rfl (lv_at hl 2 rfl) ?_
  refine lv_iload_n hx hb dX6_cell_43 rfl (lv_at hl 3 rfl) ?_
  refine va_iast hx hb hK hP hD hS 1 1 rfl rfl (vp_in_nI (n := k0) (by omega) (by decide)) dX6_cell_44 (fun H locs hP hD hS => ?_)
  have hP : va_P D vwCl [(a3, .inl (ck, 144, .inl okF)), (a1, .inl (cg, 144, .inl (upd (fun _ => 0) ((nI k0).toNatClampNeg) p1))), (a2, .inl (ch, 144, .inl (fun _ => 0))), (x, .inr (13, [.ref g, .ref ca, .int 0, .ref co, .int 0, .ref ra, .int 0, .ref rl, .ref tr, .ref f9, .ref f10, .ref f11, .ref f12, .ref f13])), (g, .inr (11, [.int 25, .ref a1, .ref a2, .ref a3, .ref a4, .ref a5, .ref a6, .ref a7, .ref a8, .ref a9, .ref a10, .ref a11, .int 0, .int 0]))] H := hP
  have hD : va_D A [(a3, .inl (ck, 144, .inl okF)), (a1, .inl (cg, 144, .inl (upd (fun _ => 0) ((nI k0).toNatClampNeg) p1))), (a2, .inl (ch, 144, .inl (fun _ => 0))), (x, .inr (13, [.ref g, .ref ca, .int 0, .ref co, .int 0, .ref ra, .int 0, .ref rl, .ref tr, .ref f9, .ref f10, .ref f11, .ref f12, .ref f13])), (g, .inr (11, [.int 25, .ref a1, .ref a2, .ref a3, .ref a4, .ref a5, .ref a6, .ref a7, .ref a8, .ref a9, .ref a10, .ref a11, .int 0, .int 0]))] := hD
  refine lv_aload_n hx hb dX6_cell_45 rfl (lv_at hl 1 rfl) ?_
  refine va_get (D := D) (ci := 13) (v := .ref g) (C := RX6) (T := TX6) (N := 14) hx hb hts hb_3 hown hK hP 3 rfl rfl 0 (by decide) hw_8 (fun _ h9 => h9) rfl dX6_cell_46 ?_
  refine va_get (D := D) (ci := 11) (v := .ref a2) (C := RX4) (T := TX4) (N := 14) hx hb hts hb_4 hown hK hP 4 rfl rfl 2 (by decide) hw_10 (fun _ h9 => h9) rfl dX6_cell_49 ?_
  refine lv_iload_n hx hb dX6_cell_52 rfl (lv_at hl 2 rfl) ?_
  refine lv_iload_n hx hb dX6_cell_53 rfl (lv_at hl 4 rfl) ?_
  refine va_iast hx hb hK hP hD hS 2 2 rfl rfl (vp_in_nI (n := k0) (by omega) (by decide)) dX6_cell_54 (fun H locs hP hD hS => ?_)
  have hP : va_P D vwCl [(a3, .inl (ck, 144, .inl okF)), (a1, .inl (cg, 144, .inl (upd (fun _ => 0) ((nI k0).toNatClampNeg) p1))), (a2, .inl (ch, 144, .inl (upd (fun _ => 0) ((nI k0).toNatClampNeg) p2))), (x, .inr (13, [.ref g, .ref ca, .int 0, .ref co, .int 0, .ref ra, .int 0, .ref rl, .ref tr, .ref f9, .ref f10, .ref f11, .ref f12, .ref f13])), (g, .inr (11, [.int 25, .ref a1, .ref a2, .ref a3, .ref a4, .ref a5, .ref a6, .ref a7, .ref a8, .ref a9, .ref a10, .ref a11, .int 0, .int 0]))] H := hP
  have hD : va_D A [(a3, .inl (ck, 144, .inl okF)), (a1, .inl (cg, 144, .inl (upd (fun _ => 0) ((nI k0).toNatClampNeg) p1))), (a2, .inl (ch, 144, .inl (upd (fun _ => 0) ((nI k0).toNatClampNeg) p2))), (x, .inr (13, [.ref g, .ref ca, .int 0, .ref co, .int 0, .ref ra, .int 0, .ref rl, .ref tr, .ref f9, .ref f10, .ref f11, .ref f12, .ref f13])), (g, .inr (11, [.int 25, .ref a1, .ref a2, .ref a3, .ref a4, .ref a5, .ref a6, .ref a7, .ref a8, .ref a9, .ref a10, .ref a11, .int 0, .int 0]))] := hD
  refine lv_aload_n hx hb dX6_cell_55 rfl (lv_at hl 1 rfl) ?_
  refine va_get (D := D) (ci := 13) (v := .ref g) (C := RX6) (T := TX6) (N := 14) hx hb hts hb_3 hown hK hP 3 rfl rfl 0 (by decide) hw_8 (fun _ h9 => h9) rfl dX6_cell_56 ?_
  refine va_get (D := D) (ci := 11) (v := .ref a3) (C := RX4) (T := TX4) (N := 14) hx hb hts hb_4 hown hK hP 4 rfl rfl 3 (by decide) hw_11 (fun _ h9 => h9) rfl dX6_cell_59 ?_
  refine lv_iload_n hx hb dX6_cell_62 rfl (lv_at hl 2 rfl) ?_
  refine lv_iload hx hb dX6_cell_63 (lv_at hl 5 rfl) ?_
  refine va_cast hx hb hK hP hD hS 0 0 rfl rfl (vp_in_nI (n := k0) (by omega) (by decide)) dX6_cell_65 (fun H locs hP hD hS => ?_)
  have hP : va_P D vwCl [(a3, .inl (ck, 144, .inl (upd okF ((nI k0).toNatClampNeg) (vp_nar .char p3)))), (a1, .inl (cg, 144, .inl (upd (fun _ => 0) ((nI k0).toNatClampNeg) p1))), (a2, .inl (ch, 144, .inl (upd (fun _ => 0) ((nI k0).toNatClampNeg) p2))), (x, .inr (13, [.ref g, .ref ca, .int 0, .ref co, .int 0, .ref ra, .int 0, .ref rl, .ref tr, .ref f9, .ref f10, .ref f11, .ref f12, .ref f13])), (g, .inr (11, [.int 25, .ref a1, .ref a2, .ref a3, .ref a4, .ref a5, .ref a6, .ref a7, .ref a8, .ref a9, .ref a10, .ref a11, .int 0, .int 0]))] H := hP
  have hD : va_D A [(a3, .inl (ck, 144, .inl (upd okF ((nI k0).toNatClampNeg) (vp_nar .char p3)))), (a1, .inl (cg, 144, .inl (upd (fun _ => 0) ((nI k0).toNatClampNeg) p1))), (a2, .inl (ch, 144, .inl (upd (fun _ => 0) ((nI k0).toNatClampNeg) p2))), (x, .inr (13, [.ref g, .ref ca, .int 0, .ref co, .int 0, .ref ra, .int 0, .ref rl, .ref tr, .ref f9, .ref f10, .ref f11, .ref f12, .ref f13])), (g, .inr (11, [.int 25, .ref a1, .ref a2, .ref a3, .ref a4, .ref a5, .ref a6, .ref a7, .ref a8, .ref a9, .ref a10, .ref a11, .int 0, .int 0]))] := hD
  refine lv_iload hx hb dX6_cell_66 (lv_at hl 0 rfl) ?_
  exact vx_ret (mr_i hx hb hr () (⟨((if_pos v0).trans ((if_pos v1).trans ((if_pos v2).trans (if_pos v3)))), rfl⟩) (hP.sub [] rfl) (hK.sub [] rfl) (hD.sub [] (by decide) rfl) hS (Nat.le_of_ble_eq_true rfl) (Nat.le_of_ble_eq_true rfl) hlocks dX6_cell_68)

def us_c_show : List Cond := .code yX6_show cX6_show 5 (some .int) :: (([.methodLink RX6 91 yX6_needCell, .instanceMethod yX6_needCell, .selects RX6 yX6_needCell yX6_needCell, .initialized RX6, .methodLink RX6 71 yX6_needRange, .static yX6_needRange, .methodLink RX6 95 yX6_needKind, .static yX6_needKind, .fieldLink RX6 12 "ControlWood" "ground" "LControlWood$Terrain;", .fieldLink RX6 113 "ControlWood$Terrain" "shownGrowths" "[I", .fieldLink RX6 116 "ControlWood$Terrain" "shownKinds" "[C"] : List Cond) ++ (us_c_needCell ++ (us_c_needRange ++ (us_c_needKind ++ (wsX60 ++ (wsX40 ++ ([])))))))
theorem gw_c_show : ∀ w ∈ us_c_show, goodWord w = true := gw_cons rfl (gw_app (by decide +kernel) (gw_app gw_c_needCell (gw_app gw_c_needRange (gw_app gw_c_needKind (gw_app gwf_X6 (gw_app gwf_X4 (fun _ h => nomatch h)))))))
set_option maxHeartbeats 4000000 in
set_option maxRecDepth 100000 in
/-- show -/
theorem c_show (l : Launch) (hst : l.stackTraces = false) (D : va_G) (x : Nat) (g : Nat) (ca : Nat) (co : Nat) (ra : Nat) (rl : Nat) (tr : Nat) (f9 : Nat) (f10 : Nat) (f11 : Nat) (f12 : Nat) (f13 : Nat) (a1 : Nat) (a2 : Nat) (a3 : Nat) (a4 : Nat) (a5 : Nat) (a6 : Nat) (a7 : Nat) (a8 : Nat) (a9 : Nat) (a10 : Nat) (a11 : Nat) (csk : ClassId) (csg : ClassId) (p0 : Int32) (p1 : Int32) (p2 : Int32) (sz : Nat) : vx_Met l yX6_show us_c_show { frames := 8, cells := 3, slots := 18, locals := 124 } (pw D [.ref x, .int p0, .int p1, .int p2] [(csk, .char), (csg, .int)] [(x, .inr (13, [.ref g, .ref ca, .int 0, .ref co, .int 0, .ref ra, .int 0, .ref rl, .ref tr, .ref f9, .ref f10, .ref f11, .ref f12, .ref f13])), (g, .inr (11, [.int 25, .ref a1, .ref a2, .ref a3, .ref a4, .ref a5, .ref a6, .ref a7, .ref a8, .ref a9, .ref a10, .ref a11, .int 0, .int 0])), (a5, .inl (csk, 144, .inl okF)), (a4, .inl (csg, 144, .inl (fun _ => 0)))] sz) (va_Qi (fun (r : Int32) (_ : Unit) => kf_show p0 p1 p2 = 0 ∧ r = rf_show p0 p1 p2) (qb D (va_A [(x, .inr (13, [.ref g, .ref ca, .int 0, .ref co, .int 0, .ref ra, .int 0, .ref rl, .ref tr, .ref f9, .ref f10, .ref f11, .ref f12, .ref f13])), (g, .inr (11, [.int 25, .ref a1, .ref a2, .ref a3, .ref a4, .ref a5, .ref a6, .ref a7, .ref a8, .ref a9, .ref a10, .ref a11, .int 0, .int 0])), (a5, .inl (csk, 144, .inl okF)), (a4, .inl (csg, 144, .inl (fun _ => 0)))] sz) (fun _ : Unit => []) (fun _ : Unit => ([] : List (ClassId × FieldType)))) (va_A [(x, .inr (13, [.ref g, .ref ca, .int 0, .ref co, .int 0, .ref ra, .int 0, .ref rl, .ref tr, .ref f9, .ref f10, .ref f11, .ref f12, .ref f13])), (g, .inr (11, [.int 25, .ref a1, .ref a2, .ref a3, .ref a4, .ref a5, .ref a6, .ref a7, .ref a8, .ref a9, .ref a10, .ref a11, .int 0, .int 0])), (a5, .inl (csk, 144, .inl okF)), (a4, .inl (csg, 144, .inl (fun _ => 0)))] sz)) (vx_X (fun E => (E = "java/lang/IndexOutOfBoundsException" ∧ kf_show p0 p1 p2 = 1) ∨ (E = "java/lang/IllegalArgumentException" ∧ kf_show p0 p1 p2 = 2)) xb (va_A [(x, .inr (13, [.ref g, .ref ca, .int 0, .ref co, .int 0, .ref ra, .int 0, .ref rl, .ref tr, .ref f9, .ref f10, .ref f11, .ref f12, .ref f13])), (g, .inr (11, [.int 25, .ref a1, .ref a2, .ref a3, .ref a4, .ref a5, .ref a6, .ref a7, .ref a8, .ref a9, .ref a10, .ref a11, .int 0, .int 0])), (a5, .inl (csk, 144, .inl okF)), (a4, .inl (csg, 144, .inl (fun _ => 0)))] sz)) 3 18 (va_A [(x, .inr (13, [.ref g, .ref ca, .int 0, .ref co, .int 0, .ref ra, .int 0, .ref rl, .ref tr, .ref f9, .ref f10, .ref f11, .ref f12, .ref f13])), (g, .inr (11, [.int 25, .ref a1, .ref a2, .ref a3, .ref a4, .ref a5, .ref a6, .ref a7, .ref a8, .ref a9, .ref a10, .ref a11, .int 0, .int 0])), (a5, .inl (csk, 144, .inl okF)), (a4, .inl (csg, 144, .inl (fun _ => 0)))] sz) := by
  refine op_X (Qc := fun A => (va_Qi (fun (r : Int32) (_ : Unit) => kf_show p0 p1 p2 = 0 ∧ r = rf_show p0 p1 p2) (qb D A (fun _ : Unit => []) (fun _ : Unit => ([] : List (ClassId × FieldType)))) A)) (px := (fun E => (E = "java/lang/IndexOutOfBoundsException" ∧ kf_show p0 p1 p2 = 1) ∨ (E = "java/lang/IllegalArgumentException" ∧ kf_show p0 p1 p2 = 2))) (by decide +kernel) rfl (Nat.le_of_ble_eq_true rfl) ?_
  intro p e s m args below meth c A ls hx hb hr hml hts hown hlocks hmn htab hA hD hS hP hK hE hsz hl
  have hown : s.vm.findClass RX6 = some m.cls := hown
  have hl : lv_has ls 5 [(0, .ref x), (1, .int p0), (2, .int p1), (3, .int p2)] := hl
  have hw_0 := hts (.methodLink RX6 91 yX6_needCell) (List.mem_cons_of_mem _ (List.mem_append_left _ (List.mem_of_getElem? (i := 0) rfl)))
  have hw_1 := hts (.instanceMethod yX6_needCell) (List.mem_cons_of_mem _ (List.mem_append_left _ (List.mem_of_getElem? (i := 1) rfl)))
  have hw_2 := hts (.selects RX6 yX6_needCell yX6_needCell) (List.mem_cons_of_mem _ (List.mem_append_left _ (List.mem_of_getElem? (i := 2) rfl)))
  have hw_3 := hts (.initialized RX6) (List.mem_cons_of_mem _ (List.mem_append_left _ (List.mem_of_getElem? (i := 3) rfl)))
  have hw_4 := hts (.methodLink RX6 71 yX6_needRange) (List.mem_cons_of_mem _ (List.mem_append_left _ (List.mem_of_getElem? (i := 4) rfl)))
  have hw_5 := hts (.static yX6_needRange) (List.mem_cons_of_mem _ (List.mem_append_left _ (List.mem_of_getElem? (i := 5) rfl)))
  have hw_6 := hts (.methodLink RX6 95 yX6_needKind) (List.mem_cons_of_mem _ (List.mem_append_left _ (List.mem_of_getElem? (i := 6) rfl)))
  have hw_7 := hts (.static yX6_needKind) (List.mem_cons_of_mem _ (List.mem_append_left _ (List.mem_of_getElem? (i := 7) rfl)))
  have hw_8 := hts (.fieldLink RX6 12 "ControlWood" "ground" "LControlWood$Terrain;") (List.mem_cons_of_mem _ (List.mem_append_left _ (List.mem_of_getElem? (i := 8) rfl)))
  have hw_9 := hts (.fieldLink RX6 113 "ControlWood$Terrain" "shownGrowths" "[I") (List.mem_cons_of_mem _ (List.mem_append_left _ (List.mem_of_getElem? (i := 9) rfl)))
  have hw_10 := hts (.fieldLink RX6 116 "ControlWood$Terrain" "shownKinds" "[C") (List.mem_cons_of_mem _ (List.mem_append_left _ (List.mem_of_getElem? (i := 10) rfl)))
  have hb_0 : ∀ w ∈ us_c_needCell, w ∈ us_c_show := fun w h => List.mem_cons_of_mem _ (List.mem_append_right _ (List.mem_append_left _ h))
  have hb_1 : ∀ w ∈ us_c_needRange, w ∈ us_c_show := fun w h => List.mem_cons_of_mem _ (List.mem_append_right _ (List.mem_append_right _ (List.mem_append_left _ h)))
  have hb_2 : ∀ w ∈ us_c_needKind, w ∈ us_c_show := fun w h => List.mem_cons_of_mem _ (List.mem_append_right _ (List.mem_append_right _ (List.mem_append_right _ (List.mem_append_left _ h))))
  have hb_3 : ∀ w ∈ wsX60, w ∈ us_c_show := fun w h => List.mem_cons_of_mem _ (List.mem_append_right _ (List.mem_append_right _ (List.mem_append_right _ (List.mem_append_right _ (List.mem_append_left _ h)))))
  have hb_4 : ∀ w ∈ wsX40, w ∈ us_c_show := fun w h => List.mem_cons_of_mem _ (List.mem_append_right _ (List.mem_append_right _ (List.mem_append_right _ (List.mem_append_right _ (List.mem_append_right _ (List.mem_append_left _ h))))))
  refine lv_aload_n hx hb dX6_show_0 rfl (lv_at hl 0 rfl) ?_
  refine lv_iload_n hx hb dX6_show_1 rfl (lv_at hl 1 rfl) ?_
  refine mx_v (wr := [(a5, .inl (csk, 144, .inl okF)), (a4, .inl (csg, 144, .inl (fun _ => 0)))]) (vx_runV (As := [.int p0]) (rest := []) ⟨hx, hb, hml, hown, hts⟩ (c_needCell l hst D x g ca co ra rl tr f9 f10 f11 f12 f13 25 a1 a2 a3 a4 a5 a6 a7 a8 a9 a10 a11 0 0 p0 s.heap.size) (cwV 1 hts (gi_c (List.mem_cons_of_mem _ (List.mem_append_left _ (List.mem_of_getElem? (i := 0) rfl))) rfl (gi_c (List.mem_cons_of_mem _ (List.mem_append_left _ (List.mem_of_getElem? (i := 1) rfl))) rfl (gi_c (List.mem_cons_of_mem _ (List.mem_append_left _ (List.mem_of_getElem? (i := 2) rfl))) rfl (gi_c (List.mem_cons_of_mem _ (List.mem_append_left _ (List.mem_of_getElem? (i := 3) rfl))) rfl (goodIn_sub hb_0 (List.all_eq_true.mpr gw_c_needCell)))))) rfl rfl rfl (by decide +kernel) ⟨Nat.le_of_ble_eq_true rfl, Nat.le_of_ble_eq_true rfl⟩) (pr_V (As := [.int p0]) (b := x) (C := RX6) hP hD hK hS hA hE [0, 1] [] rfl rfl rfl 0 13 rfl rfl rfl) rfl rfl hl.1 rfl (lv_room (Nat.le_of_ble_eq_true rfl)) dX6_show_2 ⟨Nat.le_of_ble_eq_true rfl, Nat.le_of_ble_eq_true rfl⟩) hP hD hK hS hA [0, 1] [2, 3] rfl rfl (by decide) (by decide) htab hlocks (fun E h => Or.inl (⟨h.1, (if_neg h.2)⟩)) (Nat.le_of_ble_eq_true rfl) (Nat.le_of_ble_eq_true rfl) (fun _ H locs w1 hP hD hK hS => ?_)
  have hP : va_P D vwCl [(a5, .inl (csk, 144, .inl okF)), (a4, .inl (csg, 144, .inl (fun _ => 0))), (x, .inr (13, [.ref g, .ref ca, .int 0, .ref co, .int 0, .ref ra, .int 0, .ref rl, .ref tr, .ref f9, .ref f10, .ref f11, .ref f12, .ref f13])), (g, .inr (11, [.int 25, .ref a1, .ref a2, .ref a3, .ref a4, .ref a5, .ref a6, .ref a7, .ref a8, .ref a9, .ref a10, .ref a11, .int 0, .int 0]))] H := hP
  have hD : va_D A [(a5, .inl (csk, 144, .inl okF)), (a4, .inl (csg, 144, .inl (fun _ => 0))), (x, .inr (13, [.ref g, .ref ca, .int 0, .ref co, .int 0, .ref ra, .int 0, .ref rl, .ref tr, .ref f9, .ref f10, .ref f11, .ref f12, .ref f13])), (g, .inr (11, [.int 25, .ref a1, .ref a2, .ref a3, .ref a4, .ref a5, .ref a6, .ref a7, .ref a8, .ref a9, .ref a10, .ref a11, .int 0, .int 0]))] := hD
  have hK : va_K D vwCl [(csk, .char), (csg, .int)] s := hK
  have v0 := w1
  obtain ⟨k0, hk0, rfl⟩ := inI_nI v0
  refine lv_iload_n hx hb dX6_show_5 rfl (lv_at hl 2 rfl) ?_
  refine lv_iconst (v := 0) hx hb dX6_show_6 (by decide) ?_
  refine lv_bipush (v := 9) hx hb dX6_show_7 (by decide) ?_
  refine mx_v (wr := [(a5, .inl (csk, 144, .inl okF)), (a4, .inl (csg, 144, .inl (fun _ => 0))), (x, .inr (13, [.ref g, .ref ca, .int 0, .ref co, .int 0, .ref ra, .int 0, .ref rl, .ref tr, .ref f9, .ref f10, .ref f11, .ref f12, .ref f13])), (g, .inr (11, [.int 25, .ref a1, .ref a2, .ref a3, .ref a4, .ref a5, .ref a6, .ref a7, .ref a8, .ref a9, .ref a10, .ref a11, .int 0, .int 0]))]) (vx_runS (As := [.int p1, .int 0, .int 9]) (rest := []) ⟨hx, hb, hml, hown, hts⟩ (c_needRange l hst D p1 0 9 H.size) (va_cwS 3 hts (gi_c (List.mem_cons_of_mem _ (List.mem_append_left _ (List.mem_of_getElem? (i := 4) rfl))) rfl (gi_c (List.mem_cons_of_mem _ (List.mem_append_left _ (List.mem_of_getElem? (i := 5) rfl))) rfl (gi_c (List.mem_cons_of_mem _ (List.mem_append_left _ (List.mem_of_getElem? (i := 3) rfl))) rfl (goodIn_sub hb_1 (List.all_eq_true.mpr gw_c_needRange))))) rfl rfl rfl (by decide +kernel) ⟨Nat.le_of_ble_eq_true rfl, Nat.le_of_ble_eq_true rfl⟩) (pr_S (As := [.int p1, .int 0, .int 9]) hP hD hK hS hA hE [] [] rfl rfl rfl) rfl rfl hl.1 rfl (lv_room (Nat.le_of_ble_eq_true rfl)) dX6_show_9 ⟨Nat.le_of_ble_eq_true rfl, Nat.le_of_ble_eq_true rfl⟩) hP hD hK hS hA [] [0, 1, 2, 3] rfl rfl (by decide) (by decide) htab hlocks (fun E h => Or.inr (⟨h.1, ((if_pos v0).trans (if_neg h.2))⟩)) (Nat.le_of_ble_eq_true rfl) (Nat.le_of_ble_eq_true rfl) (fun _ H locs w3 hP hD hK hS => ?_)
  have hP : va_P D vwCl [(a5, .inl (csk, 144, .inl okF)), (a4, .inl (csg, 144, .inl (fun _ => 0))), (x, .inr (13, [.ref g, .ref ca, .int 0, .ref co, .int 0, .ref ra, .int 0, .ref rl, .ref tr, .ref f9, .ref f10, .ref f11, .ref f12, .ref f13])), (g, .inr (11, [.int 25, .ref a1, .ref a2, .ref a3, .ref a4, .ref a5, .ref a6, .ref a7, .ref a8, .ref a9, .ref a10, .ref a11, .int 0, .int 0]))] H := hP
  have hD : va_D A [(a5, .inl (csk, 144, .inl okF)), (a4, .inl (csg, 144, .inl (fun _ => 0))), (x, .inr (13, [.ref g, .ref ca, .int 0, .ref co, .int 0, .ref ra, .int 0, .ref rl, .ref tr, .ref f9, .ref f10, .ref f11, .ref f12, .ref f13])), (g, .inr (11, [.int 25, .ref a1, .ref a2, .ref a3, .ref a4, .ref a5, .ref a6, .ref a7, .ref a8, .ref a9, .ref a10, .ref a11, .int 0, .int 0]))] := hD
  have hK : va_K D vwCl [(csk, .char), (csg, .int)] s := hK
  have v1 := w3
  refine lv_iload_n hx hb dX6_show_12 rfl (lv_at hl 3 rfl) ?_
  refine mx_v (wr := [(a5, .inl (csk, 144, .inl okF)), (a4, .inl (csg, 144, .inl (fun _ => 0))), (x, .inr (13, [.ref g, .ref ca, .int 0, .ref co, .int 0, .ref ra, .int 0, .ref rl, .ref tr, .ref f9, .ref f10, .ref f11, .ref f12, .ref f13])), (g, .inr (11, [.int 25, .ref a1, .ref a2, .ref a3, .ref a4, .ref a5, .ref a6, .ref a7, .ref a8, .ref a9, .ref a10, .ref a11, .int 0, .int 0]))]) (vx_runS (As := [.int p2]) (rest := []) ⟨hx, hb, hml, hown, hts⟩ (c_needKind l hst D p2 H.size) (va_cwS 1 hts (gi_c (List.mem_cons_of_mem _ (List.mem_append_left _ (List.mem_of_getElem? (i := 6) rfl))) rfl (gi_c (List.mem_cons_of_mem _ (List.mem_append_left _ (List.mem_of_getElem? (i := 7) rfl))) rfl (gi_c (List.mem_cons_of_mem _ (List.mem_append_left _ (List.mem_of_getElem? (i := 3) rfl))) rfl (goodIn_sub hb_2 (List.all_eq_true.mpr gw_c_needKind))))) rfl rfl rfl (by decide +kernel) ⟨Nat.le_of_ble_eq_true rfl, Nat.le_of_ble_eq_true rfl⟩) (pr_S (As := [.int p2]) hP hD hK hS hA hE [] [] rfl rfl rfl) rfl rfl hl.1 rfl (lv_room (Nat.le_of_ble_eq_true rfl)) dX6_show_13 ⟨Nat.le_of_ble_eq_true rfl, Nat.le_of_ble_eq_true rfl⟩) hP hD hK hS hA [] [0, 1, 2, 3] rfl rfl (by decide) (by decide) htab hlocks (fun E h => Or.inr (⟨h.1, ((if_pos v0).trans ((if_pos v1).trans (if_neg h.2)))⟩)) (Nat.le_of_ble_eq_true rfl) (Nat.le_of_ble_eq_true rfl) (fun _ H locs w5 hP hD hK hS => ?_)
  have hP : va_P D vwCl [(a5, .inl (csk, 144, .inl okF)), (a4, .inl (csg, 144, .inl (fun _ => 0))), (x, .inr (13, [.ref g, .ref ca, .int 0, .ref co, .int 0, .ref ra, .int 0, .ref rl, .ref tr, .ref f9, .ref f10, .ref f11, .ref f12, .ref f13])), (g, .inr (11, [.int 25, .ref a1, .ref a2, .ref a3, .ref a4, .ref a5, .ref a6, .ref a7, .ref a8, .ref a9, .ref a10, .ref a11, .int 0, .int 0]))] H := hP
  have hD : va_D A [(a5, .inl (csk, 144, .inl okF)), (a4, .inl (csg, 144, .inl (fun _ => 0))), (x, .inr (13, [.ref g, .ref ca, .int 0, .ref co, .int 0, .ref ra, .int 0, .ref rl, .ref tr, .ref f9, .ref f10, .ref f11, .ref f12, .ref f13])), (g, .inr (11, [.int 25, .ref a1, .ref a2, .ref a3, .ref a4, .ref a5, .ref a6, .ref a7, .ref a8, .ref a9, .ref a10, .ref a11, .int 0, .int 0]))] := hD
  have hK : va_K D vwCl [(csk, .char), (csg, .int)] s := hK
  have v2 := w5
  refine lv_aload_n hx hb dX6_show_16 rfl (lv_at hl 0 rfl) ?_
  refine va_get (D := D) (ci := 13) (v := .ref g) (C := RX6) (T := TX6) (N := 14) hx hb hts hb_3 hown hK hP 2 rfl rfl 0 (by decide) hw_8 (fun _ h9 => h9) rfl dX6_show_17 ?_
  refine va_get (D := D) (ci := 11) (v := .ref a4) (C := RX4) (T := TX4) (N := 14) hx hb hts hb_4 hown hK hP 3 rfl rfl 4 (by decide) hw_9 (fun _ h9 => h9) rfl dX6_show_20 ?_
  refine lv_iload_n hx hb dX6_show_23 rfl (lv_at hl 1 rfl) ?_
  refine va_iald hx hb hK hP 1 1 rfl rfl (vp_in_nI (n := k0) (by omega) (by decide)) dX6_show_24 ?_
  refine lv_topi (fun x7 e7 => ?_)
  obtain rfl : x7 = 0 := e7
  refine lv_istore (lv' := [(4, .int 0), (0, .ref x), (1, .int (nI k0)), (2, .int p1), (3, .int p2)]) hx hb dX6_show_25 hl (by decide) rfl (fun ls hl => ?_)
  refine lv_aload_n hx hb dX6_show_27 rfl (lv_at hl 1 rfl) ?_
  refine va_get (D := D) (ci := 13) (v := .ref g) (C := RX6) (T := TX6) (N := 14) hx hb hts hb_3 hown hK hP 2 rfl rfl 0 (by decide) hw_8 (fun _ h9 => h9) rfl dX6_show_28 ?_
  refine va_get (D := D) (ci := 11) (v := .ref a4) (C := RX4) (T := TX4) (N := 14) hx hb hts hb_4 hown hK hP 3 rfl rfl 4 (by decide) hw_9 (fun _ h9 => h9) rfl dX6_show_31 ?_
  refine lv_iload_n hx hb dX6_show_34 rfl (lv_at hl 2 rfl) ?_
  refine lv_iload_n hx hb dX6_show_35 rfl (lv_at hl 3 rfl) ?_
  refine va_iast hx hb hK hP hD hS 1 1 rfl rfl (vp_in_nI (n := k0) (by omega) (by decide)) dX6_show_36 (fun H locs hP hD hS => ?_)
  have hP : va_P D vwCl [(a5, .inl (csk, 144, .inl okF)), (a4, .inl (csg, 144, .inl (upd (fun _ => 0) ((nI k0).toNatClampNeg) p1))), (x, .inr (13, [.ref g, .ref ca, .int 0, .ref co, .int 0, .ref ra, .int 0, .ref rl, .ref tr, .ref f9, .ref f10, .ref f11, .ref f12, .ref f13])), (g, .inr (11, [.int 25, .ref a1, .ref a2, .ref a3, .ref a4, .ref a5, .ref a6, .ref a7, .ref a8, .ref a9, .ref a10, .ref a11, .int 0, .int 0]))] H := hP
  have hD : va_D A [(a5, .inl (csk, 144, .inl okF)), (a4, .inl (csg, 144, .inl (upd (fun _ => 0) ((nI k0).toNatClampNeg) p1))), (x, .inr (13, [.ref g, .ref ca, .int 0, .ref co, .int 0, .ref ra, .int 0, .ref rl, .ref tr, .ref f9, .ref f10, .ref f11, .ref f12, .ref f13])), (g, .inr (11, [.int 25, .ref a1, .ref a2, .ref a3, .ref a4, .ref a5, .ref a6, .ref a7, .ref a8, .ref a9, .ref a10, .ref a11, .int 0, .int 0]))] := hD
  refine lv_aload_n hx hb dX6_show_37 rfl (lv_at hl 1 rfl) ?_
  refine va_get (D := D) (ci := 13) (v := .ref g) (C := RX6) (T := TX6) (N := 14) hx hb hts hb_3 hown hK hP 2 rfl rfl 0 (by decide) hw_8 (fun _ h9 => h9) rfl dX6_show_38 ?_
  refine va_get (D := D) (ci := 11) (v := .ref a5) (C := RX4) (T := TX4) (N := 14) hx hb hts hb_4 hown hK hP 3 rfl rfl 5 (by decide) hw_10 (fun _ h9 => h9) rfl dX6_show_41 ?_
  refine lv_iload_n hx hb dX6_show_44 rfl (lv_at hl 2 rfl) ?_
  refine lv_iload_n hx hb dX6_show_45 rfl (lv_at hl 4 rfl) ?_
  refine va_cast hx hb hK hP hD hS 0 0 rfl rfl (vp_in_nI (n := k0) (by omega) (by decide)) dX6_show_46 (fun H locs hP hD hS => ?_)
  have hP : va_P D vwCl [(a5, .inl (csk, 144, .inl (upd okF ((nI k0).toNatClampNeg) (vp_nar .char p2)))), (a4, .inl (csg, 144, .inl (upd (fun _ => 0) ((nI k0).toNatClampNeg) p1))), (x, .inr (13, [.ref g, .ref ca, .int 0, .ref co, .int 0, .ref ra, .int 0, .ref rl, .ref tr, .ref f9, .ref f10, .ref f11, .ref f12, .ref f13])), (g, .inr (11, [.int 25, .ref a1, .ref a2, .ref a3, .ref a4, .ref a5, .ref a6, .ref a7, .ref a8, .ref a9, .ref a10, .ref a11, .int 0, .int 0]))] H := hP
  have hD : va_D A [(a5, .inl (csk, 144, .inl (upd okF ((nI k0).toNatClampNeg) (vp_nar .char p2)))), (a4, .inl (csg, 144, .inl (upd (fun _ => 0) ((nI k0).toNatClampNeg) p1))), (x, .inr (13, [.ref g, .ref ca, .int 0, .ref co, .int 0, .ref ra, .int 0, .ref rl, .ref tr, .ref f9, .ref f10, .ref f11, .ref f12, .ref f13])), (g, .inr (11, [.int 25, .ref a1, .ref a2, .ref a3, .ref a4, .ref a5, .ref a6, .ref a7, .ref a8, .ref a9, .ref a10, .ref a11, .int 0, .int 0]))] := hD
  refine lv_iload hx hb dX6_show_47 (lv_at hl 0 rfl) ?_
  exact vx_ret (mr_i hx hb hr () (⟨((if_pos v0).trans ((if_pos v1).trans (if_pos v2))), rfl⟩) (hP.sub [] rfl) (hK.sub [] rfl) (hD.sub [] (by decide) rfl) hS (Nat.le_of_ble_eq_true rfl) (Nat.le_of_ble_eq_true rfl) hlocks dX6_show_49)

def us_c_cost : List Cond := .code yX6_cost cX6_cost 4 (some .int) :: (([.methodLink RX6 91 yX6_needCell, .instanceMethod yX6_needCell, .selects RX6 yX6_needCell yX6_needCell, .initialized RX6, .fieldLink RX6 12 "ControlWood" "ground" "LControlWood$Terrain;", .methodLink RX6 119 yX4_bestCost, .instanceMethod yX4_bestCost, .selects RX4 yX4_bestCost yX4_bestCost, .initialized RX4, .methodLink RX6 123 yX6_needWay, .static yX6_needWay] : List Cond) ++ (us_c_needCell ++ (wsX60 ++ (us_c_bestCost ++ (us_c_needWay ++ ([]))))))
theorem gw_c_cost : ∀ w ∈ us_c_cost, goodWord w = true := gw_cons rfl (gw_app (by decide +kernel) (gw_app gw_c_needCell (gw_app gwf_X6 (gw_app gw_c_bestCost (gw_app gw_c_needWay (fun _ h => nomatch h))))))
set_option maxHeartbeats 4000000 in
set_option maxRecDepth 100000 in
/-- cost -/
theorem c_cost (l : Launch) (hst : l.stackTraces = false) (D : va_G) (x : Nat) (g : Nat) (ca : Nat) (co : Nat) (ra : Nat) (rl : Nat) (tr : Nat) (f9 : Nat) (f10 : Nat) (f11 : Nat) (f12 : Nat) (f13 : Nat) (a1 : Nat) (a2 : Nat) (a3 : Nat) (a4 : Nat) (a5 : Nat) (a6 : Nat) (a7 : Nat) (a8 : Nat) (a9 : Nat) (a10 : Nat) (a11 : Nat) (ck : ClassId) (csk : ClassId) (cg : ClassId) (ch : ClassId) (csg : ClassId) (cw : ClassId) (cq : ClassId) (cz : ClassId) (cb : ClassId) (p0 : Int32) (p1 : Int32) (p2 : Int32) (sz : Nat) : vx_Met l yX6_cost us_c_cost { frames := 8, cells := 2, slots := 12, locals := 124 } (pw D [.ref x, .int p0, .int p1, .int p2] [(ck, .char), (csk, .char), (cg, .int), (ch, .int), (csg, .int), (cw, .int), (cq, .int), (cz, .boolean), (cb, .int)] [(x, .inr (13, [.ref g, .ref ca, .int 0, .ref co, .int 0, .ref ra, .int 0, .ref rl, .ref tr, .ref f9, .ref f10, .ref f11, .ref f12, .ref f13])), (g, .inr (11, [.int 25, .ref a1, .ref a2, .ref a3, .ref a4, .ref a5, .ref a6, .ref a7, .ref a8, .ref a9, .ref a10, .ref a11, .int 0, .int 0])), (a6, .inl (cw, 144, .inl (fL zL))), (a10, .inl (cq, 144, .inl (fL zL))), (a11, .inl (cz, 144, .inl (fL zL))), (a3, .inl (ck, 144, .inl okF)), (a5, .inl (csk, 144, .inl okF)), (a1, .inl (cg, 144, .inl (fun _ => 0))), (a2, .inl (ch, 144, .inl (fun _ => 0))), (a4, .inl (csg, 144, .inl (fun _ => 0))), (a9, .inl (cb, 576, .inl beF))] sz) (va_Qi (fun (r : Int32) (_ : Unit) => kf_cost p0 p1 p2 = 0 ∧ r = rf_cost p0 p1 p2) (qb D (va_A [(x, .inr (13, [.ref g, .ref ca, .int 0, .ref co, .int 0, .ref ra, .int 0, .ref rl, .ref tr, .ref f9, .ref f10, .ref f11, .ref f12, .ref f13])), (g, .inr (11, [.int 25, .ref a1, .ref a2, .ref a3, .ref a4, .ref a5, .ref a6, .ref a7, .ref a8, .ref a9, .ref a10, .ref a11, .int 0, .int 0])), (a6, .inl (cw, 144, .inl (fL zL))), (a10, .inl (cq, 144, .inl (fL zL))), (a11, .inl (cz, 144, .inl (fL zL))), (a3, .inl (ck, 144, .inl okF)), (a5, .inl (csk, 144, .inl okF)), (a1, .inl (cg, 144, .inl (fun _ => 0))), (a2, .inl (ch, 144, .inl (fun _ => 0))), (a4, .inl (csg, 144, .inl (fun _ => 0))), (a9, .inl (cb, 576, .inl beF))] sz) (fun _ : Unit => []) (fun _ : Unit => ([] : List (ClassId × FieldType)))) (va_A [(x, .inr (13, [.ref g, .ref ca, .int 0, .ref co, .int 0, .ref ra, .int 0, .ref rl, .ref tr, .ref f9, .ref f10, .ref f11, .ref f12, .ref f13])), (g, .inr (11, [.int 25, .ref a1, .ref a2, .ref a3, .ref a4, .ref a5, .ref a6, .ref a7, .ref a8, .ref a9, .ref a10, .ref a11, .int 0, .int 0])), (a6, .inl (cw, 144, .inl (fL zL))), (a10, .inl (cq, 144, .inl (fL zL))), (a11, .inl (cz, 144, .inl (fL zL))), (a3, .inl (ck, 144, .inl okF)), (a5, .inl (csk, 144, .inl okF)), (a1, .inl (cg, 144, .inl (fun _ => 0))), (a2, .inl (ch, 144, .inl (fun _ => 0))), (a4, .inl (csg, 144, .inl (fun _ => 0))), (a9, .inl (cb, 576, .inl beF))] sz)) (vx_X (fun E => (E = "java/lang/IndexOutOfBoundsException" ∧ kf_cost p0 p1 p2 = 1)) xb (va_A [(x, .inr (13, [.ref g, .ref ca, .int 0, .ref co, .int 0, .ref ra, .int 0, .ref rl, .ref tr, .ref f9, .ref f10, .ref f11, .ref f12, .ref f13])), (g, .inr (11, [.int 25, .ref a1, .ref a2, .ref a3, .ref a4, .ref a5, .ref a6, .ref a7, .ref a8, .ref a9, .ref a10, .ref a11, .int 0, .int 0])), (a6, .inl (cw, 144, .inl (fL zL))), (a10, .inl (cq, 144, .inl (fL zL))), (a11, .inl (cz, 144, .inl (fL zL))), (a3, .inl (ck, 144, .inl okF)), (a5, .inl (csk, 144, .inl okF)), (a1, .inl (cg, 144, .inl (fun _ => 0))), (a2, .inl (ch, 144, .inl (fun _ => 0))), (a4, .inl (csg, 144, .inl (fun _ => 0))), (a9, .inl (cb, 576, .inl beF))] sz)) 2 12 (va_A [(x, .inr (13, [.ref g, .ref ca, .int 0, .ref co, .int 0, .ref ra, .int 0, .ref rl, .ref tr, .ref f9, .ref f10, .ref f11, .ref f12, .ref f13])), (g, .inr (11, [.int 25, .ref a1, .ref a2, .ref a3, .ref a4, .ref a5, .ref a6, .ref a7, .ref a8, .ref a9, .ref a10, .ref a11, .int 0, .int 0])), (a6, .inl (cw, 144, .inl (fL zL))), (a10, .inl (cq, 144, .inl (fL zL))), (a11, .inl (cz, 144, .inl (fL zL))), (a3, .inl (ck, 144, .inl okF)), (a5, .inl (csk, 144, .inl okF)), (a1, .inl (cg, 144, .inl (fun _ => 0))), (a2, .inl (ch, 144, .inl (fun _ => 0))), (a4, .inl (csg, 144, .inl (fun _ => 0))), (a9, .inl (cb, 576, .inl beF))] sz) := by
  refine op_X (Qc := fun A => (va_Qi (fun (r : Int32) (_ : Unit) => kf_cost p0 p1 p2 = 0 ∧ r = rf_cost p0 p1 p2) (qb D A (fun _ : Unit => []) (fun _ : Unit => ([] : List (ClassId × FieldType)))) A)) (px := (fun E => (E = "java/lang/IndexOutOfBoundsException" ∧ kf_cost p0 p1 p2 = 1))) (by decide +kernel) rfl (Nat.le_of_ble_eq_true rfl) ?_
  intro p e s m args below meth c A ls hx hb hr hml hts hown hlocks hmn htab hA hD hS hP hK hE hsz hl
  have hown : s.vm.findClass RX6 = some m.cls := hown
  have hl : lv_has ls 4 [(0, .ref x), (1, .int p0), (2, .int p1), (3, .int p2)] := hl
  have hw_0 := hts (.methodLink RX6 91 yX6_needCell) (List.mem_cons_of_mem _ (List.mem_append_left _ (List.mem_of_getElem? (i := 0) rfl)))
  have hw_1 := hts (.instanceMethod yX6_needCell) (List.mem_cons_of_mem _ (List.mem_append_left _ (List.mem_of_getElem? (i := 1) rfl)))
  have hw_2 := hts (.selects RX6 yX6_needCell yX6_needCell) (List.mem_cons_of_mem _ (List.mem_append_left _ (List.mem_of_getElem? (i := 2) rfl)))
  have hw_3 := hts (.initialized RX6) (List.mem_cons_of_mem _ (List.mem_append_left _ (List.mem_of_getElem? (i := 3) rfl)))
  have hw_4 := hts (.fieldLink RX6 12 "ControlWood" "ground" "LControlWood$Terrain;") (List.mem_cons_of_mem _ (List.mem_append_left _ (List.mem_of_getElem? (i := 4) rfl)))
  have hw_5 := hts (.methodLink RX6 119 yX4_bestCost) (List.mem_cons_of_mem _ (List.mem_append_left _ (List.mem_of_getElem? (i := 5) rfl)))
  have hw_6 := hts (.instanceMethod yX4_bestCost) (List.mem_cons_of_mem _ (List.mem_append_left _ (List.mem_of_getElem? (i := 6) rfl)))
  have hw_7 := hts (.selects RX4 yX4_bestCost yX4_bestCost) (List.mem_cons_of_mem _ (List.mem_append_left _ (List.mem_of_getElem? (i := 7) rfl)))
  have hw_8 := hts (.initialized RX4) (List.mem_cons_of_mem _ (List.mem_append_left _ (List.mem_of_getElem? (i := 8) rfl)))
  have hw_9 := hts (.methodLink RX6 123 yX6_needWay) (List.mem_cons_of_mem _ (List.mem_append_left _ (List.mem_of_getElem? (i := 9) rfl)))
  have hw_10 := hts (.static yX6_needWay) (List.mem_cons_of_mem _ (List.mem_append_left _ (List.mem_of_getElem? (i := 10) rfl)))
  have hb_0 : ∀ w ∈ us_c_needCell, w ∈ us_c_cost := fun w h => List.mem_cons_of_mem _ (List.mem_append_right _ (List.mem_append_left _ h))
  have hb_1 : ∀ w ∈ wsX60, w ∈ us_c_cost := fun w h => List.mem_cons_of_mem _ (List.mem_append_right _ (List.mem_append_right _ (List.mem_append_left _ h)))
  have hb_2 : ∀ w ∈ us_c_bestCost, w ∈ us_c_cost := fun w h => List.mem_cons_of_mem _ (List.mem_append_right _ (List.mem_append_right _ (List.mem_append_right _ (List.mem_append_left _ h))))
  have hb_3 : ∀ w ∈ us_c_needWay, w ∈ us_c_cost := fun w h => List.mem_cons_of_mem _ (List.mem_append_right _ (List.mem_append_right _ (List.mem_append_right _ (List.mem_append_right _ (List.mem_append_left _ h)))))
  refine lv_aload_n hx hb dX6_cost_0 rfl (lv_at hl 0 rfl) ?_
  refine lv_iload_n hx hb dX6_cost_1 rfl (lv_at hl 1 rfl) ?_
  refine mx_v (wr := [(a6, .inl (cw, 144, .inl (fL zL))), (a10, .inl (cq, 144, .inl (fL zL))), (a11, .inl (cz, 144, .inl (fL zL))), (a3, .inl (ck, 144, .inl okF)), (a5, .inl (csk, 144, .inl okF)), (a1, .inl (cg, 144, .inl (fun _ => 0))), (a2, .inl (ch, 144, .inl (fun _ => 0))), (a4, .inl (csg, 144, .inl (fun _ => 0))), (a9, .inl (cb, 576, .inl beF))]) (vx_runV (As := [.int p0]) (rest := []) ⟨hx, hb, hml, hown, hts⟩ (c_needCell l hst D x g ca co ra rl tr f9 f10 f11 f12 f13 25 a1 a2 a3 a4 a5 a6 a7 a8 a9 a10 a11 0 0 p0 s.heap.size) (cwV 1 hts (gi_c (List.mem_cons_of_mem _ (List.mem_append_left _ (List.mem_of_getElem? (i := 0) rfl))) rfl (gi_c (List.mem_cons_of_mem _ (List.mem_append_left _ (List.mem_of_getElem? (i := 1) rfl))) rfl (gi_c (List.mem_cons_of_mem _ (List.mem_append_left _ (List.mem_of_getElem? (i := 2) rfl))) rfl (gi_c (List.mem_cons_of_mem _ (List.mem_append_left _ (List.mem_of_getElem? (i := 3) rfl))) rfl (goodIn_sub hb_0 (List.all_eq_true.mpr gw_c_needCell)))))) rfl rfl rfl (by decide +kernel) ⟨Nat.le_of_ble_eq_true rfl, Nat.le_of_ble_eq_true rfl⟩) (pr_V (As := [.int p0]) (b := x) (C := RX6) hP hD hK hS hA hE [0, 1] [] rfl rfl rfl 0 13 rfl rfl rfl) rfl rfl hl.1 rfl (lv_room (Nat.le_of_ble_eq_true rfl)) dX6_cost_2 ⟨Nat.le_of_ble_eq_true rfl, Nat.le_of_ble_eq_true rfl⟩) hP hD hK hS hA [0, 1] [2, 3, 4, 5, 6, 7, 8, 9, 10] rfl rfl (by decide) (by decide) htab hlocks (fun E h => ⟨h.1, (if_neg h.2)⟩) (Nat.le_of_ble_eq_true rfl) (Nat.le_of_ble_eq_true rfl) (fun _ H locs w1 hP hD hK hS => ?_)
  have hP : va_P D vwCl [(a6, .inl (cw, 144, .inl (fL zL))), (a10, .inl (cq, 144, .inl (fL zL))), (a11, .inl (cz, 144, .inl (fL zL))), (a3, .inl (ck, 144, .inl okF)), (a5, .inl (csk, 144, .inl okF)), (a1, .inl (cg, 144, .inl (fun _ => 0))), (a2, .inl (ch, 144, .inl (fun _ => 0))), (a4, .inl (csg, 144, .inl (fun _ => 0))), (a9, .inl (cb, 576, .inl beF)), (x, .inr (13, [.ref g, .ref ca, .int 0, .ref co, .int 0, .ref ra, .int 0, .ref rl, .ref tr, .ref f9, .ref f10, .ref f11, .ref f12, .ref f13])), (g, .inr (11, [.int 25, .ref a1, .ref a2, .ref a3, .ref a4, .ref a5, .ref a6, .ref a7, .ref a8, .ref a9, .ref a10, .ref a11, .int 0, .int 0]))] H := hP
  have hD : va_D A [(a6, .inl (cw, 144, .inl (fL zL))), (a10, .inl (cq, 144, .inl (fL zL))), (a11, .inl (cz, 144, .inl (fL zL))), (a3, .inl (ck, 144, .inl okF)), (a5, .inl (csk, 144, .inl okF)), (a1, .inl (cg, 144, .inl (fun _ => 0))), (a2, .inl (ch, 144, .inl (fun _ => 0))), (a4, .inl (csg, 144, .inl (fun _ => 0))), (a9, .inl (cb, 576, .inl beF)), (x, .inr (13, [.ref g, .ref ca, .int 0, .ref co, .int 0, .ref ra, .int 0, .ref rl, .ref tr, .ref f9, .ref f10, .ref f11, .ref f12, .ref f13])), (g, .inr (11, [.int 25, .ref a1, .ref a2, .ref a3, .ref a4, .ref a5, .ref a6, .ref a7, .ref a8, .ref a9, .ref a10, .ref a11, .int 0, .int 0]))] := hD
  have hK : va_K D vwCl [(ck, .char), (csk, .char), (cg, .int), (ch, .int), (csg, .int), (cw, .int), (cq, .int), (cz, .boolean), (cb, .int)] s := hK
  have v0 := w1
  obtain ⟨k0, hk0, rfl⟩ := inI_nI v0
  refine lv_aload_n hx hb dX6_cost_5 rfl (lv_at hl 0 rfl) ?_
  refine lv_iload_n hx hb dX6_cost_6 rfl (lv_at hl 2 rfl) ?_
  refine mx_v (wr := [(a6, .inl (cw, 144, .inl (fL zL))), (a10, .inl (cq, 144, .inl (fL zL))), (a11, .inl (cz, 144, .inl (fL zL))), (a3, .inl (ck, 144, .inl okF)), (a5, .inl (csk, 144, .inl okF)), (a1, .inl (cg, 144, .inl (fun _ => 0))), (a2, .inl (ch, 144, .inl (fun _ => 0))), (a4, .inl (csg, 144, .inl (fun _ => 0))), (a9, .inl (cb, 576, .inl beF))]) (vx_runV (As := [.int p1]) (rest := []) ⟨hx, hb, hml, hown, hts⟩ (c_needCell l hst D x g ca co ra rl tr f9 f10 f11 f12 f13 25 a1 a2 a3 a4 a5 a6 a7 a8 a9 a10 a11 0 0 p1 H.size) (cwV 1 hts (gi_c (List.mem_cons_of_mem _ (List.mem_append_left _ (List.mem_of_getElem? (i := 0) rfl))) rfl (gi_c (List.mem_cons_of_mem _ (List.mem_append_left _ (List.mem_of_getElem? (i := 1) rfl))) rfl (gi_c (List.mem_cons_of_mem _ (List.mem_append_left _ (List.mem_of_getElem? (i := 2) rfl))) rfl (gi_c (List.mem_cons_of_mem _ (List.mem_append_left _ (List.mem_of_getElem? (i := 3) rfl))) rfl (goodIn_sub hb_0 (List.all_eq_true.mpr gw_c_needCell)))))) rfl rfl rfl (by decide +kernel) ⟨Nat.le_of_ble_eq_true rfl, Nat.le_of_ble_eq_true rfl⟩) (pr_V (As := [.int p1]) (b := x) (C := RX6) hP hD hK hS hA hE [9, 10] [] rfl rfl rfl 9 13 rfl rfl rfl) rfl rfl hl.1 rfl (lv_room (Nat.le_of_ble_eq_true rfl)) dX6_cost_7 ⟨Nat.le_of_ble_eq_true rfl, Nat.le_of_ble_eq_true rfl⟩) hP hD hK hS hA [9, 10] [0, 1, 2, 3, 4, 5, 6, 7, 8] rfl rfl (by decide) (by decide) htab hlocks (fun E h => ⟨h.1, ((if_pos v0).trans (if_neg h.2))⟩) (Nat.le_of_ble_eq_true rfl) (Nat.le_of_ble_eq_true rfl) (fun _ H locs w3 hP hD hK hS => ?_)
  have hP : va_P D vwCl [(a6, .inl (cw, 144, .inl (fL zL))), (a10, .inl (cq, 144, .inl (fL zL))), (a11, .inl (cz, 144, .inl (fL zL))), (a3, .inl (ck, 144, .inl okF)), (a5, .inl (csk, 144, .inl okF)), (a1, .inl (cg, 144, .inl (fun _ => 0))), (a2, .inl (ch, 144, .inl (fun _ => 0))), (a4, .inl (csg, 144, .inl (fun _ => 0))), (a9, .inl (cb, 576, .inl beF)), (x, .inr (13, [.ref g, .ref ca, .int 0, .ref co, .int 0, .ref ra, .int 0, .ref rl, .ref tr, .ref f9, .ref f10, .ref f11, .ref f12, .ref f13])), (g, .inr (11, [.int 25, .ref a1, .ref a2, .ref a3, .ref a4, .ref a5, .ref a6, .ref a7, .ref a8, .ref a9, .ref a10, .ref a11, .int 0, .int 0]))] H := hP
  have hD : va_D A [(a6, .inl (cw, 144, .inl (fL zL))), (a10, .inl (cq, 144, .inl (fL zL))), (a11, .inl (cz, 144, .inl (fL zL))), (a3, .inl (ck, 144, .inl okF)), (a5, .inl (csk, 144, .inl okF)), (a1, .inl (cg, 144, .inl (fun _ => 0))), (a2, .inl (ch, 144, .inl (fun _ => 0))), (a4, .inl (csg, 144, .inl (fun _ => 0))), (a9, .inl (cb, 576, .inl beF)), (x, .inr (13, [.ref g, .ref ca, .int 0, .ref co, .int 0, .ref ra, .int 0, .ref rl, .ref tr, .ref f9, .ref f10, .ref f11, .ref f12, .ref f13])), (g, .inr (11, [.int 25, .ref a1, .ref a2, .ref a3, .ref a4, .ref a5, .ref a6, .ref a7, .ref a8, .ref a9, .ref a10, .ref a11, .int 0, .int 0]))] := hD
  have hK : va_K D vwCl [(ck, .char), (csk, .char), (cg, .int), (ch, .int), (csg, .int), (cw, .int), (cq, .int), (cz, .boolean), (cb, .int)] s := hK
  have v1 := w3
  obtain ⟨k1, hk1, rfl⟩ := inI_nI v1
  refine lv_aload_n hx hb dX6_cost_10 rfl (lv_at hl 0 rfl) ?_
  refine va_get (D := D) (ci := 13) (v := .ref g) (C := RX6) (T := TX6) (N := 14) hx hb hts hb_1 hown hK hP 9 rfl rfl 0 (by decide) hw_4 (fun _ h9 => h9) rfl dX6_cost_11 ?_
  refine lv_iload_n hx hb dX6_cost_14 rfl (lv_at hl 1 rfl) ?_
  refine lv_iload_n hx hb dX6_cost_15 rfl (lv_at hl 2 rfl) ?_
  refine lv_iload_n hx hb dX6_cost_16 rfl (lv_at hl 3 rfl) ?_
  refine mc_i (wr := [(x, .inr (13, [.ref g, .ref ca, .int 0, .ref co, .int 0, .ref ra, .int 0, .ref rl, .ref tr, .ref f9, .ref f10, .ref f11, .ref f12, .ref f13]))]) (va_runV (As := [.int (nI k0), .int (nI k1), .int p2]) (rest := []) ⟨hx, hb, hml, hown, hts⟩ (c_bestCost l hst D g a1 a2 a3 a4 a5 a6 a7 a8 a9 a10 a11 25 0 0 cw cq cz ck csk cg ch csg cb zL zL zL k0 k1 p2 H.size (by exact List.length_replicate) (okQ_0) (by omega) (by omega)) (cwV 3 hts (gi_c (List.mem_cons_of_mem _ (List.mem_append_left _ (List.mem_of_getElem? (i := 5) rfl))) rfl (gi_c (List.mem_cons_of_mem _ (List.mem_append_left _ (List.mem_of_getElem? (i := 6) rfl))) rfl (gi_c (List.mem_cons_of_mem _ (List.mem_append_left _ (List.mem_of_getElem? (i := 7) rfl))) rfl (gi_c (List.mem_cons_of_mem _ (List.mem_append_left _ (List.mem_of_getElem? (i := 8) rfl))) rfl (goodIn_sub hb_2 (List.all_eq_true.mpr gw_c_bestCost)))))) rfl rfl rfl (by decide +kernel) ⟨Nat.le_of_ble_eq_true rfl, Nat.le_of_ble_eq_true rfl⟩) (pr_V (As := [.int (nI k0), .int (nI k1), .int p2]) (b := g) (C := RX4) hP hD hK hS hA hE [10, 0, 1, 2, 3, 4, 5, 6, 7, 8] [5, 6, 7, 0, 1, 2, 3, 4, 8] rfl rfl rfl 10 11 rfl rfl rfl) rfl rfl hl.1 rfl (lv_room (Nat.le_of_ble_eq_true rfl)) dX6_cost_17 ⟨Nat.le_of_ble_eq_true rfl, Nat.le_of_ble_eq_true rfl⟩) hP hD hK hS hA [10, 0, 1, 2, 3, 4, 5, 6, 7, 8] [9] rfl rfl (by decide) (by decide) (fun r6 _ H locs w5 hP hD hK hS => ?_)
  have hP : va_P D vwCl [(x, .inr (13, [.ref g, .ref ca, .int 0, .ref co, .int 0, .ref ra, .int 0, .ref rl, .ref tr, .ref f9, .ref f10, .ref f11, .ref f12, .ref f13]))] H := hP
  have hD : va_D A [(x, .inr (13, [.ref g, .ref ca, .int 0, .ref co, .int 0, .ref ra, .int 0, .ref rl, .ref tr, .ref f9, .ref f10, .ref f11, .ref f12, .ref f13]))] := hD
  have hK : va_K D vwCl [(ck, .char), (csk, .char), (cg, .int), (ch, .int), (csg, .int), (cw, .int), (cq, .int), (cz, .boolean), (cb, .int)] s := hK
  have hd0 := dis_le k0 (by omega) k1 (by omega)
  have hr9 : r6 = nI (dis k0 k1) := by rw [w5, go_all k0 (by omega), wayL_at k0 k1 (by omega)]
  obtain rfl := hr9
  refine mc_i (wr := [(x, .inr (13, [.ref g, .ref ca, .int 0, .ref co, .int 0, .ref ra, .int 0, .ref rl, .ref tr, .ref f9, .ref f10, .ref f11, .ref f12, .ref f13]))]) (va_runS (As := [.int (nI (dis k0 k1))]) (rest := []) ⟨hx, hb, hml, hown, hts⟩ (c_needWay l hst D (nI (dis k0 k1)) H.size ((nI_ltI (a := dis k0 k1) (b := 1000000) (by omega) (by decide)).mpr (by omega))) (va_cwS 1 hts (gi_c (List.mem_cons_of_mem _ (List.mem_append_left _ (List.mem_of_getElem? (i := 9) rfl))) rfl (gi_c (List.mem_cons_of_mem _ (List.mem_append_left _ (List.mem_of_getElem? (i := 10) rfl))) rfl (gi_c (List.mem_cons_of_mem _ (List.mem_append_left _ (List.mem_of_getElem? (i := 3) rfl))) rfl (goodIn_sub hb_3 (List.all_eq_true.mpr gw_c_needWay))))) rfl rfl rfl (by decide +kernel) ⟨Nat.le_of_ble_eq_true rfl, Nat.le_of_ble_eq_true rfl⟩) (pr_S (As := [.int (nI (dis k0 k1))]) hP hD hK hS hA hE [] [] rfl rfl rfl) rfl rfl hl.1 rfl (lv_room (Nat.le_of_ble_eq_true rfl)) dX6_cost_20 ⟨Nat.le_of_ble_eq_true rfl, Nat.le_of_ble_eq_true rfl⟩) hP hD hK hS hA [] [0] rfl rfl (by decide) (by decide) (fun r8 _ H locs w7 hP hD hK hS => ?_)
  have hP : va_P D vwCl [(x, .inr (13, [.ref g, .ref ca, .int 0, .ref co, .int 0, .ref ra, .int 0, .ref rl, .ref tr, .ref f9, .ref f10, .ref f11, .ref f12, .ref f13]))] H := hP
  have hD : va_D A [(x, .inr (13, [.ref g, .ref ca, .int 0, .ref co, .int 0, .ref ra, .int 0, .ref rl, .ref tr, .ref f9, .ref f10, .ref f11, .ref f12, .ref f13]))] := hD
  have hK : va_K D vwCl [(ck, .char), (csk, .char), (cg, .int), (ch, .int), (csg, .int), (cw, .int), (cq, .int), (cz, .boolean), (cb, .int)] s := hK
  obtain rfl : r8 = (nI (dis k0 k1)) := w7
  exact vx_ret (mr_i hx hb hr () (⟨((if_pos v0).trans (if_pos v1)), by show nI (dis k0 k1) = nI (dis (nI k0).toNatClampNeg (nI k1).toNatClampNeg); rw [nI_clamp (by omega), nI_clamp (by omega)]⟩) (hP.sub [] rfl) (hK.sub [] rfl) (hD.sub [] (by decide) rfl) hS (Nat.le_of_ble_eq_true rfl) (Nat.le_of_ble_eq_true rfl) hlocks dX6_cost_23)

def us_c_misled : List Cond := .code yX6_misled cX6_misled 3 (some .int) :: (([.methodLink RX6 91 yX6_needCell, .instanceMethod yX6_needCell, .selects RX6 yX6_needCell yX6_needCell, .initialized RX6, .fieldLink RX6 12 "ControlWood" "ground" "LControlWood$Terrain;", .methodLink RX6 127 yX4_costOfMapWay, .instanceMethod yX4_costOfMapWay, .selects RX4 yX4_costOfMapWay yX4_costOfMapWay, .initialized RX4, .methodLink RX6 123 yX6_needWay, .static yX6_needWay] : List Cond) ++ (us_c_needCell ++ (wsX60 ++ (us_c_costOfMapWay ++ (us_c_needWay ++ ([]))))))
theorem gw_c_misled : ∀ w ∈ us_c_misled, goodWord w = true := gw_cons rfl (gw_app (by decide +kernel) (gw_app gw_c_needCell (gw_app gwf_X6 (gw_app gw_c_costOfMapWay (gw_app gw_c_needWay (fun _ h => nomatch h))))))
set_option maxHeartbeats 4000000 in
set_option maxRecDepth 100000 in
/-- misled -/
theorem c_misled (l : Launch) (hst : l.stackTraces = false) (D : va_G) (x : Nat) (g : Nat) (ca : Nat) (co : Nat) (ra : Nat) (rl : Nat) (tr : Nat) (f9 : Nat) (f10 : Nat) (f11 : Nat) (f12 : Nat) (f13 : Nat) (a1 : Nat) (a2 : Nat) (a3 : Nat) (a4 : Nat) (a5 : Nat) (a6 : Nat) (a7 : Nat) (a8 : Nat) (a9 : Nat) (a10 : Nat) (a11 : Nat) (ck : ClassId) (csk : ClassId) (cg : ClassId) (ch : ClassId) (csg : ClassId) (cw : ClassId) (cq : ClassId) (cz : ClassId) (cb : ClassId) (p0 : Int32) (p1 : Int32) (sz : Nat) : vx_Met l yX6_misled us_c_misled { frames := 8, cells := 2, slots := 12, locals := 124 } (pw D [.ref x, .int p0, .int p1] [(ck, .char), (csk, .char), (cg, .int), (ch, .int), (csg, .int), (cw, .int), (cq, .int), (cz, .boolean), (cb, .int)] [(x, .inr (13, [.ref g, .ref ca, .int 0, .ref co, .int 0, .ref ra, .int 0, .ref rl, .ref tr, .ref f9, .ref f10, .ref f11, .ref f12, .ref f13])), (g, .inr (11, [.int 25, .ref a1, .ref a2, .ref a3, .ref a4, .ref a5, .ref a6, .ref a7, .ref a8, .ref a9, .ref a10, .ref a11, .int 0, .int 0])), (a6, .inl (cw, 144, .inl (fL zL))), (a10, .inl (cq, 144, .inl (fL zL))), (a11, .inl (cz, 144, .inl (fL zL))), (a3, .inl (ck, 144, .inl okF)), (a5, .inl (csk, 144, .inl okF)), (a1, .inl (cg, 144, .inl (fun _ => 0))), (a2, .inl (ch, 144, .inl (fun _ => 0))), (a4, .inl (csg, 144, .inl (fun _ => 0))), (a9, .inl (cb, 576, .inl beF))] sz) (va_Qi (fun (r : Int32) (_ : Unit) => kf_misled p0 p1 = 0 ∧ r = rf_misled p0 p1) (qb D (va_A [(x, .inr (13, [.ref g, .ref ca, .int 0, .ref co, .int 0, .ref ra, .int 0, .ref rl, .ref tr, .ref f9, .ref f10, .ref f11, .ref f12, .ref f13])), (g, .inr (11, [.int 25, .ref a1, .ref a2, .ref a3, .ref a4, .ref a5, .ref a6, .ref a7, .ref a8, .ref a9, .ref a10, .ref a11, .int 0, .int 0])), (a6, .inl (cw, 144, .inl (fL zL))), (a10, .inl (cq, 144, .inl (fL zL))), (a11, .inl (cz, 144, .inl (fL zL))), (a3, .inl (ck, 144, .inl okF)), (a5, .inl (csk, 144, .inl okF)), (a1, .inl (cg, 144, .inl (fun _ => 0))), (a2, .inl (ch, 144, .inl (fun _ => 0))), (a4, .inl (csg, 144, .inl (fun _ => 0))), (a9, .inl (cb, 576, .inl beF))] sz) (fun _ : Unit => []) (fun _ : Unit => ([] : List (ClassId × FieldType)))) (va_A [(x, .inr (13, [.ref g, .ref ca, .int 0, .ref co, .int 0, .ref ra, .int 0, .ref rl, .ref tr, .ref f9, .ref f10, .ref f11, .ref f12, .ref f13])), (g, .inr (11, [.int 25, .ref a1, .ref a2, .ref a3, .ref a4, .ref a5, .ref a6, .ref a7, .ref a8, .ref a9, .ref a10, .ref a11, .int 0, .int 0])), (a6, .inl (cw, 144, .inl (fL zL))), (a10, .inl (cq, 144, .inl (fL zL))), (a11, .inl (cz, 144, .inl (fL zL))), (a3, .inl (ck, 144, .inl okF)), (a5, .inl (csk, 144, .inl okF)), (a1, .inl (cg, 144, .inl (fun _ => 0))), (a2, .inl (ch, 144, .inl (fun _ => 0))), (a4, .inl (csg, 144, .inl (fun _ => 0))), (a9, .inl (cb, 576, .inl beF))] sz)) (vx_X (fun E => (E = "java/lang/IndexOutOfBoundsException" ∧ kf_misled p0 p1 = 1)) xb (va_A [(x, .inr (13, [.ref g, .ref ca, .int 0, .ref co, .int 0, .ref ra, .int 0, .ref rl, .ref tr, .ref f9, .ref f10, .ref f11, .ref f12, .ref f13])), (g, .inr (11, [.int 25, .ref a1, .ref a2, .ref a3, .ref a4, .ref a5, .ref a6, .ref a7, .ref a8, .ref a9, .ref a10, .ref a11, .int 0, .int 0])), (a6, .inl (cw, 144, .inl (fL zL))), (a10, .inl (cq, 144, .inl (fL zL))), (a11, .inl (cz, 144, .inl (fL zL))), (a3, .inl (ck, 144, .inl okF)), (a5, .inl (csk, 144, .inl okF)), (a1, .inl (cg, 144, .inl (fun _ => 0))), (a2, .inl (ch, 144, .inl (fun _ => 0))), (a4, .inl (csg, 144, .inl (fun _ => 0))), (a9, .inl (cb, 576, .inl beF))] sz)) 2 12 (va_A [(x, .inr (13, [.ref g, .ref ca, .int 0, .ref co, .int 0, .ref ra, .int 0, .ref rl, .ref tr, .ref f9, .ref f10, .ref f11, .ref f12, .ref f13])), (g, .inr (11, [.int 25, .ref a1, .ref a2, .ref a3, .ref a4, .ref a5, .ref a6, .ref a7, .ref a8, .ref a9, .ref a10, .ref a11, .int 0, .int 0])), (a6, .inl (cw, 144, .inl (fL zL))), (a10, .inl (cq, 144, .inl (fL zL))), (a11, .inl (cz, 144, .inl (fL zL))), (a3, .inl (ck, 144, .inl okF)), (a5, .inl (csk, 144, .inl okF)), (a1, .inl (cg, 144, .inl (fun _ => 0))), (a2, .inl (ch, 144, .inl (fun _ => 0))), (a4, .inl (csg, 144, .inl (fun _ => 0))), (a9, .inl (cb, 576, .inl beF))] sz) := by
  refine op_X (Qc := fun A => (va_Qi (fun (r : Int32) (_ : Unit) => kf_misled p0 p1 = 0 ∧ r = rf_misled p0 p1) (qb D A (fun _ : Unit => []) (fun _ : Unit => ([] : List (ClassId × FieldType)))) A)) (px := (fun E => (E = "java/lang/IndexOutOfBoundsException" ∧ kf_misled p0 p1 = 1))) (by decide +kernel) rfl (Nat.le_of_ble_eq_true rfl) ?_
  intro p e s m args below meth c A ls hx hb hr hml hts hown hlocks hmn htab hA hD hS hP hK hE hsz hl
  have hown : s.vm.findClass RX6 = some m.cls := hown
  have hl : lv_has ls 3 [(0, .ref x), (1, .int p0), (2, .int p1)] := hl
  have hw_0 := hts (.methodLink RX6 91 yX6_needCell) (List.mem_cons_of_mem _ (List.mem_append_left _ (List.mem_of_getElem? (i := 0) rfl)))
  have hw_1 := hts (.instanceMethod yX6_needCell) (List.mem_cons_of_mem _ (List.mem_append_left _ (List.mem_of_getElem? (i := 1) rfl)))
  have hw_2 := hts (.selects RX6 yX6_needCell yX6_needCell) (List.mem_cons_of_mem _ (List.mem_append_left _ (List.mem_of_getElem? (i := 2) rfl)))
  have hw_3 := hts (.initialized RX6) (List.mem_cons_of_mem _ (List.mem_append_left _ (List.mem_of_getElem? (i := 3) rfl)))
  have hw_4 := hts (.fieldLink RX6 12 "ControlWood" "ground" "LControlWood$Terrain;") (List.mem_cons_of_mem _ (List.mem_append_left _ (List.mem_of_getElem? (i := 4) rfl)))
  have hw_5 := hts (.methodLink RX6 127 yX4_costOfMapWay) (List.mem_cons_of_mem _ (List.mem_append_left _ (List.mem_of_getElem? (i := 5) rfl)))
  have hw_6 := hts (.instanceMethod yX4_costOfMapWay) (List.mem_cons_of_mem _ (List.mem_append_left _ (List.mem_of_getElem? (i := 6) rfl)))
  have hw_7 := hts (.selects RX4 yX4_costOfMapWay yX4_costOfMapWay) (List.mem_cons_of_mem _ (List.mem_append_left _ (List.mem_of_getElem? (i := 7) rfl)))
  have hw_8 := hts (.initialized RX4) (List.mem_cons_of_mem _ (List.mem_append_left _ (List.mem_of_getElem? (i := 8) rfl)))
  have hw_9 := hts (.methodLink RX6 123 yX6_needWay) (List.mem_cons_of_mem _ (List.mem_append_left _ (List.mem_of_getElem? (i := 9) rfl)))
  have hw_10 := hts (.static yX6_needWay) (List.mem_cons_of_mem _ (List.mem_append_left _ (List.mem_of_getElem? (i := 10) rfl)))
  have hb_0 : ∀ w ∈ us_c_needCell, w ∈ us_c_misled := fun w h => List.mem_cons_of_mem _ (List.mem_append_right _ (List.mem_append_left _ h))
  have hb_1 : ∀ w ∈ wsX60, w ∈ us_c_misled := fun w h => List.mem_cons_of_mem _ (List.mem_append_right _ (List.mem_append_right _ (List.mem_append_left _ h)))
  have hb_2 : ∀ w ∈ us_c_costOfMapWay, w ∈ us_c_misled := fun w h => List.mem_cons_of_mem _ (List.mem_append_right _ (List.mem_append_right _ (List.mem_append_right _ (List.mem_append_left _ h))))
  have hb_3 : ∀ w ∈ us_c_needWay, w ∈ us_c_misled := fun w h => List.mem_cons_of_mem _ (List.mem_append_right _ (List.mem_append_right _ (List.mem_append_right _ (List.mem_append_right _ (List.mem_append_left _ h)))))
  refine lv_aload_n hx hb dX6_misled_0 rfl (lv_at hl 0 rfl) ?_
  refine lv_iload_n hx hb dX6_misled_1 rfl (lv_at hl 1 rfl) ?_
  refine mx_v (wr := [(a6, .inl (cw, 144, .inl (fL zL))), (a10, .inl (cq, 144, .inl (fL zL))), (a11, .inl (cz, 144, .inl (fL zL))), (a3, .inl (ck, 144, .inl okF)), (a5, .inl (csk, 144, .inl okF)), (a1, .inl (cg, 144, .inl (fun _ => 0))), (a2, .inl (ch, 144, .inl (fun _ => 0))), (a4, .inl (csg, 144, .inl (fun _ => 0))), (a9, .inl (cb, 576, .inl beF))]) (vx_runV (As := [.int p0]) (rest := []) ⟨hx, hb, hml, hown, hts⟩ (c_needCell l hst D x g ca co ra rl tr f9 f10 f11 f12 f13 25 a1 a2 a3 a4 a5 a6 a7 a8 a9 a10 a11 0 0 p0 s.heap.size) (cwV 1 hts (gi_c (List.mem_cons_of_mem _ (List.mem_append_left _ (List.mem_of_getElem? (i := 0) rfl))) rfl (gi_c (List.mem_cons_of_mem _ (List.mem_append_left _ (List.mem_of_getElem? (i := 1) rfl))) rfl (gi_c (List.mem_cons_of_mem _ (List.mem_append_left _ (List.mem_of_getElem? (i := 2) rfl))) rfl (gi_c (List.mem_cons_of_mem _ (List.mem_append_left _ (List.mem_of_getElem? (i := 3) rfl))) rfl (goodIn_sub hb_0 (List.all_eq_true.mpr gw_c_needCell)))))) rfl rfl rfl (by decide +kernel) ⟨Nat.le_of_ble_eq_true rfl, Nat.le_of_ble_eq_true rfl⟩) (pr_V (As := [.int p0]) (b := x) (C := RX6) hP hD hK hS hA hE [0, 1] [] rfl rfl rfl 0 13 rfl rfl rfl) rfl rfl hl.1 rfl (lv_room (Nat.le_of_ble_eq_true rfl)) dX6_misled_2 ⟨Nat.le_of_ble_eq_true rfl, Nat.le_of_ble_eq_true rfl⟩) hP hD hK hS hA [0, 1] [2, 3, 4, 5, 6, 7, 8, 9, 10] rfl rfl (by decide) (by decide) htab hlocks (fun E h => ⟨h.1, (if_neg h.2)⟩) (Nat.le_of_ble_eq_true rfl) (Nat.le_of_ble_eq_true rfl) (fun _ H locs w1 hP hD hK hS => ?_)
  have hP : va_P D vwCl [(a6, .inl (cw, 144, .inl (fL zL))), (a10, .inl (cq, 144, .inl (fL zL))), (a11, .inl (cz, 144, .inl (fL zL))), (a3, .inl (ck, 144, .inl okF)), (a5, .inl (csk, 144, .inl okF)), (a1, .inl (cg, 144, .inl (fun _ => 0))), (a2, .inl (ch, 144, .inl (fun _ => 0))), (a4, .inl (csg, 144, .inl (fun _ => 0))), (a9, .inl (cb, 576, .inl beF)), (x, .inr (13, [.ref g, .ref ca, .int 0, .ref co, .int 0, .ref ra, .int 0, .ref rl, .ref tr, .ref f9, .ref f10, .ref f11, .ref f12, .ref f13])), (g, .inr (11, [.int 25, .ref a1, .ref a2, .ref a3, .ref a4, .ref a5, .ref a6, .ref a7, .ref a8, .ref a9, .ref a10, .ref a11, .int 0, .int 0]))] H := hP
  have hD : va_D A [(a6, .inl (cw, 144, .inl (fL zL))), (a10, .inl (cq, 144, .inl (fL zL))), (a11, .inl (cz, 144, .inl (fL zL))), (a3, .inl (ck, 144, .inl okF)), (a5, .inl (csk, 144, .inl okF)), (a1, .inl (cg, 144, .inl (fun _ => 0))), (a2, .inl (ch, 144, .inl (fun _ => 0))), (a4, .inl (csg, 144, .inl (fun _ => 0))), (a9, .inl (cb, 576, .inl beF)), (x, .inr (13, [.ref g, .ref ca, .int 0, .ref co, .int 0, .ref ra, .int 0, .ref rl, .ref tr, .ref f9, .ref f10, .ref f11, .ref f12, .ref f13])), (g, .inr (11, [.int 25, .ref a1, .ref a2, .ref a3, .ref a4, .ref a5, .ref a6, .ref a7, .ref a8, .ref a9, .ref a10, .ref a11, .int 0, .int 0]))] := hD
  have hK : va_K D vwCl [(ck, .char), (csk, .char), (cg, .int), (ch, .int), (csg, .int), (cw, .int), (cq, .int), (cz, .boolean), (cb, .int)] s := hK
  have v0 := w1
  obtain ⟨k0, hk0, rfl⟩ := inI_nI v0
  refine lv_aload_n hx hb dX6_misled_5 rfl (lv_at hl 0 rfl) ?_
  refine lv_iload_n hx hb dX6_misled_6 rfl (lv_at hl 2 rfl) ?_
  refine mx_v (wr := [(a6, .inl (cw, 144, .inl (fL zL))), (a10, .inl (cq, 144, .inl (fL zL))), (a11, .inl (cz, 144, .inl (fL zL))), (a3, .inl (ck, 144, .inl okF)), (a5, .inl (csk, 144, .inl okF)), (a1, .inl (cg, 144, .inl (fun _ => 0))), (a2, .inl (ch, 144, .inl (fun _ => 0))), (a4, .inl (csg, 144, .inl (fun _ => 0))), (a9, .inl (cb, 576, .inl beF))]) (vx_runV (As := [.int p1]) (rest := []) ⟨hx, hb, hml, hown, hts⟩ (c_needCell l hst D x g ca co ra rl tr f9 f10 f11 f12 f13 25 a1 a2 a3 a4 a5 a6 a7 a8 a9 a10 a11 0 0 p1 H.size) (cwV 1 hts (gi_c (List.mem_cons_of_mem _ (List.mem_append_left _ (List.mem_of_getElem? (i := 0) rfl))) rfl (gi_c (List.mem_cons_of_mem _ (List.mem_append_left _ (List.mem_of_getElem? (i := 1) rfl))) rfl (gi_c (List.mem_cons_of_mem _ (List.mem_append_left _ (List.mem_of_getElem? (i := 2) rfl))) rfl (gi_c (List.mem_cons_of_mem _ (List.mem_append_left _ (List.mem_of_getElem? (i := 3) rfl))) rfl (goodIn_sub hb_0 (List.all_eq_true.mpr gw_c_needCell)))))) rfl rfl rfl (by decide +kernel) ⟨Nat.le_of_ble_eq_true rfl, Nat.le_of_ble_eq_true rfl⟩) (pr_V (As := [.int p1]) (b := x) (C := RX6) hP hD hK hS hA hE [9, 10] [] rfl rfl rfl 9 13 rfl rfl rfl) rfl rfl hl.1 rfl (lv_room (Nat.le_of_ble_eq_true rfl)) dX6_misled_7 ⟨Nat.le_of_ble_eq_true rfl, Nat.le_of_ble_eq_true rfl⟩) hP hD hK hS hA [9, 10] [0, 1, 2, 3, 4, 5, 6, 7, 8] rfl rfl (by decide) (by decide) htab hlocks (fun E h => ⟨h.1, ((if_pos v0).trans (if_neg h.2))⟩) (Nat.le_of_ble_eq_true rfl) (Nat.le_of_ble_eq_true rfl) (fun _ H locs w3 hP hD hK hS => ?_)
  have hP : va_P D vwCl [(a6, .inl (cw, 144, .inl (fL zL))), (a10, .inl (cq, 144, .inl (fL zL))), (a11, .inl (cz, 144, .inl (fL zL))), (a3, .inl (ck, 144, .inl okF)), (a5, .inl (csk, 144, .inl okF)), (a1, .inl (cg, 144, .inl (fun _ => 0))), (a2, .inl (ch, 144, .inl (fun _ => 0))), (a4, .inl (csg, 144, .inl (fun _ => 0))), (a9, .inl (cb, 576, .inl beF)), (x, .inr (13, [.ref g, .ref ca, .int 0, .ref co, .int 0, .ref ra, .int 0, .ref rl, .ref tr, .ref f9, .ref f10, .ref f11, .ref f12, .ref f13])), (g, .inr (11, [.int 25, .ref a1, .ref a2, .ref a3, .ref a4, .ref a5, .ref a6, .ref a7, .ref a8, .ref a9, .ref a10, .ref a11, .int 0, .int 0]))] H := hP
  have hD : va_D A [(a6, .inl (cw, 144, .inl (fL zL))), (a10, .inl (cq, 144, .inl (fL zL))), (a11, .inl (cz, 144, .inl (fL zL))), (a3, .inl (ck, 144, .inl okF)), (a5, .inl (csk, 144, .inl okF)), (a1, .inl (cg, 144, .inl (fun _ => 0))), (a2, .inl (ch, 144, .inl (fun _ => 0))), (a4, .inl (csg, 144, .inl (fun _ => 0))), (a9, .inl (cb, 576, .inl beF)), (x, .inr (13, [.ref g, .ref ca, .int 0, .ref co, .int 0, .ref ra, .int 0, .ref rl, .ref tr, .ref f9, .ref f10, .ref f11, .ref f12, .ref f13])), (g, .inr (11, [.int 25, .ref a1, .ref a2, .ref a3, .ref a4, .ref a5, .ref a6, .ref a7, .ref a8, .ref a9, .ref a10, .ref a11, .int 0, .int 0]))] := hD
  have hK : va_K D vwCl [(ck, .char), (csk, .char), (cg, .int), (ch, .int), (csg, .int), (cw, .int), (cq, .int), (cz, .boolean), (cb, .int)] s := hK
  have v1 := w3
  obtain ⟨k1, hk1, rfl⟩ := inI_nI v1
  refine lv_aload_n hx hb dX6_misled_10 rfl (lv_at hl 0 rfl) ?_
  refine va_get (D := D) (ci := 13) (v := .ref g) (C := RX6) (T := TX6) (N := 14) hx hb hts hb_1 hown hK hP 9 rfl rfl 0 (by decide) hw_4 (fun _ h9 => h9) rfl dX6_misled_11 ?_
  refine lv_iload_n hx hb dX6_misled_14 rfl (lv_at hl 1 rfl) ?_
  refine lv_iload_n hx hb dX6_misled_15 rfl (lv_at hl 2 rfl) ?_
  refine mc_i (wr := [(x, .inr (13, [.ref g, .ref ca, .int 0, .ref co, .int 0, .ref ra, .int 0, .ref rl, .ref tr, .ref f9, .ref f10, .ref f11, .ref f12, .ref f13]))]) (va_runV (As := [.int (nI k0), .int (nI k1)]) (rest := []) ⟨hx, hb, hml, hown, hts⟩ (c_costOfMapWay l hst D g a1 a2 a3 a4 a5 a6 a7 a8 a9 a10 a11 25 0 0 cw cq cz ck csk cg ch csg cb zL zL zL k0 k1 H.size (by exact List.length_replicate) (okQ_0) (by omega) (by omega) (by rw [go_all k1 (by omega), wayL_at k1 k0 (by omega)]; have := dis_le k1 (by omega) k0 (by omega); omega)) (cwV 2 hts (gi_c (List.mem_cons_of_mem _ (List.mem_append_left _ (List.mem_of_getElem? (i := 5) rfl))) rfl (gi_c (List.mem_cons_of_mem _ (List.mem_append_left _ (List.mem_of_getElem? (i := 6) rfl))) rfl (gi_c (List.mem_cons_of_mem _ (List.mem_append_left _ (List.mem_of_getElem? (i := 7) rfl))) rfl (gi_c (List.mem_cons_of_mem _ (List.mem_append_left _ (List.mem_of_getElem? (i := 8) rfl))) rfl (goodIn_sub hb_2 (List.all_eq_true.mpr gw_c_costOfMapWay)))))) rfl rfl rfl (by decide +kernel) ⟨Nat.le_of_ble_eq_true rfl, Nat.le_of_ble_eq_true rfl⟩) (pr_V (As := [.int (nI k0), .int (nI k1)]) (b := g) (C := RX4) hP hD hK hS hA hE [10, 0, 1, 2, 3, 4, 5, 6, 7, 8] [5, 6, 7, 0, 1, 2, 3, 4, 8] rfl rfl rfl 10 11 rfl rfl rfl) rfl rfl hl.1 rfl (lv_room (Nat.le_of_ble_eq_true rfl)) dX6_misled_16 ⟨Nat.le_of_ble_eq_true rfl, Nat.le_of_ble_eq_true rfl⟩) hP hD hK hS hA [10, 0, 1, 2, 3, 4, 5, 6, 7, 8] [9] rfl rfl (by decide) (by decide) (fun r6 _ H locs w5 hP hD hK hS => ?_)
  have hP : va_P D vwCl [(x, .inr (13, [.ref g, .ref ca, .int 0, .ref co, .int 0, .ref ra, .int 0, .ref rl, .ref tr, .ref f9, .ref f10, .ref f11, .ref f12, .ref f13]))] H := hP
  have hD : va_D A [(x, .inr (13, [.ref g, .ref ca, .int 0, .ref co, .int 0, .ref ra, .int 0, .ref rl, .ref tr, .ref f9, .ref f10, .ref f11, .ref f12, .ref f13]))] := hD
  have hK : va_K D vwCl [(ck, .char), (csk, .char), (cg, .int), (ch, .int), (csg, .int), (cw, .int), (cq, .int), (cz, .boolean), (cb, .int)] s := hK
  have hd0 := dis_le k1 (by omega) k0 (by omega)
  have hr9 : r6 = nI (dis k1 k0) := by rw [w5, go_all k1 (by omega), cm_all k1 (by omega) k0 (by omega)]
  obtain rfl := hr9
  refine mc_i (wr := [(x, .inr (13, [.ref g, .ref ca, .int 0, .ref co, .int 0, .ref ra, .int 0, .ref rl, .ref tr, .ref f9, .ref f10, .ref f11, .ref f12, .ref f13]))]) (va_runS (As := [.int (nI (dis k1 k0))]) (rest := []) ⟨hx, hb, hml, hown, hts⟩ (c_needWay l hst D (nI (dis k1 k0)) H.size ((nI_ltI (a := dis k1 k0) (b := 1000000) (by omega) (by decide)).mpr (by omega))) (va_cwS 1 hts (gi_c (List.mem_cons_of_mem _ (List.mem_append_left _ (List.mem_of_getElem? (i := 9) rfl))) rfl (gi_c (List.mem_cons_of_mem _ (List.mem_append_left _ (List.mem_of_getElem? (i := 10) rfl))) rfl (gi_c (List.mem_cons_of_mem _ (List.mem_append_left _ (List.mem_of_getElem? (i := 3) rfl))) rfl (goodIn_sub hb_3 (List.all_eq_true.mpr gw_c_needWay))))) rfl rfl rfl (by decide +kernel) ⟨Nat.le_of_ble_eq_true rfl, Nat.le_of_ble_eq_true rfl⟩) (pr_S (As := [.int (nI (dis k1 k0))]) hP hD hK hS hA hE [] [] rfl rfl rfl) rfl rfl hl.1 rfl (lv_room (Nat.le_of_ble_eq_true rfl)) dX6_misled_19 ⟨Nat.le_of_ble_eq_true rfl, Nat.le_of_ble_eq_true rfl⟩) hP hD hK hS hA [] [0] rfl rfl (by decide) (by decide) (fun r8 _ H locs w7 hP hD hK hS => ?_)
  have hP : va_P D vwCl [(x, .inr (13, [.ref g, .ref ca, .int 0, .ref co, .int 0, .ref ra, .int 0, .ref rl, .ref tr, .ref f9, .ref f10, .ref f11, .ref f12, .ref f13]))] H := hP
  have hD : va_D A [(x, .inr (13, [.ref g, .ref ca, .int 0, .ref co, .int 0, .ref ra, .int 0, .ref rl, .ref tr, .ref f9, .ref f10, .ref f11, .ref f12, .ref f13]))] := hD
  have hK : va_K D vwCl [(ck, .char), (csk, .char), (cg, .int), (ch, .int), (csg, .int), (cw, .int), (cq, .int), (cz, .boolean), (cb, .int)] s := hK
  obtain rfl : r8 = (nI (dis k1 k0)) := w7
  exact vx_ret (mr_i hx hb hr () (⟨((if_pos v0).trans (if_pos v1)), by show nI (dis k1 k0) = nI (dis (nI k1).toNatClampNeg (nI k0).toNatClampNeg); rw [nI_clamp (by omega), nI_clamp (by omega)]⟩) (hP.sub [] rfl) (hK.sub [] rfl) (hD.sub [] (by decide) rfl) hS (Nat.le_of_ble_eq_true rfl) (Nat.le_of_ble_eq_true rfl) hlocks dX6_misled_22)

def us_c_control : List Cond := .code yX6_control cX6_control 4 (some .int) :: (([.methodLink RX6 91 yX6_needCell, .instanceMethod yX6_needCell, .selects RX6 yX6_needCell yX6_needCell, .initialized RX6, .methodLink RX6 71 yX6_needRange, .static yX6_needRange, .fieldLink RX6 12 "ControlWood" "ground" "LControlWood$Terrain;", .fieldLink RX6 105 "ControlWood$Terrain" "kinds" "[C", .fieldLink RX6 75 "ControlWood" "controlCount" "I", .fieldLink RX6 18 "ControlWood" "controls" "[LControlWood$Post;", .methodLink RX6 143 yX1_begin, .instanceMethod yX1_begin, .selects RX1 yX1_begin yX1_begin, .initialized RX1] : List Cond) ++ (us_c_needCell ++ (us_c_needRange ++ (wsX60 ++ (wsX40 ++ (us_c_postBegin ++ ([])))))))
theorem gw_c_control : ∀ w ∈ us_c_control, goodWord w = true := gw_cons rfl (gw_app (by decide +kernel) (gw_app gw_c_needCell (gw_app gw_c_needRange (gw_app gwf_X6 (gw_app gwf_X4 (gw_app gw_c_postBegin (fun _ h => nomatch h)))))))
set_option maxHeartbeats 4000000 in
set_option maxRecDepth 100000 in
/-- control -/
theorem c_control (l : Launch) (hst : l.stackTraces = false) (D : va_G) (x : Nat) (g : Nat) (ca : Nat) (co : Nat) (ra : Nat) (rl : Nat) (tr : Nat) (f9 : Nat) (f10 : Nat) (f11 : Nat) (f12 : Nat) (f13 : Nat) (a1 : Nat) (a2 : Nat) (a3 : Nat) (a4 : Nat) (a5 : Nat) (a6 : Nat) (a7 : Nat) (a8 : Nat) (a9 : Nat) (a10 : Nat) (a11 : Nat) (fC : Nat → Option Nat) (po : Nat) (ck : ClassId) (cpo : ClassId) (p0 : Int32) (p1 : Int32) (p2 : Int32) (sz : Nat) (hC : fC 0 = some po) : vx_Met l yX6_control us_c_control { frames := 8, cells := 3, slots := 18, locals := 124 } (pw D [.ref x, .int p0, .int p1, .int p2] [(ck, .char), (cpo, .object "ControlWood$Post")] [(x, .inr (13, [.ref g, .ref ca, .int 0, .ref co, .int 0, .ref ra, .int 0, .ref rl, .ref tr, .ref f9, .ref f10, .ref f11, .ref f12, .ref f13])), (g, .inr (11, [.int 25, .ref a1, .ref a2, .ref a3, .ref a4, .ref a5, .ref a6, .ref a7, .ref a8, .ref a9, .ref a10, .ref a11, .int 0, .int 0])), (a3, .inl (ck, 144, .inl okF)), (ca, .inl (cpo, 12, .inr (.inr (.inr (.inr fC))))), (po, .inr (8, [.int 0, .int 0, .int 0, .int 0, .int 0, .int 0]))] sz) (va_Qi (fun (r : Int32) (_ : Unit) => kf_control p0 p1 p2 = 0 ∧ r = rf_control p0 p1 p2) (qb D (va_A [(x, .inr (13, [.ref g, .ref ca, .int 0, .ref co, .int 0, .ref ra, .int 0, .ref rl, .ref tr, .ref f9, .ref f10, .ref f11, .ref f12, .ref f13])), (g, .inr (11, [.int 25, .ref a1, .ref a2, .ref a3, .ref a4, .ref a5, .ref a6, .ref a7, .ref a8, .ref a9, .ref a10, .ref a11, .int 0, .int 0])), (a3, .inl (ck, 144, .inl okF)), (ca, .inl (cpo, 12, .inr (.inr (.inr (.inr fC))))), (po, .inr (8, [.int 0, .int 0, .int 0, .int 0, .int 0, .int 0]))] sz) (fun _ : Unit => []) (fun _ : Unit => ([] : List (ClassId × FieldType)))) (va_A [(x, .inr (13, [.ref g, .ref ca, .int 0, .ref co, .int 0, .ref ra, .int 0, .ref rl, .ref tr, .ref f9, .ref f10, .ref f11, .ref f12, .ref f13])), (g, .inr (11, [.int 25, .ref a1, .ref a2, .ref a3, .ref a4, .ref a5, .ref a6, .ref a7, .ref a8, .ref a9, .ref a10, .ref a11, .int 0, .int 0])), (a3, .inl (ck, 144, .inl okF)), (ca, .inl (cpo, 12, .inr (.inr (.inr (.inr fC))))), (po, .inr (8, [.int 0, .int 0, .int 0, .int 0, .int 0, .int 0]))] sz)) (vx_X (fun E => (E = "java/lang/IndexOutOfBoundsException" ∧ kf_control p0 p1 p2 = 1) ∨ (E = "java/lang/IllegalArgumentException" ∧ kf_control p0 p1 p2 = 2)) xb (va_A [(x, .inr (13, [.ref g, .ref ca, .int 0, .ref co, .int 0, .ref ra, .int 0, .ref rl, .ref tr, .ref f9, .ref f10, .ref f11, .ref f12, .ref f13])), (g, .inr (11, [.int 25, .ref a1, .ref a2, .ref a3, .ref a4, .ref a5, .ref a6, .ref a7, .ref a8, .ref a9, .ref a10, .ref a11, .int 0, .int 0])), (a3, .inl (ck, 144, .inl okF)), (ca, .inl (cpo, 12, .inr (.inr (.inr (.inr fC))))), (po, .inr (8, [.int 0, .int 0, .int 0, .int 0, .int 0, .int 0]))] sz)) 3 18 (va_A [(x, .inr (13, [.ref g, .ref ca, .int 0, .ref co, .int 0, .ref ra, .int 0, .ref rl, .ref tr, .ref f9, .ref f10, .ref f11, .ref f12, .ref f13])), (g, .inr (11, [.int 25, .ref a1, .ref a2, .ref a3, .ref a4, .ref a5, .ref a6, .ref a7, .ref a8, .ref a9, .ref a10, .ref a11, .int 0, .int 0])), (a3, .inl (ck, 144, .inl okF)), (ca, .inl (cpo, 12, .inr (.inr (.inr (.inr fC))))), (po, .inr (8, [.int 0, .int 0, .int 0, .int 0, .int 0, .int 0]))] sz) := by
  refine op_X (Qc := fun A => (va_Qi (fun (r : Int32) (_ : Unit) => kf_control p0 p1 p2 = 0 ∧ r = rf_control p0 p1 p2) (qb D A (fun _ : Unit => []) (fun _ : Unit => ([] : List (ClassId × FieldType)))) A)) (px := (fun E => (E = "java/lang/IndexOutOfBoundsException" ∧ kf_control p0 p1 p2 = 1) ∨ (E = "java/lang/IllegalArgumentException" ∧ kf_control p0 p1 p2 = 2))) (by decide +kernel) rfl (Nat.le_of_ble_eq_true rfl) ?_
  intro p e s m args below meth c A ls hx hb hr hml hts hown hlocks hmn htab hA hD hS hP hK hE hsz hl
  have hown : s.vm.findClass RX6 = some m.cls := hown
  have hl : lv_has ls 4 [(0, .ref x), (1, .int p0), (2, .int p1), (3, .int p2)] := hl
  have hw_0 := hts (.methodLink RX6 91 yX6_needCell) (List.mem_cons_of_mem _ (List.mem_append_left _ (List.mem_of_getElem? (i := 0) rfl)))
  have hw_1 := hts (.instanceMethod yX6_needCell) (List.mem_cons_of_mem _ (List.mem_append_left _ (List.mem_of_getElem? (i := 1) rfl)))
  have hw_2 := hts (.selects RX6 yX6_needCell yX6_needCell) (List.mem_cons_of_mem _ (List.mem_append_left _ (List.mem_of_getElem? (i := 2) rfl)))
  have hw_3 := hts (.initialized RX6) (List.mem_cons_of_mem _ (List.mem_append_left _ (List.mem_of_getElem? (i := 3) rfl)))
  have hw_4 := hts (.methodLink RX6 71 yX6_needRange) (List.mem_cons_of_mem _ (List.mem_append_left _ (List.mem_of_getElem? (i := 4) rfl)))
  have hw_5 := hts (.static yX6_needRange) (List.mem_cons_of_mem _ (List.mem_append_left _ (List.mem_of_getElem? (i := 5) rfl)))
  have hw_6 := hts (.fieldLink RX6 12 "ControlWood" "ground" "LControlWood$Terrain;") (List.mem_cons_of_mem _ (List.mem_append_left _ (List.mem_of_getElem? (i := 6) rfl)))
  have hw_7 := hts (.fieldLink RX6 105 "ControlWood$Terrain" "kinds" "[C") (List.mem_cons_of_mem _ (List.mem_append_left _ (List.mem_of_getElem? (i := 7) rfl)))
  have hw_8 := hts (.fieldLink RX6 75 "ControlWood" "controlCount" "I") (List.mem_cons_of_mem _ (List.mem_append_left _ (List.mem_of_getElem? (i := 8) rfl)))
  have hw_9 := hts (.fieldLink RX6 18 "ControlWood" "controls" "[LControlWood$Post;") (List.mem_cons_of_mem _ (List.mem_append_left _ (List.mem_of_getElem? (i := 9) rfl)))
  have hw_10 := hts (.methodLink RX6 143 yX1_begin) (List.mem_cons_of_mem _ (List.mem_append_left _ (List.mem_of_getElem? (i := 10) rfl)))
  have hw_11 := hts (.instanceMethod yX1_begin) (List.mem_cons_of_mem _ (List.mem_append_left _ (List.mem_of_getElem? (i := 11) rfl)))
  have hw_12 := hts (.selects RX1 yX1_begin yX1_begin) (List.mem_cons_of_mem _ (List.mem_append_left _ (List.mem_of_getElem? (i := 12) rfl)))
  have hw_13 := hts (.initialized RX1) (List.mem_cons_of_mem _ (List.mem_append_left _ (List.mem_of_getElem? (i := 13) rfl)))
  have hb_0 : ∀ w ∈ us_c_needCell, w ∈ us_c_control := fun w h => List.mem_cons_of_mem _ (List.mem_append_right _ (List.mem_append_left _ h))
  have hb_1 : ∀ w ∈ us_c_needRange, w ∈ us_c_control := fun w h => List.mem_cons_of_mem _ (List.mem_append_right _ (List.mem_append_right _ (List.mem_append_left _ h)))
  have hb_2 : ∀ w ∈ wsX60, w ∈ us_c_control := fun w h => List.mem_cons_of_mem _ (List.mem_append_right _ (List.mem_append_right _ (List.mem_append_right _ (List.mem_append_left _ h))))
  have hb_3 : ∀ w ∈ wsX40, w ∈ us_c_control := fun w h => List.mem_cons_of_mem _ (List.mem_append_right _ (List.mem_append_right _ (List.mem_append_right _ (List.mem_append_right _ (List.mem_append_left _ h)))))
  have hb_4 : ∀ w ∈ us_c_postBegin, w ∈ us_c_control := fun w h => List.mem_cons_of_mem _ (List.mem_append_right _ (List.mem_append_right _ (List.mem_append_right _ (List.mem_append_right _ (List.mem_append_right _ (List.mem_append_left _ h))))))
  refine lv_aload_n hx hb dX6_control_0 rfl (lv_at hl 0 rfl) ?_
  refine lv_iload_n hx hb dX6_control_1 rfl (lv_at hl 1 rfl) ?_
  refine mx_v (wr := [(a3, .inl (ck, 144, .inl okF)), (ca, .inl (cpo, 12, .inr (.inr (.inr (.inr fC))))), (po, .inr (8, [.int 0, .int 0, .int 0, .int 0, .int 0, .int 0]))]) (vx_runV (As := [.int p0]) (rest := []) ⟨hx, hb, hml, hown, hts⟩ (c_needCell l hst D x g ca co ra rl tr f9 f10 f11 f12 f13 25 a1 a2 a3 a4 a5 a6 a7 a8 a9 a10 a11 0 0 p0 s.heap.size) (cwV 1 hts (gi_c (List.mem_cons_of_mem _ (List.mem_append_left _ (List.mem_of_getElem? (i := 0) rfl))) rfl (gi_c (List.mem_cons_of_mem _ (List.mem_append_left _ (List.mem_of_getElem? (i := 1) rfl))) rfl (gi_c (List.mem_cons_of_mem _ (List.mem_append_left _ (List.mem_of_getElem? (i := 2) rfl))) rfl (gi_c (List.mem_cons_of_mem _ (List.mem_append_left _ (List.mem_of_getElem? (i := 3) rfl))) rfl (goodIn_sub hb_0 (List.all_eq_true.mpr gw_c_needCell)))))) rfl rfl rfl (by decide +kernel) ⟨Nat.le_of_ble_eq_true rfl, Nat.le_of_ble_eq_true rfl⟩) (pr_V (As := [.int p0]) (b := x) (C := RX6) hP hD hK hS hA hE [0, 1] [] rfl rfl rfl 0 13 rfl rfl rfl) rfl rfl hl.1 rfl (lv_room (Nat.le_of_ble_eq_true rfl)) dX6_control_2 ⟨Nat.le_of_ble_eq_true rfl, Nat.le_of_ble_eq_true rfl⟩) hP hD hK hS hA [0, 1] [2, 3, 4] rfl rfl (by decide) (by decide) htab hlocks (fun E h => Or.inl (⟨h.1, (if_neg h.2)⟩)) (Nat.le_of_ble_eq_true rfl) (Nat.le_of_ble_eq_true rfl) (fun _ H locs w1 hP hD hK hS => ?_)
  have hP : va_P D vwCl [(a3, .inl (ck, 144, .inl okF)), (ca, .inl (cpo, 12, .inr (.inr (.inr (.inr fC))))), (po, .inr (8, [.int 0, .int 0, .int 0, .int 0, .int 0, .int 0])), (x, .inr (13, [.ref g, .ref ca, .int 0, .ref co, .int 0, .ref ra, .int 0, .ref rl, .ref tr, .ref f9, .ref f10, .ref f11, .ref f12, .ref f13])), (g, .inr (11, [.int 25, .ref a1, .ref a2, .ref a3, .ref a4, .ref a5, .ref a6, .ref a7, .ref a8, .ref a9, .ref a10, .ref a11, .int 0, .int 0]))] H := hP
  have hD : va_D A [(a3, .inl (ck, 144, .inl okF)), (ca, .inl (cpo, 12, .inr (.inr (.inr (.inr fC))))), (po, .inr (8, [.int 0, .int 0, .int 0, .int 0, .int 0, .int 0])), (x, .inr (13, [.ref g, .ref ca, .int 0, .ref co, .int 0, .ref ra, .int 0, .ref rl, .ref tr, .ref f9, .ref f10, .ref f11, .ref f12, .ref f13])), (g, .inr (11, [.int 25, .ref a1, .ref a2, .ref a3, .ref a4, .ref a5, .ref a6, .ref a7, .ref a8, .ref a9, .ref a10, .ref a11, .int 0, .int 0]))] := hD
  have hK : va_K D vwCl [(ck, .char), (cpo, .object "ControlWood$Post")] s := hK
  have v0 := w1
  obtain ⟨k0, hk0, rfl⟩ := inI_nI v0
  refine lv_iload_n hx hb dX6_control_5 rfl (lv_at hl 2 rfl) ?_
  refine lv_iconst (v := 0) hx hb dX6_control_6 (by decide) ?_
  refine lv_iconst (v := 3) hx hb dX6_control_7 (by decide) ?_
  refine mx_v (wr := [(a3, .inl (ck, 144, .inl okF)), (ca, .inl (cpo, 12, .inr (.inr (.inr (.inr fC))))), (po, .inr (8, [.int 0, .int 0, .int 0, .int 0, .int 0, .int 0])), (x, .inr (13, [.ref g, .ref ca, .int 0, .ref co, .int 0, .ref ra, .int 0, .ref rl, .ref tr, .ref f9, .ref f10, .ref f11, .ref f12, .ref f13])), (g, .inr (11, [.int 25, .ref a1, .ref a2, .ref a3, .ref a4, .ref a5, .ref a6, .ref a7, .ref a8, .ref a9, .ref a10, .ref a11, .int 0, .int 0]))]) (vx_runS (As := [.int p1, .int 0, .int 3]) (rest := []) ⟨hx, hb, hml, hown, hts⟩ (c_needRange l hst D p1 0 3 H.size) (va_cwS 3 hts (gi_c (List.mem_cons_of_mem _ (List.mem_append_left _ (List.mem_of_getElem? (i := 4) rfl))) rfl (gi_c (List.mem_cons_of_mem _ (List.mem_append_left _ (List.mem_of_getElem? (i := 5) rfl))) rfl (gi_c (List.mem_cons_of_mem _ (List.mem_append_left _ (List.mem_of_getElem? (i := 3) rfl))) rfl (goodIn_sub hb_1 (List.all_eq_true.mpr gw_c_needRange))))) rfl rfl rfl (by decide +kernel) ⟨Nat.le_of_ble_eq_true rfl, Nat.le_of_ble_eq_true rfl⟩) (pr_S (As := [.int p1, .int 0, .int 3]) hP hD hK hS hA hE [] [] rfl rfl rfl) rfl rfl hl.1 rfl (lv_room (Nat.le_of_ble_eq_true rfl)) dX6_control_8 ⟨Nat.le_of_ble_eq_true rfl, Nat.le_of_ble_eq_true rfl⟩) hP hD hK hS hA [] [0, 1, 2, 3, 4] rfl rfl (by decide) (by decide) htab hlocks (fun E h => Or.inr (⟨h.1, ((if_pos v0).trans (if_neg h.2))⟩)) (Nat.le_of_ble_eq_true rfl) (Nat.le_of_ble_eq_true rfl) (fun _ H locs w3 hP hD hK hS => ?_)
  have hP : va_P D vwCl [(a3, .inl (ck, 144, .inl okF)), (ca, .inl (cpo, 12, .inr (.inr (.inr (.inr fC))))), (po, .inr (8, [.int 0, .int 0, .int 0, .int 0, .int 0, .int 0])), (x, .inr (13, [.ref g, .ref ca, .int 0, .ref co, .int 0, .ref ra, .int 0, .ref rl, .ref tr, .ref f9, .ref f10, .ref f11, .ref f12, .ref f13])), (g, .inr (11, [.int 25, .ref a1, .ref a2, .ref a3, .ref a4, .ref a5, .ref a6, .ref a7, .ref a8, .ref a9, .ref a10, .ref a11, .int 0, .int 0]))] H := hP
  have hD : va_D A [(a3, .inl (ck, 144, .inl okF)), (ca, .inl (cpo, 12, .inr (.inr (.inr (.inr fC))))), (po, .inr (8, [.int 0, .int 0, .int 0, .int 0, .int 0, .int 0])), (x, .inr (13, [.ref g, .ref ca, .int 0, .ref co, .int 0, .ref ra, .int 0, .ref rl, .ref tr, .ref f9, .ref f10, .ref f11, .ref f12, .ref f13])), (g, .inr (11, [.int 25, .ref a1, .ref a2, .ref a3, .ref a4, .ref a5, .ref a6, .ref a7, .ref a8, .ref a9, .ref a10, .ref a11, .int 0, .int 0]))] := hD
  have hK : va_K D vwCl [(ck, .char), (cpo, .object "ControlWood$Post")] s := hK
  have v1 := w3
  refine lv_iload_n hx hb dX6_control_11 rfl (lv_at hl 3 rfl) ?_
  refine lv_iconst (v := 0) hx hb dX6_control_12 (by decide) ?_
  refine lv_bipush (v := 99) hx hb dX6_control_13 (by decide) ?_
  refine mx_v (wr := [(a3, .inl (ck, 144, .inl okF)), (ca, .inl (cpo, 12, .inr (.inr (.inr (.inr fC))))), (po, .inr (8, [.int 0, .int 0, .int 0, .int 0, .int 0, .int 0])), (x, .inr (13, [.ref g, .ref ca, .int 0, .ref co, .int 0, .ref ra, .int 0, .ref rl, .ref tr, .ref f9, .ref f10, .ref f11, .ref f12, .ref f13])), (g, .inr (11, [.int 25, .ref a1, .ref a2, .ref a3, .ref a4, .ref a5, .ref a6, .ref a7, .ref a8, .ref a9, .ref a10, .ref a11, .int 0, .int 0]))]) (vx_runS (As := [.int p2, .int 0, .int 99]) (rest := []) ⟨hx, hb, hml, hown, hts⟩ (c_needRange l hst D p2 0 99 H.size) (va_cwS 3 hts (gi_c (List.mem_cons_of_mem _ (List.mem_append_left _ (List.mem_of_getElem? (i := 4) rfl))) rfl (gi_c (List.mem_cons_of_mem _ (List.mem_append_left _ (List.mem_of_getElem? (i := 5) rfl))) rfl (gi_c (List.mem_cons_of_mem _ (List.mem_append_left _ (List.mem_of_getElem? (i := 3) rfl))) rfl (goodIn_sub hb_1 (List.all_eq_true.mpr gw_c_needRange))))) rfl rfl rfl (by decide +kernel) ⟨Nat.le_of_ble_eq_true rfl, Nat.le_of_ble_eq_true rfl⟩) (pr_S (As := [.int p2, .int 0, .int 99]) hP hD hK hS hA hE [] [] rfl rfl rfl) rfl rfl hl.1 rfl (lv_room (Nat.le_of_ble_eq_true rfl)) dX6_control_15 ⟨Nat.le_of_ble_eq_true rfl, Nat.le_of_ble_eq_true rfl⟩) hP hD hK hS hA [] [0, 1, 2, 3, 4] rfl rfl (by decide) (by decide) htab hlocks (fun E h => Or.inr (⟨h.1, ((if_pos v0).trans ((if_pos v1).trans (if_neg h.2)))⟩)) (Nat.le_of_ble_eq_true rfl) (Nat.le_of_ble_eq_true rfl) (fun _ H locs w5 hP hD hK hS => ?_)
  have hP : va_P D vwCl [(a3, .inl (ck, 144, .inl okF)), (ca, .inl (cpo, 12, .inr (.inr (.inr (.inr fC))))), (po, .inr (8, [.int 0, .int 0, .int 0, .int 0, .int 0, .int 0])), (x, .inr (13, [.ref g, .ref ca, .int 0, .ref co, .int 0, .ref ra, .int 0, .ref rl, .ref tr, .ref f9, .ref f10, .ref f11, .ref f12, .ref f13])), (g, .inr (11, [.int 25, .ref a1, .ref a2, .ref a3, .ref a4, .ref a5, .ref a6, .ref a7, .ref a8, .ref a9, .ref a10, .ref a11, .int 0, .int 0]))] H := hP
  have hD : va_D A [(a3, .inl (ck, 144, .inl okF)), (ca, .inl (cpo, 12, .inr (.inr (.inr (.inr fC))))), (po, .inr (8, [.int 0, .int 0, .int 0, .int 0, .int 0, .int 0])), (x, .inr (13, [.ref g, .ref ca, .int 0, .ref co, .int 0, .ref ra, .int 0, .ref rl, .ref tr, .ref f9, .ref f10, .ref f11, .ref f12, .ref f13])), (g, .inr (11, [.int 25, .ref a1, .ref a2, .ref a3, .ref a4, .ref a5, .ref a6, .ref a7, .ref a8, .ref a9, .ref a10, .ref a11, .int 0, .int 0]))] := hD
  have hK : va_K D vwCl [(ck, .char), (cpo, .object "ControlWood$Post")] s := hK
  have v2 := w5
  refine lv_aload_n hx hb dX6_control_18 rfl (lv_at hl 0 rfl) ?_
  refine va_get (D := D) (ci := 13) (v := .ref g) (C := RX6) (T := TX6) (N := 14) hx hb hts hb_2 hown hK hP 3 rfl rfl 0 (by decide) hw_6 (fun _ h9 => h9) rfl dX6_control_19 ?_
  refine va_get (D := D) (ci := 11) (v := .ref a3) (C := RX4) (T := TX4) (N := 14) hx hb hts hb_3 hown hK hP 4 rfl rfl 3 (by decide) hw_7 (fun _ h9 => h9) rfl dX6_control_22 ?_
  refine lv_iload_n hx hb dX6_control_25 rfl (lv_at hl 1 rfl) ?_
  refine va_cald hx hb hK hP 0 0 rfl rfl (vp_in_nI (n := k0) (by omega) (by decide)) dX6_control_26 ?_
  refine lv_topi (fun x7 e7 => ?_)
  obtain rfl : x7 = 46 := e7.trans (okF_at (by omega))
  refine lv_bipush (v := 119) hx hb dX6_control_27 (by decide) ?_
  refine lv_icmp_ne (tgt := 42) hx hb dX6_control_29 (by decide) (fun h8 => ?_) (fun h8 => absurd h8 (by decide))
  refine lv_aload_n hx hb dX6_control_42 rfl (lv_at hl 0 rfl) ?_
  refine va_get (D := D) (ci := 13) (v := .int 0) (C := RX6) (T := TX6) (N := 14) hx hb hts hb_2 hown hK hP 3 rfl rfl 2 (by decide) hw_8 (fun _ h9 => h9) rfl dX6_control_43 ?_
  refine lv_bipush (v := 12) hx hb dX6_control_46 (by decide) ?_
  refine lv_icmp_lt (tgt := 61) hx hb dX6_control_48 (by decide) (fun h9 => ?_) (fun h9 => absurd (by decide) h9)
  refine lv_aload_n hx hb dX6_control_61 rfl (lv_at hl 0 rfl) ?_
  refine va_get (D := D) (ci := 13) (v := .ref ca) (C := RX6) (T := TX6) (N := 14) hx hb hts hb_2 hown hK hP 3 rfl rfl 1 (by decide) hw_9 (fun _ h9 => h9) rfl dX6_control_62 ?_
  refine lv_aload_n hx hb dX6_control_65 rfl (lv_at hl 0 rfl) ?_
  refine va_get (D := D) (ci := 13) (v := .int 0) (C := RX6) (T := TX6) (N := 14) hx hb hts hb_2 hown hK hP 3 rfl rfl 2 (by decide) hw_8 (fun _ h9 => h9) rfl dX6_control_66 ?_
  refine va_aldq hx hb hK hP 1 1 rfl rfl (vp_in_nI (n := 0) (by decide) (by decide)) dX6_control_69 ?_
  refine W.eq (g2 := F0 m 70 ls [.ref po]) (by rw [show fC ((0 : Int32).toNatClampNeg) = some po from hC]; rfl) ?_
  refine lv_iload_n hx hb dX6_control_70 rfl (lv_at hl 1 rfl) ?_
  refine lv_iload_n hx hb dX6_control_71 rfl (lv_at hl 2 rfl) ?_
  refine lv_iload_n hx hb dX6_control_72 rfl (lv_at hl 3 rfl) ?_
  refine mc_v (wr := [(a3, .inl (ck, 144, .inl okF)), (ca, .inl (cpo, 12, .inr (.inr (.inr (.inr fC))))), (x, .inr (13, [.ref g, .ref ca, .int 0, .ref co, .int 0, .ref ra, .int 0, .ref rl, .ref tr, .ref f9, .ref f10, .ref f11, .ref f12, .ref f13])), (g, .inr (11, [.int 25, .ref a1, .ref a2, .ref a3, .ref a4, .ref a5, .ref a6, .ref a7, .ref a8, .ref a9, .ref a10, .ref a11, .int 0, .int 0]))]) (va_runV (As := [.int (nI k0), .int p1, .int p2]) (rest := []) ⟨hx, hb, hml, hown, hts⟩ (c_postBegin l hst D po 0 0 0 0 0 0 (nI k0) p1 p2 H.size) (cwV 3 hts (gi_c (List.mem_cons_of_mem _ (List.mem_append_left _ (List.mem_of_getElem? (i := 10) rfl))) rfl (gi_c (List.mem_cons_of_mem _ (List.mem_append_left _ (List.mem_of_getElem? (i := 11) rfl))) rfl (gi_c (List.mem_cons_of_mem _ (List.mem_append_left _ (List.mem_of_getElem? (i := 12) rfl))) rfl (gi_c (List.mem_cons_of_mem _ (List.mem_append_left _ (List.mem_of_getElem? (i := 13) rfl))) rfl (goodIn_sub hb_4 (List.all_eq_true.mpr gw_c_postBegin)))))) rfl rfl rfl (by decide +kernel) ⟨Nat.le_of_ble_eq_true rfl, Nat.le_of_ble_eq_true rfl⟩) (pr_V (As := [.int (nI k0), .int p1, .int p2]) (b := po) (C := RX1) hP hD hK hS hA hE [2] [] rfl rfl rfl 2 8 rfl rfl rfl) rfl rfl hl.1 rfl (lv_room (Nat.le_of_ble_eq_true rfl)) dX6_control_73 ⟨Nat.le_of_ble_eq_true rfl, Nat.le_of_ble_eq_true rfl⟩) hP hD hK hS hA [2] [0, 1, 3, 4] rfl rfl (by decide) (by decide) (fun _ H locs w10 hP hD hK hS => ?_)
  have hP : va_P D vwCl [(a3, .inl (ck, 144, .inl okF)), (ca, .inl (cpo, 12, .inr (.inr (.inr (.inr fC))))), (x, .inr (13, [.ref g, .ref ca, .int 0, .ref co, .int 0, .ref ra, .int 0, .ref rl, .ref tr, .ref f9, .ref f10, .ref f11, .ref f12, .ref f13])), (g, .inr (11, [.int 25, .ref a1, .ref a2, .ref a3, .ref a4, .ref a5, .ref a6, .ref a7, .ref a8, .ref a9, .ref a10, .ref a11, .int 0, .int 0]))] H := hP
  have hD : va_D A [(a3, .inl (ck, 144, .inl okF)), (ca, .inl (cpo, 12, .inr (.inr (.inr (.inr fC))))), (x, .inr (13, [.ref g, .ref ca, .int 0, .ref co, .int 0, .ref ra, .int 0, .ref rl, .ref tr, .ref f9, .ref f10, .ref f11, .ref f12, .ref f13])), (g, .inr (11, [.int 25, .ref a1, .ref a2, .ref a3, .ref a4, .ref a5, .ref a6, .ref a7, .ref a8, .ref a9, .ref a10, .ref a11, .int 0, .int 0]))] := hD
  have hK : va_K D vwCl [(ck, .char), (cpo, .object "ControlWood$Post")] s := hK
  refine lv_aload_n hx hb dX6_control_76 rfl (lv_at hl 0 rfl) ?_
  refine lv_dup hx hb dX6_control_77 rfl ?_
  refine va_get (D := D) (ci := 13) (v := .int 0) (C := RX6) (T := TX6) (N := 14) hx hb hts hb_2 hown hK hP 2 rfl rfl 2 (by decide) hw_8 (fun _ h9 => h9) rfl dX6_control_78 ?_
  refine lv_iconst (v := 1) hx hb dX6_control_81 (by decide) ?_
  refine lv_iadd hx hb dX6_control_82 ?_
  refine lv_topi (fun x12 e12 => ?_)
  obtain rfl : x12 = 1 := e12.trans (by decide)
  refine va_put (D := D) (ci := 13) (v := .int 1) (ty := .int) (C := RX6) (T := TX6) (N := 14) hx hb hts hb_2 tyX6 tyX6_ok nmX6 hown hK hP hD hS 2 rfl rfl 2 (by decide) hw_8 (fun _ h9 => h9) rfl (by decide +kernel) rfl rfl (Nat.le_of_ble_eq_true rfl) dX6_control_83 (fun H locs hP hD hS => ?_)
  have hP : va_P D vwCl [(a3, .inl (ck, 144, .inl okF)), (ca, .inl (cpo, 12, .inr (.inr (.inr (.inr fC))))), (x, .inr (13, [.ref g, .ref ca, .int 1, .ref co, .int 0, .ref ra, .int 0, .ref rl, .ref tr, .ref f9, .ref f10, .ref f11, .ref f12, .ref f13])), (g, .inr (11, [.int 25, .ref a1, .ref a2, .ref a3, .ref a4, .ref a5, .ref a6, .ref a7, .ref a8, .ref a9, .ref a10, .ref a11, .int 0, .int 0]))] H := hP
  have hD : va_D A [(a3, .inl (ck, 144, .inl okF)), (ca, .inl (cpo, 12, .inr (.inr (.inr (.inr fC))))), (x, .inr (13, [.ref g, .ref ca, .int 1, .ref co, .int 0, .ref ra, .int 0, .ref rl, .ref tr, .ref f9, .ref f10, .ref f11, .ref f12, .ref f13])), (g, .inr (11, [.int 25, .ref a1, .ref a2, .ref a3, .ref a4, .ref a5, .ref a6, .ref a7, .ref a8, .ref a9, .ref a10, .ref a11, .int 0, .int 0]))] := hD
  refine lv_aload_n hx hb dX6_control_86 rfl (lv_at hl 0 rfl) ?_
  refine va_get (D := D) (ci := 13) (v := .int 1) (C := RX6) (T := TX6) (N := 14) hx hb hts hb_2 hown hK hP 2 rfl rfl 2 (by decide) hw_8 (fun _ h9 => h9) rfl dX6_control_87 ?_
  refine lv_iconst (v := 1) hx hb dX6_control_90 (by decide) ?_
  refine lv_isub hx hb dX6_control_91 ?_
  refine lv_topi (fun x13 e13 => ?_)
  obtain rfl : x13 = 0 := e13.trans (by decide)
  exact vx_ret (mr_i hx hb hr () (⟨((if_pos v0).trans ((if_pos v1).trans (if_pos v2))), rfl⟩) (hP.sub [] rfl) (hK.sub [] rfl) (hD.sub [] (by decide) rfl) hS (Nat.le_of_ble_eq_true rfl) (Nat.le_of_ble_eq_true rfl) hlocks dX6_control_92)

def us_c_course : List Cond := .code yX6_course cX6_course 2 (some .int) :: (([.methodLink RX6 91 yX6_needCell, .instanceMethod yX6_needCell, .selects RX6 yX6_needCell yX6_needCell, .initialized RX6, .fieldLink RX6 79 "ControlWood" "courseCount" "I", .fieldLink RX6 24 "ControlWood" "courses" "[LControlWood$Route;", .methodLink RX6 155 yX3_begin, .instanceMethod yX3_begin, .selects RX3 yX3_begin yX3_begin, .initialized RX3] : List Cond) ++ (us_c_needCell ++ (wsX60 ++ (us_c_routeBegin ++ ([])))))
theorem gw_c_course : ∀ w ∈ us_c_course, goodWord w = true := gw_cons rfl (gw_app (by decide +kernel) (gw_app gw_c_needCell (gw_app gwf_X6 (gw_app gw_c_routeBegin (fun _ h => nomatch h)))))
set_option maxHeartbeats 4000000 in
set_option maxRecDepth 100000 in
/-- course -/
theorem c_course (l : Launch) (hst : l.stackTraces = false) (D : va_G) (x : Nat) (g : Nat) (ca : Nat) (co : Nat) (ra : Nat) (rl : Nat) (tr : Nat) (f9 : Nat) (f10 : Nat) (f11 : Nat) (f12 : Nat) (f13 : Nat) (a1 : Nat) (a2 : Nat) (a3 : Nat) (a4 : Nat) (a5 : Nat) (a6 : Nat) (a7 : Nat) (a8 : Nat) (a9 : Nat) (a10 : Nat) (a11 : Nat) (fR : Nat → Option Nat) (r0 : Nat) (rc : Nat) (rt : Nat) (rv : Nat) (cro : ClassId) (crv : ClassId) (p0 : Int32) (sz : Nat) (hR : fR 0 = some r0) : vx_Met l yX6_course us_c_course { frames := 8, cells := 1, slots := 6, locals := 124 } (pw D [.ref x, .int p0] [(cro, .object "ControlWood$Route"), (crv, .boolean)] [(x, .inr (13, [.ref g, .ref ca, .int 0, .ref co, .int 0, .ref ra, .int 0, .ref rl, .ref tr, .ref f9, .ref f10, .ref f11, .ref f12, .ref f13])), (g, .inr (11, [.int 25, .ref a1, .ref a2, .ref a3, .ref a4, .ref a5, .ref a6, .ref a7, .ref a8, .ref a9, .ref a10, .ref a11, .int 0, .int 0])), (co, .inl (cro, 6, .inr (.inr (.inr (.inr fR))))), (r0, .inr (10, [.int 0, .int 0, .ref rc, .ref rt, .ref rv])), (rv, .inl (crv, 10, .inl (fun _ => 0)))] sz) (va_Qi (fun (r : Int32) (_ : Unit) => kf_course p0 = 0 ∧ r = rf_course p0) (qb D (va_A [(x, .inr (13, [.ref g, .ref ca, .int 0, .ref co, .int 0, .ref ra, .int 0, .ref rl, .ref tr, .ref f9, .ref f10, .ref f11, .ref f12, .ref f13])), (g, .inr (11, [.int 25, .ref a1, .ref a2, .ref a3, .ref a4, .ref a5, .ref a6, .ref a7, .ref a8, .ref a9, .ref a10, .ref a11, .int 0, .int 0])), (co, .inl (cro, 6, .inr (.inr (.inr (.inr fR))))), (r0, .inr (10, [.int 0, .int 0, .ref rc, .ref rt, .ref rv])), (rv, .inl (crv, 10, .inl (fun _ => 0)))] sz) (fun _ : Unit => []) (fun _ : Unit => ([] : List (ClassId × FieldType)))) (va_A [(x, .inr (13, [.ref g, .ref ca, .int 0, .ref co, .int 0, .ref ra, .int 0, .ref rl, .ref tr, .ref f9, .ref f10, .ref f11, .ref f12, .ref f13])), (g, .inr (11, [.int 25, .ref a1, .ref a2, .ref a3, .ref a4, .ref a5, .ref a6, .ref a7, .ref a8, .ref a9, .ref a10, .ref a11, .int 0, .int 0])), (co, .inl (cro, 6, .inr (.inr (.inr (.inr fR))))), (r0, .inr (10, [.int 0, .int 0, .ref rc, .ref rt, .ref rv])), (rv, .inl (crv, 10, .inl (fun _ => 0)))] sz)) (vx_X (fun E => (E = "java/lang/IndexOutOfBoundsException" ∧ kf_course p0 = 1)) xb (va_A [(x, .inr (13, [.ref g, .ref ca, .int 0, .ref co, .int 0, .ref ra, .int 0, .ref rl, .ref tr, .ref f9, .ref f10, .ref f11, .ref f12, .ref f13])), (g, .inr (11, [.int 25, .ref a1, .ref a2, .ref a3, .ref a4, .ref a5, .ref a6, .ref a7, .ref a8, .ref a9, .ref a10, .ref a11, .int 0, .int 0])), (co, .inl (cro, 6, .inr (.inr (.inr (.inr fR))))), (r0, .inr (10, [.int 0, .int 0, .ref rc, .ref rt, .ref rv])), (rv, .inl (crv, 10, .inl (fun _ => 0)))] sz)) 1 6 (va_A [(x, .inr (13, [.ref g, .ref ca, .int 0, .ref co, .int 0, .ref ra, .int 0, .ref rl, .ref tr, .ref f9, .ref f10, .ref f11, .ref f12, .ref f13])), (g, .inr (11, [.int 25, .ref a1, .ref a2, .ref a3, .ref a4, .ref a5, .ref a6, .ref a7, .ref a8, .ref a9, .ref a10, .ref a11, .int 0, .int 0])), (co, .inl (cro, 6, .inr (.inr (.inr (.inr fR))))), (r0, .inr (10, [.int 0, .int 0, .ref rc, .ref rt, .ref rv])), (rv, .inl (crv, 10, .inl (fun _ => 0)))] sz) := by
  refine op_X (Qc := fun A => (va_Qi (fun (r : Int32) (_ : Unit) => kf_course p0 = 0 ∧ r = rf_course p0) (qb D A (fun _ : Unit => []) (fun _ : Unit => ([] : List (ClassId × FieldType)))) A)) (px := (fun E => (E = "java/lang/IndexOutOfBoundsException" ∧ kf_course p0 = 1))) (by decide +kernel) rfl (Nat.le_of_ble_eq_true rfl) ?_
  intro p e s m args below meth c A ls hx hb hr hml hts hown hlocks hmn htab hA hD hS hP hK hE hsz hl
  have hown : s.vm.findClass RX6 = some m.cls := hown
  have hl : lv_has ls 2 [(0, .ref x), (1, .int p0)] := hl
  have hw_0 := hts (.methodLink RX6 91 yX6_needCell) (List.mem_cons_of_mem _ (List.mem_append_left _ (List.mem_of_getElem? (i := 0) rfl)))
  have hw_1 := hts (.instanceMethod yX6_needCell) (List.mem_cons_of_mem _ (List.mem_append_left _ (List.mem_of_getElem? (i := 1) rfl)))
  have hw_2 := hts (.selects RX6 yX6_needCell yX6_needCell) (List.mem_cons_of_mem _ (List.mem_append_left _ (List.mem_of_getElem? (i := 2) rfl)))
  have hw_3 := hts (.initialized RX6) (List.mem_cons_of_mem _ (List.mem_append_left _ (List.mem_of_getElem? (i := 3) rfl)))
  have hw_4 := hts (.fieldLink RX6 79 "ControlWood" "courseCount" "I") (List.mem_cons_of_mem _ (List.mem_append_left _ (List.mem_of_getElem? (i := 4) rfl)))
  have hw_5 := hts (.fieldLink RX6 24 "ControlWood" "courses" "[LControlWood$Route;") (List.mem_cons_of_mem _ (List.mem_append_left _ (List.mem_of_getElem? (i := 5) rfl)))
  have hw_6 := hts (.methodLink RX6 155 yX3_begin) (List.mem_cons_of_mem _ (List.mem_append_left _ (List.mem_of_getElem? (i := 6) rfl)))
  have hw_7 := hts (.instanceMethod yX3_begin) (List.mem_cons_of_mem _ (List.mem_append_left _ (List.mem_of_getElem? (i := 7) rfl)))
  have hw_8 := hts (.selects RX3 yX3_begin yX3_begin) (List.mem_cons_of_mem _ (List.mem_append_left _ (List.mem_of_getElem? (i := 8) rfl)))
  have hw_9 := hts (.initialized RX3) (List.mem_cons_of_mem _ (List.mem_append_left _ (List.mem_of_getElem? (i := 9) rfl)))
  have hb_0 : ∀ w ∈ us_c_needCell, w ∈ us_c_course := fun w h => List.mem_cons_of_mem _ (List.mem_append_right _ (List.mem_append_left _ h))
  have hb_1 : ∀ w ∈ wsX60, w ∈ us_c_course := fun w h => List.mem_cons_of_mem _ (List.mem_append_right _ (List.mem_append_right _ (List.mem_append_left _ h)))
  have hb_2 : ∀ w ∈ us_c_routeBegin, w ∈ us_c_course := fun w h => List.mem_cons_of_mem _ (List.mem_append_right _ (List.mem_append_right _ (List.mem_append_right _ (List.mem_append_left _ h))))
  refine lv_aload_n hx hb dX6_course_0 rfl (lv_at hl 0 rfl) ?_
  refine lv_iload_n hx hb dX6_course_1 rfl (lv_at hl 1 rfl) ?_
  refine mx_v (wr := [(co, .inl (cro, 6, .inr (.inr (.inr (.inr fR))))), (r0, .inr (10, [.int 0, .int 0, .ref rc, .ref rt, .ref rv])), (rv, .inl (crv, 10, .inl (fun _ => 0)))]) (vx_runV (As := [.int p0]) (rest := []) ⟨hx, hb, hml, hown, hts⟩ (c_needCell l hst D x g ca co ra rl tr f9 f10 f11 f12 f13 25 a1 a2 a3 a4 a5 a6 a7 a8 a9 a10 a11 0 0 p0 s.heap.size) (cwV 1 hts (gi_c (List.mem_cons_of_mem _ (List.mem_append_left _ (List.mem_of_getElem? (i := 0) rfl))) rfl (gi_c (List.mem_cons_of_mem _ (List.mem_append_left _ (List.mem_of_getElem? (i := 1) rfl))) rfl (gi_c (List.mem_cons_of_mem _ (List.mem_append_left _ (List.mem_of_getElem? (i := 2) rfl))) rfl (gi_c (List.mem_cons_of_mem _ (List.mem_append_left _ (List.mem_of_getElem? (i := 3) rfl))) rfl (goodIn_sub hb_0 (List.all_eq_true.mpr gw_c_needCell)))))) rfl rfl rfl (by decide +kernel) ⟨Nat.le_of_ble_eq_true rfl, Nat.le_of_ble_eq_true rfl⟩) (pr_V (As := [.int p0]) (b := x) (C := RX6) hP hD hK hS hA hE [0, 1] [] rfl rfl rfl 0 13 rfl rfl rfl) rfl rfl hl.1 rfl (lv_room (Nat.le_of_ble_eq_true rfl)) dX6_course_2 ⟨Nat.le_of_ble_eq_true rfl, Nat.le_of_ble_eq_true rfl⟩) hP hD hK hS hA [0, 1] [2, 3, 4] rfl rfl (by decide) (by decide) htab hlocks (fun E h => ⟨h.1, (if_neg h.2)⟩) (Nat.le_of_ble_eq_true rfl) (Nat.le_of_ble_eq_true rfl) (fun _ H locs w1 hP hD hK hS => ?_)
  have hP : va_P D vwCl [(co, .inl (cro, 6, .inr (.inr (.inr (.inr fR))))), (r0, .inr (10, [.int 0, .int 0, .ref rc, .ref rt, .ref rv])), (rv, .inl (crv, 10, .inl (fun _ => 0))), (x, .inr (13, [.ref g, .ref ca, .int 0, .ref co, .int 0, .ref ra, .int 0, .ref rl, .ref tr, .ref f9, .ref f10, .ref f11, .ref f12, .ref f13])), (g, .inr (11, [.int 25, .ref a1, .ref a2, .ref a3, .ref a4, .ref a5, .ref a6, .ref a7, .ref a8, .ref a9, .ref a10, .ref a11, .int 0, .int 0]))] H := hP
  have hD : va_D A [(co, .inl (cro, 6, .inr (.inr (.inr (.inr fR))))), (r0, .inr (10, [.int 0, .int 0, .ref rc, .ref rt, .ref rv])), (rv, .inl (crv, 10, .inl (fun _ => 0))), (x, .inr (13, [.ref g, .ref ca, .int 0, .ref co, .int 0, .ref ra, .int 0, .ref rl, .ref tr, .ref f9, .ref f10, .ref f11, .ref f12, .ref f13])), (g, .inr (11, [.int 25, .ref a1, .ref a2, .ref a3, .ref a4, .ref a5, .ref a6, .ref a7, .ref a8, .ref a9, .ref a10, .ref a11, .int 0, .int 0]))] := hD
  have hK : va_K D vwCl [(cro, .object "ControlWood$Route"), (crv, .boolean)] s := hK
  have v0 := w1
  refine lv_aload_n hx hb dX6_course_5 rfl (lv_at hl 0 rfl) ?_
  refine va_get (D := D) (ci := 13) (v := .int 0) (C := RX6) (T := TX6) (N := 14) hx hb hts hb_1 hown hK hP 3 rfl rfl 4 (by decide) hw_4 (fun _ h9 => h9) rfl dX6_course_6 ?_
  refine lv_bipush (v := 6) hx hb dX6_course_9 (by decide) ?_
  refine lv_icmp_lt (tgt := 24) hx hb dX6_course_11 (by decide) (fun h3 => ?_) (fun h3 => absurd (by decide) h3)
  refine lv_aload_n hx hb dX6_course_24 rfl (lv_at hl 0 rfl) ?_
  refine va_get (D := D) (ci := 13) (v := .ref co) (C := RX6) (T := TX6) (N := 14) hx hb hts hb_1 hown hK hP 3 rfl rfl 3 (by decide) hw_5 (fun _ h9 => h9) rfl dX6_course_25 ?_
  refine lv_aload_n hx hb dX6_course_28 rfl (lv_at hl 0 rfl) ?_
  refine va_get (D := D) (ci := 13) (v := .int 0) (C := RX6) (T := TX6) (N := 14) hx hb hts hb_1 hown hK hP 3 rfl rfl 4 (by decide) hw_4 (fun _ h9 => h9) rfl dX6_course_29 ?_
  refine va_aldq hx hb hK hP 0 0 rfl rfl (vp_in_nI (n := 0) (by decide) (by decide)) dX6_course_32 ?_
  refine W.eq (g2 := F0 m 33 ls [.ref r0]) (by rw [show fR ((0 : Int32).toNatClampNeg) = some r0 from hR]; rfl) ?_
  refine lv_iload_n hx hb dX6_course_33 rfl (lv_at hl 1 rfl) ?_
  refine mc_v (wr := [(co, .inl (cro, 6, .inr (.inr (.inr (.inr fR))))), (x, .inr (13, [.ref g, .ref ca, .int 0, .ref co, .int 0, .ref ra, .int 0, .ref rl, .ref tr, .ref f9, .ref f10, .ref f11, .ref f12, .ref f13])), (g, .inr (11, [.int 25, .ref a1, .ref a2, .ref a3, .ref a4, .ref a5, .ref a6, .ref a7, .ref a8, .ref a9, .ref a10, .ref a11, .int 0, .int 0]))]) (va_runV (As := [.int p0]) (rest := []) ⟨hx, hb, hml, hown, hts⟩ (c_routeBegin l hst D r0 0 0 rc rt rv crv (fun _ => 0) p0 H.size) (cwV 1 hts (gi_c (List.mem_cons_of_mem _ (List.mem_append_left _ (List.mem_of_getElem? (i := 6) rfl))) rfl (gi_c (List.mem_cons_of_mem _ (List.mem_append_left _ (List.mem_of_getElem? (i := 7) rfl))) rfl (gi_c (List.mem_cons_of_mem _ (List.mem_append_left _ (List.mem_of_getElem? (i := 8) rfl))) rfl (gi_c (List.mem_cons_of_mem _ (List.mem_append_left _ (List.mem_of_getElem? (i := 9) rfl))) rfl (goodIn_sub hb_2 (List.all_eq_true.mpr gw_c_routeBegin)))))) rfl rfl rfl (by decide +kernel) ⟨Nat.le_of_ble_eq_true rfl, Nat.le_of_ble_eq_true rfl⟩) (pr_V (As := [.int p0]) (b := r0) (C := RX3) hP hD hK hS hA hE [1, 2] [1] rfl rfl rfl 1 10 rfl rfl rfl) rfl rfl hl.1 rfl (lv_room (Nat.le_of_ble_eq_true rfl)) dX6_course_34 ⟨Nat.le_of_ble_eq_true rfl, Nat.le_of_ble_eq_true rfl⟩) hP hD hK hS hA [1, 2] [0, 3, 4] rfl rfl (by decide) (by decide) (fun _ H locs w4 hP hD hK hS => ?_)
  have hP : va_P D vwCl [(co, .inl (cro, 6, .inr (.inr (.inr (.inr fR))))), (x, .inr (13, [.ref g, .ref ca, .int 0, .ref co, .int 0, .ref ra, .int 0, .ref rl, .ref tr, .ref f9, .ref f10, .ref f11, .ref f12, .ref f13])), (g, .inr (11, [.int 25, .ref a1, .ref a2, .ref a3, .ref a4, .ref a5, .ref a6, .ref a7, .ref a8, .ref a9, .ref a10, .ref a11, .int 0, .int 0]))] H := hP
  have hD : va_D A [(co, .inl (cro, 6, .inr (.inr (.inr (.inr fR))))), (x, .inr (13, [.ref g, .ref ca, .int 0, .ref co, .int 0, .ref ra, .int 0, .ref rl, .ref tr, .ref f9, .ref f10, .ref f11, .ref f12, .ref f13])), (g, .inr (11, [.int 25, .ref a1, .ref a2, .ref a3, .ref a4, .ref a5, .ref a6, .ref a7, .ref a8, .ref a9, .ref a10, .ref a11, .int 0, .int 0]))] := hD
  have hK : va_K D vwCl [(cro, .object "ControlWood$Route"), (crv, .boolean)] s := hK
  refine lv_aload_n hx hb dX6_course_37 rfl (lv_at hl 0 rfl) ?_
  refine lv_dup hx hb dX6_course_38 rfl ?_
  refine va_get (D := D) (ci := 13) (v := .int 0) (C := RX6) (T := TX6) (N := 14) hx hb hts hb_1 hown hK hP 1 rfl rfl 4 (by decide) hw_4 (fun _ h9 => h9) rfl dX6_course_39 ?_
  refine lv_iconst (v := 1) hx hb dX6_course_42 (by decide) ?_
  refine lv_iadd hx hb dX6_course_43 ?_
  refine lv_topi (fun x6 e6 => ?_)
  obtain rfl : x6 = 1 := e6.trans (by decide)
  refine va_put (D := D) (ci := 13) (v := .int 1) (ty := .int) (C := RX6) (T := TX6) (N := 14) hx hb hts hb_1 tyX6 tyX6_ok nmX6 hown hK hP hD hS 1 rfl rfl 4 (by decide) hw_4 (fun _ h9 => h9) rfl (by decide +kernel) rfl rfl (Nat.le_of_ble_eq_true rfl) dX6_course_44 (fun H locs hP hD hS => ?_)
  have hP : va_P D vwCl [(co, .inl (cro, 6, .inr (.inr (.inr (.inr fR))))), (x, .inr (13, [.ref g, .ref ca, .int 0, .ref co, .int 1, .ref ra, .int 0, .ref rl, .ref tr, .ref f9, .ref f10, .ref f11, .ref f12, .ref f13])), (g, .inr (11, [.int 25, .ref a1, .ref a2, .ref a3, .ref a4, .ref a5, .ref a6, .ref a7, .ref a8, .ref a9, .ref a10, .ref a11, .int 0, .int 0]))] H := hP
  have hD : va_D A [(co, .inl (cro, 6, .inr (.inr (.inr (.inr fR))))), (x, .inr (13, [.ref g, .ref ca, .int 0, .ref co, .int 1, .ref ra, .int 0, .ref rl, .ref tr, .ref f9, .ref f10, .ref f11, .ref f12, .ref f13])), (g, .inr (11, [.int 25, .ref a1, .ref a2, .ref a3, .ref a4, .ref a5, .ref a6, .ref a7, .ref a8, .ref a9, .ref a10, .ref a11, .int 0, .int 0]))] := hD
  refine lv_aload_n hx hb dX6_course_47 rfl (lv_at hl 0 rfl) ?_
  refine va_get (D := D) (ci := 13) (v := .int 1) (C := RX6) (T := TX6) (N := 14) hx hb hts hb_1 hown hK hP 1 rfl rfl 4 (by decide) hw_4 (fun _ h9 => h9) rfl dX6_course_48 ?_
  refine lv_iconst (v := 1) hx hb dX6_course_51 (by decide) ?_
  refine lv_isub hx hb dX6_course_52 ?_
  refine lv_topi (fun x7 e7 => ?_)
  obtain rfl : x7 = 0 := e7.trans (by decide)
  exact vx_ret (mr_i hx hb hr () (⟨(if_pos v0), rfl⟩) (hP.sub [] rfl) (hK.sub [] rfl) (hD.sub [] (by decide) rfl) hS (Nat.le_of_ble_eq_true rfl) (Nat.le_of_ble_eq_true rfl) hlocks dX6_course_53)

def us_c_late : List Cond := .code yX6_late cX6_late 5 (some .int) :: (([.methodLink RX6 71 yX6_needRange, .static yX6_needRange, .initialized RX6, .methodLink RX6 394 Lib.Math.max.name, .static Lib.Math.max.name, .initialized "java/lang/Math", .code Lib.Math.max.name Lib.Math.max.code 2 (some .int)] : List Cond) ++ (us_c_needRange ++ ([])))
theorem gw_c_late : ∀ w ∈ us_c_late, goodWord w = true := gw_cons rfl (gw_app (by decide +kernel) (gw_app gw_c_needRange (fun _ h => nomatch h)))
set_option maxHeartbeats 4000000 in
set_option maxRecDepth 100000 in
/-- late -/
theorem c_late (l : Launch) (hst : l.stackTraces = false) (D : va_G) (x : Nat) (g : Nat) (ca : Nat) (co : Nat) (ra : Nat) (rl : Nat) (tr : Nat) (f9 : Nat) (f10 : Nat) (f11 : Nat) (f12 : Nat) (f13 : Nat) (p0 : Int32) (p1 : Int32) (p2 : Int32) (sz : Nat) : vx_Met l yX6_late us_c_late { frames := 7, cells := 3, slots := 18, locals := 104 } (pw D [.ref x, .int p0, .int p1, .int p2] [] [(x, .inr (13, [.ref g, .ref ca, .int 0, .ref co, .int 0, .ref ra, .int 0, .ref rl, .ref tr, .ref f9, .ref f10, .ref f11, .ref f12, .ref f13]))] sz) (va_Qi (fun (r : Int32) (_ : Unit) => kf_late p0 p1 p2 = 0 ∧ r = rf_late p0 p1 p2) (qb D (va_A [(x, .inr (13, [.ref g, .ref ca, .int 0, .ref co, .int 0, .ref ra, .int 0, .ref rl, .ref tr, .ref f9, .ref f10, .ref f11, .ref f12, .ref f13]))] sz) (fun _ : Unit => []) (fun _ : Unit => ([] : List (ClassId × FieldType)))) (va_A [(x, .inr (13, [.ref g, .ref ca, .int 0, .ref co, .int 0, .ref ra, .int 0, .ref rl, .ref tr, .ref f9, .ref f10, .ref f11, .ref f12, .ref f13]))] sz)) (vx_X (fun E => (E = "java/lang/IllegalArgumentException" ∧ kf_late p0 p1 p2 = 1)) xb (va_A [(x, .inr (13, [.ref g, .ref ca, .int 0, .ref co, .int 0, .ref ra, .int 0, .ref rl, .ref tr, .ref f9, .ref f10, .ref f11, .ref f12, .ref f13]))] sz)) 3 18 (va_A [(x, .inr (13, [.ref g, .ref ca, .int 0, .ref co, .int 0, .ref ra, .int 0, .ref rl, .ref tr, .ref f9, .ref f10, .ref f11, .ref f12, .ref f13]))] sz) := by
  refine op_X (Qc := fun A => (va_Qi (fun (r : Int32) (_ : Unit) => kf_late p0 p1 p2 = 0 ∧ r = rf_late p0 p1 p2) (qb D A (fun _ : Unit => []) (fun _ : Unit => ([] : List (ClassId × FieldType)))) A)) (px := (fun E => (E = "java/lang/IllegalArgumentException" ∧ kf_late p0 p1 p2 = 1))) (by decide +kernel) rfl (Nat.le_of_ble_eq_true rfl) ?_
  intro p e s m args below meth c A ls hx hb hr hml hts hown hlocks hmn htab hA hD hS hP hK hE hsz hl
  have hown : s.vm.findClass RX6 = some m.cls := hown
  have hl : lv_has ls 5 [(0, .ref x), (1, .int p0), (2, .int p1), (3, .int p2)] := hl
  have hw_0 := hts (.methodLink RX6 71 yX6_needRange) (List.mem_cons_of_mem _ (List.mem_append_left _ (List.mem_of_getElem? (i := 0) rfl)))
  have hw_1 := hts (.static yX6_needRange) (List.mem_cons_of_mem _ (List.mem_append_left _ (List.mem_of_getElem? (i := 1) rfl)))
  have hw_2 := hts (.initialized RX6) (List.mem_cons_of_mem _ (List.mem_append_left _ (List.mem_of_getElem? (i := 2) rfl)))
  have hw_3 := hts (.methodLink RX6 394 Lib.Math.max.name) (List.mem_cons_of_mem _ (List.mem_append_left _ (List.mem_of_getElem? (i := 3) rfl)))
  have hw_4 := hts (.static Lib.Math.max.name) (List.mem_cons_of_mem _ (List.mem_append_left _ (List.mem_of_getElem? (i := 4) rfl)))
  have hw_5 := hts (.initialized "java/lang/Math") (List.mem_cons_of_mem _ (List.mem_append_left _ (List.mem_of_getElem? (i := 5) rfl)))
  have hw_6 := hts (.code Lib.Math.max.name Lib.Math.max.code 2 (some .int)) (List.mem_cons_of_mem _ (List.mem_append_left _ (List.mem_of_getElem? (i := 6) rfl)))
  have hb_0 : ∀ w ∈ us_c_needRange, w ∈ us_c_late := fun w h => List.mem_cons_of_mem _ (List.mem_append_right _ (List.mem_append_left _ h))
  refine lv_iload_n hx hb dX6_late_0 rfl (lv_at hl 1 rfl) ?_
  refine lv_iconst (v := 0) hx hb dX6_late_1 (by decide) ?_
  refine lv_sipush (v := 9999) hx hb dX6_late_2 (by decide) ?_
  refine mx_v (wr := [(x, .inr (13, [.ref g, .ref ca, .int 0, .ref co, .int 0, .ref ra, .int 0, .ref rl, .ref tr, .ref f9, .ref f10, .ref f11, .ref f12, .ref f13]))]) (vx_runS (As := [.int p0, .int 0, .int 9999]) (rest := []) ⟨hx, hb, hml, hown, hts⟩ (c_needRange l hst D p0 0 9999 s.heap.size) (va_cwS 3 hts (gi_c (List.mem_cons_of_mem _ (List.mem_append_left _ (List.mem_of_getElem? (i := 0) rfl))) rfl (gi_c (List.mem_cons_of_mem _ (List.mem_append_left _ (List.mem_of_getElem? (i := 1) rfl))) rfl (gi_c (List.mem_cons_of_mem _ (List.mem_append_left _ (List.mem_of_getElem? (i := 2) rfl))) rfl (goodIn_sub hb_0 (List.all_eq_true.mpr gw_c_needRange))))) rfl rfl rfl (by decide +kernel) ⟨Nat.le_of_ble_eq_true rfl, Nat.le_of_ble_eq_true rfl⟩) (pr_S (As := [.int p0, .int 0, .int 9999]) hP hD hK hS hA hE [] [] rfl rfl rfl) rfl rfl hl.1 rfl (lv_room (Nat.le_of_ble_eq_true rfl)) dX6_late_5 ⟨Nat.le_of_ble_eq_true rfl, Nat.le_of_ble_eq_true rfl⟩) hP hD hK hS hA [] [0] rfl rfl (by decide) (by decide) htab hlocks (fun E h => ⟨h.1, (if_neg h.2)⟩) (Nat.le_of_ble_eq_true rfl) (Nat.le_of_ble_eq_true rfl) (fun _ H locs w1 hP hD hK hS => ?_)
  have hP : va_P D vwCl [(x, .inr (13, [.ref g, .ref ca, .int 0, .ref co, .int 0, .ref ra, .int 0, .ref rl, .ref tr, .ref f9, .ref f10, .ref f11, .ref f12, .ref f13]))] H := hP
  have hD : va_D A [(x, .inr (13, [.ref g, .ref ca, .int 0, .ref co, .int 0, .ref ra, .int 0, .ref rl, .ref tr, .ref f9, .ref f10, .ref f11, .ref f12, .ref f13]))] := hD
  have hK : va_K D vwCl [] s := hK
  have v0 := w1
  refine lv_iload_n hx hb dX6_late_8 rfl (lv_at hl 2 rfl) ?_
  refine lv_iconst (v := 0) hx hb dX6_late_9 (by decide) ?_
  refine lv_sipush (v := 9999) hx hb dX6_late_10 (by decide) ?_
  refine mx_v (wr := [(x, .inr (13, [.ref g, .ref ca, .int 0, .ref co, .int 0, .ref ra, .int 0, .ref rl, .ref tr, .ref f9, .ref f10, .ref f11, .ref f12, .ref f13]))]) (vx_runS (As := [.int p1, .int 0, .int 9999]) (rest := []) ⟨hx, hb, hml, hown, hts⟩ (c_needRange l hst D p1 0 9999 H.size) (va_cwS 3 hts (gi_c (List.mem_cons_of_mem _ (List.mem_append_left _ (List.mem_of_getElem? (i := 0) rfl))) rfl (gi_c (List.mem_cons_of_mem _ (List.mem_append_left _ (List.mem_of_getElem? (i := 1) rfl))) rfl (gi_c (List.mem_cons_of_mem _ (List.mem_append_left _ (List.mem_of_getElem? (i := 2) rfl))) rfl (goodIn_sub hb_0 (List.all_eq_true.mpr gw_c_needRange))))) rfl rfl rfl (by decide +kernel) ⟨Nat.le_of_ble_eq_true rfl, Nat.le_of_ble_eq_true rfl⟩) (pr_S (As := [.int p1, .int 0, .int 9999]) hP hD hK hS hA hE [] [] rfl rfl rfl) rfl rfl hl.1 rfl (lv_room (Nat.le_of_ble_eq_true rfl)) dX6_late_13 ⟨Nat.le_of_ble_eq_true rfl, Nat.le_of_ble_eq_true rfl⟩) hP hD hK hS hA [] [0] rfl rfl (by decide) (by decide) htab hlocks (fun E h => ⟨h.1, ((if_pos v0).trans (if_neg h.2))⟩) (Nat.le_of_ble_eq_true rfl) (Nat.le_of_ble_eq_true rfl) (fun _ H locs w3 hP hD hK hS => ?_)
  have hP : va_P D vwCl [(x, .inr (13, [.ref g, .ref ca, .int 0, .ref co, .int 0, .ref ra, .int 0, .ref rl, .ref tr, .ref f9, .ref f10, .ref f11, .ref f12, .ref f13]))] H := hP
  have hD : va_D A [(x, .inr (13, [.ref g, .ref ca, .int 0, .ref co, .int 0, .ref ra, .int 0, .ref rl, .ref tr, .ref f9, .ref f10, .ref f11, .ref f12, .ref f13]))] := hD
  have hK : va_K D vwCl [] s := hK
  have v1 := w3
  refine lv_iload_n hx hb dX6_late_16 rfl (lv_at hl 3 rfl) ?_
  refine lv_iconst (v := 0) hx hb dX6_late_17 (by decide) ?_
  refine lv_bipush (v := 99) hx hb dX6_late_18 (by decide) ?_
  refine mx_v (wr := [(x, .inr (13, [.ref g, .ref ca, .int 0, .ref co, .int 0, .ref ra, .int 0, .ref rl, .ref tr, .ref f9, .ref f10, .ref f11, .ref f12, .ref f13]))]) (vx_runS (As := [.int p2, .int 0, .int 99]) (rest := []) ⟨hx, hb, hml, hown, hts⟩ (c_needRange l hst D p2 0 99 H.size) (va_cwS 3 hts (gi_c (List.mem_cons_of_mem _ (List.mem_append_left _ (List.mem_of_getElem? (i := 0) rfl))) rfl (gi_c (List.mem_cons_of_mem _ (List.mem_append_left _ (List.mem_of_getElem? (i := 1) rfl))) rfl (gi_c (List.mem_cons_of_mem _ (List.mem_append_left _ (List.mem_of_getElem? (i := 2) rfl))) rfl (goodIn_sub hb_0 (List.all_eq_true.mpr gw_c_needRange))))) rfl rfl rfl (by decide +kernel) ⟨Nat.le_of_ble_eq_true rfl, Nat.le_of_ble_eq_true rfl⟩) (pr_S (As := [.int p2, .int 0, .int 99]) hP hD hK hS hA hE [] [] rfl rfl rfl) rfl rfl hl.1 rfl (lv_room (Nat.le_of_ble_eq_true rfl)) dX6_late_20 ⟨Nat.le_of_ble_eq_true rfl, Nat.le_of_ble_eq_true rfl⟩) hP hD hK hS hA [] [0] rfl rfl (by decide) (by decide) htab hlocks (fun E h => ⟨h.1, ((if_pos v0).trans ((if_pos v1).trans (if_neg h.2)))⟩) (Nat.le_of_ble_eq_true rfl) (Nat.le_of_ble_eq_true rfl) (fun _ H locs w5 hP hD hK hS => ?_)
  have hP : va_P D vwCl [(x, .inr (13, [.ref g, .ref ca, .int 0, .ref co, .int 0, .ref ra, .int 0, .ref rl, .ref tr, .ref f9, .ref f10, .ref f11, .ref f12, .ref f13]))] H := hP
  have hD : va_D A [(x, .inr (13, [.ref g, .ref ca, .int 0, .ref co, .int 0, .ref ra, .int 0, .ref rl, .ref tr, .ref f9, .ref f10, .ref f11, .ref f12, .ref f13]))] := hD
  have hK : va_K D vwCl [] s := hK
  have v2 := w5
  refine lv_iload_n hx hb dX6_late_23 rfl (lv_at hl 2 rfl) ?_
  refine lv_bipush (v := 59) hx hb dX6_late_24 (by decide) ?_
  refine lv_iadd hx hb dX6_late_26 ?_
  refine lv_topi (fun x7 e7 => ?_)
  refine lv_bipush (v := 60) hx hb dX6_late_27 (by decide) ?_
  refine lv_idiv hx hb dX6_late_29 (by decide) ?_
  refine lv_topi (fun x8 e8 => ?_)
  refine lv_istore (lv' := [(4, .int x8), (0, .ref x), (1, .int p0), (2, .int p1), (3, .int p2)]) hx hb dX6_late_30 hl (by decide) rfl (fun ls hl => ?_)
  refine lv_iconst (v := 0) hx hb dX6_late_32 (by decide) ?_
  refine lv_iload_n hx hb dX6_late_33 rfl (lv_at hl 2 rfl) ?_
  refine lv_iload hx hb dX6_late_34 (lv_at hl 0 rfl) ?_
  refine lv_iload_n hx hb dX6_late_36 rfl (lv_at hl 4 rfl) ?_
  refine lv_imul hx hb dX6_late_37 ?_
  refine lv_topi (fun x9 e9 => ?_)
  refine lv_isub hx hb dX6_late_38 ?_
  refine lv_topi (fun x10 e10 => ?_)
  refine va_mmax hx hb (by rw [hml]; exact hl.1.symm) hown hw_3 hw_4 hw_5 hw_6 (Nat.le_of_ble_eq_true rfl) (Nat.le_of_ble_eq_true rfl) (Nat.le_of_ble_eq_true rfl) (Nat.le_of_ble_eq_true rfl) dX6_late_39 ?_
  refine lv_topi (fun x11 e11 => ?_)
  exact vx_ret (mr_i hx hb hr () (⟨((if_pos v0).trans ((if_pos v1).trans (if_pos v2))), by subst_vars; rfl⟩) (hP.sub [] rfl) (hK.sub [] rfl) (hD.sub [] (by decide) rfl) hS (Nat.le_of_ble_eq_true rfl) (Nat.le_of_ble_eq_true rfl) hlocks dX6_late_42)

def us_c_isFair : List Cond := .code yX6_isFair cX6_isFair 3 (some .boolean) :: (([.fieldLink RX6 37 "ControlWood" "relay" "LControlWood$Relay;", .fieldLink RX6 85 "ControlWood$Relay" "teams" "I"] : List Cond) ++ (wsX60 ++ (wsX20 ++ ([]))))
theorem gw_c_isFair : ∀ w ∈ us_c_isFair, goodWord w = true := gw_cons rfl (gw_app (by decide +kernel) (gw_app gwf_X6 (gw_app gwf_X2 (fun _ h => nomatch h))))
set_option maxHeartbeats 4000000 in
set_option maxRecDepth 100000 in
/-- isFair -/
theorem c_isFair (l : Launch) (hst : l.stackTraces = false) (D : va_G) (x : Nat) (g : Nat) (ca : Nat) (co : Nat) (ra : Nat) (rl : Nat) (tr : Nat) (f9 : Nat) (f10 : Nat) (f11 : Nat) (f12 : Nat) (f13 : Nat) (re1 : Nat) (re2 : Nat) (re3 : Nat) (re4 : Nat) (sz : Nat) : Met l yX6_isFair us_c_isFair { frames := 0, cells := 0, slots := 0, locals := 0 } (pw D [.ref x] [] [(x, .inr (13, [.ref g, .ref ca, .int 0, .ref co, .int 0, .ref ra, .int 0, .ref rl, .ref tr, .ref f9, .ref f10, .ref f11, .ref f12, .ref f13])), (rl, .inr (9, [.int 0, .int 0, .ref re1, .ref re2, .ref re3, .ref re4]))] sz) (va_Qi (fun (r : Int32) (_ : Unit) => r = 1) (qb D (va_A [(x, .inr (13, [.ref g, .ref ca, .int 0, .ref co, .int 0, .ref ra, .int 0, .ref rl, .ref tr, .ref f9, .ref f10, .ref f11, .ref f12, .ref f13])), (rl, .inr (9, [.int 0, .int 0, .ref re1, .ref re2, .ref re3, .ref re4]))] sz) (fun _ : Unit => []) (fun _ : Unit => ([] : List (ClassId × FieldType)))) (va_A [(x, .inr (13, [.ref g, .ref ca, .int 0, .ref co, .int 0, .ref ra, .int 0, .ref rl, .ref tr, .ref f9, .ref f10, .ref f11, .ref f12, .ref f13])), (rl, .inr (9, [.int 0, .int 0, .ref re1, .ref re2, .ref re3, .ref re4]))] sz)) 0 0 (va_A [(x, .inr (13, [.ref g, .ref ca, .int 0, .ref co, .int 0, .ref ra, .int 0, .ref rl, .ref tr, .ref f9, .ref f10, .ref f11, .ref f12, .ref f13])), (rl, .inr (9, [.int 0, .int 0, .ref re1, .ref re2, .ref re3, .ref re4]))] sz) := by
  refine op_M (Qc := fun A => (va_Qi (fun (r : Int32) (_ : Unit) => r = 1) (qb D A (fun _ : Unit => []) (fun _ : Unit => ([] : List (ClassId × FieldType)))) A)) (by decide +kernel) rfl (Nat.le_of_ble_eq_true rfl) ?_
  intro p e s m args below meth c A ls hx hb hr hml hts hown hlocks hmn htab hA hD hS hP hK hE hsz hl
  have hown : s.vm.findClass RX6 = some m.cls := hown
  have hl : lv_has ls 3 [(0, .ref x)] := hl
  have hw_0 := hts (.fieldLink RX6 37 "ControlWood" "relay" "LControlWood$Relay;") (List.mem_cons_of_mem _ (List.mem_append_left _ (List.mem_of_getElem? (i := 0) rfl)))
  have hw_1 := hts (.fieldLink RX6 85 "ControlWood$Relay" "teams" "I") (List.mem_cons_of_mem _ (List.mem_append_left _ (List.mem_of_getElem? (i := 1) rfl)))
  have hb_0 : ∀ w ∈ wsX60, w ∈ us_c_isFair := fun w h => List.mem_cons_of_mem _ (List.mem_append_right _ (List.mem_append_left _ h))
  have hb_1 : ∀ w ∈ wsX20, w ∈ us_c_isFair := fun w h => List.mem_cons_of_mem _ (List.mem_append_right _ (List.mem_append_right _ (List.mem_append_left _ h)))
  refine lv_aload_n hx hb dX6_isFair_0 rfl (lv_at hl 0 rfl) ?_
  refine va_get (D := D) (ci := 13) (v := .ref rl) (C := RX6) (T := TX6) (N := 14) hx hb hts hb_0 hown hK hP 0 rfl rfl 7 (by decide) hw_0 (fun _ h9 => h9) rfl dX6_isFair_1 ?_
  refine va_get (D := D) (ci := 9) (v := .int 0) (C := RX2) (T := TX2) (N := 6) hx hb hts hb_1 hown hK hP 1 rfl rfl 1 (by decide) hw_1 (fun _ h9 => h9) rfl dX6_isFair_4 ?_
  refine lv_if_ne (tgt := 12) hx hb dX6_isFair_7 (by decide) (fun h1 => absurd (by decide) h1) (fun h1 => ?_)
  refine lv_iconst (v := 1) hx hb dX6_isFair_10 (by decide) ?_
  exact mr_z (rfl) hx hb hr () (rfl) (hP.sub [] rfl) (hK.sub [] rfl) (hD.sub [] (by decide) rfl) hS (Nat.le_of_ble_eq_true rfl) (Nat.le_of_ble_eq_true rfl) hlocks dX6_isFair_11

def us_c_fairWays : List Cond := .code yX6_fairWays cX6_fairWays 3 (some .int) :: (([.fieldLink RX6 37 "ControlWood" "relay" "LControlWood$Relay;", .fieldLink RX6 85 "ControlWood$Relay" "teams" "I"] : List Cond) ++ (wsX60 ++ (wsX20 ++ ([]))))
theorem gw_c_fairWays : ∀ w ∈ us_c_fairWays, goodWord w = true := gw_cons rfl (gw_app (by decide +kernel) (gw_app gwf_X6 (gw_app gwf_X2 (fun _ h => nomatch h))))
set_option maxHeartbeats 4000000 in
set_option maxRecDepth 100000 in
/-- fairWays -/
theorem c_fairWays (l : Launch) (hst : l.stackTraces = false) (D : va_G) (x : Nat) (g : Nat) (ca : Nat) (co : Nat) (ra : Nat) (rl : Nat) (tr : Nat) (f9 : Nat) (f10 : Nat) (f11 : Nat) (f12 : Nat) (f13 : Nat) (re1 : Nat) (re2 : Nat) (re3 : Nat) (re4 : Nat) (sz : Nat) : Met l yX6_fairWays us_c_fairWays { frames := 0, cells := 0, slots := 0, locals := 0 } (pw D [.ref x] [] [(x, .inr (13, [.ref g, .ref ca, .int 0, .ref co, .int 0, .ref ra, .int 0, .ref rl, .ref tr, .ref f9, .ref f10, .ref f11, .ref f12, .ref f13])), (rl, .inr (9, [.int 0, .int 0, .ref re1, .ref re2, .ref re3, .ref re4]))] sz) (va_Qi (fun (r : Int32) (_ : Unit) => r = 1) (qb D (va_A [(x, .inr (13, [.ref g, .ref ca, .int 0, .ref co, .int 0, .ref ra, .int 0, .ref rl, .ref tr, .ref f9, .ref f10, .ref f11, .ref f12, .ref f13])), (rl, .inr (9, [.int 0, .int 0, .ref re1, .ref re2, .ref re3, .ref re4]))] sz) (fun _ : Unit => []) (fun _ : Unit => ([] : List (ClassId × FieldType)))) (va_A [(x, .inr (13, [.ref g, .ref ca, .int 0, .ref co, .int 0, .ref ra, .int 0, .ref rl, .ref tr, .ref f9, .ref f10, .ref f11, .ref f12, .ref f13])), (rl, .inr (9, [.int 0, .int 0, .ref re1, .ref re2, .ref re3, .ref re4]))] sz)) 0 0 (va_A [(x, .inr (13, [.ref g, .ref ca, .int 0, .ref co, .int 0, .ref ra, .int 0, .ref rl, .ref tr, .ref f9, .ref f10, .ref f11, .ref f12, .ref f13])), (rl, .inr (9, [.int 0, .int 0, .ref re1, .ref re2, .ref re3, .ref re4]))] sz) := by
  refine op_M (Qc := fun A => (va_Qi (fun (r : Int32) (_ : Unit) => r = 1) (qb D A (fun _ : Unit => []) (fun _ : Unit => ([] : List (ClassId × FieldType)))) A)) (by decide +kernel) rfl (Nat.le_of_ble_eq_true rfl) ?_
  intro p e s m args below meth c A ls hx hb hr hml hts hown hlocks hmn htab hA hD hS hP hK hE hsz hl
  have hown : s.vm.findClass RX6 = some m.cls := hown
  have hl : lv_has ls 3 [(0, .ref x)] := hl
  have hw_0 := hts (.fieldLink RX6 37 "ControlWood" "relay" "LControlWood$Relay;") (List.mem_cons_of_mem _ (List.mem_append_left _ (List.mem_of_getElem? (i := 0) rfl)))
  have hw_1 := hts (.fieldLink RX6 85 "ControlWood$Relay" "teams" "I") (List.mem_cons_of_mem _ (List.mem_append_left _ (List.mem_of_getElem? (i := 1) rfl)))
  have hb_0 : ∀ w ∈ wsX60, w ∈ us_c_fairWays := fun w h => List.mem_cons_of_mem _ (List.mem_append_right _ (List.mem_append_left _ h))
  have hb_1 : ∀ w ∈ wsX20, w ∈ us_c_fairWays := fun w h => List.mem_cons_of_mem _ (List.mem_append_right _ (List.mem_append_right _ (List.mem_append_left _ h)))
  refine lv_aload_n hx hb dX6_fairWays_0 rfl (lv_at hl 0 rfl) ?_
  refine va_get (D := D) (ci := 13) (v := .ref rl) (C := RX6) (T := TX6) (N := 14) hx hb hts hb_0 hown hK hP 0 rfl rfl 7 (by decide) hw_0 (fun _ h9 => h9) rfl dX6_fairWays_1 ?_
  refine va_get (D := D) (ci := 9) (v := .int 0) (C := RX2) (T := TX2) (N := 6) hx hb hts hb_1 hown hK hP 1 rfl rfl 1 (by decide) hw_1 (fun _ h9 => h9) rfl dX6_fairWays_4 ?_
  refine lv_if_ne (tgt := 12) hx hb dX6_fairWays_7 (by decide) (fun h1 => absurd (by decide) h1) (fun h1 => ?_)
  refine lv_iconst (v := 1) hx hb dX6_fairWays_10 (by decide) ?_
  exact mr_i hx hb hr () (rfl) (hP.sub [] rfl) (hK.sub [] rfl) (hD.sub [] (by decide) rfl) hS (Nat.le_of_ble_eq_true rfl) (Nat.le_of_ble_eq_true rfl) hlocks dX6_fairWays_11

def us_c_checksum : List Cond := .code yX6_checksum cX6_checksum 6 (some .long) :: (([.constantLong RX6 425 (7), .fieldLink RX6 82 "ControlWood" "runnerCount" "I"] : List Cond) ++ (wsX60 ++ ([])))
theorem gw_c_checksum : ∀ w ∈ us_c_checksum, goodWord w = true := gw_cons rfl (gw_app (by decide +kernel) (gw_app gwf_X6 (fun _ h => nomatch h)))
set_option maxHeartbeats 4000000 in
set_option maxRecDepth 100000 in
/-- checksum -/
theorem c_checksum (l : Launch) (hst : l.stackTraces = false) (D : va_G) (x : Nat) (g : Nat) (ca : Nat) (co : Nat) (ra : Nat) (rl : Nat) (tr : Nat) (f9 : Nat) (f10 : Nat) (f11 : Nat) (f12 : Nat) (f13 : Nat) (sz : Nat) : Met l yX6_checksum us_c_checksum { frames := 0, cells := 0, slots := 0, locals := 0 } (pw D [.ref x] [] [(x, .inr (13, [.ref g, .ref ca, .int 0, .ref co, .int 0, .ref ra, .int 0, .ref rl, .ref tr, .ref f9, .ref f10, .ref f11, .ref f12, .ref f13]))] sz) (va_Ql (fun (r : Int64) (_ : Unit) => r = 7) (qb D (va_A [(x, .inr (13, [.ref g, .ref ca, .int 0, .ref co, .int 0, .ref ra, .int 0, .ref rl, .ref tr, .ref f9, .ref f10, .ref f11, .ref f12, .ref f13]))] sz) (fun _ : Unit => []) (fun _ : Unit => ([] : List (ClassId × FieldType)))) (va_A [(x, .inr (13, [.ref g, .ref ca, .int 0, .ref co, .int 0, .ref ra, .int 0, .ref rl, .ref tr, .ref f9, .ref f10, .ref f11, .ref f12, .ref f13]))] sz)) 0 0 (va_A [(x, .inr (13, [.ref g, .ref ca, .int 0, .ref co, .int 0, .ref ra, .int 0, .ref rl, .ref tr, .ref f9, .ref f10, .ref f11, .ref f12, .ref f13]))] sz) := by
  refine op_M (Qc := fun A => (va_Ql (fun (r : Int64) (_ : Unit) => r = 7) (qb D A (fun _ : Unit => []) (fun _ : Unit => ([] : List (ClassId × FieldType)))) A)) (by decide +kernel) rfl (Nat.le_of_ble_eq_true rfl) ?_
  intro p e s m args below meth c A ls hx hb hr hml hts hown hlocks hmn htab hA hD hS hP hK hE hsz hl
  have hown : s.vm.findClass RX6 = some m.cls := hown
  have hl : lv_has ls 6 [(0, .ref x)] := hl
  have hw_0 := hts (.constantLong RX6 425 (7)) (List.mem_cons_of_mem _ (List.mem_append_left _ (List.mem_of_getElem? (i := 0) rfl)))
  have hw_1 := hts (.fieldLink RX6 82 "ControlWood" "runnerCount" "I") (List.mem_cons_of_mem _ (List.mem_append_left _ (List.mem_of_getElem? (i := 1) rfl)))
  have hb_0 : ∀ w ∈ wsX60, w ∈ us_c_checksum := fun w h => List.mem_cons_of_mem _ (List.mem_append_right _ (List.mem_append_left _ h))
  refine lv_ldc2 hx hb hown hw_0 dX6_checksum_0 ?_
  refine lv_lstore_n (lv' := [(1, .long 7), (0, .ref x)]) hx hb dX6_checksum_3 rfl hl (by decide) rfl (fun ls hl => ?_)
  refine lv_iconst (v := 0) hx hb dX6_checksum_4 (by decide) ?_
  refine lv_istore_n (lv' := [(3, .int 0), (1, .long 7), (0, .ref x)]) hx hb dX6_checksum_5 rfl hl (by decide) rfl (fun ls hl => ?_)
  refine lv_iload_n hx hb dX6_checksum_6 rfl (lv_at hl 0 rfl) ?_
  refine lv_aload_n hx hb dX6_checksum_7 rfl (lv_at hl 2 rfl) ?_
  refine va_get (D := D) (ci := 13) (v := .int 0) (C := RX6) (T := TX6) (N := 14) hx hb hts hb_0 hown hK hP 0 rfl rfl 6 (by decide) hw_1 (fun _ h9 => h9) rfl dX6_checksum_8 ?_
  refine lv_icmp_ge (tgt := 79) hx hb dX6_checksum_11 (by decide) (fun h1 => ?_) (fun h1 => absurd (by decide) h1)
  refine lv_lload_n hx hb dX6_checksum_79 rfl (lv_at hl 1 rfl) ?_
  exact mr_l hx hb hr () (rfl) (hP.sub [] rfl) (hK.sub [] rfl) (hD.sub [] (by decide) rfl) hS (Nat.le_of_ble_eq_true rfl) (Nat.le_of_ble_eq_true rfl) hlocks dX6_checksum_80

def us_c_isSound : List Cond := .code yX6_isSound cX6_isSound 2 (some .boolean) :: (([.fieldLink RX6 82 "ControlWood" "runnerCount" "I", .fieldLink RX6 12 "ControlWood" "ground" "LControlWood$Terrain;", .methodLink RX6 438 yX4_hasNoDearWay, .instanceMethod yX4_hasNoDearWay, .selects RX4 yX4_hasNoDearWay yX4_hasNoDearWay, .initialized RX4] : List Cond) ++ (wsX60 ++ (us_c_hasNoDearWay ++ ([]))))
theorem gw_c_isSound : ∀ w ∈ us_c_isSound, goodWord w = true := gw_cons rfl (gw_app (by decide +kernel) (gw_app gwf_X6 (gw_app gw_c_hasNoDearWay (fun _ h => nomatch h))))
set_option maxHeartbeats 4000000 in
set_option maxRecDepth 100000 in
/-- isSound -/
theorem c_isSound (l : Launch) (hst : l.stackTraces = false) (D : va_G) (x : Nat) (g : Nat) (ca : Nat) (co : Nat) (ra : Nat) (rl : Nat) (tr : Nat) (f9 : Nat) (f10 : Nat) (f11 : Nat) (f12 : Nat) (f13 : Nat) (a1 : Nat) (a2 : Nat) (a3 : Nat) (a4 : Nat) (a5 : Nat) (a6 : Nat) (a7 : Nat) (a8 : Nat) (a9 : Nat) (a10 : Nat) (a11 : Nat) (ck : ClassId) (csk : ClassId) (cg : ClassId) (ch : ClassId) (csg : ClassId) (cw : ClassId) (cq : ClassId) (cz : ClassId) (cb : ClassId) (sz : Nat) : Met l yX6_isSound us_c_isSound { frames := 5, cells := 0, slots := 0, locals := 114 } (pw D [.ref x] [(ck, .char), (csk, .char), (cg, .int), (ch, .int), (csg, .int), (cw, .int), (cq, .int), (cz, .boolean), (cb, .int)] [(x, .inr (13, [.ref g, .ref ca, .int 0, .ref co, .int 0, .ref ra, .int 0, .ref rl, .ref tr, .ref f9, .ref f10, .ref f11, .ref f12, .ref f13])), (g, .inr (11, [.int 25, .ref a1, .ref a2, .ref a3, .ref a4, .ref a5, .ref a6, .ref a7, .ref a8, .ref a9, .ref a10, .ref a11, .int 0, .int 0])), (a6, .inl (cw, 144, .inl (fL zL))), (a10, .inl (cq, 144, .inl (fL zL))), (a11, .inl (cz, 144, .inl (fL zL))), (a3, .inl (ck, 144, .inl okF)), (a5, .inl (csk, 144, .inl okF)), (a1, .inl (cg, 144, .inl (fun _ => 0))), (a2, .inl (ch, 144, .inl (fun _ => 0))), (a4, .inl (csg, 144, .inl (fun _ => 0))), (a9, .inl (cb, 576, .inl beF))] sz) (va_Qi (fun (r : Int32) (_ : Unit) => r = 1) (qb D (va_A [(x, .inr (13, [.ref g, .ref ca, .int 0, .ref co, .int 0, .ref ra, .int 0, .ref rl, .ref tr, .ref f9, .ref f10, .ref f11, .ref f12, .ref f13])), (g, .inr (11, [.int 25, .ref a1, .ref a2, .ref a3, .ref a4, .ref a5, .ref a6, .ref a7, .ref a8, .ref a9, .ref a10, .ref a11, .int 0, .int 0])), (a6, .inl (cw, 144, .inl (fL zL))), (a10, .inl (cq, 144, .inl (fL zL))), (a11, .inl (cz, 144, .inl (fL zL))), (a3, .inl (ck, 144, .inl okF)), (a5, .inl (csk, 144, .inl okF)), (a1, .inl (cg, 144, .inl (fun _ => 0))), (a2, .inl (ch, 144, .inl (fun _ => 0))), (a4, .inl (csg, 144, .inl (fun _ => 0))), (a9, .inl (cb, 576, .inl beF))] sz) (fun _ : Unit => []) (fun _ : Unit => ([] : List (ClassId × FieldType)))) (va_A [(x, .inr (13, [.ref g, .ref ca, .int 0, .ref co, .int 0, .ref ra, .int 0, .ref rl, .ref tr, .ref f9, .ref f10, .ref f11, .ref f12, .ref f13])), (g, .inr (11, [.int 25, .ref a1, .ref a2, .ref a3, .ref a4, .ref a5, .ref a6, .ref a7, .ref a8, .ref a9, .ref a10, .ref a11, .int 0, .int 0])), (a6, .inl (cw, 144, .inl (fL zL))), (a10, .inl (cq, 144, .inl (fL zL))), (a11, .inl (cz, 144, .inl (fL zL))), (a3, .inl (ck, 144, .inl okF)), (a5, .inl (csk, 144, .inl okF)), (a1, .inl (cg, 144, .inl (fun _ => 0))), (a2, .inl (ch, 144, .inl (fun _ => 0))), (a4, .inl (csg, 144, .inl (fun _ => 0))), (a9, .inl (cb, 576, .inl beF))] sz)) 0 0 (va_A [(x, .inr (13, [.ref g, .ref ca, .int 0, .ref co, .int 0, .ref ra, .int 0, .ref rl, .ref tr, .ref f9, .ref f10, .ref f11, .ref f12, .ref f13])), (g, .inr (11, [.int 25, .ref a1, .ref a2, .ref a3, .ref a4, .ref a5, .ref a6, .ref a7, .ref a8, .ref a9, .ref a10, .ref a11, .int 0, .int 0])), (a6, .inl (cw, 144, .inl (fL zL))), (a10, .inl (cq, 144, .inl (fL zL))), (a11, .inl (cz, 144, .inl (fL zL))), (a3, .inl (ck, 144, .inl okF)), (a5, .inl (csk, 144, .inl okF)), (a1, .inl (cg, 144, .inl (fun _ => 0))), (a2, .inl (ch, 144, .inl (fun _ => 0))), (a4, .inl (csg, 144, .inl (fun _ => 0))), (a9, .inl (cb, 576, .inl beF))] sz) := by
  refine op_M (Qc := fun A => (va_Qi (fun (r : Int32) (_ : Unit) => r = 1) (qb D A (fun _ : Unit => []) (fun _ : Unit => ([] : List (ClassId × FieldType)))) A)) (by decide +kernel) rfl (Nat.le_of_ble_eq_true rfl) ?_
  intro p e s m args below meth c A ls hx hb hr hml hts hown hlocks hmn htab hA hD hS hP hK hE hsz hl
  have hown : s.vm.findClass RX6 = some m.cls := hown
  have hl : lv_has ls 2 [(0, .ref x)] := hl
  have hw_0 := hts (.fieldLink RX6 82 "ControlWood" "runnerCount" "I") (List.mem_cons_of_mem _ (List.mem_append_left _ (List.mem_of_getElem? (i := 0) rfl)))
  have hw_1 := hts (.fieldLink RX6 12 "ControlWood" "ground" "LControlWood$Terrain;") (List.mem_cons_of_mem _ (List.mem_append_left _ (List.mem_of_getElem? (i := 1) rfl)))
  have hw_2 := hts (.methodLink RX6 438 yX4_hasNoDearWay) (List.mem_cons_of_mem _ (List.mem_append_left _ (List.mem_of_getElem? (i := 2) rfl)))
  have hw_3 := hts (.instanceMethod yX4_hasNoDearWay) (List.mem_cons_of_mem _ (List.mem_append_left _ (List.mem_of_getElem? (i := 3) rfl)))
  have hw_4 := hts (.selects RX4 yX4_hasNoDearWay yX4_hasNoDearWay) (List.mem_cons_of_mem _ (List.mem_append_left _ (List.mem_of_getElem? (i := 4) rfl)))
  have hw_5 := hts (.initialized RX4) (List.mem_cons_of_mem _ (List.mem_append_left _ (List.mem_of_getElem? (i := 5) rfl)))
  have hb_0 : ∀ w ∈ wsX60, w ∈ us_c_isSound := fun w h => List.mem_cons_of_mem _ (List.mem_append_right _ (List.mem_append_left _ h))
  have hb_1 : ∀ w ∈ us_c_hasNoDearWay, w ∈ us_c_isSound := fun w h => List.mem_cons_of_mem _ (List.mem_append_right _ (List.mem_append_right _ (List.mem_append_left _ h)))
  refine lv_iconst (v := 0) hx hb dX6_isSound_0 (by decide) ?_
  refine lv_istore_n (lv' := [(1, .int 0), (0, .ref x)]) hx hb dX6_isSound_1 rfl hl (by decide) rfl (fun ls hl => ?_)
  refine lv_iload_n hx hb dX6_isSound_2 rfl (lv_at hl 0 rfl) ?_
  refine lv_aload_n hx hb dX6_isSound_3 rfl (lv_at hl 1 rfl) ?_
  refine va_get (D := D) (ci := 13) (v := .int 0) (C := RX6) (T := TX6) (N := 14) hx hb hts hb_0 hown hK hP 0 rfl rfl 6 (by decide) hw_0 (fun _ h9 => h9) rfl dX6_isSound_4 ?_
  refine lv_icmp_ge (tgt := 68) hx hb dX6_isSound_7 (by decide) (fun h1 => ?_) (fun h1 => absurd (by decide) h1)
  refine lv_aload_n hx hb dX6_isSound_68 rfl (lv_at hl 1 rfl) ?_
  refine va_get (D := D) (ci := 13) (v := .ref g) (C := RX6) (T := TX6) (N := 14) hx hb hts hb_0 hown hK hP 0 rfl rfl 0 (by decide) hw_1 (fun _ h9 => h9) rfl dX6_isSound_69 ?_
  refine mc_i (wr := [(x, .inr (13, [.ref g, .ref ca, .int 0, .ref co, .int 0, .ref ra, .int 0, .ref rl, .ref tr, .ref f9, .ref f10, .ref f11, .ref f12, .ref f13]))]) (va_runV (As := []) (rest := []) ⟨hx, hb, hml, hown, hts⟩ (c_hasNoDearWay l hst D g a1 a2 a3 a4 a5 a6 a7 a8 a9 a10 a11 0 0 cw cq cz ck csk cg ch csg cb zL zL zL s.heap.size (by exact List.length_replicate) (okQ_0) (hn_ok)) (cwV 0 hts (gi_c (List.mem_cons_of_mem _ (List.mem_append_left _ (List.mem_of_getElem? (i := 2) rfl))) rfl (gi_c (List.mem_cons_of_mem _ (List.mem_append_left _ (List.mem_of_getElem? (i := 3) rfl))) rfl (gi_c (List.mem_cons_of_mem _ (List.mem_append_left _ (List.mem_of_getElem? (i := 4) rfl))) rfl (gi_c (List.mem_cons_of_mem _ (List.mem_append_left _ (List.mem_of_getElem? (i := 5) rfl))) rfl (goodIn_sub hb_1 (List.all_eq_true.mpr gw_c_hasNoDearWay)))))) rfl rfl rfl (by decide +kernel) ⟨Nat.le_of_ble_eq_true rfl, Nat.le_of_ble_eq_true rfl⟩) (pr_V (As := []) (b := g) (C := RX4) hP hD hK hS hA hE [1, 2, 3, 4, 5, 6, 7, 8, 9, 10] [5, 6, 7, 0, 1, 2, 3, 4, 8] rfl rfl rfl 1 11 rfl rfl rfl) rfl rfl hl.1 rfl (lv_room (Nat.le_of_ble_eq_true rfl)) dX6_isSound_72 ⟨Nat.le_of_ble_eq_true rfl, Nat.le_of_ble_eq_true rfl⟩) hP hD hK hS hA [1, 2, 3, 4, 5, 6, 7, 8, 9, 10] [0] rfl rfl (by decide) (by decide) (fun r3 _ H locs w2 hP hD hK hS => ?_)
  have hP : va_P D vwCl [(x, .inr (13, [.ref g, .ref ca, .int 0, .ref co, .int 0, .ref ra, .int 0, .ref rl, .ref tr, .ref f9, .ref f10, .ref f11, .ref f12, .ref f13]))] H := hP
  have hD : va_D A [(x, .inr (13, [.ref g, .ref ca, .int 0, .ref co, .int 0, .ref ra, .int 0, .ref rl, .ref tr, .ref f9, .ref f10, .ref f11, .ref f12, .ref f13]))] := hD
  have hK : va_K D vwCl [(ck, .char), (csk, .char), (cg, .int), (ch, .int), (csg, .int), (cw, .int), (cq, .int), (cz, .boolean), (cb, .int)] s := hK
  exact mr_z (by rw [w2]; rfl) hx hb hr () (by assumption) (hP.sub [] rfl) (hK.sub [] rfl) (hD.sub [] (by decide) rfl) hS (Nat.le_of_ble_eq_true rfl) (Nat.le_of_ble_eq_true rfl) hlocks dX6_isSound_75

def us_c_print : List Cond := .code yX6_print cX6_print 1 (some .int) :: (([.fieldLink RX6 12 "ControlWood" "ground" "LControlWood$Terrain;", .methodLink RX6 109 yX4_printMap, .instanceMethod yX4_printMap, .selects RX4 yX4_printMap yX4_printMap, .initialized RX4] : List Cond) ++ (wsX60 ++ (us_c_printMap ++ ([]))))
theorem gw_c_print : ∀ w ∈ us_c_print, goodWord w = true := gw_cons rfl (gw_app (by decide +kernel) (gw_app gwf_X6 (gw_app gw_c_printMap (fun _ h => nomatch h))))
set_option maxHeartbeats 4000000 in
set_option maxRecDepth 100000 in
/-- print -/
theorem c_print (l : Launch) (hst : l.stackTraces = false) (D : va_G) (x : Nat) (g : Nat) (ca : Nat) (co : Nat) (ra : Nat) (rl : Nat) (tr : Nat) (f9 : Nat) (f10 : Nat) (f11 : Nat) (f12 : Nat) (f13 : Nat) (a1 : Nat) (a2 : Nat) (a3 : Nat) (a4 : Nat) (a5 : Nat) (a6 : Nat) (a7 : Nat) (a8 : Nat) (a9 : Nat) (a10 : Nat) (a11 : Nat) (ck : ClassId) (csk : ClassId) (cg : ClassId) (csg : ClassId) (sz : Nat) : Met l yX6_print us_c_print { frames := 1, cells := 0, slots := 0, locals := 22 } (pw D [.ref x] [(ck, .char), (csk, .char), (cg, .int), (csg, .int)] [(x, .inr (13, [.ref g, .ref ca, .int 0, .ref co, .int 0, .ref ra, .int 0, .ref rl, .ref tr, .ref f9, .ref f10, .ref f11, .ref f12, .ref f13])), (g, .inr (11, [.int 25, .ref a1, .ref a2, .ref a3, .ref a4, .ref a5, .ref a6, .ref a7, .ref a8, .ref a9, .ref a10, .ref a11, .int 0, .int 0])), (a3, .inl (ck, 144, .inl okF)), (a5, .inl (csk, 144, .inl okF)), (a1, .inl (cg, 144, .inl (fun _ => 0))), (a4, .inl (csg, 144, .inl (fun _ => 0)))] sz) (va_Qi (fun (r : Int32) (_ : Unit) => r = 0) (qb D (va_A [(x, .inr (13, [.ref g, .ref ca, .int 0, .ref co, .int 0, .ref ra, .int 0, .ref rl, .ref tr, .ref f9, .ref f10, .ref f11, .ref f12, .ref f13])), (g, .inr (11, [.int 25, .ref a1, .ref a2, .ref a3, .ref a4, .ref a5, .ref a6, .ref a7, .ref a8, .ref a9, .ref a10, .ref a11, .int 0, .int 0])), (a3, .inl (ck, 144, .inl okF)), (a5, .inl (csk, 144, .inl okF)), (a1, .inl (cg, 144, .inl (fun _ => 0))), (a4, .inl (csg, 144, .inl (fun _ => 0)))] sz) (fun _ : Unit => []) (fun _ : Unit => ([] : List (ClassId × FieldType)))) (va_A [(x, .inr (13, [.ref g, .ref ca, .int 0, .ref co, .int 0, .ref ra, .int 0, .ref rl, .ref tr, .ref f9, .ref f10, .ref f11, .ref f12, .ref f13])), (g, .inr (11, [.int 25, .ref a1, .ref a2, .ref a3, .ref a4, .ref a5, .ref a6, .ref a7, .ref a8, .ref a9, .ref a10, .ref a11, .int 0, .int 0])), (a3, .inl (ck, 144, .inl okF)), (a5, .inl (csk, 144, .inl okF)), (a1, .inl (cg, 144, .inl (fun _ => 0))), (a4, .inl (csg, 144, .inl (fun _ => 0)))] sz)) 0 0 (va_A [(x, .inr (13, [.ref g, .ref ca, .int 0, .ref co, .int 0, .ref ra, .int 0, .ref rl, .ref tr, .ref f9, .ref f10, .ref f11, .ref f12, .ref f13])), (g, .inr (11, [.int 25, .ref a1, .ref a2, .ref a3, .ref a4, .ref a5, .ref a6, .ref a7, .ref a8, .ref a9, .ref a10, .ref a11, .int 0, .int 0])), (a3, .inl (ck, 144, .inl okF)), (a5, .inl (csk, 144, .inl okF)), (a1, .inl (cg, 144, .inl (fun _ => 0))), (a4, .inl (csg, 144, .inl (fun _ => 0)))] sz) := by
  refine op_M (Qc := fun A => (va_Qi (fun (r : Int32) (_ : Unit) => r = 0) (qb D A (fun _ : Unit => []) (fun _ : Unit => ([] : List (ClassId × FieldType)))) A)) (by decide +kernel) rfl (Nat.le_of_ble_eq_true rfl) ?_
  intro p e s m args below meth c A ls hx hb hr hml hts hown hlocks hmn htab hA hD hS hP hK hE hsz hl
  have hown : s.vm.findClass RX6 = some m.cls := hown
  have hl : lv_has ls 1 [(0, .ref x)] := hl
  have hw_0 := hts (.fieldLink RX6 12 "ControlWood" "ground" "LControlWood$Terrain;") (List.mem_cons_of_mem _ (List.mem_append_left _ (List.mem_of_getElem? (i := 0) rfl)))
  have hw_1 := hts (.methodLink RX6 109 yX4_printMap) (List.mem_cons_of_mem _ (List.mem_append_left _ (List.mem_of_getElem? (i := 1) rfl)))
  have hw_2 := hts (.instanceMethod yX4_printMap) (List.mem_cons_of_mem _ (List.mem_append_left _ (List.mem_of_getElem? (i := 2) rfl)))
  have hw_3 := hts (.selects RX4 yX4_printMap yX4_printMap) (List.mem_cons_of_mem _ (List.mem_append_left _ (List.mem_of_getElem? (i := 3) rfl)))
  have hw_4 := hts (.initialized RX4) (List.mem_cons_of_mem _ (List.mem_append_left _ (List.mem_of_getElem? (i := 4) rfl)))
  have hb_0 : ∀ w ∈ wsX60, w ∈ us_c_print := fun w h => List.mem_cons_of_mem _ (List.mem_append_right _ (List.mem_append_left _ h))
  have hb_1 : ∀ w ∈ us_c_printMap, w ∈ us_c_print := fun w h => List.mem_cons_of_mem _ (List.mem_append_right _ (List.mem_append_right _ (List.mem_append_left _ h)))
  refine lv_aload_n hx hb dX6_print_0 rfl (lv_at hl 0 rfl) ?_
  refine va_get (D := D) (ci := 13) (v := .ref g) (C := RX6) (T := TX6) (N := 14) hx hb hts hb_0 hown hK hP 0 rfl rfl 0 (by decide) hw_0 (fun _ h9 => h9) rfl dX6_print_1 ?_
  refine mc_i (wr := [(x, .inr (13, [.ref g, .ref ca, .int 0, .ref co, .int 0, .ref ra, .int 0, .ref rl, .ref tr, .ref f9, .ref f10, .ref f11, .ref f12, .ref f13]))]) (va_runV (As := []) (rest := []) ⟨hx, hb, hml, hown, hts⟩ (c_printMap l hst D g a1 a2 a3 a4 a5 a6 a7 a8 a9 a10 a11 25 0 0 cg csg ck csk (fun _ => 0) (fun _ => 0) okF okF s.heap.size (by decide) (okF_nar)) (cwV 0 hts (gi_c (List.mem_cons_of_mem _ (List.mem_append_left _ (List.mem_of_getElem? (i := 1) rfl))) rfl (gi_c (List.mem_cons_of_mem _ (List.mem_append_left _ (List.mem_of_getElem? (i := 2) rfl))) rfl (gi_c (List.mem_cons_of_mem _ (List.mem_append_left _ (List.mem_of_getElem? (i := 3) rfl))) rfl (gi_c (List.mem_cons_of_mem _ (List.mem_append_left _ (List.mem_of_getElem? (i := 4) rfl))) rfl (goodIn_sub hb_1 (List.all_eq_true.mpr gw_c_printMap)))))) rfl rfl rfl (by decide +kernel) ⟨Nat.le_of_ble_eq_true rfl, Nat.le_of_ble_eq_true rfl⟩) (pr_V (As := []) (b := g) (C := RX4) hP hD hK hS hA hE [1, 4, 5, 2, 3] [2, 3, 0, 1] rfl rfl rfl 1 11 rfl rfl rfl) rfl rfl hl.1 rfl (lv_room (Nat.le_of_ble_eq_true rfl)) dX6_print_4 ⟨Nat.le_of_ble_eq_true rfl, Nat.le_of_ble_eq_true rfl⟩) hP hD hK hS hA [1, 4, 5, 2, 3] [0] rfl rfl (by decide) (by decide) (fun r2 _ H locs w1 hP hD hK hS => ?_)
  have hP : va_P D vwCl [(x, .inr (13, [.ref g, .ref ca, .int 0, .ref co, .int 0, .ref ra, .int 0, .ref rl, .ref tr, .ref f9, .ref f10, .ref f11, .ref f12, .ref f13])), (g, .inr (11, [.int (nI 25), .ref a1, .ref a2, .ref a3, .ref a4, .ref a5, .ref a6, .ref a7, .ref a8, .ref a9, .ref a10, .ref a11, .int 0, .int 0])), (a1, .inl (cg, 144, .inl (fun _ => 0))), (a4, .inl (csg, 144, .inl (fa_fill (fun _ => 0) (fun _ => 0) 25))), (a3, .inl (ck, 144, .inl okF)), (a5, .inl (csk, 144, .inl (fa_fill okF okF 25)))] H := hP
  have hD : va_D A [(x, .inr (13, [.ref g, .ref ca, .int 0, .ref co, .int 0, .ref ra, .int 0, .ref rl, .ref tr, .ref f9, .ref f10, .ref f11, .ref f12, .ref f13])), (g, .inr (11, [.int (nI 25), .ref a1, .ref a2, .ref a3, .ref a4, .ref a5, .ref a6, .ref a7, .ref a8, .ref a9, .ref a10, .ref a11, .int 0, .int 0])), (a1, .inl (cg, 144, .inl (fun _ => 0))), (a4, .inl (csg, 144, .inl (fa_fill (fun _ => 0) (fun _ => 0) 25))), (a3, .inl (ck, 144, .inl okF)), (a5, .inl (csk, 144, .inl (fa_fill okF okF 25)))] := hD
  have hK : va_K D vwCl [(ck, .char), (csk, .char), (cg, .int), (csg, .int)] s := hK
  have w99 : r2 = 0 := w1 (fun j _ => ⟨rfl, rfl⟩)
  exact mr_i hx hb hr () (by assumption) (hP.sub [] rfl) (hK.sub [] rfl) (hD.sub [] (by decide) rfl) hS (Nat.le_of_ble_eq_true rfl) (Nat.le_of_ble_eq_true rfl) hlocks dX6_print_7

def us_c_land : List Cond := .code yX6_land cX6_land 3 (some .int) :: (([.methodLink RX6 71 yX6_needRange, .static yX6_needRange, .initialized RX6, .fieldLink RX6 12 "ControlWood" "ground" "LControlWood$Terrain;", .methodLink RX6 67 yX4_begin, .instanceMethod yX4_begin, .selects RX4 yX4_begin yX4_begin, .initialized RX4, .fieldLink RX6 75 "ControlWood" "controlCount" "I", .fieldLink RX6 79 "ControlWood" "courseCount" "I", .fieldLink RX6 82 "ControlWood" "runnerCount" "I", .fieldLink RX6 37 "ControlWood" "relay" "LControlWood$Relay;", .fieldLink RX6 85 "ControlWood$Relay" "teams" "I", .fieldLink RX6 88 "ControlWood$Terrain" "cells" "I"] : List Cond) ++ (us_c_needRange ++ (wsX60 ++ (us_c_begin ++ (wsX20 ++ (wsX40 ++ ([])))))))
theorem gw_c_land : ∀ w ∈ us_c_land, goodWord w = true := gw_cons rfl (gw_app (by decide +kernel) (gw_app gw_c_needRange (gw_app gwf_X6 (gw_app gw_c_begin (gw_app gwf_X2 (gw_app gwf_X4 (fun _ h => nomatch h)))))))
set_option maxHeartbeats 4000000 in
set_option maxRecDepth 100000 in
/-- land -/
theorem c_land (l : Launch) (hst : l.stackTraces = false) (D : va_G) (x : Nat) (g : Nat) (ca : Nat) (co : Nat) (ra : Nat) (rl : Nat) (tr : Nat) (f9 : Nat) (f10 : Nat) (f11 : Nat) (f12 : Nat) (f13 : Nat) (a1 : Nat) (a2 : Nat) (a3 : Nat) (a4 : Nat) (a5 : Nat) (a6 : Nat) (a7 : Nat) (a8 : Nat) (a9 : Nat) (a10 : Nat) (a11 : Nat) (f7 : Nat → Int32) (f8 : Nat → Int32) (re1 : Nat) (re2 : Nat) (re3 : Nat) (re4 : Nat) (ck : ClassId) (csk : ClassId) (cg : ClassId) (ch : ClassId) (csg : ClassId) (cb : ClassId) (cc7 : ClassId) (cc8 : ClassId) (p0 : Int32) (p1 : Int32) (sz : Nat) : vx_Met l yX6_land us_c_land { frames := 7, cells := 2, slots := 12, locals := 104 } (pw D [.ref x, .int p0, .int p1] [(ck, .char), (csk, .char), (cg, .int), (ch, .int), (csg, .int), (cb, .int), (cc7, .int), (cc8, .int)] [(x, .inr (13, [.ref g, .ref ca, .int 0, .ref co, .int 0, .ref ra, .int 0, .ref rl, .ref tr, .ref f9, .ref f10, .ref f11, .ref f12, .ref f13])), (g, .inr (11, [.int 25, .ref a1, .ref a2, .ref a3, .ref a4, .ref a5, .ref a6, .ref a7, .ref a8, .ref a9, .ref a10, .ref a11, .int 0, .int 0])), (a3, .inl (ck, 144, .inl okF)), (a5, .inl (csk, 144, .inl okF)), (a1, .inl (cg, 144, .inl (fun _ => 0))), (a2, .inl (ch, 144, .inl (fun _ => 0))), (a4, .inl (csg, 144, .inl (fun _ => 0))), (a9, .inl (cb, 576, .inl beF)), (a7, .inl (cc7, 144, .inl f7)), (a8, .inl (cc8, 144, .inl f8)), (rl, .inr (9, [.int 0, .int 0, .ref re1, .ref re2, .ref re3, .ref re4]))] sz) (va_Qi (fun (r : Int32) (_ : Unit) => kf_land p0 p1 = 0 ∧ r = rf_land p0 p1) (qb D (va_A [(x, .inr (13, [.ref g, .ref ca, .int 0, .ref co, .int 0, .ref ra, .int 0, .ref rl, .ref tr, .ref f9, .ref f10, .ref f11, .ref f12, .ref f13])), (g, .inr (11, [.int 25, .ref a1, .ref a2, .ref a3, .ref a4, .ref a5, .ref a6, .ref a7, .ref a8, .ref a9, .ref a10, .ref a11, .int 0, .int 0])), (a3, .inl (ck, 144, .inl okF)), (a5, .inl (csk, 144, .inl okF)), (a1, .inl (cg, 144, .inl (fun _ => 0))), (a2, .inl (ch, 144, .inl (fun _ => 0))), (a4, .inl (csg, 144, .inl (fun _ => 0))), (a9, .inl (cb, 576, .inl beF)), (a7, .inl (cc7, 144, .inl f7)), (a8, .inl (cc8, 144, .inl f8)), (rl, .inr (9, [.int 0, .int 0, .ref re1, .ref re2, .ref re3, .ref re4]))] sz) (fun _ : Unit => []) (fun _ : Unit => ([] : List (ClassId × FieldType)))) (va_A [(x, .inr (13, [.ref g, .ref ca, .int 0, .ref co, .int 0, .ref ra, .int 0, .ref rl, .ref tr, .ref f9, .ref f10, .ref f11, .ref f12, .ref f13])), (g, .inr (11, [.int 25, .ref a1, .ref a2, .ref a3, .ref a4, .ref a5, .ref a6, .ref a7, .ref a8, .ref a9, .ref a10, .ref a11, .int 0, .int 0])), (a3, .inl (ck, 144, .inl okF)), (a5, .inl (csk, 144, .inl okF)), (a1, .inl (cg, 144, .inl (fun _ => 0))), (a2, .inl (ch, 144, .inl (fun _ => 0))), (a4, .inl (csg, 144, .inl (fun _ => 0))), (a9, .inl (cb, 576, .inl beF)), (a7, .inl (cc7, 144, .inl f7)), (a8, .inl (cc8, 144, .inl f8)), (rl, .inr (9, [.int 0, .int 0, .ref re1, .ref re2, .ref re3, .ref re4]))] sz)) (vx_X (fun E => (E = "java/lang/IllegalArgumentException" ∧ kf_land p0 p1 = 1)) xb (va_A [(x, .inr (13, [.ref g, .ref ca, .int 0, .ref co, .int 0, .ref ra, .int 0, .ref rl, .ref tr, .ref f9, .ref f10, .ref f11, .ref f12, .ref f13])), (g, .inr (11, [.int 25, .ref a1, .ref a2, .ref a3, .ref a4, .ref a5, .ref a6, .ref a7, .ref a8, .ref a9, .ref a10, .ref a11, .int 0, .int 0])), (a3, .inl (ck, 144, .inl okF)), (a5, .inl (csk, 144, .inl okF)), (a1, .inl (cg, 144, .inl (fun _ => 0))), (a2, .inl (ch, 144, .inl (fun _ => 0))), (a4, .inl (csg, 144, .inl (fun _ => 0))), (a9, .inl (cb, 576, .inl beF)), (a7, .inl (cc7, 144, .inl f7)), (a8, .inl (cc8, 144, .inl f8)), (rl, .inr (9, [.int 0, .int 0, .ref re1, .ref re2, .ref re3, .ref re4]))] sz)) 2 12 (va_A [(x, .inr (13, [.ref g, .ref ca, .int 0, .ref co, .int 0, .ref ra, .int 0, .ref rl, .ref tr, .ref f9, .ref f10, .ref f11, .ref f12, .ref f13])), (g, .inr (11, [.int 25, .ref a1, .ref a2, .ref a3, .ref a4, .ref a5, .ref a6, .ref a7, .ref a8, .ref a9, .ref a10, .ref a11, .int 0, .int 0])), (a3, .inl (ck, 144, .inl okF)), (a5, .inl (csk, 144, .inl okF)), (a1, .inl (cg, 144, .inl (fun _ => 0))), (a2, .inl (ch, 144, .inl (fun _ => 0))), (a4, .inl (csg, 144, .inl (fun _ => 0))), (a9, .inl (cb, 576, .inl beF)), (a7, .inl (cc7, 144, .inl f7)), (a8, .inl (cc8, 144, .inl f8)), (rl, .inr (9, [.int 0, .int 0, .ref re1, .ref re2, .ref re3, .ref re4]))] sz) := by
  refine op_X (Qc := fun A => (va_Qi (fun (r : Int32) (_ : Unit) => kf_land p0 p1 = 0 ∧ r = rf_land p0 p1) (qb D A (fun _ : Unit => []) (fun _ : Unit => ([] : List (ClassId × FieldType)))) A)) (px := (fun E => (E = "java/lang/IllegalArgumentException" ∧ kf_land p0 p1 = 1))) (by decide +kernel) rfl (Nat.le_of_ble_eq_true rfl) ?_
  intro p e s m args below meth c A ls hx hb hr hml hts hown hlocks hmn htab hA hD hS hP hK hE hsz hl
  have hown : s.vm.findClass RX6 = some m.cls := hown
  have hl : lv_has ls 3 [(0, .ref x), (1, .int p0), (2, .int p1)] := hl
  have hw_0 := hts (.methodLink RX6 71 yX6_needRange) (List.mem_cons_of_mem _ (List.mem_append_left _ (List.mem_of_getElem? (i := 0) rfl)))
  have hw_1 := hts (.static yX6_needRange) (List.mem_cons_of_mem _ (List.mem_append_left _ (List.mem_of_getElem? (i := 1) rfl)))
  have hw_2 := hts (.initialized RX6) (List.mem_cons_of_mem _ (List.mem_append_left _ (List.mem_of_getElem? (i := 2) rfl)))
  have hw_3 := hts (.fieldLink RX6 12 "ControlWood" "ground" "LControlWood$Terrain;") (List.mem_cons_of_mem _ (List.mem_append_left _ (List.mem_of_getElem? (i := 3) rfl)))
  have hw_4 := hts (.methodLink RX6 67 yX4_begin) (List.mem_cons_of_mem _ (List.mem_append_left _ (List.mem_of_getElem? (i := 4) rfl)))
  have hw_5 := hts (.instanceMethod yX4_begin) (List.mem_cons_of_mem _ (List.mem_append_left _ (List.mem_of_getElem? (i := 5) rfl)))
  have hw_6 := hts (.selects RX4 yX4_begin yX4_begin) (List.mem_cons_of_mem _ (List.mem_append_left _ (List.mem_of_getElem? (i := 6) rfl)))
  have hw_7 := hts (.initialized RX4) (List.mem_cons_of_mem _ (List.mem_append_left _ (List.mem_of_getElem? (i := 7) rfl)))
  have hw_8 := hts (.fieldLink RX6 75 "ControlWood" "controlCount" "I") (List.mem_cons_of_mem _ (List.mem_append_left _ (List.mem_of_getElem? (i := 8) rfl)))
  have hw_9 := hts (.fieldLink RX6 79 "ControlWood" "courseCount" "I") (List.mem_cons_of_mem _ (List.mem_append_left _ (List.mem_of_getElem? (i := 9) rfl)))
  have hw_10 := hts (.fieldLink RX6 82 "ControlWood" "runnerCount" "I") (List.mem_cons_of_mem _ (List.mem_append_left _ (List.mem_of_getElem? (i := 10) rfl)))
  have hw_11 := hts (.fieldLink RX6 37 "ControlWood" "relay" "LControlWood$Relay;") (List.mem_cons_of_mem _ (List.mem_append_left _ (List.mem_of_getElem? (i := 11) rfl)))
  have hw_12 := hts (.fieldLink RX6 85 "ControlWood$Relay" "teams" "I") (List.mem_cons_of_mem _ (List.mem_append_left _ (List.mem_of_getElem? (i := 12) rfl)))
  have hw_13 := hts (.fieldLink RX6 88 "ControlWood$Terrain" "cells" "I") (List.mem_cons_of_mem _ (List.mem_append_left _ (List.mem_of_getElem? (i := 13) rfl)))
  have hb_0 : ∀ w ∈ us_c_needRange, w ∈ us_c_land := fun w h => List.mem_cons_of_mem _ (List.mem_append_right _ (List.mem_append_left _ h))
  have hb_1 : ∀ w ∈ wsX60, w ∈ us_c_land := fun w h => List.mem_cons_of_mem _ (List.mem_append_right _ (List.mem_append_right _ (List.mem_append_left _ h)))
  have hb_2 : ∀ w ∈ us_c_begin, w ∈ us_c_land := fun w h => List.mem_cons_of_mem _ (List.mem_append_right _ (List.mem_append_right _ (List.mem_append_right _ (List.mem_append_left _ h))))
  have hb_3 : ∀ w ∈ wsX20, w ∈ us_c_land := fun w h => List.mem_cons_of_mem _ (List.mem_append_right _ (List.mem_append_right _ (List.mem_append_right _ (List.mem_append_right _ (List.mem_append_left _ h)))))
  have hb_4 : ∀ w ∈ wsX40, w ∈ us_c_land := fun w h => List.mem_cons_of_mem _ (List.mem_append_right _ (List.mem_append_right _ (List.mem_append_right _ (List.mem_append_right _ (List.mem_append_right _ (List.mem_append_left _ h))))))
  refine lv_iload_n hx hb dX6_land_0 rfl (lv_at hl 1 rfl) ?_
  refine lv_iconst (v := 3) hx hb dX6_land_1 (by decide) ?_
  refine lv_bipush (v := 12) hx hb dX6_land_2 (by decide) ?_
  refine mx_v (wr := [(x, .inr (13, [.ref g, .ref ca, .int 0, .ref co, .int 0, .ref ra, .int 0, .ref rl, .ref tr, .ref f9, .ref f10, .ref f11, .ref f12, .ref f13])), (g, .inr (11, [.int 25, .ref a1, .ref a2, .ref a3, .ref a4, .ref a5, .ref a6, .ref a7, .ref a8, .ref a9, .ref a10, .ref a11, .int 0, .int 0])), (a3, .inl (ck, 144, .inl okF)), (a5, .inl (csk, 144, .inl okF)), (a1, .inl (cg, 144, .inl (fun _ => 0))), (a2, .inl (ch, 144, .inl (fun _ => 0))), (a4, .inl (csg, 144, .inl (fun _ => 0))), (a9, .inl (cb, 576, .inl beF)), (a7, .inl (cc7, 144, .inl f7)), (a8, .inl (cc8, 144, .inl f8)), (rl, .inr (9, [.int 0, .int 0, .ref re1, .ref re2, .ref re3, .ref re4]))]) (vx_runS (As := [.int p0, .int 3, .int 12]) (rest := []) ⟨hx, hb, hml, hown, hts⟩ (c_needRange l hst D p0 3 12 s.heap.size) (va_cwS 3 hts (gi_c (List.mem_cons_of_mem _ (List.mem_append_left _ (List.mem_of_getElem? (i := 0) rfl))) rfl (gi_c (List.mem_cons_of_mem _ (List.mem_append_left _ (List.mem_of_getElem? (i := 1) rfl))) rfl (gi_c (List.mem_cons_of_mem _ (List.mem_append_left _ (List.mem_of_getElem? (i := 2) rfl))) rfl (goodIn_sub hb_0 (List.all_eq_true.mpr gw_c_needRange))))) rfl rfl rfl (by decide +kernel) ⟨Nat.le_of_ble_eq_true rfl, Nat.le_of_ble_eq_true rfl⟩) (pr_S (As := [.int p0, .int 3, .int 12]) hP hD hK hS hA hE [] [] rfl rfl rfl) rfl rfl hl.1 rfl (lv_room (Nat.le_of_ble_eq_true rfl)) dX6_land_4 ⟨Nat.le_of_ble_eq_true rfl, Nat.le_of_ble_eq_true rfl⟩) hP hD hK hS hA [] [0, 1, 2, 3, 4, 5, 6, 7, 8, 9, 10] rfl rfl (by decide) (by decide) htab hlocks (fun E h => ⟨h.1, (if_neg h.2)⟩) (Nat.le_of_ble_eq_true rfl) (Nat.le_of_ble_eq_true rfl) (fun _ H locs w1 hP hD hK hS => ?_)
  have hP : va_P D vwCl [(x, .inr (13, [.ref g, .ref ca, .int 0, .ref co, .int 0, .ref ra, .int 0, .ref rl, .ref tr, .ref f9, .ref f10, .ref f11, .ref f12, .ref f13])), (g, .inr (11, [.int 25, .ref a1, .ref a2, .ref a3, .ref a4, .ref a5, .ref a6, .ref a7, .ref a8, .ref a9, .ref a10, .ref a11, .int 0, .int 0])), (a3, .inl (ck, 144, .inl okF)), (a5, .inl (csk, 144, .inl okF)), (a1, .inl (cg, 144, .inl (fun _ => 0))), (a2, .inl (ch, 144, .inl (fun _ => 0))), (a4, .inl (csg, 144, .inl (fun _ => 0))), (a9, .inl (cb, 576, .inl beF)), (a7, .inl (cc7, 144, .inl f7)), (a8, .inl (cc8, 144, .inl f8)), (rl, .inr (9, [.int 0, .int 0, .ref re1, .ref re2, .ref re3, .ref re4]))] H := hP
  have hD : va_D A [(x, .inr (13, [.ref g, .ref ca, .int 0, .ref co, .int 0, .ref ra, .int 0, .ref rl, .ref tr, .ref f9, .ref f10, .ref f11, .ref f12, .ref f13])), (g, .inr (11, [.int 25, .ref a1, .ref a2, .ref a3, .ref a4, .ref a5, .ref a6, .ref a7, .ref a8, .ref a9, .ref a10, .ref a11, .int 0, .int 0])), (a3, .inl (ck, 144, .inl okF)), (a5, .inl (csk, 144, .inl okF)), (a1, .inl (cg, 144, .inl (fun _ => 0))), (a2, .inl (ch, 144, .inl (fun _ => 0))), (a4, .inl (csg, 144, .inl (fun _ => 0))), (a9, .inl (cb, 576, .inl beF)), (a7, .inl (cc7, 144, .inl f7)), (a8, .inl (cc8, 144, .inl f8)), (rl, .inr (9, [.int 0, .int 0, .ref re1, .ref re2, .ref re3, .ref re4]))] := hD
  have hK : va_K D vwCl [(ck, .char), (csk, .char), (cg, .int), (ch, .int), (csg, .int), (cb, .int), (cc7, .int), (cc8, .int)] s := hK
  have v0 := w1
  obtain ⟨k0, hk0, rfl⟩ := inR_nI (M := 12) (by decide) (by decide) v0
  have lk0 : 3 ≤ k0 := Nat.not_lt.mp (fun q9 => v0.1 ((nI_ltI (a := k0) (b := 3) (by omega) (by decide)).mpr q9))
  refine lv_iload_n hx hb dX6_land_7 rfl (lv_at hl 2 rfl) ?_
  refine lv_iconst (v := 3) hx hb dX6_land_8 (by decide) ?_
  refine lv_bipush (v := 12) hx hb dX6_land_9 (by decide) ?_
  refine mx_v (wr := [(x, .inr (13, [.ref g, .ref ca, .int 0, .ref co, .int 0, .ref ra, .int 0, .ref rl, .ref tr, .ref f9, .ref f10, .ref f11, .ref f12, .ref f13])), (g, .inr (11, [.int 25, .ref a1, .ref a2, .ref a3, .ref a4, .ref a5, .ref a6, .ref a7, .ref a8, .ref a9, .ref a10, .ref a11, .int 0, .int 0])), (a3, .inl (ck, 144, .inl okF)), (a5, .inl (csk, 144, .inl okF)), (a1, .inl (cg, 144, .inl (fun _ => 0))), (a2, .inl (ch, 144, .inl (fun _ => 0))), (a4, .inl (csg, 144, .inl (fun _ => 0))), (a9, .inl (cb, 576, .inl beF)), (a7, .inl (cc7, 144, .inl f7)), (a8, .inl (cc8, 144, .inl f8)), (rl, .inr (9, [.int 0, .int 0, .ref re1, .ref re2, .ref re3, .ref re4]))]) (vx_runS (As := [.int p1, .int 3, .int 12]) (rest := []) ⟨hx, hb, hml, hown, hts⟩ (c_needRange l hst D p1 3 12 H.size) (va_cwS 3 hts (gi_c (List.mem_cons_of_mem _ (List.mem_append_left _ (List.mem_of_getElem? (i := 0) rfl))) rfl (gi_c (List.mem_cons_of_mem _ (List.mem_append_left _ (List.mem_of_getElem? (i := 1) rfl))) rfl (gi_c (List.mem_cons_of_mem _ (List.mem_append_left _ (List.mem_of_getElem? (i := 2) rfl))) rfl (goodIn_sub hb_0 (List.all_eq_true.mpr gw_c_needRange))))) rfl rfl rfl (by decide +kernel) ⟨Nat.le_of_ble_eq_true rfl, Nat.le_of_ble_eq_true rfl⟩) (pr_S (As := [.int p1, .int 3, .int 12]) hP hD hK hS hA hE [] [] rfl rfl rfl) rfl rfl hl.1 rfl (lv_room (Nat.le_of_ble_eq_true rfl)) dX6_land_11 ⟨Nat.le_of_ble_eq_true rfl, Nat.le_of_ble_eq_true rfl⟩) hP hD hK hS hA [] [0, 1, 2, 3, 4, 5, 6, 7, 8, 9, 10] rfl rfl (by decide) (by decide) htab hlocks (fun E h => ⟨h.1, ((if_pos v0).trans (if_neg h.2))⟩) (Nat.le_of_ble_eq_true rfl) (Nat.le_of_ble_eq_true rfl) (fun _ H locs w3 hP hD hK hS => ?_)
  have hP : va_P D vwCl [(x, .inr (13, [.ref g, .ref ca, .int 0, .ref co, .int 0, .ref ra, .int 0, .ref rl, .ref tr, .ref f9, .ref f10, .ref f11, .ref f12, .ref f13])), (g, .inr (11, [.int 25, .ref a1, .ref a2, .ref a3, .ref a4, .ref a5, .ref a6, .ref a7, .ref a8, .ref a9, .ref a10, .ref a11, .int 0, .int 0])), (a3, .inl (ck, 144, .inl okF)), (a5, .inl (csk, 144, .inl okF)), (a1, .inl (cg, 144, .inl (fun _ => 0))), (a2, .inl (ch, 144, .inl (fun _ => 0))), (a4, .inl (csg, 144, .inl (fun _ => 0))), (a9, .inl (cb, 576, .inl beF)), (a7, .inl (cc7, 144, .inl f7)), (a8, .inl (cc8, 144, .inl f8)), (rl, .inr (9, [.int 0, .int 0, .ref re1, .ref re2, .ref re3, .ref re4]))] H := hP
  have hD : va_D A [(x, .inr (13, [.ref g, .ref ca, .int 0, .ref co, .int 0, .ref ra, .int 0, .ref rl, .ref tr, .ref f9, .ref f10, .ref f11, .ref f12, .ref f13])), (g, .inr (11, [.int 25, .ref a1, .ref a2, .ref a3, .ref a4, .ref a5, .ref a6, .ref a7, .ref a8, .ref a9, .ref a10, .ref a11, .int 0, .int 0])), (a3, .inl (ck, 144, .inl okF)), (a5, .inl (csk, 144, .inl okF)), (a1, .inl (cg, 144, .inl (fun _ => 0))), (a2, .inl (ch, 144, .inl (fun _ => 0))), (a4, .inl (csg, 144, .inl (fun _ => 0))), (a9, .inl (cb, 576, .inl beF)), (a7, .inl (cc7, 144, .inl f7)), (a8, .inl (cc8, 144, .inl f8)), (rl, .inr (9, [.int 0, .int 0, .ref re1, .ref re2, .ref re3, .ref re4]))] := hD
  have hK : va_K D vwCl [(ck, .char), (csk, .char), (cg, .int), (ch, .int), (csg, .int), (cb, .int), (cc7, .int), (cc8, .int)] s := hK
  have v1 := w3
  obtain ⟨k1, hk1, rfl⟩ := inR_nI (M := 12) (by decide) (by decide) v1
  have lk1 : 3 ≤ k1 := Nat.not_lt.mp (fun q9 => v1.1 ((nI_ltI (a := k1) (b := 3) (by omega) (by decide)).mpr q9))
  refine lv_aload_n hx hb dX6_land_14 rfl (lv_at hl 0 rfl) ?_
  refine va_get (D := D) (ci := 13) (v := .ref g) (C := RX6) (T := TX6) (N := 14) hx hb hts hb_1 hown hK hP 0 rfl rfl 0 (by decide) hw_3 (fun _ h9 => h9) rfl dX6_land_15 ?_
  refine lv_iload_n hx hb dX6_land_18 rfl (lv_at hl 1 rfl) ?_
  refine lv_iload_n hx hb dX6_land_19 rfl (lv_at hl 2 rfl) ?_
  refine mc_v (wr := [(x, .inr (13, [.ref g, .ref ca, .int 0, .ref co, .int 0, .ref ra, .int 0, .ref rl, .ref tr, .ref f9, .ref f10, .ref f11, .ref f12, .ref f13])), (rl, .inr (9, [.int 0, .int 0, .ref re1, .ref re2, .ref re3, .ref re4]))]) (va_runV (As := [.int (nI k0), .int (nI k1)]) (rest := []) ⟨hx, hb, hml, hown, hts⟩ (c_begin l hst D g a1 a2 a3 a4 a5 a6 a7 a8 a9 a10 a11 25 0 0 ck csk cg ch csg cc7 cc8 cb (fun _ => 0) (fun _ => 0) okF (fun _ => 0) okF f7 f8 beF k0 k1 H.size (⟨lk0, hk0⟩) (⟨lk1, hk1⟩) (okF_nar)) (cwV 2 hts (gi_c (List.mem_cons_of_mem _ (List.mem_append_left _ (List.mem_of_getElem? (i := 4) rfl))) rfl (gi_c (List.mem_cons_of_mem _ (List.mem_append_left _ (List.mem_of_getElem? (i := 5) rfl))) rfl (gi_c (List.mem_cons_of_mem _ (List.mem_append_left _ (List.mem_of_getElem? (i := 6) rfl))) rfl (gi_c (List.mem_cons_of_mem _ (List.mem_append_left _ (List.mem_of_getElem? (i := 7) rfl))) rfl (goodIn_sub hb_2 (List.all_eq_true.mpr gw_c_begin)))))) rfl rfl rfl (by decide +kernel) ⟨Nat.le_of_ble_eq_true rfl, Nat.le_of_ble_eq_true rfl⟩) (pr_V (As := [.int (nI k0), .int (nI k1)]) (b := g) (C := RX4) hP hD hK hS hA hE [1, 4, 5, 2, 6, 3, 8, 9, 7] [0, 1, 2, 3, 4, 6, 7, 5] rfl rfl rfl 1 11 rfl rfl rfl) rfl rfl hl.1 rfl (lv_room (Nat.le_of_ble_eq_true rfl)) dX6_land_20 ⟨Nat.le_of_ble_eq_true rfl, Nat.le_of_ble_eq_true rfl⟩) hP hD hK hS hA [1, 4, 5, 2, 6, 3, 8, 9, 7] [0, 10] rfl rfl (by decide) (by decide) (fun u5 H locs w6 hP hD hK hS => ?_)
  have hP : va_P D vwCl [(x, .inr (13, [.ref g, .ref ca, .int 0, .ref co, .int 0, .ref ra, .int 0, .ref rl, .ref tr, .ref f9, .ref f10, .ref f11, .ref f12, .ref f13])), (rl, .inr (9, [.int 0, .int 0, .ref re1, .ref re2, .ref re3, .ref re4])), (g, .inr (11, [.int (nI (k0 * k1)), .ref a1, .ref a2, .ref a3, .ref a4, .ref a5, .ref a6, .ref a7, .ref a8, .ref a9, .ref a10, .ref a11, .int 0, .int 0])), (a1, .inl (cg, 144, .inl (fa_fill (fun _ => 0) (fun _ => 0) 144))), (a2, .inl (ch, 144, .inl (fa_fill (fun _ => 0) (fun _ => 0) 144))), (a3, .inl (ck, 144, .inl (fa_fill (fun _ => 46) okF (k1 * k0)))), (a4, .inl (csg, 144, .inl (fa_fill (fa_fill (fun _ => 0) (fun _ => 0) 144) (fun _ => 0) (k0 * k1)))), (a5, .inl (csk, 144, .inl (fa_fill (fa_fill (fun _ => 46) okF (k1 * k0)) okF (k0 * k1)))), (a7, .inl (cc7, 144, .inl u5.1)), (a8, .inl (cc8, 144, .inl u5.2)), (a9, .inl (cb, 576, .inl (fa_fill (bB k0 k1) beF (k1 * k0 * 4))))] H := hP
  have hD : va_D A [(x, .inr (13, [.ref g, .ref ca, .int 0, .ref co, .int 0, .ref ra, .int 0, .ref rl, .ref tr, .ref f9, .ref f10, .ref f11, .ref f12, .ref f13])), (rl, .inr (9, [.int 0, .int 0, .ref re1, .ref re2, .ref re3, .ref re4])), (g, .inr (11, [.int (nI (k0 * k1)), .ref a1, .ref a2, .ref a3, .ref a4, .ref a5, .ref a6, .ref a7, .ref a8, .ref a9, .ref a10, .ref a11, .int 0, .int 0])), (a1, .inl (cg, 144, .inl (fa_fill (fun _ => 0) (fun _ => 0) 144))), (a2, .inl (ch, 144, .inl (fa_fill (fun _ => 0) (fun _ => 0) 144))), (a3, .inl (ck, 144, .inl (fa_fill (fun _ => 46) okF (k1 * k0)))), (a4, .inl (csg, 144, .inl (fa_fill (fa_fill (fun _ => 0) (fun _ => 0) 144) (fun _ => 0) (k0 * k1)))), (a5, .inl (csk, 144, .inl (fa_fill (fa_fill (fun _ => 46) okF (k1 * k0)) okF (k0 * k1)))), (a7, .inl (cc7, 144, .inl u5.1)), (a8, .inl (cc8, 144, .inl u5.2)), (a9, .inl (cb, 576, .inl (fa_fill (bB k0 k1) beF (k1 * k0 * 4))))] := hD
  have hK : va_K D vwCl [(ck, .char), (csk, .char), (cg, .int), (ch, .int), (csg, .int), (cb, .int), (cc7, .int), (cc8, .int)] s := hK
  refine lv_aload_n hx hb dX6_land_23 rfl (lv_at hl 0 rfl) ?_
  refine lv_iconst (v := 0) hx hb dX6_land_24 (by decide) ?_
  refine va_put (D := D) (ci := 13) (v := .int 0) (ty := .int) (C := RX6) (T := TX6) (N := 14) hx hb hts hb_1 tyX6 tyX6_ok nmX6 hown hK hP hD hS 0 rfl rfl 2 (by decide) hw_8 (fun _ h9 => h9) rfl (by decide +kernel) rfl rfl (Nat.le_of_ble_eq_true rfl) dX6_land_25 (fun H locs hP hD hS => ?_)
  have hP : va_P D vwCl [(x, .inr (13, [.ref g, .ref ca, .int 0, .ref co, .int 0, .ref ra, .int 0, .ref rl, .ref tr, .ref f9, .ref f10, .ref f11, .ref f12, .ref f13])), (rl, .inr (9, [.int 0, .int 0, .ref re1, .ref re2, .ref re3, .ref re4])), (g, .inr (11, [.int (nI (k0 * k1)), .ref a1, .ref a2, .ref a3, .ref a4, .ref a5, .ref a6, .ref a7, .ref a8, .ref a9, .ref a10, .ref a11, .int 0, .int 0])), (a1, .inl (cg, 144, .inl (fa_fill (fun _ => 0) (fun _ => 0) 144))), (a2, .inl (ch, 144, .inl (fa_fill (fun _ => 0) (fun _ => 0) 144))), (a3, .inl (ck, 144, .inl (fa_fill (fun _ => 46) okF (k1 * k0)))), (a4, .inl (csg, 144, .inl (fa_fill (fa_fill (fun _ => 0) (fun _ => 0) 144) (fun _ => 0) (k0 * k1)))), (a5, .inl (csk, 144, .inl (fa_fill (fa_fill (fun _ => 46) okF (k1 * k0)) okF (k0 * k1)))), (a7, .inl (cc7, 144, .inl u5.1)), (a8, .inl (cc8, 144, .inl u5.2)), (a9, .inl (cb, 576, .inl (fa_fill (bB k0 k1) beF (k1 * k0 * 4))))] H := hP
  have hD : va_D A [(x, .inr (13, [.ref g, .ref ca, .int 0, .ref co, .int 0, .ref ra, .int 0, .ref rl, .ref tr, .ref f9, .ref f10, .ref f11, .ref f12, .ref f13])), (rl, .inr (9, [.int 0, .int 0, .ref re1, .ref re2, .ref re3, .ref re4])), (g, .inr (11, [.int (nI (k0 * k1)), .ref a1, .ref a2, .ref a3, .ref a4, .ref a5, .ref a6, .ref a7, .ref a8, .ref a9, .ref a10, .ref a11, .int 0, .int 0])), (a1, .inl (cg, 144, .inl (fa_fill (fun _ => 0) (fun _ => 0) 144))), (a2, .inl (ch, 144, .inl (fa_fill (fun _ => 0) (fun _ => 0) 144))), (a3, .inl (ck, 144, .inl (fa_fill (fun _ => 46) okF (k1 * k0)))), (a4, .inl (csg, 144, .inl (fa_fill (fa_fill (fun _ => 0) (fun _ => 0) 144) (fun _ => 0) (k0 * k1)))), (a5, .inl (csk, 144, .inl (fa_fill (fa_fill (fun _ => 46) okF (k1 * k0)) okF (k0 * k1)))), (a7, .inl (cc7, 144, .inl u5.1)), (a8, .inl (cc8, 144, .inl u5.2)), (a9, .inl (cb, 576, .inl (fa_fill (bB k0 k1) beF (k1 * k0 * 4))))] := hD
  refine lv_aload_n hx hb dX6_land_28 rfl (lv_at hl 0 rfl) ?_
  refine lv_iconst (v := 0) hx hb dX6_land_29 (by decide) ?_
  refine va_put (D := D) (ci := 13) (v := .int 0) (ty := .int) (C := RX6) (T := TX6) (N := 14) hx hb hts hb_1 tyX6 tyX6_ok nmX6 hown hK hP hD hS 0 rfl rfl 4 (by decide) hw_9 (fun _ h9 => h9) rfl (by decide +kernel) rfl rfl (Nat.le_of_ble_eq_true rfl) dX6_land_30 (fun H locs hP hD hS => ?_)
  have hP : va_P D vwCl [(x, .inr (13, [.ref g, .ref ca, .int 0, .ref co, .int 0, .ref ra, .int 0, .ref rl, .ref tr, .ref f9, .ref f10, .ref f11, .ref f12, .ref f13])), (rl, .inr (9, [.int 0, .int 0, .ref re1, .ref re2, .ref re3, .ref re4])), (g, .inr (11, [.int (nI (k0 * k1)), .ref a1, .ref a2, .ref a3, .ref a4, .ref a5, .ref a6, .ref a7, .ref a8, .ref a9, .ref a10, .ref a11, .int 0, .int 0])), (a1, .inl (cg, 144, .inl (fa_fill (fun _ => 0) (fun _ => 0) 144))), (a2, .inl (ch, 144, .inl (fa_fill (fun _ => 0) (fun _ => 0) 144))), (a3, .inl (ck, 144, .inl (fa_fill (fun _ => 46) okF (k1 * k0)))), (a4, .inl (csg, 144, .inl (fa_fill (fa_fill (fun _ => 0) (fun _ => 0) 144) (fun _ => 0) (k0 * k1)))), (a5, .inl (csk, 144, .inl (fa_fill (fa_fill (fun _ => 46) okF (k1 * k0)) okF (k0 * k1)))), (a7, .inl (cc7, 144, .inl u5.1)), (a8, .inl (cc8, 144, .inl u5.2)), (a9, .inl (cb, 576, .inl (fa_fill (bB k0 k1) beF (k1 * k0 * 4))))] H := hP
  have hD : va_D A [(x, .inr (13, [.ref g, .ref ca, .int 0, .ref co, .int 0, .ref ra, .int 0, .ref rl, .ref tr, .ref f9, .ref f10, .ref f11, .ref f12, .ref f13])), (rl, .inr (9, [.int 0, .int 0, .ref re1, .ref re2, .ref re3, .ref re4])), (g, .inr (11, [.int (nI (k0 * k1)), .ref a1, .ref a2, .ref a3, .ref a4, .ref a5, .ref a6, .ref a7, .ref a8, .ref a9, .ref a10, .ref a11, .int 0, .int 0])), (a1, .inl (cg, 144, .inl (fa_fill (fun _ => 0) (fun _ => 0) 144))), (a2, .inl (ch, 144, .inl (fa_fill (fun _ => 0) (fun _ => 0) 144))), (a3, .inl (ck, 144, .inl (fa_fill (fun _ => 46) okF (k1 * k0)))), (a4, .inl (csg, 144, .inl (fa_fill (fa_fill (fun _ => 0) (fun _ => 0) 144) (fun _ => 0) (k0 * k1)))), (a5, .inl (csk, 144, .inl (fa_fill (fa_fill (fun _ => 46) okF (k1 * k0)) okF (k0 * k1)))), (a7, .inl (cc7, 144, .inl u5.1)), (a8, .inl (cc8, 144, .inl u5.2)), (a9, .inl (cb, 576, .inl (fa_fill (bB k0 k1) beF (k1 * k0 * 4))))] := hD
  refine lv_aload_n hx hb dX6_land_33 rfl (lv_at hl 0 rfl) ?_
  refine lv_iconst (v := 0) hx hb dX6_land_34 (by decide) ?_
  refine va_put (D := D) (ci := 13) (v := .int 0) (ty := .int) (C := RX6) (T := TX6) (N := 14) hx hb hts hb_1 tyX6 tyX6_ok nmX6 hown hK hP hD hS 0 rfl rfl 6 (by decide) hw_10 (fun _ h9 => h9) rfl (by decide +kernel) rfl rfl (Nat.le_of_ble_eq_true rfl) dX6_land_35 (fun H locs hP hD hS => ?_)
  have hP : va_P D vwCl [(x, .inr (13, [.ref g, .ref ca, .int 0, .ref co, .int 0, .ref ra, .int 0, .ref rl, .ref tr, .ref f9, .ref f10, .ref f11, .ref f12, .ref f13])), (rl, .inr (9, [.int 0, .int 0, .ref re1, .ref re2, .ref re3, .ref re4])), (g, .inr (11, [.int (nI (k0 * k1)), .ref a1, .ref a2, .ref a3, .ref a4, .ref a5, .ref a6, .ref a7, .ref a8, .ref a9, .ref a10, .ref a11, .int 0, .int 0])), (a1, .inl (cg, 144, .inl (fa_fill (fun _ => 0) (fun _ => 0) 144))), (a2, .inl (ch, 144, .inl (fa_fill (fun _ => 0) (fun _ => 0) 144))), (a3, .inl (ck, 144, .inl (fa_fill (fun _ => 46) okF (k1 * k0)))), (a4, .inl (csg, 144, .inl (fa_fill (fa_fill (fun _ => 0) (fun _ => 0) 144) (fun _ => 0) (k0 * k1)))), (a5, .inl (csk, 144, .inl (fa_fill (fa_fill (fun _ => 46) okF (k1 * k0)) okF (k0 * k1)))), (a7, .inl (cc7, 144, .inl u5.1)), (a8, .inl (cc8, 144, .inl u5.2)), (a9, .inl (cb, 576, .inl (fa_fill (bB k0 k1) beF (k1 * k0 * 4))))] H := hP
  have hD : va_D A [(x, .inr (13, [.ref g, .ref ca, .int 0, .ref co, .int 0, .ref ra, .int 0, .ref rl, .ref tr, .ref f9, .ref f10, .ref f11, .ref f12, .ref f13])), (rl, .inr (9, [.int 0, .int 0, .ref re1, .ref re2, .ref re3, .ref re4])), (g, .inr (11, [.int (nI (k0 * k1)), .ref a1, .ref a2, .ref a3, .ref a4, .ref a5, .ref a6, .ref a7, .ref a8, .ref a9, .ref a10, .ref a11, .int 0, .int 0])), (a1, .inl (cg, 144, .inl (fa_fill (fun _ => 0) (fun _ => 0) 144))), (a2, .inl (ch, 144, .inl (fa_fill (fun _ => 0) (fun _ => 0) 144))), (a3, .inl (ck, 144, .inl (fa_fill (fun _ => 46) okF (k1 * k0)))), (a4, .inl (csg, 144, .inl (fa_fill (fa_fill (fun _ => 0) (fun _ => 0) 144) (fun _ => 0) (k0 * k1)))), (a5, .inl (csk, 144, .inl (fa_fill (fa_fill (fun _ => 46) okF (k1 * k0)) okF (k0 * k1)))), (a7, .inl (cc7, 144, .inl u5.1)), (a8, .inl (cc8, 144, .inl u5.2)), (a9, .inl (cb, 576, .inl (fa_fill (bB k0 k1) beF (k1 * k0 * 4))))] := hD
  refine lv_aload_n hx hb dX6_land_38 rfl (lv_at hl 0 rfl) ?_
  refine va_get (D := D) (ci := 13) (v := .ref rl) (C := RX6) (T := TX6) (N := 14) hx hb hts hb_1 hown hK hP 0 rfl rfl 7 (by decide) hw_11 (fun _ h9 => h9) rfl dX6_land_39 ?_
  refine lv_iconst (v := 0) hx hb dX6_land_42 (by decide) ?_
  refine va_put (D := D) (ci := 9) (v := .int 0) (ty := .int) (C := RX2) (T := TX2) (N := 6) hx hb hts hb_3 tyX2 tyX2_ok nmX2 hown hK hP hD hS 1 rfl rfl 1 (by decide) hw_12 (fun _ h9 => h9) rfl (by decide +kernel) rfl rfl (Nat.le_of_ble_eq_true rfl) dX6_land_43 (fun H locs hP hD hS => ?_)
  have hP : va_P D vwCl [(x, .inr (13, [.ref g, .ref ca, .int 0, .ref co, .int 0, .ref ra, .int 0, .ref rl, .ref tr, .ref f9, .ref f10, .ref f11, .ref f12, .ref f13])), (rl, .inr (9, [.int 0, .int 0, .ref re1, .ref re2, .ref re3, .ref re4])), (g, .inr (11, [.int (nI (k0 * k1)), .ref a1, .ref a2, .ref a3, .ref a4, .ref a5, .ref a6, .ref a7, .ref a8, .ref a9, .ref a10, .ref a11, .int 0, .int 0])), (a1, .inl (cg, 144, .inl (fa_fill (fun _ => 0) (fun _ => 0) 144))), (a2, .inl (ch, 144, .inl (fa_fill (fun _ => 0) (fun _ => 0) 144))), (a3, .inl (ck, 144, .inl (fa_fill (fun _ => 46) okF (k1 * k0)))), (a4, .inl (csg, 144, .inl (fa_fill (fa_fill (fun _ => 0) (fun _ => 0) 144) (fun _ => 0) (k0 * k1)))), (a5, .inl (csk, 144, .inl (fa_fill (fa_fill (fun _ => 46) okF (k1 * k0)) okF (k0 * k1)))), (a7, .inl (cc7, 144, .inl u5.1)), (a8, .inl (cc8, 144, .inl u5.2)), (a9, .inl (cb, 576, .inl (fa_fill (bB k0 k1) beF (k1 * k0 * 4))))] H := hP
  have hD : va_D A [(x, .inr (13, [.ref g, .ref ca, .int 0, .ref co, .int 0, .ref ra, .int 0, .ref rl, .ref tr, .ref f9, .ref f10, .ref f11, .ref f12, .ref f13])), (rl, .inr (9, [.int 0, .int 0, .ref re1, .ref re2, .ref re3, .ref re4])), (g, .inr (11, [.int (nI (k0 * k1)), .ref a1, .ref a2, .ref a3, .ref a4, .ref a5, .ref a6, .ref a7, .ref a8, .ref a9, .ref a10, .ref a11, .int 0, .int 0])), (a1, .inl (cg, 144, .inl (fa_fill (fun _ => 0) (fun _ => 0) 144))), (a2, .inl (ch, 144, .inl (fa_fill (fun _ => 0) (fun _ => 0) 144))), (a3, .inl (ck, 144, .inl (fa_fill (fun _ => 46) okF (k1 * k0)))), (a4, .inl (csg, 144, .inl (fa_fill (fa_fill (fun _ => 0) (fun _ => 0) 144) (fun _ => 0) (k0 * k1)))), (a5, .inl (csk, 144, .inl (fa_fill (fa_fill (fun _ => 46) okF (k1 * k0)) okF (k0 * k1)))), (a7, .inl (cc7, 144, .inl u5.1)), (a8, .inl (cc8, 144, .inl u5.2)), (a9, .inl (cb, 576, .inl (fa_fill (bB k0 k1) beF (k1 * k0 * 4))))] := hD
  refine lv_aload_n hx hb dX6_land_46 rfl (lv_at hl 0 rfl) ?_
  refine va_get (D := D) (ci := 13) (v := .ref g) (C := RX6) (T := TX6) (N := 14) hx hb hts hb_1 hown hK hP 0 rfl rfl 0 (by decide) hw_3 (fun _ h9 => h9) rfl dX6_land_47 ?_
  refine va_get (D := D) (ci := 11) (v := .int (nI (k0 * k1))) (C := RX4) (T := TX4) (N := 14) hx hb hts hb_4 hown hK hP 2 rfl rfl 0 (by decide) hw_13 (fun _ h9 => h9) rfl dX6_land_50 ?_
  exact vx_ret (mr_i hx hb hr () (⟨((if_pos v0).trans (if_pos v1)), (pk_mul k0 k1).symm⟩) (hP.sub [] rfl) (hK.sub [] rfl) (hD.sub [] (by decide) rfl) hS (Nat.le_of_ble_eq_true rfl) (Nat.le_of_ble_eq_true rfl) hlocks dX6_land_53)

def us_c_changeover : List Cond := .code yX6_changeover cX6_changeover 7 (some .int) :: (([.methodLink RX6 71 yX6_needRange, .static yX6_needRange, .initialized RX6, .constant RX6 218 (99999)] : List Cond) ++ (us_c_needRange ++ ([])))
theorem gw_c_changeover : ∀ w ∈ us_c_changeover, goodWord w = true := gw_cons rfl (gw_app (by decide +kernel) (gw_app gw_c_needRange (fun _ h => nomatch h)))
set_option maxHeartbeats 4000000 in
set_option maxRecDepth 100000 in
/-- changeover -/
theorem c_changeover (l : Launch) (hst : l.stackTraces = false) (D : va_G) (x : Nat) (g : Nat) (ca : Nat) (co : Nat) (ra : Nat) (rl : Nat) (tr : Nat) (f9 : Nat) (f10 : Nat) (f11 : Nat) (f12 : Nat) (f13 : Nat) (p0 : Int32) (p1 : Int32) (p2 : Int32) (p3 : Int32) (sz : Nat) : vx_Met l yX6_changeover us_c_changeover { frames := 7, cells := 4, slots := 24, locals := 104 } (pw D [.ref x, .int p0, .int p1, .int p2, .int p3] [] [(x, .inr (13, [.ref g, .ref ca, .int 0, .ref co, .int 0, .ref ra, .int 0, .ref rl, .ref tr, .ref f9, .ref f10, .ref f11, .ref f12, .ref f13]))] sz) (va_Qi (fun (r : Int32) (_ : Unit) => kf_changeover p0 p1 p2 p3 = 0 ∧ r = rf_changeover p0 p1 p2 p3) (qb D (va_A [(x, .inr (13, [.ref g, .ref ca, .int 0, .ref co, .int 0, .ref ra, .int 0, .ref rl, .ref tr, .ref f9, .ref f10, .ref f11, .ref f12, .ref f13]))] sz) (fun _ : Unit => []) (fun _ : Unit => ([] : List (ClassId × FieldType)))) (va_A [(x, .inr (13, [.ref g, .ref ca, .int 0, .ref co, .int 0, .ref ra, .int 0, .ref rl, .ref tr, .ref f9, .ref f10, .ref f11, .ref f12, .ref f13]))] sz)) (vx_X (fun E => (E = "java/lang/IllegalArgumentException" ∧ kf_changeover p0 p1 p2 p3 = 1)) xb (va_A [(x, .inr (13, [.ref g, .ref ca, .int 0, .ref co, .int 0, .ref ra, .int 0, .ref rl, .ref tr, .ref f9, .ref f10, .ref f11, .ref f12, .ref f13]))] sz)) 4 24 (va_A [(x, .inr (13, [.ref g, .ref ca, .int 0, .ref co, .int 0, .ref ra, .int 0, .ref rl, .ref tr, .ref f9, .ref f10, .ref f11, .ref f12, .ref f13]))] sz) := by
  refine op_X (Qc := fun A => (va_Qi (fun (r : Int32) (_ : Unit) => kf_changeover p0 p1 p2 p3 = 0 ∧ r = rf_changeover p0 p1 p2 p3) (qb D A (fun _ : Unit => []) (fun _ : Unit => ([] : List (ClassId × FieldType)))) A)) (px := (fun E => (E = "java/lang/IllegalArgumentException" ∧ kf_changeover p0 p1 p2 p3 = 1))) (by decide +kernel) rfl (Nat.le_of_ble_eq_true rfl) ?_
  intro p e s m args below meth c A ls hx hb hr hml hts hown hlocks hmn htab hA hD hS hP hK hE hsz hl
  have hown : s.vm.findClass RX6 = some m.cls := hown
  have hl : lv_has ls 7 [(0, .ref x), (1, .int p0), (2, .int p1), (3, .int p2), (4, .int p3)] := hl
  have hw_0 := hts (.methodLink RX6 71 yX6_needRange) (List.mem_cons_of_mem _ (List.mem_append_left _ (List.mem_of_getElem? (i := 0) rfl)))
  have hw_1 := hts (.static yX6_needRange) (List.mem_cons_of_mem _ (List.mem_append_left _ (List.mem_of_getElem? (i := 1) rfl)))
  have hw_2 := hts (.initialized RX6) (List.mem_cons_of_mem _ (List.mem_append_left _ (List.mem_of_getElem? (i := 2) rfl)))
  have hw_3 := hts (.constant RX6 218 (99999)) (List.mem_cons_of_mem _ (List.mem_append_left _ (List.mem_of_getElem? (i := 3) rfl)))
  have hb_0 : ∀ w ∈ us_c_needRange, w ∈ us_c_changeover := fun w h => List.mem_cons_of_mem _ (List.mem_append_right _ (List.mem_append_left _ h))
  refine lv_iload_n hx hb dX6_changeover_0 rfl (lv_at hl 1 rfl) ?_
  refine lv_iconst (v := 0) hx hb dX6_changeover_1 (by decide) ?_
  refine lv_iconst (v := 2) hx hb dX6_changeover_2 (by decide) ?_
  refine mx_v (wr := [(x, .inr (13, [.ref g, .ref ca, .int 0, .ref co, .int 0, .ref ra, .int 0, .ref rl, .ref tr, .ref f9, .ref f10, .ref f11, .ref f12, .ref f13]))]) (vx_runS (As := [.int p0, .int 0, .int 2]) (rest := []) ⟨hx, hb, hml, hown, hts⟩ (c_needRange l hst D p0 0 2 s.heap.size) (va_cwS 3 hts (gi_c (List.mem_cons_of_mem _ (List.mem_append_left _ (List.mem_of_getElem? (i := 0) rfl))) rfl (gi_c (List.mem_cons_of_mem _ (List.mem_append_left _ (List.mem_of_getElem? (i := 1) rfl))) rfl (gi_c (List.mem_cons_of_mem _ (List.mem_append_left _ (List.mem_of_getElem? (i := 2) rfl))) rfl (goodIn_sub hb_0 (List.all_eq_true.mpr gw_c_needRange))))) rfl rfl rfl (by decide +kernel) ⟨Nat.le_of_ble_eq_true rfl, Nat.le_of_ble_eq_true rfl⟩) (pr_S (As := [.int p0, .int 0, .int 2]) hP hD hK hS hA hE [] [] rfl rfl rfl) rfl rfl hl.1 rfl (lv_room (Nat.le_of_ble_eq_true rfl)) dX6_changeover_3 ⟨Nat.le_of_ble_eq_true rfl, Nat.le_of_ble_eq_true rfl⟩) hP hD hK hS hA [] [0] rfl rfl (by decide) (by decide) htab hlocks (fun E h => ⟨h.1, (if_neg h.2)⟩) (Nat.le_of_ble_eq_true rfl) (Nat.le_of_ble_eq_true rfl) (fun _ H locs w1 hP hD hK hS => ?_)
  have hP : va_P D vwCl [(x, .inr (13, [.ref g, .ref ca, .int 0, .ref co, .int 0, .ref ra, .int 0, .ref rl, .ref tr, .ref f9, .ref f10, .ref f11, .ref f12, .ref f13]))] H := hP
  have hD : va_D A [(x, .inr (13, [.ref g, .ref ca, .int 0, .ref co, .int 0, .ref ra, .int 0, .ref rl, .ref tr, .ref f9, .ref f10, .ref f11, .ref f12, .ref f13]))] := hD
  have hK : va_K D vwCl [] s := hK
  have v0 := w1
  obtain ⟨k0, hk0, rfl⟩ := inR_nI (M := 2) (by decide) (by decide) v0
  refine lv_iload_n hx hb dX6_changeover_6 rfl (lv_at hl 2 rfl) ?_
  refine lv_iconst (v := 0) hx hb dX6_changeover_7 (by decide) ?_
  refine lv_ldc hx hb hown hw_3 dX6_changeover_8 ?_
  refine mx_v (wr := [(x, .inr (13, [.ref g, .ref ca, .int 0, .ref co, .int 0, .ref ra, .int 0, .ref rl, .ref tr, .ref f9, .ref f10, .ref f11, .ref f12, .ref f13]))]) (vx_runS (As := [.int p1, .int 0, .int 99999]) (rest := []) ⟨hx, hb, hml, hown, hts⟩ (c_needRange l hst D p1 0 99999 H.size) (va_cwS 3 hts (gi_c (List.mem_cons_of_mem _ (List.mem_append_left _ (List.mem_of_getElem? (i := 0) rfl))) rfl (gi_c (List.mem_cons_of_mem _ (List.mem_append_left _ (List.mem_of_getElem? (i := 1) rfl))) rfl (gi_c (List.mem_cons_of_mem _ (List.mem_append_left _ (List.mem_of_getElem? (i := 2) rfl))) rfl (goodIn_sub hb_0 (List.all_eq_true.mpr gw_c_needRange))))) rfl rfl rfl (by decide +kernel) ⟨Nat.le_of_ble_eq_true rfl, Nat.le_of_ble_eq_true rfl⟩) (pr_S (As := [.int p1, .int 0, .int 99999]) hP hD hK hS hA hE [] [] rfl rfl rfl) rfl rfl hl.1 rfl (lv_room (Nat.le_of_ble_eq_true rfl)) dX6_changeover_10 ⟨Nat.le_of_ble_eq_true rfl, Nat.le_of_ble_eq_true rfl⟩) hP hD hK hS hA [] [0] rfl rfl (by decide) (by decide) htab hlocks (fun E h => ⟨h.1, ((if_pos v0).trans (if_neg h.2))⟩) (Nat.le_of_ble_eq_true rfl) (Nat.le_of_ble_eq_true rfl) (fun _ H locs w3 hP hD hK hS => ?_)
  have hP : va_P D vwCl [(x, .inr (13, [.ref g, .ref ca, .int 0, .ref co, .int 0, .ref ra, .int 0, .ref rl, .ref tr, .ref f9, .ref f10, .ref f11, .ref f12, .ref f13]))] H := hP
  have hD : va_D A [(x, .inr (13, [.ref g, .ref ca, .int 0, .ref co, .int 0, .ref ra, .int 0, .ref rl, .ref tr, .ref f9, .ref f10, .ref f11, .ref f12, .ref f13]))] := hD
  have hK : va_K D vwCl [] s := hK
  have v1 := w3
  refine lv_iload_n hx hb dX6_changeover_13 rfl (lv_at hl 3 rfl) ?_
  refine lv_iconst (v := 0) hx hb dX6_changeover_14 (by decide) ?_
  refine lv_ldc hx hb hown hw_3 dX6_changeover_15 ?_
  refine mx_v (wr := [(x, .inr (13, [.ref g, .ref ca, .int 0, .ref co, .int 0, .ref ra, .int 0, .ref rl, .ref tr, .ref f9, .ref f10, .ref f11, .ref f12, .ref f13]))]) (vx_runS (As := [.int p2, .int 0, .int 99999]) (rest := []) ⟨hx, hb, hml, hown, hts⟩ (c_needRange l hst D p2 0 99999 H.size) (va_cwS 3 hts (gi_c (List.mem_cons_of_mem _ (List.mem_append_left _ (List.mem_of_getElem? (i := 0) rfl))) rfl (gi_c (List.mem_cons_of_mem _ (List.mem_append_left _ (List.mem_of_getElem? (i := 1) rfl))) rfl (gi_c (List.mem_cons_of_mem _ (List.mem_append_left _ (List.mem_of_getElem? (i := 2) rfl))) rfl (goodIn_sub hb_0 (List.all_eq_true.mpr gw_c_needRange))))) rfl rfl rfl (by decide +kernel) ⟨Nat.le_of_ble_eq_true rfl, Nat.le_of_ble_eq_true rfl⟩) (pr_S (As := [.int p2, .int 0, .int 99999]) hP hD hK hS hA hE [] [] rfl rfl rfl) rfl rfl hl.1 rfl (lv_room (Nat.le_of_ble_eq_true rfl)) dX6_changeover_17 ⟨Nat.le_of_ble_eq_true rfl, Nat.le_of_ble_eq_true rfl⟩) hP hD hK hS hA [] [0] rfl rfl (by decide) (by decide) htab hlocks (fun E h => ⟨h.1, ((if_pos v0).trans ((if_pos v1).trans (if_neg h.2)))⟩) (Nat.le_of_ble_eq_true rfl) (Nat.le_of_ble_eq_true rfl) (fun _ H locs w5 hP hD hK hS => ?_)
  have hP : va_P D vwCl [(x, .inr (13, [.ref g, .ref ca, .int 0, .ref co, .int 0, .ref ra, .int 0, .ref rl, .ref tr, .ref f9, .ref f10, .ref f11, .ref f12, .ref f13]))] H := hP
  have hD : va_D A [(x, .inr (13, [.ref g, .ref ca, .int 0, .ref co, .int 0, .ref ra, .int 0, .ref rl, .ref tr, .ref f9, .ref f10, .ref f11, .ref f12, .ref f13]))] := hD
  have hK : va_K D vwCl [] s := hK
  have v2 := w5
  refine lv_iload hx hb dX6_changeover_20 (lv_at hl 4 rfl) ?_
  refine lv_iconst (v := -1) hx hb dX6_changeover_22 (by decide) ?_
  refine lv_ldc hx hb hown hw_3 dX6_changeover_23 ?_
  refine mx_v (wr := [(x, .inr (13, [.ref g, .ref ca, .int 0, .ref co, .int 0, .ref ra, .int 0, .ref rl, .ref tr, .ref f9, .ref f10, .ref f11, .ref f12, .ref f13]))]) (vx_runS (As := [.int p3, .int (-1), .int 99999]) (rest := []) ⟨hx, hb, hml, hown, hts⟩ (c_needRange l hst D p3 (-1) 99999 H.size) (va_cwS 3 hts (gi_c (List.mem_cons_of_mem _ (List.mem_append_left _ (List.mem_of_getElem? (i := 0) rfl))) rfl (gi_c (List.mem_cons_of_mem _ (List.mem_append_left _ (List.mem_of_getElem? (i := 1) rfl))) rfl (gi_c (List.mem_cons_of_mem _ (List.mem_append_left _ (List.mem_of_getElem? (i := 2) rfl))) rfl (goodIn_sub hb_0 (List.all_eq_true.mpr gw_c_needRange))))) rfl rfl rfl (by decide +kernel) ⟨Nat.le_of_ble_eq_true rfl, Nat.le_of_ble_eq_true rfl⟩) (pr_S (As := [.int p3, .int (-1), .int 99999]) hP hD hK hS hA hE [] [] rfl rfl rfl) rfl rfl hl.1 rfl (lv_room (Nat.le_of_ble_eq_true rfl)) dX6_changeover_25 ⟨Nat.le_of_ble_eq_true rfl, Nat.le_of_ble_eq_true rfl⟩) hP hD hK hS hA [] [0] rfl rfl (by decide) (by decide) htab hlocks (fun E h => ⟨h.1, ((if_pos v0).trans ((if_pos v1).trans ((if_pos v2).trans (if_neg h.2))))⟩) (Nat.le_of_ble_eq_true rfl) (Nat.le_of_ble_eq_true rfl) (fun _ H locs w7 hP hD hK hS => ?_)
  have hP : va_P D vwCl [(x, .inr (13, [.ref g, .ref ca, .int 0, .ref co, .int 0, .ref ra, .int 0, .ref rl, .ref tr, .ref f9, .ref f10, .ref f11, .ref f12, .ref f13]))] H := hP
  have hD : va_D A [(x, .inr (13, [.ref g, .ref ca, .int 0, .ref co, .int 0, .ref ra, .int 0, .ref rl, .ref tr, .ref f9, .ref f10, .ref f11, .ref f12, .ref f13]))] := hD
  have hK : va_K D vwCl [] s := hK
  have v3 := w7
  refine lv_iload_n hx hb dX6_changeover_28 rfl (lv_at hl 2 rfl) ?_
  refine lv_istore (lv' := [(5, .int p1), (0, .ref x), (1, .int (nI k0)), (2, .int p1), (3, .int p2), (4, .int p3)]) hx hb dX6_changeover_29 hl (by decide) rfl (fun ls hl => ?_)
  refine lv_iconst (v := 0) hx hb dX6_changeover_31 (by decide) ?_
  refine lv_istore (lv' := [(6, .int 0), (5, .int p1), (0, .ref x), (1, .int (nI k0)), (2, .int p1), (3, .int p2), (4, .int p3)]) hx hb dX6_changeover_32 hl (by decide) rfl (fun ls hl => ?_)
  rcases (show k0 = 0 ∨ k0 = 1 ∨ k0 = 2 by omega) with rfl | rfl | rfl
  · refine lv_iload hx hb dX6_changeover_34 (lv_at hl 0 rfl) ?_
    refine lv_iload_n hx hb dX6_changeover_36 rfl (lv_at hl 3 rfl) ?_
    refine lv_icmp_ge (tgt := 69) hx hb dX6_changeover_37 (by decide) (fun h9 => ?_) (fun h9 => absurd (by exact (nI_leI (a := 0) (b := 0) (by omega) (by omega)).mpr (by omega)) h9)
    refine lv_iload hx hb dX6_changeover_69 (lv_at hl 1 rfl) ?_
    exact vx_ret (mr_i hx hb hr () (⟨((if_pos v0).trans ((if_pos v1).trans ((if_pos v2).trans (if_pos v3)))), (rfl).trans (cvR_0 p1 p2 p3).symm⟩) (hP.sub [] rfl) (hK.sub [] rfl) (hD.sub [] (by decide) rfl) hS (Nat.le_of_ble_eq_true rfl) (Nat.le_of_ble_eq_true rfl) hlocks dX6_changeover_71)
  · refine lv_iload hx hb dX6_changeover_34 (lv_at hl 0 rfl) ?_
    refine lv_iload_n hx hb dX6_changeover_36 rfl (lv_at hl 3 rfl) ?_
    refine lv_icmp_ge (tgt := 69) hx hb dX6_changeover_37 (by decide) (fun h10 => absurd h10 (by exact fun q9 => absurd ((nI_leI (a := 1) (b := 0) (by omega) (by omega)).mp q9) (by omega))) (fun h10 => ?_)
    refine lv_iload hx hb dX6_changeover_40 (lv_at hl 1 rfl) ?_
    refine lv_iload_n hx hb dX6_changeover_42 rfl (lv_at hl 5 rfl) ?_
    refine lv_iadd hx hb dX6_changeover_43 ?_
    refine lv_topi (fun x11 e11 => ?_)
    refine lv_istore (lv' := [(5, .int x11), (6, .int 0), (0, .ref x), (1, .int (nI 1)), (2, .int p1), (3, .int p2), (4, .int p3)]) hx hb dX6_changeover_44 hl (by decide) rfl (fun ls hl => ?_)
    refine lv_iload hx hb dX6_changeover_46 (lv_at hl 6 rfl) ?_
    refine lv_iconst (v := -1) hx hb dX6_changeover_48 (by decide) ?_
    refine lv_icmp_eq (tgt := 63) hx hb dX6_changeover_49 (by decide) (fun h12 => ?_) (fun h12 => ?_)
    · obtain ⟨x13, e13⟩ : ∃ z : Int32, z = 0 + 1 := ⟨_, rfl⟩
      refine lv_iinc (v := x13) (lv' := [(6, .int x13), (5, .int x11), (0, .ref x), (1, .int (nI 1)), (2, .int p1), (3, .int p2), (4, .int p3)]) hx hb dX6_changeover_63 hl (k := 1) rfl (by rw [e13]; rfl) (by decide) rfl (fun ls hl => ?_)
      obtain rfl : x13 = 1 := e13.trans (by decide)
      refine lv_goto (tgt := 34) hx hb dX6_changeover_66 (by decide) ?_
      refine lv_iload hx hb dX6_changeover_34 (lv_at hl 0 rfl) ?_
      refine lv_iload_n hx hb dX6_changeover_36 rfl (lv_at hl 3 rfl) ?_
      refine lv_icmp_ge (tgt := 69) hx hb dX6_changeover_37 (by decide) (fun h14 => ?_) (fun h14 => absurd (by exact (nI_leI (a := 1) (b := 1) (by omega) (by omega)).mpr (by omega)) h14)
      refine lv_iload hx hb dX6_changeover_69 (lv_at hl 1 rfl) ?_
      exact vx_ret (mr_i hx hb hr () (⟨((if_pos v0).trans ((if_pos v1).trans ((if_pos v2).trans (if_pos v3)))), ((cvS_1 h12 e11).trans (congrArg (cvS p2 p3) (rfl))).trans (cvR_1 p1 p2 p3).symm⟩) (hP.sub [] rfl) (hK.sub [] rfl) (hD.sub [] (by decide) rfl) hS (Nat.le_of_ble_eq_true rfl) (Nat.le_of_ble_eq_true rfl) hlocks dX6_changeover_71)
    · refine lv_iload hx hb dX6_changeover_52 (lv_at hl 6 rfl) ?_
      refine lv_iload hx hb dX6_changeover_54 (lv_at hl 0 rfl) ?_
      refine lv_icmp_ge (tgt := 63) hx hb dX6_changeover_56 (by decide) (fun h15 => ?_) (fun h15 => ?_)
      · obtain ⟨x16, e16⟩ : ∃ z : Int32, z = 0 + 1 := ⟨_, rfl⟩
        refine lv_iinc (v := x16) (lv' := [(6, .int x16), (5, .int x11), (0, .ref x), (1, .int (nI 1)), (2, .int p1), (3, .int p2), (4, .int p3)]) hx hb dX6_changeover_63 hl (k := 1) rfl (by rw [e16]; rfl) (by decide) rfl (fun ls hl => ?_)
        obtain rfl : x16 = 1 := e16.trans (by decide)
        refine lv_goto (tgt := 34) hx hb dX6_changeover_66 (by decide) ?_
        refine lv_iload hx hb dX6_changeover_34 (lv_at hl 0 rfl) ?_
        refine lv_iload_n hx hb dX6_changeover_36 rfl (lv_at hl 3 rfl) ?_
        refine lv_icmp_ge (tgt := 69) hx hb dX6_changeover_37 (by decide) (fun h17 => ?_) (fun h17 => absurd (by exact (nI_leI (a := 1) (b := 1) (by omega) (by omega)).mpr (by omega)) h17)
        refine lv_iload hx hb dX6_changeover_69 (lv_at hl 1 rfl) ?_
        exact vx_ret (mr_i hx hb hr () (⟨((if_pos v0).trans ((if_pos v1).trans ((if_pos v2).trans (if_pos v3)))), ((cvS_2 h12 h15 e11).trans (congrArg (cvS p2 p3) (rfl))).trans (cvR_1 p1 p2 p3).symm⟩) (hP.sub [] rfl) (hK.sub [] rfl) (hD.sub [] (by decide) rfl) hS (Nat.le_of_ble_eq_true rfl) (Nat.le_of_ble_eq_true rfl) hlocks dX6_changeover_71)
      · refine lv_iload hx hb dX6_changeover_59 (lv_at hl 6 rfl) ?_
        refine lv_istore (lv' := [(5, .int p3), (6, .int 0), (0, .ref x), (1, .int (nI 1)), (2, .int p1), (3, .int p2), (4, .int p3)]) hx hb dX6_changeover_61 hl (by decide) rfl (fun ls hl => ?_)
        obtain ⟨x18, e18⟩ : ∃ z : Int32, z = 0 + 1 := ⟨_, rfl⟩
        refine lv_iinc (v := x18) (lv' := [(6, .int x18), (5, .int p3), (0, .ref x), (1, .int (nI 1)), (2, .int p1), (3, .int p2), (4, .int p3)]) hx hb dX6_changeover_63 hl (k := 1) rfl (by rw [e18]; rfl) (by decide) rfl (fun ls hl => ?_)
        obtain rfl : x18 = 1 := e18.trans (by decide)
        refine lv_goto (tgt := 34) hx hb dX6_changeover_66 (by decide) ?_
        refine lv_iload hx hb dX6_changeover_34 (lv_at hl 0 rfl) ?_
        refine lv_iload_n hx hb dX6_changeover_36 rfl (lv_at hl 3 rfl) ?_
        refine lv_icmp_ge (tgt := 69) hx hb dX6_changeover_37 (by decide) (fun h19 => ?_) (fun h19 => absurd (by exact (nI_leI (a := 1) (b := 1) (by omega) (by omega)).mpr (by omega)) h19)
        refine lv_iload hx hb dX6_changeover_69 (lv_at hl 1 rfl) ?_
        exact vx_ret (mr_i hx hb hr () (⟨((if_pos v0).trans ((if_pos v1).trans ((if_pos v2).trans (if_pos v3)))), ((cvS_3 h12 h15 e11).trans (congrArg (cvS p2 p3) (rfl))).trans (cvR_1 p1 p2 p3).symm⟩) (hP.sub [] rfl) (hK.sub [] rfl) (hD.sub [] (by decide) rfl) hS (Nat.le_of_ble_eq_true rfl) (Nat.le_of_ble_eq_true rfl) hlocks dX6_changeover_71)
  · refine lv_iload hx hb dX6_changeover_34 (lv_at hl 0 rfl) ?_
    refine lv_iload_n hx hb dX6_changeover_36 rfl (lv_at hl 3 rfl) ?_
    refine lv_icmp_ge (tgt := 69) hx hb dX6_changeover_37 (by decide) (fun h20 => absurd h20 (by exact fun q9 => absurd ((nI_leI (a := 2) (b := 0) (by omega) (by omega)).mp q9) (by omega))) (fun h20 => ?_)
    refine lv_iload hx hb dX6_changeover_40 (lv_at hl 1 rfl) ?_
    refine lv_iload_n hx hb dX6_changeover_42 rfl (lv_at hl 5 rfl) ?_
    refine lv_iadd hx hb dX6_changeover_43 ?_
    refine lv_topi (fun x21 e21 => ?_)
    refine lv_istore (lv' := [(5, .int x21), (6, .int 0), (0, .ref x), (1, .int (nI 2)), (2, .int p1), (3, .int p2), (4, .int p3)]) hx hb dX6_changeover_44 hl (by decide) rfl (fun ls hl => ?_)
    refine lv_iload hx hb dX6_changeover_46 (lv_at hl 6 rfl) ?_
    refine lv_iconst (v := -1) hx hb dX6_changeover_48 (by decide) ?_
    refine lv_icmp_eq (tgt := 63) hx hb dX6_changeover_49 (by decide) (fun h22 => ?_) (fun h22 => ?_)
    · obtain ⟨x23, e23⟩ : ∃ z : Int32, z = 0 + 1 := ⟨_, rfl⟩
      refine lv_iinc (v := x23) (lv' := [(6, .int x23), (5, .int x21), (0, .ref x), (1, .int (nI 2)), (2, .int p1), (3, .int p2), (4, .int p3)]) hx hb dX6_changeover_63 hl (k := 1) rfl (by rw [e23]; rfl) (by decide) rfl (fun ls hl => ?_)
      obtain rfl : x23 = 1 := e23.trans (by decide)
      refine lv_goto (tgt := 34) hx hb dX6_changeover_66 (by decide) ?_
      refine lv_iload hx hb dX6_changeover_34 (lv_at hl 0 rfl) ?_
      refine lv_iload_n hx hb dX6_changeover_36 rfl (lv_at hl 3 rfl) ?_
      refine lv_icmp_ge (tgt := 69) hx hb dX6_changeover_37 (by decide) (fun h24 => absurd h24 (by exact fun q9 => absurd ((nI_leI (a := 2) (b := 1) (by omega) (by omega)).mp q9) (by omega))) (fun h24 => ?_)
      refine lv_iload hx hb dX6_changeover_40 (lv_at hl 1 rfl) ?_
      refine lv_iload_n hx hb dX6_changeover_42 rfl (lv_at hl 5 rfl) ?_
      refine lv_iadd hx hb dX6_changeover_43 ?_
      refine lv_topi (fun x25 e25 => ?_)
      refine lv_istore (lv' := [(5, .int x25), (6, .int 1), (0, .ref x), (1, .int (nI 2)), (2, .int p1), (3, .int p2), (4, .int p3)]) hx hb dX6_changeover_44 hl (by decide) rfl (fun ls hl => ?_)
      refine lv_iload hx hb dX6_changeover_46 (lv_at hl 6 rfl) ?_
      refine lv_iconst (v := -1) hx hb dX6_changeover_48 (by decide) ?_
      refine lv_icmp_eq (tgt := 63) hx hb dX6_changeover_49 (by decide) (fun h26 => ?_) (fun h26 => ?_)
      · obtain ⟨x27, e27⟩ : ∃ z : Int32, z = 1 + 1 := ⟨_, rfl⟩
        refine lv_iinc (v := x27) (lv' := [(6, .int x27), (5, .int x25), (0, .ref x), (1, .int (nI 2)), (2, .int p1), (3, .int p2), (4, .int p3)]) hx hb dX6_changeover_63 hl (k := 1) rfl (by rw [e27]; rfl) (by decide) rfl (fun ls hl => ?_)
        obtain rfl : x27 = 2 := e27.trans (by decide)
        refine lv_goto (tgt := 34) hx hb dX6_changeover_66 (by decide) ?_
        refine lv_iload hx hb dX6_changeover_34 (lv_at hl 0 rfl) ?_
        refine lv_iload_n hx hb dX6_changeover_36 rfl (lv_at hl 3 rfl) ?_
        refine lv_icmp_ge (tgt := 69) hx hb dX6_changeover_37 (by decide) (fun h28 => ?_) (fun h28 => absurd (by exact (nI_leI (a := 2) (b := 2) (by omega) (by omega)).mpr (by omega)) h28)
        refine lv_iload hx hb dX6_changeover_69 (lv_at hl 1 rfl) ?_
        exact vx_ret (mr_i hx hb hr () (⟨((if_pos v0).trans ((if_pos v1).trans ((if_pos v2).trans (if_pos v3)))), ((cvS_1 h26 e25).trans (congrArg (cvS p2 p3) ((cvS_1 h22 e21).trans (congrArg (cvS p2 p3) (rfl))))).trans (cvR_2 p1 p2 p3).symm⟩) (hP.sub [] rfl) (hK.sub [] rfl) (hD.sub [] (by decide) rfl) hS (Nat.le_of_ble_eq_true rfl) (Nat.le_of_ble_eq_true rfl) hlocks dX6_changeover_71)
      · refine lv_iload hx hb dX6_changeover_52 (lv_at hl 6 rfl) ?_
        refine lv_iload hx hb dX6_changeover_54 (lv_at hl 0 rfl) ?_
        refine lv_icmp_ge (tgt := 63) hx hb dX6_changeover_56 (by decide) (fun h29 => ?_) (fun h29 => ?_)
        · obtain ⟨x30, e30⟩ : ∃ z : Int32, z = 1 + 1 := ⟨_, rfl⟩
          refine lv_iinc (v := x30) (lv' := [(6, .int x30), (5, .int x25), (0, .ref x), (1, .int (nI 2)), (2, .int p1), (3, .int p2), (4, .int p3)]) hx hb dX6_changeover_63 hl (k := 1) rfl (by rw [e30]; rfl) (by decide) rfl (fun ls hl => ?_)
          obtain rfl : x30 = 2 := e30.trans (by decide)
          refine lv_goto (tgt := 34) hx hb dX6_changeover_66 (by decide) ?_
          refine lv_iload hx hb dX6_changeover_34 (lv_at hl 0 rfl) ?_
          refine lv_iload_n hx hb dX6_changeover_36 rfl (lv_at hl 3 rfl) ?_
          refine lv_icmp_ge (tgt := 69) hx hb dX6_changeover_37 (by decide) (fun h31 => ?_) (fun h31 => absurd (by exact (nI_leI (a := 2) (b := 2) (by omega) (by omega)).mpr (by omega)) h31)
          refine lv_iload hx hb dX6_changeover_69 (lv_at hl 1 rfl) ?_
          exact vx_ret (mr_i hx hb hr () (⟨((if_pos v0).trans ((if_pos v1).trans ((if_pos v2).trans (if_pos v3)))), ((cvS_2 h26 h29 e25).trans (congrArg (cvS p2 p3) ((cvS_1 h22 e21).trans (congrArg (cvS p2 p3) (rfl))))).trans (cvR_2 p1 p2 p3).symm⟩) (hP.sub [] rfl) (hK.sub [] rfl) (hD.sub [] (by decide) rfl) hS (Nat.le_of_ble_eq_true rfl) (Nat.le_of_ble_eq_true rfl) hlocks dX6_changeover_71)
        · refine lv_iload hx hb dX6_changeover_59 (lv_at hl 6 rfl) ?_
          refine lv_istore (lv' := [(5, .int p3), (6, .int 1), (0, .ref x), (1, .int (nI 2)), (2, .int p1), (3, .int p2), (4, .int p3)]) hx hb dX6_changeover_61 hl (by decide) rfl (fun ls hl => ?_)
          obtain ⟨x32, e32⟩ : ∃ z : Int32, z = 1 + 1 := ⟨_, rfl⟩
          refine lv_iinc (v := x32) (lv' := [(6, .int x32), (5, .int p3), (0, .ref x), (1, .int (nI 2)), (2, .int p1), (3, .int p2), (4, .int p3)]) hx hb dX6_changeover_63 hl (k := 1) rfl (by rw [e32]; rfl) (by decide) rfl (fun ls hl => ?_)
          obtain rfl : x32 = 2 := e32.trans (by decide)
          refine lv_goto (tgt := 34) hx hb dX6_changeover_66 (by decide) ?_
          refine lv_iload hx hb dX6_changeover_34 (lv_at hl 0 rfl) ?_
          refine lv_iload_n hx hb dX6_changeover_36 rfl (lv_at hl 3 rfl) ?_
          refine lv_icmp_ge (tgt := 69) hx hb dX6_changeover_37 (by decide) (fun h33 => ?_) (fun h33 => absurd (by exact (nI_leI (a := 2) (b := 2) (by omega) (by omega)).mpr (by omega)) h33)
          refine lv_iload hx hb dX6_changeover_69 (lv_at hl 1 rfl) ?_
          exact vx_ret (mr_i hx hb hr () (⟨((if_pos v0).trans ((if_pos v1).trans ((if_pos v2).trans (if_pos v3)))), ((cvS_3 h26 h29 e25).trans (congrArg (cvS p2 p3) ((cvS_1 h22 e21).trans (congrArg (cvS p2 p3) (rfl))))).trans (cvR_2 p1 p2 p3).symm⟩) (hP.sub [] rfl) (hK.sub [] rfl) (hD.sub [] (by decide) rfl) hS (Nat.le_of_ble_eq_true rfl) (Nat.le_of_ble_eq_true rfl) hlocks dX6_changeover_71)
    · refine lv_iload hx hb dX6_changeover_52 (lv_at hl 6 rfl) ?_
      refine lv_iload hx hb dX6_changeover_54 (lv_at hl 0 rfl) ?_
      refine lv_icmp_ge (tgt := 63) hx hb dX6_changeover_56 (by decide) (fun h34 => ?_) (fun h34 => ?_)
      · obtain ⟨x35, e35⟩ : ∃ z : Int32, z = 0 + 1 := ⟨_, rfl⟩
        refine lv_iinc (v := x35) (lv' := [(6, .int x35), (5, .int x21), (0, .ref x), (1, .int (nI 2)), (2, .int p1), (3, .int p2), (4, .int p3)]) hx hb dX6_changeover_63 hl (k := 1) rfl (by rw [e35]; rfl) (by decide) rfl (fun ls hl => ?_)
        obtain rfl : x35 = 1 := e35.trans (by decide)
        refine lv_goto (tgt := 34) hx hb dX6_changeover_66 (by decide) ?_
        refine lv_iload hx hb dX6_changeover_34 (lv_at hl 0 rfl) ?_
        refine lv_iload_n hx hb dX6_changeover_36 rfl (lv_at hl 3 rfl) ?_
        refine lv_icmp_ge (tgt := 69) hx hb dX6_changeover_37 (by decide) (fun h36 => absurd h36 (by exact fun q9 => absurd ((nI_leI (a := 2) (b := 1) (by omega) (by omega)).mp q9) (by omega))) (fun h36 => ?_)
        refine lv_iload hx hb dX6_changeover_40 (lv_at hl 1 rfl) ?_
        refine lv_iload_n hx hb dX6_changeover_42 rfl (lv_at hl 5 rfl) ?_
        refine lv_iadd hx hb dX6_changeover_43 ?_
        refine lv_topi (fun x37 e37 => ?_)
        refine lv_istore (lv' := [(5, .int x37), (6, .int 1), (0, .ref x), (1, .int (nI 2)), (2, .int p1), (3, .int p2), (4, .int p3)]) hx hb dX6_changeover_44 hl (by decide) rfl (fun ls hl => ?_)
        refine lv_iload hx hb dX6_changeover_46 (lv_at hl 6 rfl) ?_
        refine lv_iconst (v := -1) hx hb dX6_changeover_48 (by decide) ?_
        refine lv_icmp_eq (tgt := 63) hx hb dX6_changeover_49 (by decide) (fun h38 => ?_) (fun h38 => ?_)
        · obtain ⟨x39, e39⟩ : ∃ z : Int32, z = 1 + 1 := ⟨_, rfl⟩
          refine lv_iinc (v := x39) (lv' := [(6, .int x39), (5, .int x37), (0, .ref x), (1, .int (nI 2)), (2, .int p1), (3, .int p2), (4, .int p3)]) hx hb dX6_changeover_63 hl (k := 1) rfl (by rw [e39]; rfl) (by decide) rfl (fun ls hl => ?_)
          obtain rfl : x39 = 2 := e39.trans (by decide)
          refine lv_goto (tgt := 34) hx hb dX6_changeover_66 (by decide) ?_
          refine lv_iload hx hb dX6_changeover_34 (lv_at hl 0 rfl) ?_
          refine lv_iload_n hx hb dX6_changeover_36 rfl (lv_at hl 3 rfl) ?_
          refine lv_icmp_ge (tgt := 69) hx hb dX6_changeover_37 (by decide) (fun h40 => ?_) (fun h40 => absurd (by exact (nI_leI (a := 2) (b := 2) (by omega) (by omega)).mpr (by omega)) h40)
          refine lv_iload hx hb dX6_changeover_69 (lv_at hl 1 rfl) ?_
          exact vx_ret (mr_i hx hb hr () (⟨((if_pos v0).trans ((if_pos v1).trans ((if_pos v2).trans (if_pos v3)))), ((cvS_1 h38 e37).trans (congrArg (cvS p2 p3) ((cvS_2 h22 h34 e21).trans (congrArg (cvS p2 p3) (rfl))))).trans (cvR_2 p1 p2 p3).symm⟩) (hP.sub [] rfl) (hK.sub [] rfl) (hD.sub [] (by decide) rfl) hS (Nat.le_of_ble_eq_true rfl) (Nat.le_of_ble_eq_true rfl) hlocks dX6_changeover_71)
        · refine lv_iload hx hb dX6_changeover_52 (lv_at hl 6 rfl) ?_
          refine lv_iload hx hb dX6_changeover_54 (lv_at hl 0 rfl) ?_
          refine lv_icmp_ge (tgt := 63) hx hb dX6_changeover_56 (by decide) (fun h41 => ?_) (fun h41 => ?_)
          · obtain ⟨x42, e42⟩ : ∃ z : Int32, z = 1 + 1 := ⟨_, rfl⟩
            refine lv_iinc (v := x42) (lv' := [(6, .int x42), (5, .int x37), (0, .ref x), (1, .int (nI 2)), (2, .int p1), (3, .int p2), (4, .int p3)]) hx hb dX6_changeover_63 hl (k := 1) rfl (by rw [e42]; rfl) (by decide) rfl (fun ls hl => ?_)
            obtain rfl : x42 = 2 := e42.trans (by decide)
            refine lv_goto (tgt := 34) hx hb dX6_changeover_66 (by decide) ?_
            refine lv_iload hx hb dX6_changeover_34 (lv_at hl 0 rfl) ?_
            refine lv_iload_n hx hb dX6_changeover_36 rfl (lv_at hl 3 rfl) ?_
            refine lv_icmp_ge (tgt := 69) hx hb dX6_changeover_37 (by decide) (fun h43 => ?_) (fun h43 => absurd (by exact (nI_leI (a := 2) (b := 2) (by omega) (by omega)).mpr (by omega)) h43)
            refine lv_iload hx hb dX6_changeover_69 (lv_at hl 1 rfl) ?_
            exact vx_ret (mr_i hx hb hr () (⟨((if_pos v0).trans ((if_pos v1).trans ((if_pos v2).trans (if_pos v3)))), ((cvS_2 h38 h41 e37).trans (congrArg (cvS p2 p3) ((cvS_2 h22 h34 e21).trans (congrArg (cvS p2 p3) (rfl))))).trans (cvR_2 p1 p2 p3).symm⟩) (hP.sub [] rfl) (hK.sub [] rfl) (hD.sub [] (by decide) rfl) hS (Nat.le_of_ble_eq_true rfl) (Nat.le_of_ble_eq_true rfl) hlocks dX6_changeover_71)
          · refine lv_iload hx hb dX6_changeover_59 (lv_at hl 6 rfl) ?_
            refine lv_istore (lv' := [(5, .int p3), (6, .int 1), (0, .ref x), (1, .int (nI 2)), (2, .int p1), (3, .int p2), (4, .int p3)]) hx hb dX6_changeover_61 hl (by decide) rfl (fun ls hl => ?_)
            obtain ⟨x44, e44⟩ : ∃ z : Int32, z = 1 + 1 := ⟨_, rfl⟩
            refine lv_iinc (v := x44) (lv' := [(6, .int x44), (5, .int p3), (0, .ref x), (1, .int (nI 2)), (2, .int p1), (3, .int p2), (4, .int p3)]) hx hb dX6_changeover_63 hl (k := 1) rfl (by rw [e44]; rfl) (by decide) rfl (fun ls hl => ?_)
            obtain rfl : x44 = 2 := e44.trans (by decide)
            refine lv_goto (tgt := 34) hx hb dX6_changeover_66 (by decide) ?_
            refine lv_iload hx hb dX6_changeover_34 (lv_at hl 0 rfl) ?_
            refine lv_iload_n hx hb dX6_changeover_36 rfl (lv_at hl 3 rfl) ?_
            refine lv_icmp_ge (tgt := 69) hx hb dX6_changeover_37 (by decide) (fun h45 => ?_) (fun h45 => absurd (by exact (nI_leI (a := 2) (b := 2) (by omega) (by omega)).mpr (by omega)) h45)
            refine lv_iload hx hb dX6_changeover_69 (lv_at hl 1 rfl) ?_
            exact vx_ret (mr_i hx hb hr () (⟨((if_pos v0).trans ((if_pos v1).trans ((if_pos v2).trans (if_pos v3)))), ((cvS_3 h38 h41 e37).trans (congrArg (cvS p2 p3) ((cvS_2 h22 h34 e21).trans (congrArg (cvS p2 p3) (rfl))))).trans (cvR_2 p1 p2 p3).symm⟩) (hP.sub [] rfl) (hK.sub [] rfl) (hD.sub [] (by decide) rfl) hS (Nat.le_of_ble_eq_true rfl) (Nat.le_of_ble_eq_true rfl) hlocks dX6_changeover_71)
      · refine lv_iload hx hb dX6_changeover_59 (lv_at hl 6 rfl) ?_
        refine lv_istore (lv' := [(5, .int p3), (6, .int 0), (0, .ref x), (1, .int (nI 2)), (2, .int p1), (3, .int p2), (4, .int p3)]) hx hb dX6_changeover_61 hl (by decide) rfl (fun ls hl => ?_)
        obtain ⟨x46, e46⟩ : ∃ z : Int32, z = 0 + 1 := ⟨_, rfl⟩
        refine lv_iinc (v := x46) (lv' := [(6, .int x46), (5, .int p3), (0, .ref x), (1, .int (nI 2)), (2, .int p1), (3, .int p2), (4, .int p3)]) hx hb dX6_changeover_63 hl (k := 1) rfl (by rw [e46]; rfl) (by decide) rfl (fun ls hl => ?_)
        obtain rfl : x46 = 1 := e46.trans (by decide)
        refine lv_goto (tgt := 34) hx hb dX6_changeover_66 (by decide) ?_
        refine lv_iload hx hb dX6_changeover_34 (lv_at hl 0 rfl) ?_
        refine lv_iload_n hx hb dX6_changeover_36 rfl (lv_at hl 3 rfl) ?_
        refine lv_icmp_ge (tgt := 69) hx hb dX6_changeover_37 (by decide) (fun h47 => absurd h47 (by exact fun q9 => absurd ((nI_leI (a := 2) (b := 1) (by omega) (by omega)).mp q9) (by omega))) (fun h47 => ?_)
        refine lv_iload hx hb dX6_changeover_40 (lv_at hl 1 rfl) ?_
        refine lv_iload_n hx hb dX6_changeover_42 rfl (lv_at hl 5 rfl) ?_
        refine lv_iadd hx hb dX6_changeover_43 ?_
        refine lv_topi (fun x48 e48 => ?_)
        refine lv_istore (lv' := [(5, .int x48), (6, .int 1), (0, .ref x), (1, .int (nI 2)), (2, .int p1), (3, .int p2), (4, .int p3)]) hx hb dX6_changeover_44 hl (by decide) rfl (fun ls hl => ?_)
        refine lv_iload hx hb dX6_changeover_46 (lv_at hl 6 rfl) ?_
        refine lv_iconst (v := -1) hx hb dX6_changeover_48 (by decide) ?_
        refine lv_icmp_eq (tgt := 63) hx hb dX6_changeover_49 (by decide) (fun h49 => ?_) (fun h49 => ?_)
        · obtain ⟨x50, e50⟩ : ∃ z : Int32, z = 1 + 1 := ⟨_, rfl⟩
          refine lv_iinc (v := x50) (lv' := [(6, .int x50), (5, .int x48), (0, .ref x), (1, .int (nI 2)), (2, .int p1), (3, .int p2), (4, .int p3)]) hx hb dX6_changeover_63 hl (k := 1) rfl (by rw [e50]; rfl) (by decide) rfl (fun ls hl => ?_)
          obtain rfl : x50 = 2 := e50.trans (by decide)
          refine lv_goto (tgt := 34) hx hb dX6_changeover_66 (by decide) ?_
          refine lv_iload hx hb dX6_changeover_34 (lv_at hl 0 rfl) ?_
          refine lv_iload_n hx hb dX6_changeover_36 rfl (lv_at hl 3 rfl) ?_
          refine lv_icmp_ge (tgt := 69) hx hb dX6_changeover_37 (by decide) (fun h51 => ?_) (fun h51 => absurd (by exact (nI_leI (a := 2) (b := 2) (by omega) (by omega)).mpr (by omega)) h51)
          refine lv_iload hx hb dX6_changeover_69 (lv_at hl 1 rfl) ?_
          exact vx_ret (mr_i hx hb hr () (⟨((if_pos v0).trans ((if_pos v1).trans ((if_pos v2).trans (if_pos v3)))), ((cvS_1 h49 e48).trans (congrArg (cvS p2 p3) ((cvS_3 h22 h34 e21).trans (congrArg (cvS p2 p3) (rfl))))).trans (cvR_2 p1 p2 p3).symm⟩) (hP.sub [] rfl) (hK.sub [] rfl) (hD.sub [] (by decide) rfl) hS (Nat.le_of_ble_eq_true rfl) (Nat.le_of_ble_eq_true rfl) hlocks dX6_changeover_71)
        · refine lv_iload hx hb dX6_changeover_52 (lv_at hl 6 rfl) ?_
          refine lv_iload hx hb dX6_changeover_54 (lv_at hl 0 rfl) ?_
          refine lv_icmp_ge (tgt := 63) hx hb dX6_changeover_56 (by decide) (fun h52 => ?_) (fun h52 => ?_)
          · obtain ⟨x53, e53⟩ : ∃ z : Int32, z = 1 + 1 := ⟨_, rfl⟩
            refine lv_iinc (v := x53) (lv' := [(6, .int x53), (5, .int x48), (0, .ref x), (1, .int (nI 2)), (2, .int p1), (3, .int p2), (4, .int p3)]) hx hb dX6_changeover_63 hl (k := 1) rfl (by rw [e53]; rfl) (by decide) rfl (fun ls hl => ?_)
            obtain rfl : x53 = 2 := e53.trans (by decide)
            refine lv_goto (tgt := 34) hx hb dX6_changeover_66 (by decide) ?_
            refine lv_iload hx hb dX6_changeover_34 (lv_at hl 0 rfl) ?_
            refine lv_iload_n hx hb dX6_changeover_36 rfl (lv_at hl 3 rfl) ?_
            refine lv_icmp_ge (tgt := 69) hx hb dX6_changeover_37 (by decide) (fun h54 => ?_) (fun h54 => absurd (by exact (nI_leI (a := 2) (b := 2) (by omega) (by omega)).mpr (by omega)) h54)
            refine lv_iload hx hb dX6_changeover_69 (lv_at hl 1 rfl) ?_
            exact vx_ret (mr_i hx hb hr () (⟨((if_pos v0).trans ((if_pos v1).trans ((if_pos v2).trans (if_pos v3)))), ((cvS_2 h49 h52 e48).trans (congrArg (cvS p2 p3) ((cvS_3 h22 h34 e21).trans (congrArg (cvS p2 p3) (rfl))))).trans (cvR_2 p1 p2 p3).symm⟩) (hP.sub [] rfl) (hK.sub [] rfl) (hD.sub [] (by decide) rfl) hS (Nat.le_of_ble_eq_true rfl) (Nat.le_of_ble_eq_true rfl) hlocks dX6_changeover_71)
          · refine lv_iload hx hb dX6_changeover_59 (lv_at hl 6 rfl) ?_
            refine lv_istore (lv' := [(5, .int p3), (6, .int 1), (0, .ref x), (1, .int (nI 2)), (2, .int p1), (3, .int p2), (4, .int p3)]) hx hb dX6_changeover_61 hl (by decide) rfl (fun ls hl => ?_)
            obtain ⟨x55, e55⟩ : ∃ z : Int32, z = 1 + 1 := ⟨_, rfl⟩
            refine lv_iinc (v := x55) (lv' := [(6, .int x55), (5, .int p3), (0, .ref x), (1, .int (nI 2)), (2, .int p1), (3, .int p2), (4, .int p3)]) hx hb dX6_changeover_63 hl (k := 1) rfl (by rw [e55]; rfl) (by decide) rfl (fun ls hl => ?_)
            obtain rfl : x55 = 2 := e55.trans (by decide)
            refine lv_goto (tgt := 34) hx hb dX6_changeover_66 (by decide) ?_
            refine lv_iload hx hb dX6_changeover_34 (lv_at hl 0 rfl) ?_
            refine lv_iload_n hx hb dX6_changeover_36 rfl (lv_at hl 3 rfl) ?_
            refine lv_icmp_ge (tgt := 69) hx hb dX6_changeover_37 (by decide) (fun h56 => ?_) (fun h56 => absurd (by exact (nI_leI (a := 2) (b := 2) (by omega) (by omega)).mpr (by omega)) h56)
            refine lv_iload hx hb dX6_changeover_69 (lv_at hl 1 rfl) ?_
            exact vx_ret (mr_i hx hb hr () (⟨((if_pos v0).trans ((if_pos v1).trans ((if_pos v2).trans (if_pos v3)))), ((cvS_3 h49 h52 e48).trans (congrArg (cvS p2 p3) ((cvS_3 h22 h34 e21).trans (congrArg (cvS p2 p3) (rfl))))).trans (cvR_2 p1 p2 p3).symm⟩) (hP.sub [] rfl) (hK.sub [] rfl) (hD.sub [] (by decide) rfl) hS (Nat.le_of_ble_eq_true rfl) (Nat.le_of_ble_eq_true rfl) hlocks dX6_changeover_71)

def us_c_setWay : List Cond := .code yX5_setWay cX5_setWay 5 none :: (([.fieldLink RX5 15 "ControlWood$Tour" "wayTimes" "[I", .constant RX5 22 (1000000)] : List Cond) ++ (wsX50 ++ ([])))
theorem gw_c_setWay : ∀ w ∈ us_c_setWay, goodWord w = true := gw_cons rfl (gw_app (by decide +kernel) (gw_app gwf_X5 (fun _ h => nomatch h)))
set_option maxHeartbeats 4000000 in
set_option maxRecDepth 100000 in
/-- setWay -/
theorem c_setWay (l : Launch) (hst : l.stackTraces = false) (D : va_G) (b : Nat) (o1 : Nat) (o2 : Nat) (o3 : Nat) (cv : ClassId) (f : Nat → Int32) (co : Nat) (pa : Nat) (sz : Nat) (hco : co ≤ 80) (hpa : pa ≤ 9999) : Met l yX5_setWay us_c_setWay { frames := 0, cells := 0, slots := 0, locals := 0 } (pw D [.ref b, .int 12, .int 12, .int (nI co), .int (nI pa)] [(cv, .int)] [(b, .inr (12, [.ref o1, .ref o2, .ref o3])), (o2, .inl (cv, 169, .inl f))] sz) (va_Qv (fun _ : Unit => True) (qb D (va_A [(b, .inr (12, [.ref o1, .ref o2, .ref o3])), (o2, .inl (cv, 169, .inl f))] sz) (fun _ : Unit => [(b, .inr (12, [.ref o1, .ref o2, .ref o3]))]) (fun _ : Unit => ([] : List (ClassId × FieldType)))) (va_A [(b, .inr (12, [.ref o1, .ref o2, .ref o3])), (o2, .inl (cv, 169, .inl f))] sz)) 0 0 (va_A [(b, .inr (12, [.ref o1, .ref o2, .ref o3])), (o2, .inl (cv, 169, .inl f))] sz) := by
  refine op_M (Qc := fun A => (va_Qv (fun _ : Unit => True) (qb D A (fun _ : Unit => [(b, .inr (12, [.ref o1, .ref o2, .ref o3]))]) (fun _ : Unit => ([] : List (ClassId × FieldType)))) A)) (by decide +kernel) rfl (Nat.le_of_ble_eq_true rfl) ?_
  intro p e s m args below meth c A ls hx hb hr hml hts hown hlocks hmn htab hA hD hS hP hK hE hsz hl
  have hown : s.vm.findClass RX5 = some m.cls := hown
  have hl : lv_has ls 5 [(0, .ref b), (1, .int 12), (2, .int 12), (3, .int (nI co)), (4, .int (nI pa))] := hl
  have hw_0 := hts (.fieldLink RX5 15 "ControlWood$Tour" "wayTimes" "[I") (List.mem_cons_of_mem _ (List.mem_append_left _ (List.mem_of_getElem? (i := 0) rfl)))
  have hw_1 := hts (.constant RX5 22 (1000000)) (List.mem_cons_of_mem _ (List.mem_append_left _ (List.mem_of_getElem? (i := 1) rfl)))
  have hb_0 : ∀ w ∈ wsX50, w ∈ us_c_setWay := fun w h => List.mem_cons_of_mem _ (List.mem_append_right _ (List.mem_append_left _ h))
  have hcp : co * pa ≤ 80 * 9999 := Nat.mul_le_mul hco hpa
  refine lv_aload_n hx hb dX5_setWay_0 rfl (lv_at hl 0 rfl) ?_
  refine va_get (D := D) (ci := 12) (v := .ref o2) (C := RX5) (T := TX5) (N := 3) hx hb hts hb_0 hown hK hP 0 rfl rfl 1 (by decide) hw_0 (fun _ h9 => h9) rfl dX5_setWay_1 ?_
  refine lv_iload_n hx hb dX5_setWay_4 rfl (lv_at hl 1 rfl) ?_
  refine lv_bipush (v := 13) hx hb dX5_setWay_5 (by decide) ?_
  refine lv_imul hx hb dX5_setWay_7 ?_
  refine lv_topi (fun x1 e1 => ?_)
  obtain rfl : x1 = 156 := e1.trans (by decide)
  refine lv_iload_n hx hb dX5_setWay_8 rfl (lv_at hl 2 rfl) ?_
  refine lv_iadd hx hb dX5_setWay_9 ?_
  refine lv_topi (fun x2 e2 => ?_)
  obtain rfl : x2 = 168 := e2.trans (by decide)
  refine lv_iload_n hx hb dX5_setWay_10 rfl (lv_at hl 3 rfl) ?_
  refine lv_ldc hx hb hown hw_1 dX5_setWay_11 ?_
  refine lv_icmp_lt (tgt := 21) hx hb dX5_setWay_13 (by decide) (fun h3 => ?_) (fun h3 => absurd (by exact (nI_ltI (a := co) (b := 1000000) (by omega) (by omega)).mpr (by omega)) h3)
  refine lv_iload_n hx hb dX5_setWay_21 rfl (lv_at hl 3 rfl) ?_
  refine lv_iload hx hb dX5_setWay_22 (lv_at hl 4 rfl) ?_
  refine lv_imul hx hb dX5_setWay_24 ?_
  refine lv_topi (fun x4 e4 => ?_)
  obtain rfl : x4 = nI (co * pa) := e4.trans (pk_mul co pa)
  refine lv_sipush (v := 1000) hx hb dX5_setWay_25 (by decide) ?_
  refine lv_idiv hx hb dX5_setWay_28 (by decide) ?_
  refine lv_topi (fun x5 e5 => ?_)
  obtain rfl : x5 = nI ((co * pa) / 1000) := e5.trans (pk_div (a := co * pa) (d := 1000) (by omega) (by decide) (by decide))
  refine va_iast hx hb hK hP hD hS 1 0 rfl rfl (vp_in_nI (n := 168) (by decide) (by decide)) dX5_setWay_29 (fun H locs hP hD hS => ?_)
  have hP : va_P D vwCl [(b, .inr (12, [.ref o1, .ref o2, .ref o3])), (o2, .inl (cv, 169, .inl (upd f ((168 : Int32).toNatClampNeg) (nI ((co * pa) / 1000)))))] H := hP
  have hD : va_D A [(b, .inr (12, [.ref o1, .ref o2, .ref o3])), (o2, .inl (cv, 169, .inl (upd f ((168 : Int32).toNatClampNeg) (nI ((co * pa) / 1000)))))] := hD
  exact mr_v hx hb hr () (trivial) (hP.sub [0] rfl) (hK.sub [] rfl) (hD.sub [0] (by decide) rfl) hS (Nat.le_of_ble_eq_true rfl) (Nat.le_of_ble_eq_true rfl) hlocks dX5_setWay_30

def us_c_mostPoints : List Cond := .code yX5_mostPoints cX5_mostPoints 5 (some .int) :: (([] : List Cond) ++ ([]))
theorem gw_c_mostPoints : ∀ w ∈ us_c_mostPoints, goodWord w = true := gw_cons rfl (gw_app (by decide +kernel) (fun _ h => nomatch h))
set_option maxHeartbeats 4000000 in
set_option maxRecDepth 100000 in
/-- mostPoints of no controls -/
theorem c_mostPoints (l : Launch) (hst : l.stackTraces = false) (D : va_G) (b : Nat) (o1 : Nat) (o2 : Nat) (o3 : Nat) (lim : Int32) (sz : Nat) : Met l yX5_mostPoints us_c_mostPoints { frames := 0, cells := 0, slots := 0, locals := 0 } (pw D [.ref b, .int 0, .int lim] [] [(b, .inr (12, [.ref o1, .ref o2, .ref o3]))] sz) (va_Qi (fun (r : Int32) (_ : Unit) => r = 0) (qb D (va_A [(b, .inr (12, [.ref o1, .ref o2, .ref o3]))] sz) (fun _ : Unit => [(b, .inr (12, [.ref o1, .ref o2, .ref o3]))]) (fun _ : Unit => ([] : List (ClassId × FieldType)))) (va_A [(b, .inr (12, [.ref o1, .ref o2, .ref o3]))] sz)) 0 0 (va_A [(b, .inr (12, [.ref o1, .ref o2, .ref o3]))] sz) := by
  refine op_M (Qc := fun A => (va_Qi (fun (r : Int32) (_ : Unit) => r = 0) (qb D A (fun _ : Unit => [(b, .inr (12, [.ref o1, .ref o2, .ref o3]))]) (fun _ : Unit => ([] : List (ClassId × FieldType)))) A)) (by decide +kernel) rfl (Nat.le_of_ble_eq_true rfl) ?_
  intro p e s m args below meth c A ls hx hb hr hml hts hown hlocks hmn htab hA hD hS hP hK hE hsz hl
  have hown : s.vm.findClass RX5 = some m.cls := hown
  have hl : lv_has ls 5 [(0, .ref b), (1, .int 0), (2, .int lim)] := hl
  refine lv_iconst (v := 0) hx hb dX5_mostPoints_0 (by decide) ?_
  refine lv_istore_n (lv' := [(3, .int 0), (0, .ref b), (1, .int 0), (2, .int lim)]) hx hb dX5_mostPoints_1 rfl hl (by decide) rfl (fun ls hl => ?_)
  refine lv_iconst (v := 1) hx hb dX5_mostPoints_2 (by decide) ?_
  refine lv_istore (lv' := [(4, .int 1), (3, .int 0), (0, .ref b), (1, .int 0), (2, .int lim)]) hx hb dX5_mostPoints_3 hl (by decide) rfl (fun ls hl => ?_)
  refine lv_iload hx hb dX5_mostPoints_5 (lv_at hl 0 rfl) ?_
  refine lv_iconst (v := 1) hx hb dX5_mostPoints_7 (by decide) ?_
  refine lv_iload_n hx hb dX5_mostPoints_8 rfl (lv_at hl 3 rfl) ?_
  refine lv_ishl hx hb dX5_mostPoints_9 ?_
  refine lv_topi (fun x1 e1 => ?_)
  obtain rfl : x1 = 1 := e1.trans (by decide)
  refine lv_icmp_ge (tgt := 42) hx hb dX5_mostPoints_10 (by decide) (fun h2 => ?_) (fun h2 => absurd (by decide) h2)
  refine lv_iload_n hx hb dX5_mostPoints_42 rfl (lv_at hl 1 rfl) ?_
  exact mr_i hx hb hr () (rfl) (hP.sub [0] rfl) (hK.sub [] rfl) (hD.sub [0] (by decide) rfl) hS (Nat.le_of_ble_eq_true rfl) (Nat.le_of_ble_eq_true rfl) hlocks dX5_mostPoints_43

def us_c_listWays : List Cond := .code yX6_listWays cX6_listWays 6 none :: (([.fieldLink RX6 12 "ControlWood" "ground" "LControlWood$Terrain;", .constant RX6 193 (1000000), .methodLink RX6 535 yX4_spread, .instanceMethod yX4_spread, .selects RX4 yX4_spread yX4_spread, .initialized RX4, .fieldLink RX6 75 "ControlWood" "controlCount" "I", .fieldLink RX6 44 "ControlWood" "tour" "LControlWood$Tour;", .fieldLink RX6 539 "ControlWood$Terrain" "ways" "[I", .methodLink RX6 542 yX5_setWay, .instanceMethod yX5_setWay, .selects RX5 yX5_setWay yX5_setWay, .initialized RX5] : List Cond) ++ (wsX60 ++ (us_c_spread ++ (wsX40 ++ (us_c_setWay ++ ([]))))))
theorem gw_c_listWays : ∀ w ∈ us_c_listWays, goodWord w = true := gw_cons rfl (gw_app (by decide +kernel) (gw_app gwf_X6 (gw_app gw_c_spread (gw_app gwf_X4 (gw_app gw_c_setWay (fun _ h => nomatch h))))))
set_option maxHeartbeats 4000000 in
set_option maxRecDepth 100000 in
/-- listWays of the start -/
theorem c_listWays (l : Launch) (hst : l.stackTraces = false) (D : va_G) (x : Nat) (g : Nat) (ca : Nat) (co : Nat) (ra : Nat) (rl : Nat) (tr : Nat) (f9 : Nat) (f10 : Nat) (f11 : Nat) (f12 : Nat) (f13 : Nat) (a1 : Nat) (a2 : Nat) (a3 : Nat) (a4 : Nat) (a5 : Nat) (a6 : Nat) (a7 : Nat) (a8 : Nat) (a9 : Nat) (a10 : Nat) (a11 : Nat) (ts1 : Nat) (tw : Nat) (ts2 : Nat) (ck : ClassId) (csk : ClassId) (cg : ClassId) (ch : ClassId) (csg : ClassId) (cw : ClassId) (cq : ClassId) (cz : ClassId) (cb : ClassId) (ctw : ClassId) (k0 : Nat) (k2 : Nat) (sz : Nat) (hk0 : k0 ≤ 24) (hk2 : k2 ≤ 9999) : Met l yX6_listWays us_c_listWays { frames := 4, cells := 0, slots := 0, locals := 91 } (pw D [.ref x, .int 12, .int (nI k0), .int (nI k0), .int (nI k2)] [(ck, .char), (csk, .char), (cg, .int), (ch, .int), (csg, .int), (cw, .int), (cq, .int), (cz, .boolean), (cb, .int), (ctw, .int)] [(x, .inr (13, [.ref g, .ref ca, .int 0, .ref co, .int 0, .ref ra, .int 0, .ref rl, .ref tr, .ref f9, .ref f10, .ref f11, .ref f12, .ref f13])), (g, .inr (11, [.int 25, .ref a1, .ref a2, .ref a3, .ref a4, .ref a5, .ref a6, .ref a7, .ref a8, .ref a9, .ref a10, .ref a11, .int 0, .int 0])), (a6, .inl (cw, 144, .inl (fL zL))), (a10, .inl (cq, 144, .inl (fL zL))), (a11, .inl (cz, 144, .inl (fL zL))), (a3, .inl (ck, 144, .inl okF)), (a5, .inl (csk, 144, .inl okF)), (a1, .inl (cg, 144, .inl (fun _ => 0))), (a2, .inl (ch, 144, .inl (fun _ => 0))), (a4, .inl (csg, 144, .inl (fun _ => 0))), (a9, .inl (cb, 576, .inl beF)), (tr, .inr (12, [.ref ts1, .ref tw, .ref ts2])), (tw, .inl (ctw, 169, .inl (fun _ => 0)))] sz) (va_Qv (fun _ : Unit => True) (qb D (va_A [(x, .inr (13, [.ref g, .ref ca, .int 0, .ref co, .int 0, .ref ra, .int 0, .ref rl, .ref tr, .ref f9, .ref f10, .ref f11, .ref f12, .ref f13])), (g, .inr (11, [.int 25, .ref a1, .ref a2, .ref a3, .ref a4, .ref a5, .ref a6, .ref a7, .ref a8, .ref a9, .ref a10, .ref a11, .int 0, .int 0])), (a6, .inl (cw, 144, .inl (fL zL))), (a10, .inl (cq, 144, .inl (fL zL))), (a11, .inl (cz, 144, .inl (fL zL))), (a3, .inl (ck, 144, .inl okF)), (a5, .inl (csk, 144, .inl okF)), (a1, .inl (cg, 144, .inl (fun _ => 0))), (a2, .inl (ch, 144, .inl (fun _ => 0))), (a4, .inl (csg, 144, .inl (fun _ => 0))), (a9, .inl (cb, 576, .inl beF)), (tr, .inr (12, [.ref ts1, .ref tw, .ref ts2])), (tw, .inl (ctw, 169, .inl (fun _ => 0)))] sz) (fun _ : Unit => [(x, .inr (13, [.ref g, .ref ca, .int 0, .ref co, .int 0, .ref ra, .int 0, .ref rl, .ref tr, .ref f9, .ref f10, .ref f11, .ref f12, .ref f13])), (tr, .inr (12, [.ref ts1, .ref tw, .ref ts2]))]) (fun _ : Unit => ([] : List (ClassId × FieldType)))) (va_A [(x, .inr (13, [.ref g, .ref ca, .int 0, .ref co, .int 0, .ref ra, .int 0, .ref rl, .ref tr, .ref f9, .ref f10, .ref f11, .ref f12, .ref f13])), (g, .inr (11, [.int 25, .ref a1, .ref a2, .ref a3, .ref a4, .ref a5, .ref a6, .ref a7, .ref a8, .ref a9, .ref a10, .ref a11, .int 0, .int 0])), (a6, .inl (cw, 144, .inl (fL zL))), (a10, .inl (cq, 144, .inl (fL zL))), (a11, .inl (cz, 144, .inl (fL zL))), (a3, .inl (ck, 144, .inl okF)), (a5, .inl (csk, 144, .inl okF)), (a1, .inl (cg, 144, .inl (fun _ => 0))), (a2, .inl (ch, 144, .inl (fun _ => 0))), (a4, .inl (csg, 144, .inl (fun _ => 0))), (a9, .inl (cb, 576, .inl beF)), (tr, .inr (12, [.ref ts1, .ref tw, .ref ts2])), (tw, .inl (ctw, 169, .inl (fun _ => 0)))] sz)) 0 0 (va_A [(x, .inr (13, [.ref g, .ref ca, .int 0, .ref co, .int 0, .ref ra, .int 0, .ref rl, .ref tr, .ref f9, .ref f10, .ref f11, .ref f12, .ref f13])), (g, .inr (11, [.int 25, .ref a1, .ref a2, .ref a3, .ref a4, .ref a5, .ref a6, .ref a7, .ref a8, .ref a9, .ref a10, .ref a11, .int 0, .int 0])), (a6, .inl (cw, 144, .inl (fL zL))), (a10, .inl (cq, 144, .inl (fL zL))), (a11, .inl (cz, 144, .inl (fL zL))), (a3, .inl (ck, 144, .inl okF)), (a5, .inl (csk, 144, .inl okF)), (a1, .inl (cg, 144, .inl (fun _ => 0))), (a2, .inl (ch, 144, .inl (fun _ => 0))), (a4, .inl (csg, 144, .inl (fun _ => 0))), (a9, .inl (cb, 576, .inl beF)), (tr, .inr (12, [.ref ts1, .ref tw, .ref ts2])), (tw, .inl (ctw, 169, .inl (fun _ => 0)))] sz) := by
  refine op_M (Qc := fun A => (va_Qv (fun _ : Unit => True) (qb D A (fun _ : Unit => [(x, .inr (13, [.ref g, .ref ca, .int 0, .ref co, .int 0, .ref ra, .int 0, .ref rl, .ref tr, .ref f9, .ref f10, .ref f11, .ref f12, .ref f13])), (tr, .inr (12, [.ref ts1, .ref tw, .ref ts2]))]) (fun _ : Unit => ([] : List (ClassId × FieldType)))) A)) (by decide +kernel) rfl (Nat.le_of_ble_eq_true rfl) ?_
  intro p e s m args below meth c A ls hx hb hr hml hts hown hlocks hmn htab hA hD hS hP hK hE hsz hl
  have hown : s.vm.findClass RX6 = some m.cls := hown
  have hl : lv_has ls 6 [(0, .ref x), (1, .int 12), (2, .int (nI k0)), (3, .int (nI k0)), (4, .int (nI k2))] := hl
  have hw_0 := hts (.fieldLink RX6 12 "ControlWood" "ground" "LControlWood$Terrain;") (List.mem_cons_of_mem _ (List.mem_append_left _ (List.mem_of_getElem? (i := 0) rfl)))
  have hw_1 := hts (.constant RX6 193 (1000000)) (List.mem_cons_of_mem _ (List.mem_append_left _ (List.mem_of_getElem? (i := 1) rfl)))
  have hw_2 := hts (.methodLink RX6 535 yX4_spread) (List.mem_cons_of_mem _ (List.mem_append_left _ (List.mem_of_getElem? (i := 2) rfl)))
  have hw_3 := hts (.instanceMethod yX4_spread) (List.mem_cons_of_mem _ (List.mem_append_left _ (List.mem_of_getElem? (i := 3) rfl)))
  have hw_4 := hts (.selects RX4 yX4_spread yX4_spread) (List.mem_cons_of_mem _ (List.mem_append_left _ (List.mem_of_getElem? (i := 4) rfl)))
  have hw_5 := hts (.initialized RX4) (List.mem_cons_of_mem _ (List.mem_append_left _ (List.mem_of_getElem? (i := 5) rfl)))
  have hw_6 := hts (.fieldLink RX6 75 "ControlWood" "controlCount" "I") (List.mem_cons_of_mem _ (List.mem_append_left _ (List.mem_of_getElem? (i := 6) rfl)))
  have hw_7 := hts (.fieldLink RX6 44 "ControlWood" "tour" "LControlWood$Tour;") (List.mem_cons_of_mem _ (List.mem_append_left _ (List.mem_of_getElem? (i := 7) rfl)))
  have hw_8 := hts (.fieldLink RX6 539 "ControlWood$Terrain" "ways" "[I") (List.mem_cons_of_mem _ (List.mem_append_left _ (List.mem_of_getElem? (i := 8) rfl)))
  have hw_9 := hts (.methodLink RX6 542 yX5_setWay) (List.mem_cons_of_mem _ (List.mem_append_left _ (List.mem_of_getElem? (i := 9) rfl)))
  have hw_10 := hts (.instanceMethod yX5_setWay) (List.mem_cons_of_mem _ (List.mem_append_left _ (List.mem_of_getElem? (i := 10) rfl)))
  have hw_11 := hts (.selects RX5 yX5_setWay yX5_setWay) (List.mem_cons_of_mem _ (List.mem_append_left _ (List.mem_of_getElem? (i := 11) rfl)))
  have hw_12 := hts (.initialized RX5) (List.mem_cons_of_mem _ (List.mem_append_left _ (List.mem_of_getElem? (i := 12) rfl)))
  have hb_0 : ∀ w ∈ wsX60, w ∈ us_c_listWays := fun w h => List.mem_cons_of_mem _ (List.mem_append_right _ (List.mem_append_left _ h))
  have hb_1 : ∀ w ∈ us_c_spread, w ∈ us_c_listWays := fun w h => List.mem_cons_of_mem _ (List.mem_append_right _ (List.mem_append_right _ (List.mem_append_left _ h)))
  have hb_2 : ∀ w ∈ wsX40, w ∈ us_c_listWays := fun w h => List.mem_cons_of_mem _ (List.mem_append_right _ (List.mem_append_right _ (List.mem_append_right _ (List.mem_append_left _ h))))
  have hb_3 : ∀ w ∈ us_c_setWay, w ∈ us_c_listWays := fun w h => List.mem_cons_of_mem _ (List.mem_append_right _ (List.mem_append_right _ (List.mem_append_right _ (List.mem_append_right _ (List.mem_append_left _ h)))))
  refine lv_aload_n hx hb dX6_listWays_0 rfl (lv_at hl 0 rfl) ?_
  refine va_get (D := D) (ci := 13) (v := .ref g) (C := RX6) (T := TX6) (N := 14) hx hb hts hb_0 hown hK hP 0 rfl rfl 0 (by decide) hw_0 (fun _ h9 => h9) rfl dX6_listWays_1 ?_
  refine lv_iload_n hx hb dX6_listWays_4 rfl (lv_at hl 2 rfl) ?_
  refine lv_iconst (v := 0) hx hb dX6_listWays_5 (by decide) ?_
  refine lv_iconst (v := 0) hx hb dX6_listWays_6 (by decide) ?_
  refine lv_ldc hx hb hown hw_1 dX6_listWays_7 ?_
  refine mc_v (wr := [(x, .inr (13, [.ref g, .ref ca, .int 0, .ref co, .int 0, .ref ra, .int 0, .ref rl, .ref tr, .ref f9, .ref f10, .ref f11, .ref f12, .ref f13])), (tr, .inr (12, [.ref ts1, .ref tw, .ref ts2])), (tw, .inl (ctw, 169, .inl (fun _ => 0)))]) (va_runV (As := [.int (nI k0), .int 0, .int 0, .int 1000000]) (rest := []) ⟨hx, hb, hml, hown, hts⟩ (c_spread l hst D g a1 a2 a3 a4 a5 a6 a7 a8 a9 a10 a11 25 0 0 cw cq cz ck csk cg ch csg cb zL zL zL k0 0 0 1000000 s.heap.size (by exact List.length_replicate) (okQ_0) (by omega) (by decide)) (cwV 4 hts (gi_c (List.mem_cons_of_mem _ (List.mem_append_left _ (List.mem_of_getElem? (i := 2) rfl))) rfl (gi_c (List.mem_cons_of_mem _ (List.mem_append_left _ (List.mem_of_getElem? (i := 3) rfl))) rfl (gi_c (List.mem_cons_of_mem _ (List.mem_append_left _ (List.mem_of_getElem? (i := 4) rfl))) rfl (gi_c (List.mem_cons_of_mem _ (List.mem_append_left _ (List.mem_of_getElem? (i := 5) rfl))) rfl (goodIn_sub hb_1 (List.all_eq_true.mpr gw_c_spread)))))) rfl rfl rfl (by decide +kernel) ⟨Nat.le_of_ble_eq_true rfl, Nat.le_of_ble_eq_true rfl⟩) (pr_V (As := [.int (nI k0), .int 0, .int 0, .int 1000000]) (b := g) (C := RX4) hP hD hK hS hA hE [1, 2, 3, 4, 5, 6, 7, 8, 9, 10] [5, 6, 7, 0, 1, 2, 3, 4, 8] rfl rfl rfl 1 11 rfl rfl rfl) rfl rfl hl.1 rfl (lv_room (Nat.le_of_ble_eq_true rfl)) dX6_listWays_9 ⟨Nat.le_of_ble_eq_true rfl, Nat.le_of_ble_eq_true rfl⟩) hP hD hK hS hA [1, 2, 3, 4, 5, 6, 7, 8, 9, 10] [0, 11, 12] rfl rfl (by decide) (by decide) (fun u1 H locs w2 hP hD hK hS => ?_)
  have hP : va_P D vwCl [(x, .inr (13, [.ref g, .ref ca, .int 0, .ref co, .int 0, .ref ra, .int 0, .ref rl, .ref tr, .ref f9, .ref f10, .ref f11, .ref f12, .ref f13])), (tr, .inr (12, [.ref ts1, .ref tw, .ref ts2])), (tw, .inl (ctw, 169, .inl (fun _ => 0))), (g, .inr (11, [.int 25, .ref a1, .ref a2, .ref a3, .ref a4, .ref a5, .ref a6, .ref a7, .ref a8, .ref a9, .ref a10, .ref a11, .int (nI u1.2.2.2.1), .int (nI u1.2.2.2.2)])), (a6, .inl (cw, 144, .inl (fL u1.1))), (a10, .inl (cq, 144, .inl (fL u1.2.1))), (a11, .inl (cz, 144, .inl (fL u1.2.2.1))), (a3, .inl (ck, 144, .inl okF)), (a5, .inl (csk, 144, .inl okF)), (a1, .inl (cg, 144, .inl (fun _ => 0))), (a2, .inl (ch, 144, .inl (fun _ => 0))), (a4, .inl (csg, 144, .inl (fun _ => 0))), (a9, .inl (cb, 576, .inl beF))] H := hP
  have hD : va_D A [(x, .inr (13, [.ref g, .ref ca, .int 0, .ref co, .int 0, .ref ra, .int 0, .ref rl, .ref tr, .ref f9, .ref f10, .ref f11, .ref f12, .ref f13])), (tr, .inr (12, [.ref ts1, .ref tw, .ref ts2])), (tw, .inl (ctw, 169, .inl (fun _ => 0))), (g, .inr (11, [.int 25, .ref a1, .ref a2, .ref a3, .ref a4, .ref a5, .ref a6, .ref a7, .ref a8, .ref a9, .ref a10, .ref a11, .int (nI u1.2.2.2.1), .int (nI u1.2.2.2.2)])), (a6, .inl (cw, 144, .inl (fL u1.1))), (a10, .inl (cq, 144, .inl (fL u1.2.1))), (a11, .inl (cz, 144, .inl (fL u1.2.2.1))), (a3, .inl (ck, 144, .inl okF)), (a5, .inl (csk, 144, .inl okF)), (a1, .inl (cg, 144, .inl (fun _ => 0))), (a2, .inl (ch, 144, .inl (fun _ => 0))), (a4, .inl (csg, 144, .inl (fun _ => 0))), (a9, .inl (cb, 576, .inl beF))] := hD
  have hK : va_K D vwCl [(ck, .char), (csk, .char), (cg, .int), (ch, .int), (csg, .int), (cw, .int), (cq, .int), (cz, .boolean), (cb, .int), (ctw, .int)] s := hK
  obtain ⟨hgo, oku⟩ := w2
  obtain ⟨ok1, ok2, ok3, ok4, ok5, ok6, ok7, ok8⟩ := id oku
  have hd0 : u1.1.getD k0 0 ≤ 80 := by rw [hgo, go_all k0 (by omega), wayL_at k0 k0 (by omega)]; exact dis_le k0 (by omega) k0 (by omega)
  refine lv_iconst (v := 0) hx hb dX6_listWays_12 (by decide) ?_
  refine lv_istore (lv' := [(5, .int 0), (0, .ref x), (1, .int 12), (2, .int (nI k0)), (3, .int (nI k0)), (4, .int (nI k2))]) hx hb dX6_listWays_13 hl (by decide) rfl (fun ls hl => ?_)
  refine lv_iload hx hb dX6_listWays_15 (lv_at hl 0 rfl) ?_
  refine lv_aload_n hx hb dX6_listWays_17 rfl (lv_at hl 1 rfl) ?_
  refine va_get (D := D) (ci := 13) (v := .int 0) (C := RX6) (T := TX6) (N := 14) hx hb hts hb_0 hown hK hP 0 rfl rfl 2 (by decide) hw_6 (fun _ h9 => h9) rfl dX6_listWays_18 ?_
  refine lv_icmp_ge (tgt := 60) hx hb dX6_listWays_21 (by decide) (fun h4 => ?_) (fun h4 => absurd (by decide) h4)
  refine lv_aload_n hx hb dX6_listWays_60 rfl (lv_at hl 1 rfl) ?_
  refine va_get (D := D) (ci := 13) (v := .ref tr) (C := RX6) (T := TX6) (N := 14) hx hb hts hb_0 hown hK hP 0 rfl rfl 8 (by decide) hw_7 (fun _ h9 => h9) rfl dX6_listWays_61 ?_
  refine lv_iload_n hx hb dX6_listWays_64 rfl (lv_at hl 2 rfl) ?_
  refine lv_bipush (v := 12) hx hb dX6_listWays_65 (by decide) ?_
  refine lv_aload_n hx hb dX6_listWays_67 rfl (lv_at hl 1 rfl) ?_
  refine va_get (D := D) (ci := 13) (v := .ref g) (C := RX6) (T := TX6) (N := 14) hx hb hts hb_0 hown hK hP 0 rfl rfl 0 (by decide) hw_0 (fun _ h9 => h9) rfl dX6_listWays_68 ?_
  refine va_get (D := D) (ci := 11) (v := .ref a6) (C := RX4) (T := TX4) (N := 14) hx hb hts hb_2 hown hK hP 3 rfl rfl 6 (by decide) hw_8 (fun _ h9 => h9) rfl dX6_listWays_71 ?_
  refine lv_iload_n hx hb dX6_listWays_74 rfl (lv_at hl 4 rfl) ?_
  refine va_iald hx hb hK hP 4 5 rfl rfl (vp_in_nI (n := k0) (by omega) (by decide)) dX6_listWays_75 ?_
  have b5 := ok6 k0
  refine lv_topi (fun x6 e6 => ?_)
  obtain rfl : x6 = nI (u1.1.getD k0 0) := e6.trans (fL_at (by omega))
  refine lv_iload hx hb dX6_listWays_76 (lv_at hl 5 rfl) ?_
  refine mc_v (wr := [(x, .inr (13, [.ref g, .ref ca, .int 0, .ref co, .int 0, .ref ra, .int 0, .ref rl, .ref tr, .ref f9, .ref f10, .ref f11, .ref f12, .ref f13])), (g, .inr (11, [.int 25, .ref a1, .ref a2, .ref a3, .ref a4, .ref a5, .ref a6, .ref a7, .ref a8, .ref a9, .ref a10, .ref a11, .int (nI u1.2.2.2.1), .int (nI u1.2.2.2.2)])), (a6, .inl (cw, 144, .inl (fL u1.1))), (a10, .inl (cq, 144, .inl (fL u1.2.1))), (a11, .inl (cz, 144, .inl (fL u1.2.2.1))), (a3, .inl (ck, 144, .inl okF)), (a5, .inl (csk, 144, .inl okF)), (a1, .inl (cg, 144, .inl (fun _ => 0))), (a2, .inl (ch, 144, .inl (fun _ => 0))), (a4, .inl (csg, 144, .inl (fun _ => 0))), (a9, .inl (cb, 576, .inl beF))]) (va_runV (As := [.int 12, .int 12, .int (nI (u1.1.getD k0 0)), .int (nI k2)]) (rest := []) ⟨hx, hb, hml, hown, hts⟩ (c_setWay l hst D tr ts1 tw ts2 ctw (fun _ => 0) (u1.1.getD k0 0) k2 H.size (by omega) (by omega)) (cwV 4 hts (gi_c (List.mem_cons_of_mem _ (List.mem_append_left _ (List.mem_of_getElem? (i := 9) rfl))) rfl (gi_c (List.mem_cons_of_mem _ (List.mem_append_left _ (List.mem_of_getElem? (i := 10) rfl))) rfl (gi_c (List.mem_cons_of_mem _ (List.mem_append_left _ (List.mem_of_getElem? (i := 11) rfl))) rfl (gi_c (List.mem_cons_of_mem _ (List.mem_append_left _ (List.mem_of_getElem? (i := 12) rfl))) rfl (goodIn_sub hb_3 (List.all_eq_true.mpr gw_c_setWay)))))) rfl rfl rfl (by decide +kernel) ⟨Nat.le_of_ble_eq_true rfl, Nat.le_of_ble_eq_true rfl⟩) (pr_V (As := [.int 12, .int 12, .int (nI (u1.1.getD k0 0)), .int (nI k2)]) (b := tr) (C := RX5) hP hD hK hS hA hE [1, 2] [9] rfl rfl rfl 1 12 rfl rfl rfl) rfl rfl hl.1 rfl (lv_room (Nat.le_of_ble_eq_true rfl)) dX6_listWays_78 ⟨Nat.le_of_ble_eq_true rfl, Nat.le_of_ble_eq_true rfl⟩) hP hD hK hS hA [1, 2] [0, 3, 4, 5, 6, 7, 8, 9, 10, 11, 12] rfl rfl (by decide) (by decide) (fun _ H locs w7 hP hD hK hS => ?_)
  have hP : va_P D vwCl [(x, .inr (13, [.ref g, .ref ca, .int 0, .ref co, .int 0, .ref ra, .int 0, .ref rl, .ref tr, .ref f9, .ref f10, .ref f11, .ref f12, .ref f13])), (g, .inr (11, [.int 25, .ref a1, .ref a2, .ref a3, .ref a4, .ref a5, .ref a6, .ref a7, .ref a8, .ref a9, .ref a10, .ref a11, .int (nI u1.2.2.2.1), .int (nI u1.2.2.2.2)])), (a6, .inl (cw, 144, .inl (fL u1.1))), (a10, .inl (cq, 144, .inl (fL u1.2.1))), (a11, .inl (cz, 144, .inl (fL u1.2.2.1))), (a3, .inl (ck, 144, .inl okF)), (a5, .inl (csk, 144, .inl okF)), (a1, .inl (cg, 144, .inl (fun _ => 0))), (a2, .inl (ch, 144, .inl (fun _ => 0))), (a4, .inl (csg, 144, .inl (fun _ => 0))), (a9, .inl (cb, 576, .inl beF)), (tr, .inr (12, [.ref ts1, .ref tw, .ref ts2]))] H := hP
  have hD : va_D A [(x, .inr (13, [.ref g, .ref ca, .int 0, .ref co, .int 0, .ref ra, .int 0, .ref rl, .ref tr, .ref f9, .ref f10, .ref f11, .ref f12, .ref f13])), (g, .inr (11, [.int 25, .ref a1, .ref a2, .ref a3, .ref a4, .ref a5, .ref a6, .ref a7, .ref a8, .ref a9, .ref a10, .ref a11, .int (nI u1.2.2.2.1), .int (nI u1.2.2.2.2)])), (a6, .inl (cw, 144, .inl (fL u1.1))), (a10, .inl (cq, 144, .inl (fL u1.2.1))), (a11, .inl (cz, 144, .inl (fL u1.2.2.1))), (a3, .inl (ck, 144, .inl okF)), (a5, .inl (csk, 144, .inl okF)), (a1, .inl (cg, 144, .inl (fun _ => 0))), (a2, .inl (ch, 144, .inl (fun _ => 0))), (a4, .inl (csg, 144, .inl (fun _ => 0))), (a9, .inl (cb, 576, .inl beF)), (tr, .inr (12, [.ref ts1, .ref tw, .ref ts2]))] := hD
  have hK : va_K D vwCl [(ck, .char), (csk, .char), (cg, .int), (ch, .int), (csg, .int), (cw, .int), (cq, .int), (cz, .boolean), (cb, .int), (ctw, .int)] s := hK
  exact mr_v hx hb hr () (trivial) (hP.sub [0, 11] rfl) (hK.sub [] rfl) (hD.sub [0, 11] (by decide) rfl) hS (Nat.le_of_ble_eq_true rfl) (Nat.le_of_ble_eq_true rfl) hlocks dX6_listWays_81

def us_c_score : List Cond := .code yX6_score cX6_score 5 (some .int) :: (([.methodLink RX6 91 yX6_needCell, .instanceMethod yX6_needCell, .selects RX6 yX6_needCell yX6_needCell, .initialized RX6, .methodLink RX6 71 yX6_needRange, .static yX6_needRange, .fieldLink RX6 75 "ControlWood" "controlCount" "I", .methodLink RX6 387 yX6_listWays, .instanceMethod yX6_listWays, .selects RX6 yX6_listWays yX6_listWays, .fieldLink RX6 44 "ControlWood" "tour" "LControlWood$Tour;", .methodLink RX6 391 yX5_mostPoints, .instanceMethod yX5_mostPoints, .selects RX5 yX5_mostPoints yX5_mostPoints, .initialized RX5] : List Cond) ++ (us_c_needCell ++ (us_c_needRange ++ (wsX60 ++ (us_c_listWays ++ (us_c_mostPoints ++ ([])))))))
theorem gw_c_score : ∀ w ∈ us_c_score, goodWord w = true := gw_cons rfl (gw_app (by decide +kernel) (gw_app gw_c_needCell (gw_app gw_c_needRange (gw_app gwf_X6 (gw_app gw_c_listWays (gw_app gw_c_mostPoints (fun _ h => nomatch h)))))))
set_option maxHeartbeats 4000000 in
set_option maxRecDepth 100000 in
/-- score -/
theorem c_score (l : Launch) (hst : l.stackTraces = false) (D : va_G) (x : Nat) (g : Nat) (ca : Nat) (co : Nat) (ra : Nat) (rl : Nat) (tr : Nat) (f9 : Nat) (f10 : Nat) (f11 : Nat) (f12 : Nat) (f13 : Nat) (a1 : Nat) (a2 : Nat) (a3 : Nat) (a4 : Nat) (a5 : Nat) (a6 : Nat) (a7 : Nat) (a8 : Nat) (a9 : Nat) (a10 : Nat) (a11 : Nat) (ts1 : Nat) (tw : Nat) (ts2 : Nat) (ck : ClassId) (csk : ClassId) (cg : ClassId) (ch : ClassId) (csg : ClassId) (cw : ClassId) (cq : ClassId) (cz : ClassId) (cb : ClassId) (ctw : ClassId) (p0 : Int32) (p1 : Int32) (p2 : Int32) (sz : Nat) : vx_Met l yX6_score us_c_score { frames := 8, cells := 3, slots := 18, locals := 124 } (pw D [.ref x, .int p0, .int p1, .int p2] [(ck, .char), (csk, .char), (cg, .int), (ch, .int), (csg, .int), (cw, .int), (cq, .int), (cz, .boolean), (cb, .int), (ctw, .int)] [(x, .inr (13, [.ref g, .ref ca, .int 0, .ref co, .int 0, .ref ra, .int 0, .ref rl, .ref tr, .ref f9, .ref f10, .ref f11, .ref f12, .ref f13])), (g, .inr (11, [.int 25, .ref a1, .ref a2, .ref a3, .ref a4, .ref a5, .ref a6, .ref a7, .ref a8, .ref a9, .ref a10, .ref a11, .int 0, .int 0])), (a6, .inl (cw, 144, .inl (fL zL))), (a10, .inl (cq, 144, .inl (fL zL))), (a11, .inl (cz, 144, .inl (fL zL))), (a3, .inl (ck, 144, .inl okF)), (a5, .inl (csk, 144, .inl okF)), (a1, .inl (cg, 144, .inl (fun _ => 0))), (a2, .inl (ch, 144, .inl (fun _ => 0))), (a4, .inl (csg, 144, .inl (fun _ => 0))), (a9, .inl (cb, 576, .inl beF)), (tr, .inr (12, [.ref ts1, .ref tw, .ref ts2])), (tw, .inl (ctw, 169, .inl (fun _ => 0)))] sz) (va_Qi (fun (r : Int32) (_ : Unit) => kf_score p0 p1 p2 = 0 ∧ r = rf_score p0 p1 p2) (qb D (va_A [(x, .inr (13, [.ref g, .ref ca, .int 0, .ref co, .int 0, .ref ra, .int 0, .ref rl, .ref tr, .ref f9, .ref f10, .ref f11, .ref f12, .ref f13])), (g, .inr (11, [.int 25, .ref a1, .ref a2, .ref a3, .ref a4, .ref a5, .ref a6, .ref a7, .ref a8, .ref a9, .ref a10, .ref a11, .int 0, .int 0])), (a6, .inl (cw, 144, .inl (fL zL))), (a10, .inl (cq, 144, .inl (fL zL))), (a11, .inl (cz, 144, .inl (fL zL))), (a3, .inl (ck, 144, .inl okF)), (a5, .inl (csk, 144, .inl okF)), (a1, .inl (cg, 144, .inl (fun _ => 0))), (a2, .inl (ch, 144, .inl (fun _ => 0))), (a4, .inl (csg, 144, .inl (fun _ => 0))), (a9, .inl (cb, 576, .inl beF)), (tr, .inr (12, [.ref ts1, .ref tw, .ref ts2])), (tw, .inl (ctw, 169, .inl (fun _ => 0)))] sz) (fun _ : Unit => []) (fun _ : Unit => ([] : List (ClassId × FieldType)))) (va_A [(x, .inr (13, [.ref g, .ref ca, .int 0, .ref co, .int 0, .ref ra, .int 0, .ref rl, .ref tr, .ref f9, .ref f10, .ref f11, .ref f12, .ref f13])), (g, .inr (11, [.int 25, .ref a1, .ref a2, .ref a3, .ref a4, .ref a5, .ref a6, .ref a7, .ref a8, .ref a9, .ref a10, .ref a11, .int 0, .int 0])), (a6, .inl (cw, 144, .inl (fL zL))), (a10, .inl (cq, 144, .inl (fL zL))), (a11, .inl (cz, 144, .inl (fL zL))), (a3, .inl (ck, 144, .inl okF)), (a5, .inl (csk, 144, .inl okF)), (a1, .inl (cg, 144, .inl (fun _ => 0))), (a2, .inl (ch, 144, .inl (fun _ => 0))), (a4, .inl (csg, 144, .inl (fun _ => 0))), (a9, .inl (cb, 576, .inl beF)), (tr, .inr (12, [.ref ts1, .ref tw, .ref ts2])), (tw, .inl (ctw, 169, .inl (fun _ => 0)))] sz)) (vx_X (fun E => (E = "java/lang/IndexOutOfBoundsException" ∧ kf_score p0 p1 p2 = 1) ∨ (E = "java/lang/IllegalArgumentException" ∧ kf_score p0 p1 p2 = 2)) xb (va_A [(x, .inr (13, [.ref g, .ref ca, .int 0, .ref co, .int 0, .ref ra, .int 0, .ref rl, .ref tr, .ref f9, .ref f10, .ref f11, .ref f12, .ref f13])), (g, .inr (11, [.int 25, .ref a1, .ref a2, .ref a3, .ref a4, .ref a5, .ref a6, .ref a7, .ref a8, .ref a9, .ref a10, .ref a11, .int 0, .int 0])), (a6, .inl (cw, 144, .inl (fL zL))), (a10, .inl (cq, 144, .inl (fL zL))), (a11, .inl (cz, 144, .inl (fL zL))), (a3, .inl (ck, 144, .inl okF)), (a5, .inl (csk, 144, .inl okF)), (a1, .inl (cg, 144, .inl (fun _ => 0))), (a2, .inl (ch, 144, .inl (fun _ => 0))), (a4, .inl (csg, 144, .inl (fun _ => 0))), (a9, .inl (cb, 576, .inl beF)), (tr, .inr (12, [.ref ts1, .ref tw, .ref ts2])), (tw, .inl (ctw, 169, .inl (fun _ => 0)))] sz)) 3 18 (va_A [(x, .inr (13, [.ref g, .ref ca, .int 0, .ref co, .int 0, .ref ra, .int 0, .ref rl, .ref tr, .ref f9, .ref f10, .ref f11, .ref f12, .ref f13])), (g, .inr (11, [.int 25, .ref a1, .ref a2, .ref a3, .ref a4, .ref a5, .ref a6, .ref a7, .ref a8, .ref a9, .ref a10, .ref a11, .int 0, .int 0])), (a6, .inl (cw, 144, .inl (fL zL))), (a10, .inl (cq, 144, .inl (fL zL))), (a11, .inl (cz, 144, .inl (fL zL))), (a3, .inl (ck, 144, .inl okF)), (a5, .inl (csk, 144, .inl okF)), (a1, .inl (cg, 144, .inl (fun _ => 0))), (a2, .inl (ch, 144, .inl (fun _ => 0))), (a4, .inl (csg, 144, .inl (fun _ => 0))), (a9, .inl (cb, 576, .inl beF)), (tr, .inr (12, [.ref ts1, .ref tw, .ref ts2])), (tw, .inl (ctw, 169, .inl (fun _ => 0)))] sz) := by
  refine op_X (Qc := fun A => (va_Qi (fun (r : Int32) (_ : Unit) => kf_score p0 p1 p2 = 0 ∧ r = rf_score p0 p1 p2) (qb D A (fun _ : Unit => []) (fun _ : Unit => ([] : List (ClassId × FieldType)))) A)) (px := (fun E => (E = "java/lang/IndexOutOfBoundsException" ∧ kf_score p0 p1 p2 = 1) ∨ (E = "java/lang/IllegalArgumentException" ∧ kf_score p0 p1 p2 = 2))) (by decide +kernel) rfl (Nat.le_of_ble_eq_true rfl) ?_
  intro p e s m args below meth c A ls hx hb hr hml hts hown hlocks hmn htab hA hD hS hP hK hE hsz hl
  have hown : s.vm.findClass RX6 = some m.cls := hown
  have hl : lv_has ls 5 [(0, .ref x), (1, .int p0), (2, .int p1), (3, .int p2)] := hl
  have hw_0 := hts (.methodLink RX6 91 yX6_needCell) (List.mem_cons_of_mem _ (List.mem_append_left _ (List.mem_of_getElem? (i := 0) rfl)))
  have hw_1 := hts (.instanceMethod yX6_needCell) (List.mem_cons_of_mem _ (List.mem_append_left _ (List.mem_of_getElem? (i := 1) rfl)))
  have hw_2 := hts (.selects RX6 yX6_needCell yX6_needCell) (List.mem_cons_of_mem _ (List.mem_append_left _ (List.mem_of_getElem? (i := 2) rfl)))
  have hw_3 := hts (.initialized RX6) (List.mem_cons_of_mem _ (List.mem_append_left _ (List.mem_of_getElem? (i := 3) rfl)))
  have hw_4 := hts (.methodLink RX6 71 yX6_needRange) (List.mem_cons_of_mem _ (List.mem_append_left _ (List.mem_of_getElem? (i := 4) rfl)))
  have hw_5 := hts (.static yX6_needRange) (List.mem_cons_of_mem _ (List.mem_append_left _ (List.mem_of_getElem? (i := 5) rfl)))
  have hw_6 := hts (.fieldLink RX6 75 "ControlWood" "controlCount" "I") (List.mem_cons_of_mem _ (List.mem_append_left _ (List.mem_of_getElem? (i := 6) rfl)))
  have hw_7 := hts (.methodLink RX6 387 yX6_listWays) (List.mem_cons_of_mem _ (List.mem_append_left _ (List.mem_of_getElem? (i := 7) rfl)))
  have hw_8 := hts (.instanceMethod yX6_listWays) (List.mem_cons_of_mem _ (List.mem_append_left _ (List.mem_of_getElem? (i := 8) rfl)))
  have hw_9 := hts (.selects RX6 yX6_listWays yX6_listWays) (List.mem_cons_of_mem _ (List.mem_append_left _ (List.mem_of_getElem? (i := 9) rfl)))
  have hw_10 := hts (.fieldLink RX6 44 "ControlWood" "tour" "LControlWood$Tour;") (List.mem_cons_of_mem _ (List.mem_append_left _ (List.mem_of_getElem? (i := 10) rfl)))
  have hw_11 := hts (.methodLink RX6 391 yX5_mostPoints) (List.mem_cons_of_mem _ (List.mem_append_left _ (List.mem_of_getElem? (i := 11) rfl)))
  have hw_12 := hts (.instanceMethod yX5_mostPoints) (List.mem_cons_of_mem _ (List.mem_append_left _ (List.mem_of_getElem? (i := 12) rfl)))
  have hw_13 := hts (.selects RX5 yX5_mostPoints yX5_mostPoints) (List.mem_cons_of_mem _ (List.mem_append_left _ (List.mem_of_getElem? (i := 13) rfl)))
  have hw_14 := hts (.initialized RX5) (List.mem_cons_of_mem _ (List.mem_append_left _ (List.mem_of_getElem? (i := 14) rfl)))
  have hb_0 : ∀ w ∈ us_c_needCell, w ∈ us_c_score := fun w h => List.mem_cons_of_mem _ (List.mem_append_right _ (List.mem_append_left _ h))
  have hb_1 : ∀ w ∈ us_c_needRange, w ∈ us_c_score := fun w h => List.mem_cons_of_mem _ (List.mem_append_right _ (List.mem_append_right _ (List.mem_append_left _ h)))
  have hb_2 : ∀ w ∈ wsX60, w ∈ us_c_score := fun w h => List.mem_cons_of_mem _ (List.mem_append_right _ (List.mem_append_right _ (List.mem_append_right _ (List.mem_append_left _ h))))
  have hb_3 : ∀ w ∈ us_c_listWays, w ∈ us_c_score := fun w h => List.mem_cons_of_mem _ (List.mem_append_right _ (List.mem_append_right _ (List.mem_append_right _ (List.mem_append_right _ (List.mem_append_left _ h)))))
  have hb_4 : ∀ w ∈ us_c_mostPoints, w ∈ us_c_score := fun w h => List.mem_cons_of_mem _ (List.mem_append_right _ (List.mem_append_right _ (List.mem_append_right _ (List.mem_append_right _ (List.mem_append_right _ (List.mem_append_left _ h))))))
  refine lv_aload_n hx hb dX6_score_0 rfl (lv_at hl 0 rfl) ?_
  refine lv_iload_n hx hb dX6_score_1 rfl (lv_at hl 1 rfl) ?_
  refine mx_v (wr := [(a6, .inl (cw, 144, .inl (fL zL))), (a10, .inl (cq, 144, .inl (fL zL))), (a11, .inl (cz, 144, .inl (fL zL))), (a3, .inl (ck, 144, .inl okF)), (a5, .inl (csk, 144, .inl okF)), (a1, .inl (cg, 144, .inl (fun _ => 0))), (a2, .inl (ch, 144, .inl (fun _ => 0))), (a4, .inl (csg, 144, .inl (fun _ => 0))), (a9, .inl (cb, 576, .inl beF)), (tr, .inr (12, [.ref ts1, .ref tw, .ref ts2])), (tw, .inl (ctw, 169, .inl (fun _ => 0)))]) (vx_runV (As := [.int p0]) (rest := []) ⟨hx, hb, hml, hown, hts⟩ (c_needCell l hst D x g ca co ra rl tr f9 f10 f11 f12 f13 25 a1 a2 a3 a4 a5 a6 a7 a8 a9 a10 a11 0 0 p0 s.heap.size) (cwV 1 hts (gi_c (List.mem_cons_of_mem _ (List.mem_append_left _ (List.mem_of_getElem? (i := 0) rfl))) rfl (gi_c (List.mem_cons_of_mem _ (List.mem_append_left _ (List.mem_of_getElem? (i := 1) rfl))) rfl (gi_c (List.mem_cons_of_mem _ (List.mem_append_left _ (List.mem_of_getElem? (i := 2) rfl))) rfl (gi_c (List.mem_cons_of_mem _ (List.mem_append_left _ (List.mem_of_getElem? (i := 3) rfl))) rfl (goodIn_sub hb_0 (List.all_eq_true.mpr gw_c_needCell)))))) rfl rfl rfl (by decide +kernel) ⟨Nat.le_of_ble_eq_true rfl, Nat.le_of_ble_eq_true rfl⟩) (pr_V (As := [.int p0]) (b := x) (C := RX6) hP hD hK hS hA hE [0, 1] [] rfl rfl rfl 0 13 rfl rfl rfl) rfl rfl hl.1 rfl (lv_room (Nat.le_of_ble_eq_true rfl)) dX6_score_2 ⟨Nat.le_of_ble_eq_true rfl, Nat.le_of_ble_eq_true rfl⟩) hP hD hK hS hA [0, 1] [2, 3, 4, 5, 6, 7, 8, 9, 10, 11, 12] rfl rfl (by decide) (by decide) htab hlocks (fun E h => Or.inl (⟨h.1, (if_neg h.2)⟩)) (Nat.le_of_ble_eq_true rfl) (Nat.le_of_ble_eq_true rfl) (fun _ H locs w1 hP hD hK hS => ?_)
  have hP : va_P D vwCl [(a6, .inl (cw, 144, .inl (fL zL))), (a10, .inl (cq, 144, .inl (fL zL))), (a11, .inl (cz, 144, .inl (fL zL))), (a3, .inl (ck, 144, .inl okF)), (a5, .inl (csk, 144, .inl okF)), (a1, .inl (cg, 144, .inl (fun _ => 0))), (a2, .inl (ch, 144, .inl (fun _ => 0))), (a4, .inl (csg, 144, .inl (fun _ => 0))), (a9, .inl (cb, 576, .inl beF)), (tr, .inr (12, [.ref ts1, .ref tw, .ref ts2])), (tw, .inl (ctw, 169, .inl (fun _ => 0))), (x, .inr (13, [.ref g, .ref ca, .int 0, .ref co, .int 0, .ref ra, .int 0, .ref rl, .ref tr, .ref f9, .ref f10, .ref f11, .ref f12, .ref f13])), (g, .inr (11, [.int 25, .ref a1, .ref a2, .ref a3, .ref a4, .ref a5, .ref a6, .ref a7, .ref a8, .ref a9, .ref a10, .ref a11, .int 0, .int 0]))] H := hP
  have hD : va_D A [(a6, .inl (cw, 144, .inl (fL zL))), (a10, .inl (cq, 144, .inl (fL zL))), (a11, .inl (cz, 144, .inl (fL zL))), (a3, .inl (ck, 144, .inl okF)), (a5, .inl (csk, 144, .inl okF)), (a1, .inl (cg, 144, .inl (fun _ => 0))), (a2, .inl (ch, 144, .inl (fun _ => 0))), (a4, .inl (csg, 144, .inl (fun _ => 0))), (a9, .inl (cb, 576, .inl beF)), (tr, .inr (12, [.ref ts1, .ref tw, .ref ts2])), (tw, .inl (ctw, 169, .inl (fun _ => 0))), (x, .inr (13, [.ref g, .ref ca, .int 0, .ref co, .int 0, .ref ra, .int 0, .ref rl, .ref tr, .ref f9, .ref f10, .ref f11, .ref f12, .ref f13])), (g, .inr (11, [.int 25, .ref a1, .ref a2, .ref a3, .ref a4, .ref a5, .ref a6, .ref a7, .ref a8, .ref a9, .ref a10, .ref a11, .int 0, .int 0]))] := hD
  have hK : va_K D vwCl [(ck, .char), (csk, .char), (cg, .int), (ch, .int), (csg, .int), (cw, .int), (cq, .int), (cz, .boolean), (cb, .int), (ctw, .int)] s := hK
  have v0 := w1
  obtain ⟨k0, hk0, rfl⟩ := inI_nI v0
  refine lv_iload_n hx hb dX6_score_5 rfl (lv_at hl 2 rfl) ?_
  refine lv_iconst (v := 0) hx hb dX6_score_6 (by decide) ?_
  refine lv_sipush (v := 9999) hx hb dX6_score_7 (by decide) ?_
  refine mx_v (wr := [(a6, .inl (cw, 144, .inl (fL zL))), (a10, .inl (cq, 144, .inl (fL zL))), (a11, .inl (cz, 144, .inl (fL zL))), (a3, .inl (ck, 144, .inl okF)), (a5, .inl (csk, 144, .inl okF)), (a1, .inl (cg, 144, .inl (fun _ => 0))), (a2, .inl (ch, 144, .inl (fun _ => 0))), (a4, .inl (csg, 144, .inl (fun _ => 0))), (a9, .inl (cb, 576, .inl beF)), (tr, .inr (12, [.ref ts1, .ref tw, .ref ts2])), (tw, .inl (ctw, 169, .inl (fun _ => 0))), (x, .inr (13, [.ref g, .ref ca, .int 0, .ref co, .int 0, .ref ra, .int 0, .ref rl, .ref tr, .ref f9, .ref f10, .ref f11, .ref f12, .ref f13])), (g, .inr (11, [.int 25, .ref a1, .ref a2, .ref a3, .ref a4, .ref a5, .ref a6, .ref a7, .ref a8, .ref a9, .ref a10, .ref a11, .int 0, .int 0]))]) (vx_runS (As := [.int p1, .int 0, .int 9999]) (rest := []) ⟨hx, hb, hml, hown, hts⟩ (c_needRange l hst D p1 0 9999 H.size) (va_cwS 3 hts (gi_c (List.mem_cons_of_mem _ (List.mem_append_left _ (List.mem_of_getElem? (i := 4) rfl))) rfl (gi_c (List.mem_cons_of_mem _ (List.mem_append_left _ (List.mem_of_getElem? (i := 5) rfl))) rfl (gi_c (List.mem_cons_of_mem _ (List.mem_append_left _ (List.mem_of_getElem? (i := 3) rfl))) rfl (goodIn_sub hb_1 (List.all_eq_true.mpr gw_c_needRange))))) rfl rfl rfl (by decide +kernel) ⟨Nat.le_of_ble_eq_true rfl, Nat.le_of_ble_eq_true rfl⟩) (pr_S (As := [.int p1, .int 0, .int 9999]) hP hD hK hS hA hE [] [] rfl rfl rfl) rfl rfl hl.1 rfl (lv_room (Nat.le_of_ble_eq_true rfl)) dX6_score_10 ⟨Nat.le_of_ble_eq_true rfl, Nat.le_of_ble_eq_true rfl⟩) hP hD hK hS hA [] [0, 1, 2, 3, 4, 5, 6, 7, 8, 9, 10, 11, 12] rfl rfl (by decide) (by decide) htab hlocks (fun E h => Or.inr (⟨h.1, ((if_pos v0).trans (if_neg h.2))⟩)) (Nat.le_of_ble_eq_true rfl) (Nat.le_of_ble_eq_true rfl) (fun _ H locs w3 hP hD hK hS => ?_)
  have hP : va_P D vwCl [(a6, .inl (cw, 144, .inl (fL zL))), (a10, .inl (cq, 144, .inl (fL zL))), (a11, .inl (cz, 144, .inl (fL zL))), (a3, .inl (ck, 144, .inl okF)), (a5, .inl (csk, 144, .inl okF)), (a1, .inl (cg, 144, .inl (fun _ => 0))), (a2, .inl (ch, 144, .inl (fun _ => 0))), (a4, .inl (csg, 144, .inl (fun _ => 0))), (a9, .inl (cb, 576, .inl beF)), (tr, .inr (12, [.ref ts1, .ref tw, .ref ts2])), (tw, .inl (ctw, 169, .inl (fun _ => 0))), (x, .inr (13, [.ref g, .ref ca, .int 0, .ref co, .int 0, .ref ra, .int 0, .ref rl, .ref tr, .ref f9, .ref f10, .ref f11, .ref f12, .ref f13])), (g, .inr (11, [.int 25, .ref a1, .ref a2, .ref a3, .ref a4, .ref a5, .ref a6, .ref a7, .ref a8, .ref a9, .ref a10, .ref a11, .int 0, .int 0]))] H := hP
  have hD : va_D A [(a6, .inl (cw, 144, .inl (fL zL))), (a10, .inl (cq, 144, .inl (fL zL))), (a11, .inl (cz, 144, .inl (fL zL))), (a3, .inl (ck, 144, .inl okF)), (a5, .inl (csk, 144, .inl okF)), (a1, .inl (cg, 144, .inl (fun _ => 0))), (a2, .inl (ch, 144, .inl (fun _ => 0))), (a4, .inl (csg, 144, .inl (fun _ => 0))), (a9, .inl (cb, 576, .inl beF)), (tr, .inr (12, [.ref ts1, .ref tw, .ref ts2])), (tw, .inl (ctw, 169, .inl (fun _ => 0))), (x, .inr (13, [.ref g, .ref ca, .int 0, .ref co, .int 0, .ref ra, .int 0, .ref rl, .ref tr, .ref f9, .ref f10, .ref f11, .ref f12, .ref f13])), (g, .inr (11, [.int 25, .ref a1, .ref a2, .ref a3, .ref a4, .ref a5, .ref a6, .ref a7, .ref a8, .ref a9, .ref a10, .ref a11, .int 0, .int 0]))] := hD
  have hK : va_K D vwCl [(ck, .char), (csk, .char), (cg, .int), (ch, .int), (csg, .int), (cw, .int), (cq, .int), (cz, .boolean), (cb, .int), (ctw, .int)] s := hK
  have v1 := w3
  refine lv_iload_n hx hb dX6_score_13 rfl (lv_at hl 3 rfl) ?_
  refine lv_iconst (v := 1) hx hb dX6_score_14 (by decide) ?_
  refine lv_sipush (v := 9999) hx hb dX6_score_15 (by decide) ?_
  refine mx_v (wr := [(a6, .inl (cw, 144, .inl (fL zL))), (a10, .inl (cq, 144, .inl (fL zL))), (a11, .inl (cz, 144, .inl (fL zL))), (a3, .inl (ck, 144, .inl okF)), (a5, .inl (csk, 144, .inl okF)), (a1, .inl (cg, 144, .inl (fun _ => 0))), (a2, .inl (ch, 144, .inl (fun _ => 0))), (a4, .inl (csg, 144, .inl (fun _ => 0))), (a9, .inl (cb, 576, .inl beF)), (tr, .inr (12, [.ref ts1, .ref tw, .ref ts2])), (tw, .inl (ctw, 169, .inl (fun _ => 0))), (x, .inr (13, [.ref g, .ref ca, .int 0, .ref co, .int 0, .ref ra, .int 0, .ref rl, .ref tr, .ref f9, .ref f10, .ref f11, .ref f12, .ref f13])), (g, .inr (11, [.int 25, .ref a1, .ref a2, .ref a3, .ref a4, .ref a5, .ref a6, .ref a7, .ref a8, .ref a9, .ref a10, .ref a11, .int 0, .int 0]))]) (vx_runS (As := [.int p2, .int 1, .int 9999]) (rest := []) ⟨hx, hb, hml, hown, hts⟩ (c_needRange l hst D p2 1 9999 H.size) (va_cwS 3 hts (gi_c (List.mem_cons_of_mem _ (List.mem_append_left _ (List.mem_of_getElem? (i := 4) rfl))) rfl (gi_c (List.mem_cons_of_mem _ (List.mem_append_left _ (List.mem_of_getElem? (i := 5) rfl))) rfl (gi_c (List.mem_cons_of_mem _ (List.mem_append_left _ (List.mem_of_getElem? (i := 3) rfl))) rfl (goodIn_sub hb_1 (List.all_eq_true.mpr gw_c_needRange))))) rfl rfl rfl (by decide +kernel) ⟨Nat.le_of_ble_eq_true rfl, Nat.le_of_ble_eq_true rfl⟩) (pr_S (As := [.int p2, .int 1, .int 9999]) hP hD hK hS hA hE [] [] rfl rfl rfl) rfl rfl hl.1 rfl (lv_room (Nat.le_of_ble_eq_true rfl)) dX6_score_18 ⟨Nat.le_of_ble_eq_true rfl, Nat.le_of_ble_eq_true rfl⟩) hP hD hK hS hA [] [0, 1, 2, 3, 4, 5, 6, 7, 8, 9, 10, 11, 12] rfl rfl (by decide) (by decide) htab hlocks (fun E h => Or.inr (⟨h.1, ((if_pos v0).trans ((if_pos v1).trans (if_neg h.2)))⟩)) (Nat.le_of_ble_eq_true rfl) (Nat.le_of_ble_eq_true rfl) (fun _ H locs w5 hP hD hK hS => ?_)
  have hP : va_P D vwCl [(a6, .inl (cw, 144, .inl (fL zL))), (a10, .inl (cq, 144, .inl (fL zL))), (a11, .inl (cz, 144, .inl (fL zL))), (a3, .inl (ck, 144, .inl okF)), (a5, .inl (csk, 144, .inl okF)), (a1, .inl (cg, 144, .inl (fun _ => 0))), (a2, .inl (ch, 144, .inl (fun _ => 0))), (a4, .inl (csg, 144, .inl (fun _ => 0))), (a9, .inl (cb, 576, .inl beF)), (tr, .inr (12, [.ref ts1, .ref tw, .ref ts2])), (tw, .inl (ctw, 169, .inl (fun _ => 0))), (x, .inr (13, [.ref g, .ref ca, .int 0, .ref co, .int 0, .ref ra, .int 0, .ref rl, .ref tr, .ref f9, .ref f10, .ref f11, .ref f12, .ref f13])), (g, .inr (11, [.int 25, .ref a1, .ref a2, .ref a3, .ref a4, .ref a5, .ref a6, .ref a7, .ref a8, .ref a9, .ref a10, .ref a11, .int 0, .int 0]))] H := hP
  have hD : va_D A [(a6, .inl (cw, 144, .inl (fL zL))), (a10, .inl (cq, 144, .inl (fL zL))), (a11, .inl (cz, 144, .inl (fL zL))), (a3, .inl (ck, 144, .inl okF)), (a5, .inl (csk, 144, .inl okF)), (a1, .inl (cg, 144, .inl (fun _ => 0))), (a2, .inl (ch, 144, .inl (fun _ => 0))), (a4, .inl (csg, 144, .inl (fun _ => 0))), (a9, .inl (cb, 576, .inl beF)), (tr, .inr (12, [.ref ts1, .ref tw, .ref ts2])), (tw, .inl (ctw, 169, .inl (fun _ => 0))), (x, .inr (13, [.ref g, .ref ca, .int 0, .ref co, .int 0, .ref ra, .int 0, .ref rl, .ref tr, .ref f9, .ref f10, .ref f11, .ref f12, .ref f13])), (g, .inr (11, [.int 25, .ref a1, .ref a2, .ref a3, .ref a4, .ref a5, .ref a6, .ref a7, .ref a8, .ref a9, .ref a10, .ref a11, .int 0, .int 0]))] := hD
  have hK : va_K D vwCl [(ck, .char), (csk, .char), (cg, .int), (ch, .int), (csg, .int), (cw, .int), (cq, .int), (cz, .boolean), (cb, .int), (ctw, .int)] s := hK
  have v2 := w5
  obtain ⟨k2, hk2, rfl⟩ := inR_nI (M := 9999) (by decide) (by decide) v2
  refine lv_iconst (v := 0) hx hb dX6_score_21 (by decide) ?_
  refine lv_istore (lv' := [(4, .int 0), (0, .ref x), (1, .int (nI k0)), (2, .int p1), (3, .int (nI k2))]) hx hb dX6_score_22 hl (by decide) rfl (fun ls hl => ?_)
  refine lv_iload hx hb dX6_score_24 (lv_at hl 0 rfl) ?_
  refine lv_aload_n hx hb dX6_score_26 rfl (lv_at hl 1 rfl) ?_
  refine va_get (D := D) (ci := 13) (v := .int 0) (C := RX6) (T := TX6) (N := 14) hx hb hts hb_2 hown hK hP 11 rfl rfl 2 (by decide) hw_6 (fun _ h9 => h9) rfl dX6_score_27 ?_
  refine lv_icmp_ge (tgt := 77) hx hb dX6_score_30 (by decide) (fun h7 => ?_) (fun h7 => absurd (by decide) h7)
  refine lv_aload_n hx hb dX6_score_77 rfl (lv_at hl 1 rfl) ?_
  refine lv_bipush (v := 12) hx hb dX6_score_78 (by decide) ?_
  refine lv_iload_n hx hb dX6_score_80 rfl (lv_at hl 2 rfl) ?_
  refine lv_iload_n hx hb dX6_score_81 rfl (lv_at hl 2 rfl) ?_
  refine lv_iload_n hx hb dX6_score_82 rfl (lv_at hl 4 rfl) ?_
  refine mc_v (wr := []) (va_runV (As := [.int 12, .int (nI k0), .int (nI k0), .int (nI k2)]) (rest := []) ⟨hx, hb, hml, hown, hts⟩ (c_listWays l hst D x g ca co ra rl tr f9 f10 f11 f12 f13 a1 a2 a3 a4 a5 a6 a7 a8 a9 a10 a11 ts1 tw ts2 ck csk cg ch csg cw cq cz cb ctw k0 k2 H.size (by omega) (by omega)) (cwV 4 hts (gi_c (List.mem_cons_of_mem _ (List.mem_append_left _ (List.mem_of_getElem? (i := 7) rfl))) rfl (gi_c (List.mem_cons_of_mem _ (List.mem_append_left _ (List.mem_of_getElem? (i := 8) rfl))) rfl (gi_c (List.mem_cons_of_mem _ (List.mem_append_left _ (List.mem_of_getElem? (i := 9) rfl))) rfl (gi_c (List.mem_cons_of_mem _ (List.mem_append_left _ (List.mem_of_getElem? (i := 3) rfl))) rfl (goodIn_sub hb_3 (List.all_eq_true.mpr gw_c_listWays)))))) rfl rfl rfl (by decide +kernel) ⟨Nat.le_of_ble_eq_true rfl, Nat.le_of_ble_eq_true rfl⟩) (pr_V (As := [.int 12, .int (nI k0), .int (nI k0), .int (nI k2)]) (b := x) (C := RX6) hP hD hK hS hA hE [11, 12, 0, 1, 2, 3, 4, 5, 6, 7, 8, 9, 10] [0, 1, 2, 3, 4, 5, 6, 7, 8, 9] rfl rfl rfl 11 13 rfl rfl rfl) rfl rfl hl.1 rfl (lv_room (Nat.le_of_ble_eq_true rfl)) dX6_score_83 ⟨Nat.le_of_ble_eq_true rfl, Nat.le_of_ble_eq_true rfl⟩) hP hD hK hS hA [11, 12, 0, 1, 2, 3, 4, 5, 6, 7, 8, 9, 10] [] rfl rfl (by decide) (by decide) (fun _ H locs w8 hP hD hK hS => ?_)
  have hP : va_P D vwCl [(x, .inr (13, [.ref g, .ref ca, .int 0, .ref co, .int 0, .ref ra, .int 0, .ref rl, .ref tr, .ref f9, .ref f10, .ref f11, .ref f12, .ref f13])), (tr, .inr (12, [.ref ts1, .ref tw, .ref ts2]))] H := hP
  have hD : va_D A [(x, .inr (13, [.ref g, .ref ca, .int 0, .ref co, .int 0, .ref ra, .int 0, .ref rl, .ref tr, .ref f9, .ref f10, .ref f11, .ref f12, .ref f13])), (tr, .inr (12, [.ref ts1, .ref tw, .ref ts2]))] := hD
  have hK : va_K D vwCl [(ck, .char), (csk, .char), (cg, .int), (ch, .int), (csg, .int), (cw, .int), (cq, .int), (cz, .boolean), (cb, .int), (ctw, .int)] s := hK
  refine lv_aload_n hx hb dX6_score_86 rfl (lv_at hl 1 rfl) ?_
  refine va_get (D := D) (ci := 13) (v := .ref tr) (C := RX6) (T := TX6) (N := 14) hx hb hts hb_2 hown hK hP 0 rfl rfl 8 (by decide) hw_10 (fun _ h9 => h9) rfl dX6_score_87 ?_
  refine lv_aload_n hx hb dX6_score_90 rfl (lv_at hl 1 rfl) ?_
  refine va_get (D := D) (ci := 13) (v := .int 0) (C := RX6) (T := TX6) (N := 14) hx hb hts hb_2 hown hK hP 0 rfl rfl 2 (by decide) hw_6 (fun _ h9 => h9) rfl dX6_score_91 ?_
  refine lv_iload_n hx hb dX6_score_94 rfl (lv_at hl 3 rfl) ?_
  refine mc_i (wr := [(x, .inr (13, [.ref g, .ref ca, .int 0, .ref co, .int 0, .ref ra, .int 0, .ref rl, .ref tr, .ref f9, .ref f10, .ref f11, .ref f12, .ref f13]))]) (va_runV (As := [.int 0, .int p1]) (rest := []) ⟨hx, hb, hml, hown, hts⟩ (c_mostPoints l hst D tr ts1 tw ts2 p1 H.size) (cwV 2 hts (gi_c (List.mem_cons_of_mem _ (List.mem_append_left _ (List.mem_of_getElem? (i := 11) rfl))) rfl (gi_c (List.mem_cons_of_mem _ (List.mem_append_left _ (List.mem_of_getElem? (i := 12) rfl))) rfl (gi_c (List.mem_cons_of_mem _ (List.mem_append_left _ (List.mem_of_getElem? (i := 13) rfl))) rfl (gi_c (List.mem_cons_of_mem _ (List.mem_append_left _ (List.mem_of_getElem? (i := 14) rfl))) rfl (goodIn_sub hb_4 (List.all_eq_true.mpr gw_c_mostPoints)))))) rfl rfl rfl (by decide +kernel) ⟨Nat.le_of_ble_eq_true rfl, Nat.le_of_ble_eq_true rfl⟩) (pr_V (As := [.int 0, .int p1]) (b := tr) (C := RX5) hP hD hK hS hA hE [1] [] rfl rfl rfl 1 12 rfl rfl rfl) rfl rfl hl.1 rfl (lv_room (Nat.le_of_ble_eq_true rfl)) dX6_score_95 ⟨Nat.le_of_ble_eq_true rfl, Nat.le_of_ble_eq_true rfl⟩) hP hD hK hS hA [1] [0] rfl rfl (by decide) (by decide) (fun r11 _ H locs w10 hP hD hK hS => ?_)
  have hP : va_P D vwCl [(x, .inr (13, [.ref g, .ref ca, .int 0, .ref co, .int 0, .ref ra, .int 0, .ref rl, .ref tr, .ref f9, .ref f10, .ref f11, .ref f12, .ref f13])), (tr, .inr (12, [.ref ts1, .ref tw, .ref ts2]))] H := hP
  have hD : va_D A [(x, .inr (13, [.ref g, .ref ca, .int 0, .ref co, .int 0, .ref ra, .int 0, .ref rl, .ref tr, .ref f9, .ref f10, .ref f11, .ref f12, .ref f13])), (tr, .inr (12, [.ref ts1, .ref tw, .ref ts2]))] := hD
  have hK : va_K D vwCl [(ck, .char), (csk, .char), (cg, .int), (ch, .int), (csg, .int), (cw, .int), (cq, .int), (cz, .boolean), (cb, .int), (ctw, .int)] s := hK
  obtain rfl : r11 = 0 := w10
  exact vx_ret (mr_i hx hb hr () (⟨((if_pos v0).trans ((if_pos v1).trans (if_pos v2))), rfl⟩) (hP.sub [] rfl) (hK.sub [] rfl) (hD.sub [] (by decide) rfl) hS (Nat.le_of_ble_eq_true rfl) (Nat.le_of_ble_eq_true rfl) hlocks dX6_score_98)
