theorem dL_add_0 : decode cL_add 0 = .ok (.aload_n 3, 1) := by decide +kernel
theorem dL_add_1 : decode cL_add 1 = .ok (.iconst 0, 1) := by decide +kernel
theorem dL_add_2 : decode cL_add 2 = .ok (.aload_n 0, 1) := by decide +kernel
theorem dL_add_3 : decode cL_add 3 = .ok (.iload_n 1, 1) := by decide +kernel
theorem dL_add_4 : decode cL_add 4 = .ok (.iload_n 2, 1) := by decide +kernel
theorem dL_add_5 : decode cL_add 5 = .ok (.invokevirtual 50, 3) := by decide +kernel
theorem dL_add_13 : decode cL_add 13 = .ok (.astore 4, 2) := by decide +kernel
theorem dL_add_15 : decode cL_add 15 = .ok (.iconst 1, 1) := by decide +kernel
theorem dL_add_16 : decode cL_add 16 = .ok (.ireturn, 1) := by decide +kernel
theorem dL_areNear_0 : decode cL_areNear 0 = .ok (.aload_n 3, 1) := by decide +kernel
theorem dL_areNear_1 : decode cL_areNear 1 = .ok (.iconst 0, 1) := by decide +kernel
theorem dL_areNear_2 : decode cL_areNear 2 = .ok (.aload_n 0, 1) := by decide +kernel
theorem dL_areNear_3 : decode cL_areNear 3 = .ok (.iload_n 1, 1) := by decide +kernel
theorem dL_areNear_4 : decode cL_areNear 4 = .ok (.iload_n 2, 1) := by decide +kernel
theorem dL_areNear_5 : decode cL_areNear 5 = .ok (.invokevirtual 42, 3) := by decide +kernel
theorem dL_areNear_20 : decode cL_areNear 20 = .ok (.astore 4, 2) := by decide +kernel
theorem dL_areNear_22 : decode cL_areNear 22 = .ok (.iconst 1, 1) := by decide +kernel
theorem dL_areNear_23 : decode cL_areNear 23 = .ok (.ireturn, 1) := by decide +kernel
theorem dL_branches_0 : decode cL_branches 0 = .ok (.aload_n 3, 1) := by decide +kernel
theorem dL_branches_1 : decode cL_branches 1 = .ok (.iconst 0, 1) := by decide +kernel
theorem dL_branches_2 : decode cL_branches 2 = .ok (.aload_n 0, 1) := by decide +kernel
theorem dL_branches_3 : decode cL_branches 3 = .ok (.iload_n 1, 1) := by decide +kernel
theorem dL_branches_4 : decode cL_branches 4 = .ok (.iload_n 2, 1) := by decide +kernel
theorem dL_branches_5 : decode cL_branches 5 = .ok (.invokevirtual 66, 3) := by decide +kernel
theorem dL_branches_13 : decode cL_branches 13 = .ok (.astore 4, 2) := by decide +kernel
theorem dL_branches_15 : decode cL_branches 15 = .ok (.iconst 1, 1) := by decide +kernel
theorem dL_branches_16 : decode cL_branches 16 = .ok (.ireturn, 1) := by decide +kernel
theorem dL_cell_0 : decode cL_cell 0 = .ok (.aload 5, 2) := by decide +kernel
theorem dL_cell_2 : decode cL_cell 2 = .ok (.iconst 0, 1) := by decide +kernel
theorem dL_cell_3 : decode cL_cell 3 = .ok (.aload_n 0, 1) := by decide +kernel
theorem dL_cell_4 : decode cL_cell 4 = .ok (.iload_n 1, 1) := by decide +kernel
theorem dL_cell_5 : decode cL_cell 5 = .ok (.iload_n 2, 1) := by decide +kernel
theorem dL_cell_6 : decode cL_cell 6 = .ok (.iload_n 3, 1) := by decide +kernel
theorem dL_cell_7 : decode cL_cell 7 = .ok (.iload 4, 2) := by decide +kernel
theorem dL_cell_9 : decode cL_cell 9 = .ok (.invokevirtual 15, 3) := by decide +kernel
theorem dL_cell_17 : decode cL_cell 17 = .ok (.astore 6, 2) := by decide +kernel
theorem dL_cell_19 : decode cL_cell 19 = .ok (.iconst 1, 1) := by decide +kernel
theorem dL_cell_20 : decode cL_cell 20 = .ok (.ireturn, 1) := by decide +kernel
theorem dL_cell_21 : decode cL_cell 21 = .ok (.astore 6, 2) := by decide +kernel
theorem dL_cell_23 : decode cL_cell 23 = .ok (.iconst 2, 1) := by decide +kernel
theorem dL_cell_24 : decode cL_cell 24 = .ok (.ireturn, 1) := by decide +kernel
theorem dL_cell_12 : decode cL_cell 12 = .ok (.i2l, 1) := by decide +kernel
theorem dL_cell_13 : decode cL_cell 13 = .ok (.lastore, 1) := by decide +kernel
theorem dL_cell_14 : decode cL_cell 14 = .ok (.goto 11, 3) := by decide +kernel
theorem dL_cell_25 : decode cL_cell 25 = .ok (.iconst 0, 1) := by decide +kernel
theorem dL_cell_26 : decode cL_cell 26 = .ok (.ireturn, 1) := by decide +kernel
theorem dL_changeover_0 : decode cL_changeover 0 = .ok (.aload 5, 2) := by decide +kernel
theorem dL_changeover_2 : decode cL_changeover 2 = .ok (.iconst 0, 1) := by decide +kernel
theorem dL_changeover_3 : decode cL_changeover 3 = .ok (.aload_n 0, 1) := by decide +kernel
theorem dL_changeover_4 : decode cL_changeover 4 = .ok (.iload_n 1, 1) := by decide +kernel
theorem dL_changeover_5 : decode cL_changeover 5 = .ok (.iload_n 2, 1) := by decide +kernel
theorem dL_changeover_6 : decode cL_changeover 6 = .ok (.iload_n 3, 1) := by decide +kernel
theorem dL_changeover_7 : decode cL_changeover 7 = .ok (.iload 4, 2) := by decide +kernel
theorem dL_changeover_9 : decode cL_changeover 9 = .ok (.invokevirtual 133, 3) := by decide +kernel
theorem dL_changeover_17 : decode cL_changeover 17 = .ok (.astore 6, 2) := by decide +kernel
theorem dL_changeover_19 : decode cL_changeover 19 = .ok (.iconst 1, 1) := by decide +kernel
theorem dL_changeover_20 : decode cL_changeover 20 = .ok (.ireturn, 1) := by decide +kernel
theorem dL_changeover_12 : decode cL_changeover 12 = .ok (.i2l, 1) := by decide +kernel
theorem dL_changeover_13 : decode cL_changeover 13 = .ok (.lastore, 1) := by decide +kernel
theorem dL_changeover_14 : decode cL_changeover 14 = .ok (.goto 7, 3) := by decide +kernel
theorem dL_changeover_21 : decode cL_changeover 21 = .ok (.iconst 0, 1) := by decide +kernel
theorem dL_changeover_22 : decode cL_changeover 22 = .ok (.ireturn, 1) := by decide +kernel
theorem dL_chase_0 : decode cL_chase 0 = .ok (.aload 4, 2) := by decide +kernel
theorem dL_chase_2 : decode cL_chase 2 = .ok (.iconst 0, 1) := by decide +kernel
theorem dL_chase_3 : decode cL_chase 3 = .ok (.aload_n 0, 1) := by decide +kernel
theorem dL_chase_4 : decode cL_chase 4 = .ok (.iload_n 1, 1) := by decide +kernel
theorem dL_chase_5 : decode cL_chase 5 = .ok (.iload_n 2, 1) := by decide +kernel
theorem dL_chase_6 : decode cL_chase 6 = .ok (.iload_n 3, 1) := by decide +kernel
theorem dL_chase_7 : decode cL_chase 7 = .ok (.invokevirtual 136, 3) := by decide +kernel
theorem dL_chase_15 : decode cL_chase 15 = .ok (.astore 5, 2) := by decide +kernel
theorem dL_chase_17 : decode cL_chase 17 = .ok (.iconst 1, 1) := by decide +kernel
theorem dL_chase_18 : decode cL_chase 18 = .ok (.ireturn, 1) := by decide +kernel
theorem dL_control_0 : decode cL_control 0 = .ok (.aload 4, 2) := by decide +kernel
theorem dL_control_2 : decode cL_control 2 = .ok (.iconst 0, 1) := by decide +kernel
theorem dL_control_3 : decode cL_control 3 = .ok (.aload_n 0, 1) := by decide +kernel
theorem dL_control_4 : decode cL_control 4 = .ok (.iload_n 1, 1) := by decide +kernel
theorem dL_control_5 : decode cL_control 5 = .ok (.iload_n 2, 1) := by decide +kernel
theorem dL_control_6 : decode cL_control 6 = .ok (.iload_n 3, 1) := by decide +kernel
theorem dL_control_7 : decode cL_control 7 = .ok (.invokevirtual 34, 3) := by decide +kernel
theorem dL_control_15 : decode cL_control 15 = .ok (.astore 5, 2) := by decide +kernel
theorem dL_control_17 : decode cL_control 17 = .ok (.iconst 1, 1) := by decide +kernel
theorem dL_control_18 : decode cL_control 18 = .ok (.ireturn, 1) := by decide +kernel
theorem dL_control_19 : decode cL_control 19 = .ok (.astore 5, 2) := by decide +kernel
theorem dL_control_21 : decode cL_control 21 = .ok (.iconst 2, 1) := by decide +kernel
theorem dL_control_22 : decode cL_control 22 = .ok (.ireturn, 1) := by decide +kernel
theorem dL_control_10 : decode cL_control 10 = .ok (.i2l, 1) := by decide +kernel
theorem dL_control_11 : decode cL_control 11 = .ok (.lastore, 1) := by decide +kernel
theorem dL_control_12 : decode cL_control 12 = .ok (.goto 19, 3) := by decide +kernel
theorem dL_control_31 : decode cL_control 31 = .ok (.iconst 0, 1) := by decide +kernel
theorem dL_control_32 : decode cL_control 32 = .ok (.ireturn, 1) := by decide +kernel
theorem dL_cost_0 : decode cL_cost 0 = .ok (.aload 4, 2) := by decide +kernel
theorem dL_cost_2 : decode cL_cost 2 = .ok (.iconst 0, 1) := by decide +kernel
theorem dL_cost_3 : decode cL_cost 3 = .ok (.aload_n 0, 1) := by decide +kernel
theorem dL_cost_4 : decode cL_cost 4 = .ok (.iload_n 1, 1) := by decide +kernel
theorem dL_cost_5 : decode cL_cost 5 = .ok (.iload_n 2, 1) := by decide +kernel
theorem dL_cost_6 : decode cL_cost 6 = .ok (.iload_n 3, 1) := by decide +kernel
theorem dL_cost_7 : decode cL_cost 7 = .ok (.invokevirtual 25, 3) := by decide +kernel
theorem dL_cost_15 : decode cL_cost 15 = .ok (.astore 5, 2) := by decide +kernel
theorem dL_cost_17 : decode cL_cost 17 = .ok (.iconst 1, 1) := by decide +kernel
theorem dL_cost_18 : decode cL_cost 18 = .ok (.ireturn, 1) := by decide +kernel
theorem dL_cost_10 : decode cL_cost 10 = .ok (.i2l, 1) := by decide +kernel
theorem dL_cost_11 : decode cL_cost 11 = .ok (.lastore, 1) := by decide +kernel
theorem dL_cost_12 : decode cL_cost 12 = .ok (.goto 11, 3) := by decide +kernel
theorem dL_cost_23 : decode cL_cost 23 = .ok (.iconst 0, 1) := by decide +kernel
theorem dL_cost_24 : decode cL_cost 24 = .ok (.ireturn, 1) := by decide +kernel
theorem dL_course_0 : decode cL_course 0 = .ok (.aload_n 2, 1) := by decide +kernel
theorem dL_course_1 : decode cL_course 1 = .ok (.iconst 0, 1) := by decide +kernel
theorem dL_course_2 : decode cL_course 2 = .ok (.aload_n 0, 1) := by decide +kernel
theorem dL_course_3 : decode cL_course 3 = .ok (.iload_n 1, 1) := by decide +kernel
theorem dL_course_4 : decode cL_course 4 = .ok (.invokevirtual 46, 3) := by decide +kernel
theorem dL_course_12 : decode cL_course 12 = .ok (.astore_n 3, 1) := by decide +kernel
theorem dL_course_13 : decode cL_course 13 = .ok (.iconst 1, 1) := by decide +kernel
theorem dL_course_14 : decode cL_course 14 = .ok (.ireturn, 1) := by decide +kernel
theorem dL_course_7 : decode cL_course 7 = .ok (.i2l, 1) := by decide +kernel
theorem dL_course_8 : decode cL_course 8 = .ok (.lastore, 1) := by decide +kernel
theorem dL_course_9 : decode cL_course 9 = .ok (.goto 9, 3) := by decide +kernel
theorem dL_course_18 : decode cL_course 18 = .ok (.iconst 0, 1) := by decide +kernel
theorem dL_course_19 : decode cL_course 19 = .ok (.ireturn, 1) := by decide +kernel
theorem dL_dead_0 : decode cL_dead 0 = .ok (.aload 4, 2) := by decide +kernel
theorem dL_dead_2 : decode cL_dead 2 = .ok (.iconst 0, 1) := by decide +kernel
theorem dL_dead_3 : decode cL_dead 3 = .ok (.aload_n 0, 1) := by decide +kernel
theorem dL_dead_4 : decode cL_dead 4 = .ok (.iload_n 1, 1) := by decide +kernel
theorem dL_dead_5 : decode cL_dead 5 = .ok (.iload_n 2, 1) := by decide +kernel
theorem dL_dead_6 : decode cL_dead 6 = .ok (.iload_n 3, 1) := by decide +kernel
theorem dL_dead_7 : decode cL_dead 7 = .ok (.invokevirtual 85, 3) := by decide +kernel
theorem dL_dead_15 : decode cL_dead 15 = .ok (.astore 5, 2) := by decide +kernel
theorem dL_dead_17 : decode cL_dead 17 = .ok (.iconst 1, 1) := by decide +kernel
theorem dL_dead_18 : decode cL_dead 18 = .ok (.ireturn, 1) := by decide +kernel
theorem dL_draw_0 : decode cL_draw 0 = .ok (.aload 5, 2) := by decide +kernel
theorem dL_draw_2 : decode cL_draw 2 = .ok (.iconst 0, 1) := by decide +kernel
theorem dL_draw_3 : decode cL_draw 3 = .ok (.aload_n 0, 1) := by decide +kernel
theorem dL_draw_4 : decode cL_draw 4 = .ok (.iload_n 1, 1) := by decide +kernel
theorem dL_draw_5 : decode cL_draw 5 = .ok (.iload_n 2, 1) := by decide +kernel
theorem dL_draw_6 : decode cL_draw 6 = .ok (.iload_n 3, 1) := by decide +kernel
theorem dL_draw_7 : decode cL_draw 7 = .ok (.iload 4, 2) := by decide +kernel
theorem dL_draw_9 : decode cL_draw 9 = .ok (.invokevirtual 72, 3) := by decide +kernel
theorem dL_draw_17 : decode cL_draw 17 = .ok (.astore 6, 2) := by decide +kernel
theorem dL_draw_19 : decode cL_draw 19 = .ok (.iconst 1, 1) := by decide +kernel
theorem dL_draw_20 : decode cL_draw 20 = .ok (.ireturn, 1) := by decide +kernel
theorem dL_fairWays_0 : decode cL_fairWays 0 = .ok (.aload_n 1, 1) := by decide +kernel
theorem dL_fairWays_1 : decode cL_fairWays 1 = .ok (.iconst 0, 1) := by decide +kernel
theorem dL_fairWays_2 : decode cL_fairWays 2 = .ok (.aload_n 0, 1) := by decide +kernel
theorem dL_fairWays_3 : decode cL_fairWays 3 = .ok (.invokevirtual 129, 3) := by decide +kernel
theorem dL_fairWays_6 : decode cL_fairWays 6 = .ok (.i2l, 1) := by decide +kernel
theorem dL_fairWays_7 : decode cL_fairWays 7 = .ok (.lastore, 1) := by decide +kernel
theorem dL_fairWays_8 : decode cL_fairWays 8 = .ok (.goto 6, 3) := by decide +kernel
theorem dL_fairWays_14 : decode cL_fairWays 14 = .ok (.iconst 0, 1) := by decide +kernel
theorem dL_fairWays_15 : decode cL_fairWays 15 = .ok (.ireturn, 1) := by decide +kernel
theorem dL_finish_0 : decode cL_finish 0 = .ok (.aload_n 3, 1) := by decide +kernel
theorem dL_finish_1 : decode cL_finish 1 = .ok (.iconst 0, 1) := by decide +kernel
theorem dL_finish_2 : decode cL_finish 2 = .ok (.aload_n 0, 1) := by decide +kernel
theorem dL_finish_3 : decode cL_finish 3 = .ok (.iload_n 1, 1) := by decide +kernel
theorem dL_finish_4 : decode cL_finish 4 = .ok (.iload_n 2, 1) := by decide +kernel
theorem dL_finish_5 : decode cL_finish 5 = .ok (.invokevirtual 82, 3) := by decide +kernel
theorem dL_finish_13 : decode cL_finish 13 = .ok (.astore 4, 2) := by decide +kernel
theorem dL_finish_15 : decode cL_finish 15 = .ok (.iconst 1, 1) := by decide +kernel
theorem dL_finish_16 : decode cL_finish 16 = .ok (.ireturn, 1) := by decide +kernel
theorem dL_fix_0 : decode cL_fix 0 = .ok (.aload 4, 2) := by decide +kernel
theorem dL_fix_2 : decode cL_fix 2 = .ok (.iconst 0, 1) := by decide +kernel
theorem dL_fix_3 : decode cL_fix 3 = .ok (.aload_n 0, 1) := by decide +kernel
theorem dL_fix_4 : decode cL_fix 4 = .ok (.iload_n 1, 1) := by decide +kernel
theorem dL_fix_5 : decode cL_fix 5 = .ok (.iload_n 2, 1) := by decide +kernel
theorem dL_fix_6 : decode cL_fix 6 = .ok (.iload_n 3, 1) := by decide +kernel
theorem dL_fix_7 : decode cL_fix 7 = .ok (.invokevirtual 145, 3) := by decide +kernel
theorem dL_fix_15 : decode cL_fix 15 = .ok (.astore 5, 2) := by decide +kernel
theorem dL_fix_17 : decode cL_fix 17 = .ok (.iconst 1, 1) := by decide +kernel
theorem dL_fix_18 : decode cL_fix 18 = .ok (.ireturn, 1) := by decide +kernel
theorem dL_fork_0 : decode cL_fork 0 = .ok (.aload 4, 2) := by decide +kernel
theorem dL_fork_2 : decode cL_fork 2 = .ok (.iconst 0, 1) := by decide +kernel
theorem dL_fork_3 : decode cL_fork 3 = .ok (.aload_n 0, 1) := by decide +kernel
theorem dL_fork_4 : decode cL_fork 4 = .ok (.iload_n 1, 1) := by decide +kernel
theorem dL_fork_5 : decode cL_fork 5 = .ok (.iload_n 2, 1) := by decide +kernel
theorem dL_fork_6 : decode cL_fork 6 = .ok (.iload_n 3, 1) := by decide +kernel
theorem dL_fork_7 : decode cL_fork 7 = .ok (.invokevirtual 53, 3) := by decide +kernel
theorem dL_fork_15 : decode cL_fork 15 = .ok (.astore 5, 2) := by decide +kernel
theorem dL_fork_17 : decode cL_fork 17 = .ok (.iconst 1, 1) := by decide +kernel
theorem dL_fork_18 : decode cL_fork 18 = .ok (.ireturn, 1) := by decide +kernel
theorem dL_isLawful_0 : decode cL_isLawful 0 = .ok (.aload_n 2, 1) := by decide +kernel
theorem dL_isLawful_1 : decode cL_isLawful 1 = .ok (.iconst 0, 1) := by decide +kernel
theorem dL_isLawful_2 : decode cL_isLawful 2 = .ok (.aload_n 0, 1) := by decide +kernel
theorem dL_isLawful_3 : decode cL_isLawful 3 = .ok (.iload_n 1, 1) := by decide +kernel
theorem dL_isLawful_4 : decode cL_isLawful 4 = .ok (.invokevirtual 56, 3) := by decide +kernel
theorem dL_isLawful_19 : decode cL_isLawful 19 = .ok (.astore_n 3, 1) := by decide +kernel
theorem dL_isLawful_20 : decode cL_isLawful 20 = .ok (.iconst 1, 1) := by decide +kernel
theorem dL_isLawful_21 : decode cL_isLawful 21 = .ok (.ireturn, 1) := by decide +kernel
theorem dL_land_0 : decode cL_land 0 = .ok (.aload_n 3, 1) := by decide +kernel
theorem dL_land_1 : decode cL_land 1 = .ok (.iconst 0, 1) := by decide +kernel
theorem dL_land_2 : decode cL_land 2 = .ok (.aload_n 0, 1) := by decide +kernel
theorem dL_land_3 : decode cL_land 3 = .ok (.iload_n 1, 1) := by decide +kernel
theorem dL_land_4 : decode cL_land 4 = .ok (.iload_n 2, 1) := by decide +kernel
theorem dL_land_5 : decode cL_land 5 = .ok (.invokevirtual 7, 3) := by decide +kernel
theorem dL_land_13 : decode cL_land 13 = .ok (.astore 4, 2) := by decide +kernel
theorem dL_land_15 : decode cL_land 15 = .ok (.iconst 1, 1) := by decide +kernel
theorem dL_land_16 : decode cL_land 16 = .ok (.ireturn, 1) := by decide +kernel
theorem dL_land_8 : decode cL_land 8 = .ok (.i2l, 1) := by decide +kernel
theorem dL_land_9 : decode cL_land 9 = .ok (.lastore, 1) := by decide +kernel
theorem dL_land_10 : decode cL_land 10 = .ok (.goto 7, 3) := by decide +kernel
theorem dL_land_17 : decode cL_land 17 = .ok (.iconst 0, 1) := by decide +kernel
theorem dL_land_18 : decode cL_land 18 = .ok (.ireturn, 1) := by decide +kernel
theorem dL_late_0 : decode cL_late 0 = .ok (.aload 4, 2) := by decide +kernel
theorem dL_late_2 : decode cL_late 2 = .ok (.iconst 0, 1) := by decide +kernel
theorem dL_late_3 : decode cL_late 3 = .ok (.aload_n 0, 1) := by decide +kernel
theorem dL_late_4 : decode cL_late 4 = .ok (.iload_n 1, 1) := by decide +kernel
theorem dL_late_5 : decode cL_late 5 = .ok (.iload_n 2, 1) := by decide +kernel
theorem dL_late_6 : decode cL_late 6 = .ok (.iload_n 3, 1) := by decide +kernel
theorem dL_late_7 : decode cL_late 7 = .ok (.invokevirtual 142, 3) := by decide +kernel
theorem dL_late_15 : decode cL_late 15 = .ok (.astore 5, 2) := by decide +kernel
theorem dL_late_17 : decode cL_late 17 = .ok (.iconst 1, 1) := by decide +kernel
theorem dL_late_18 : decode cL_late 18 = .ok (.ireturn, 1) := by decide +kernel
theorem dL_late_10 : decode cL_late 10 = .ok (.i2l, 1) := by decide +kernel
theorem dL_late_11 : decode cL_late 11 = .ok (.lastore, 1) := by decide +kernel
theorem dL_late_12 : decode cL_late 12 = .ok (.goto 7, 3) := by decide +kernel
theorem dL_late_19 : decode cL_late 19 = .ok (.iconst 0, 1) := by decide +kernel
theorem dL_late_20 : decode cL_late 20 = .ok (.ireturn, 1) := by decide +kernel
theorem dL_lengthOf_0 : decode cL_lengthOf 0 = .ok (.aload_n 2, 1) := by decide +kernel
theorem dL_lengthOf_1 : decode cL_lengthOf 1 = .ok (.iconst 0, 1) := by decide +kernel
theorem dL_lengthOf_2 : decode cL_lengthOf 2 = .ok (.aload_n 0, 1) := by decide +kernel
theorem dL_lengthOf_3 : decode cL_lengthOf 3 = .ok (.iload_n 1, 1) := by decide +kernel
theorem dL_lengthOf_4 : decode cL_lengthOf 4 = .ok (.invokevirtual 60, 3) := by decide +kernel
theorem dL_lengthOf_12 : decode cL_lengthOf 12 = .ok (.astore_n 3, 1) := by decide +kernel
theorem dL_lengthOf_13 : decode cL_lengthOf 13 = .ok (.iconst 1, 1) := by decide +kernel
theorem dL_lengthOf_14 : decode cL_lengthOf 14 = .ok (.ireturn, 1) := by decide +kernel
theorem dL_loss_0 : decode cL_loss 0 = .ok (.aload_n 3, 1) := by decide +kernel
theorem dL_loss_1 : decode cL_loss 1 = .ok (.iconst 0, 1) := by decide +kernel
theorem dL_loss_2 : decode cL_loss 2 = .ok (.aload_n 0, 1) := by decide +kernel
theorem dL_loss_3 : decode cL_loss 3 = .ok (.iload_n 1, 1) := by decide +kernel
theorem dL_loss_4 : decode cL_loss 4 = .ok (.iload_n 2, 1) := by decide +kernel
theorem dL_loss_5 : decode cL_loss 5 = .ok (.invokevirtual 117, 3) := by decide +kernel
theorem dL_loss_13 : decode cL_loss 13 = .ok (.astore 4, 2) := by decide +kernel
theorem dL_loss_15 : decode cL_loss 15 = .ok (.iconst 1, 1) := by decide +kernel
theorem dL_loss_16 : decode cL_loss 16 = .ok (.ireturn, 1) := by decide +kernel
theorem dL_mayHave_0 : decode cL_mayHave 0 = .ok (.aload_n 3, 1) := by decide +kernel
theorem dL_mayHave_1 : decode cL_mayHave 1 = .ok (.iconst 0, 1) := by decide +kernel
theorem dL_mayHave_2 : decode cL_mayHave 2 = .ok (.aload_n 0, 1) := by decide +kernel
theorem dL_mayHave_3 : decode cL_mayHave 3 = .ok (.iload_n 1, 1) := by decide +kernel
theorem dL_mayHave_4 : decode cL_mayHave 4 = .ok (.iload_n 2, 1) := by decide +kernel
theorem dL_mayHave_5 : decode cL_mayHave 5 = .ok (.invokevirtual 148, 3) := by decide +kernel
theorem dL_mayHave_20 : decode cL_mayHave 20 = .ok (.astore 4, 2) := by decide +kernel
theorem dL_mayHave_22 : decode cL_mayHave 22 = .ok (.iconst 1, 1) := by decide +kernel
theorem dL_mayHave_23 : decode cL_mayHave 23 = .ok (.ireturn, 1) := by decide +kernel
theorem dL_meanTime_0 : decode cL_meanTime 0 = .ok (.aload_n 2, 1) := by decide +kernel
theorem dL_meanTime_1 : decode cL_meanTime 1 = .ok (.iconst 0, 1) := by decide +kernel
theorem dL_meanTime_2 : decode cL_meanTime 2 = .ok (.aload_n 0, 1) := by decide +kernel
theorem dL_meanTime_3 : decode cL_meanTime 3 = .ok (.iload_n 1, 1) := by decide +kernel
theorem dL_meanTime_4 : decode cL_meanTime 4 = .ok (.invokevirtual 157, 3) := by decide +kernel
theorem dL_meanTime_11 : decode cL_meanTime 11 = .ok (.astore_n 3, 1) := by decide +kernel
theorem dL_meanTime_12 : decode cL_meanTime 12 = .ok (.iconst 1, 1) := by decide +kernel
theorem dL_meanTime_13 : decode cL_meanTime 13 = .ok (.ireturn, 1) := by decide +kernel
theorem dL_misled_0 : decode cL_misled 0 = .ok (.aload_n 3, 1) := by decide +kernel
theorem dL_misled_1 : decode cL_misled 1 = .ok (.iconst 0, 1) := by decide +kernel
theorem dL_misled_2 : decode cL_misled 2 = .ok (.aload_n 0, 1) := by decide +kernel
theorem dL_misled_3 : decode cL_misled 3 = .ok (.iload_n 1, 1) := by decide +kernel
theorem dL_misled_4 : decode cL_misled 4 = .ok (.iload_n 2, 1) := by decide +kernel
theorem dL_misled_5 : decode cL_misled 5 = .ok (.invokevirtual 31, 3) := by decide +kernel
theorem dL_misled_13 : decode cL_misled 13 = .ok (.astore 4, 2) := by decide +kernel
theorem dL_misled_15 : decode cL_misled 15 = .ok (.iconst 1, 1) := by decide +kernel
theorem dL_misled_16 : decode cL_misled 16 = .ok (.ireturn, 1) := by decide +kernel
theorem dL_misled_8 : decode cL_misled 8 = .ok (.i2l, 1) := by decide +kernel
theorem dL_misled_9 : decode cL_misled 9 = .ok (.lastore, 1) := by decide +kernel
theorem dL_misled_10 : decode cL_misled 10 = .ok (.goto 11, 3) := by decide +kernel
theorem dL_misled_21 : decode cL_misled 21 = .ok (.iconst 0, 1) := by decide +kernel
theorem dL_misled_22 : decode cL_misled 22 = .ok (.ireturn, 1) := by decide +kernel
theorem dL_okShare_0 : decode cL_okShare 0 = .ok (.aload_n 2, 1) := by decide +kernel
theorem dL_okShare_1 : decode cL_okShare 1 = .ok (.iconst 0, 1) := by decide +kernel
theorem dL_okShare_2 : decode cL_okShare 2 = .ok (.aload_n 0, 1) := by decide +kernel
theorem dL_okShare_3 : decode cL_okShare 3 = .ok (.iload_n 1, 1) := by decide +kernel
theorem dL_okShare_4 : decode cL_okShare 4 = .ok (.invokevirtual 151, 3) := by decide +kernel
theorem dL_okShare_12 : decode cL_okShare 12 = .ok (.astore_n 3, 1) := by decide +kernel
theorem dL_okShare_13 : decode cL_okShare 13 = .ok (.iconst 1, 1) := by decide +kernel
theorem dL_okShare_14 : decode cL_okShare 14 = .ok (.ireturn, 1) := by decide +kernel
theorem dL_pace_0 : decode cL_pace 0 = .ok (.aload_n 2, 1) := by decide +kernel
theorem dL_pace_1 : decode cL_pace 1 = .ok (.iconst 0, 1) := by decide +kernel
theorem dL_pace_2 : decode cL_pace 2 = .ok (.aload_n 0, 1) := by decide +kernel
theorem dL_pace_3 : decode cL_pace 3 = .ok (.iload_n 1, 1) := by decide +kernel
theorem dL_pace_4 : decode cL_pace 4 = .ok (.invokevirtual 114, 3) := by decide +kernel
theorem dL_pace_12 : decode cL_pace 12 = .ok (.astore_n 3, 1) := by decide +kernel
theorem dL_pace_13 : decode cL_pace 13 = .ok (.iconst 1, 1) := by decide +kernel
theorem dL_pace_14 : decode cL_pace 14 = .ok (.ireturn, 1) := by decide +kernel
theorem dL_place_0 : decode cL_place 0 = .ok (.aload_n 2, 1) := by decide +kernel
theorem dL_place_1 : decode cL_place 1 = .ok (.iconst 0, 1) := by decide +kernel
theorem dL_place_2 : decode cL_place 2 = .ok (.aload_n 0, 1) := by decide +kernel
theorem dL_place_3 : decode cL_place 3 = .ok (.iload_n 1, 1) := by decide +kernel
theorem dL_place_4 : decode cL_place 4 = .ok (.invokevirtual 108, 3) := by decide +kernel
theorem dL_place_12 : decode cL_place 12 = .ok (.astore_n 3, 1) := by decide +kernel
theorem dL_place_13 : decode cL_place 13 = .ok (.iconst 1, 1) := by decide +kernel
theorem dL_place_14 : decode cL_place 14 = .ok (.ireturn, 1) := by decide +kernel
theorem dL_points_0 : decode cL_points 0 = .ok (.aload_n 2, 1) := by decide +kernel
theorem dL_points_1 : decode cL_points 1 = .ok (.iconst 0, 1) := by decide +kernel
theorem dL_points_2 : decode cL_points 2 = .ok (.aload_n 0, 1) := by decide +kernel
theorem dL_points_3 : decode cL_points 3 = .ok (.iload_n 1, 1) := by decide +kernel
theorem dL_points_4 : decode cL_points 4 = .ok (.invokevirtual 120, 3) := by decide +kernel
theorem dL_points_12 : decode cL_points 12 = .ok (.astore_n 3, 1) := by decide +kernel
theorem dL_points_13 : decode cL_points 13 = .ok (.iconst 1, 1) := by decide +kernel
theorem dL_points_14 : decode cL_points 14 = .ok (.ireturn, 1) := by decide +kernel
theorem dL_punch_0 : decode cL_punch 0 = .ok (.aload 4, 2) := by decide +kernel
theorem dL_punch_2 : decode cL_punch 2 = .ok (.iconst 0, 1) := by decide +kernel
theorem dL_punch_3 : decode cL_punch 3 = .ok (.aload_n 0, 1) := by decide +kernel
theorem dL_punch_4 : decode cL_punch 4 = .ok (.iload_n 1, 1) := by decide +kernel
theorem dL_punch_5 : decode cL_punch 5 = .ok (.iload_n 2, 1) := by decide +kernel
theorem dL_punch_6 : decode cL_punch 6 = .ok (.iload_n 3, 1) := by decide +kernel
theorem dL_punch_7 : decode cL_punch 7 = .ok (.invokevirtual 79, 3) := by decide +kernel
theorem dL_punch_15 : decode cL_punch 15 = .ok (.astore 5, 2) := by decide +kernel
theorem dL_punch_17 : decode cL_punch 17 = .ok (.iconst 1, 1) := by decide +kernel
theorem dL_punch_18 : decode cL_punch 18 = .ok (.ireturn, 1) := by decide +kernel
theorem dL_reference_0 : decode cL_reference 0 = .ok (.aload_n 3, 1) := by decide +kernel
theorem dL_reference_1 : decode cL_reference 1 = .ok (.iconst 0, 1) := by decide +kernel
theorem dL_reference_2 : decode cL_reference 2 = .ok (.aload_n 0, 1) := by decide +kernel
theorem dL_reference_3 : decode cL_reference 3 = .ok (.iload_n 1, 1) := by decide +kernel
theorem dL_reference_4 : decode cL_reference 4 = .ok (.iload_n 2, 1) := by decide +kernel
theorem dL_reference_5 : decode cL_reference 5 = .ok (.invokevirtual 111, 3) := by decide +kernel
theorem dL_reference_13 : decode cL_reference 13 = .ok (.astore 4, 2) := by decide +kernel
theorem dL_reference_15 : decode cL_reference 15 = .ok (.iconst 1, 1) := by decide +kernel
theorem dL_reference_16 : decode cL_reference 16 = .ok (.ireturn, 1) := by decide +kernel
theorem dL_rule_0 : decode cL_rule 0 = .ok (.aload_n 3, 1) := by decide +kernel
theorem dL_rule_1 : decode cL_rule 1 = .ok (.iconst 0, 1) := by decide +kernel
theorem dL_rule_2 : decode cL_rule 2 = .ok (.aload_n 0, 1) := by decide +kernel
theorem dL_rule_3 : decode cL_rule 3 = .ok (.iload_n 1, 1) := by decide +kernel
theorem dL_rule_4 : decode cL_rule 4 = .ok (.iload_n 2, 1) := by decide +kernel
theorem dL_rule_5 : decode cL_rule 5 = .ok (.invokevirtual 95, 3) := by decide +kernel
theorem dL_rule_13 : decode cL_rule 13 = .ok (.astore 4, 2) := by decide +kernel
theorem dL_rule_15 : decode cL_rule 15 = .ok (.iconst 1, 1) := by decide +kernel
theorem dL_rule_16 : decode cL_rule 16 = .ok (.ireturn, 1) := by decide +kernel
theorem dL_runner_0 : decode cL_runner 0 = .ok (.aload_n 3, 1) := by decide +kernel
theorem dL_runner_1 : decode cL_runner 1 = .ok (.iconst 0, 1) := by decide +kernel
theorem dL_runner_2 : decode cL_runner 2 = .ok (.aload_n 0, 1) := by decide +kernel
theorem dL_runner_3 : decode cL_runner 3 = .ok (.iload_n 1, 1) := by decide +kernel
theorem dL_runner_4 : decode cL_runner 4 = .ok (.iload_n 2, 1) := by decide +kernel
theorem dL_runner_5 : decode cL_runner 5 = .ok (.invokevirtual 63, 3) := by decide +kernel
theorem dL_runner_13 : decode cL_runner 13 = .ok (.astore 4, 2) := by decide +kernel
theorem dL_runner_15 : decode cL_runner 15 = .ok (.iconst 1, 1) := by decide +kernel
theorem dL_runner_16 : decode cL_runner 16 = .ok (.ireturn, 1) := by decide +kernel
theorem dL_runner_17 : decode cL_runner 17 = .ok (.astore 4, 2) := by decide +kernel
theorem dL_runner_19 : decode cL_runner 19 = .ok (.iconst 2, 1) := by decide +kernel
theorem dL_runner_20 : decode cL_runner 20 = .ok (.ireturn, 1) := by decide +kernel
theorem dL_runs_0 : decode cL_runs 0 = .ok (.aload 4, 2) := by decide +kernel
theorem dL_runs_2 : decode cL_runs 2 = .ok (.iconst 0, 1) := by decide +kernel
theorem dL_runs_3 : decode cL_runs 3 = .ok (.aload_n 0, 1) := by decide +kernel
theorem dL_runs_4 : decode cL_runs 4 = .ok (.iload_n 1, 1) := by decide +kernel
theorem dL_runs_5 : decode cL_runs 5 = .ok (.iload_n 2, 1) := by decide +kernel
theorem dL_runs_6 : decode cL_runs 6 = .ok (.iload_n 3, 1) := by decide +kernel
theorem dL_runs_7 : decode cL_runs 7 = .ok (.invokevirtual 126, 3) := by decide +kernel
theorem dL_runs_15 : decode cL_runs 15 = .ok (.astore 5, 2) := by decide +kernel
theorem dL_runs_17 : decode cL_runs 17 = .ok (.iconst 1, 1) := by decide +kernel
theorem dL_runs_18 : decode cL_runs 18 = .ok (.ireturn, 1) := by decide +kernel
theorem dL_score_0 : decode cL_score 0 = .ok (.aload 4, 2) := by decide +kernel
theorem dL_score_2 : decode cL_score 2 = .ok (.iconst 0, 1) := by decide +kernel
theorem dL_score_3 : decode cL_score 3 = .ok (.aload_n 0, 1) := by decide +kernel
theorem dL_score_4 : decode cL_score 4 = .ok (.iload_n 1, 1) := by decide +kernel
theorem dL_score_5 : decode cL_score 5 = .ok (.iload_n 2, 1) := by decide +kernel
theorem dL_score_6 : decode cL_score 6 = .ok (.iload_n 3, 1) := by decide +kernel
theorem dL_score_7 : decode cL_score 7 = .ok (.invokevirtual 139, 3) := by decide +kernel
theorem dL_score_15 : decode cL_score 15 = .ok (.astore 5, 2) := by decide +kernel
theorem dL_score_17 : decode cL_score 17 = .ok (.iconst 1, 1) := by decide +kernel
theorem dL_score_18 : decode cL_score 18 = .ok (.ireturn, 1) := by decide +kernel
theorem dL_score_19 : decode cL_score 19 = .ok (.astore 5, 2) := by decide +kernel
theorem dL_score_21 : decode cL_score 21 = .ok (.iconst 2, 1) := by decide +kernel
theorem dL_score_22 : decode cL_score 22 = .ok (.ireturn, 1) := by decide +kernel
theorem dL_score_10 : decode cL_score 10 = .ok (.i2l, 1) := by decide +kernel
theorem dL_score_11 : decode cL_score 11 = .ok (.lastore, 1) := by decide +kernel
theorem dL_score_12 : decode cL_score 12 = .ok (.goto 11, 3) := by decide +kernel
theorem dL_score_23 : decode cL_score 23 = .ok (.iconst 0, 1) := by decide +kernel
theorem dL_score_24 : decode cL_score 24 = .ok (.ireturn, 1) := by decide +kernel
theorem dL_show_0 : decode cL_show 0 = .ok (.aload 4, 2) := by decide +kernel
theorem dL_show_2 : decode cL_show 2 = .ok (.iconst 0, 1) := by decide +kernel
theorem dL_show_3 : decode cL_show 3 = .ok (.aload_n 0, 1) := by decide +kernel
theorem dL_show_4 : decode cL_show 4 = .ok (.iload_n 1, 1) := by decide +kernel
theorem dL_show_5 : decode cL_show 5 = .ok (.iload_n 2, 1) := by decide +kernel
theorem dL_show_6 : decode cL_show 6 = .ok (.iload_n 3, 1) := by decide +kernel
theorem dL_show_7 : decode cL_show 7 = .ok (.invokevirtual 21, 3) := by decide +kernel
theorem dL_show_15 : decode cL_show 15 = .ok (.astore 5, 2) := by decide +kernel
theorem dL_show_17 : decode cL_show 17 = .ok (.iconst 1, 1) := by decide +kernel
theorem dL_show_18 : decode cL_show 18 = .ok (.ireturn, 1) := by decide +kernel
theorem dL_show_19 : decode cL_show 19 = .ok (.astore 5, 2) := by decide +kernel
theorem dL_show_21 : decode cL_show 21 = .ok (.iconst 2, 1) := by decide +kernel
theorem dL_show_22 : decode cL_show 22 = .ok (.ireturn, 1) := by decide +kernel
theorem dL_show_10 : decode cL_show 10 = .ok (.i2l, 1) := by decide +kernel
theorem dL_show_11 : decode cL_show 11 = .ok (.lastore, 1) := by decide +kernel
theorem dL_show_12 : decode cL_show 12 = .ok (.goto 11, 3) := by decide +kernel
theorem dL_show_23 : decode cL_show 23 = .ok (.iconst 0, 1) := by decide +kernel
theorem dL_show_24 : decode cL_show 24 = .ok (.ireturn, 1) := by decide +kernel
theorem dL_split_0 : decode cL_split 0 = .ok (.aload_n 3, 1) := by decide +kernel
theorem dL_split_1 : decode cL_split 1 = .ok (.iconst 0, 1) := by decide +kernel
theorem dL_split_2 : decode cL_split 2 = .ok (.aload_n 0, 1) := by decide +kernel
theorem dL_split_3 : decode cL_split 3 = .ok (.iload_n 1, 1) := by decide +kernel
theorem dL_split_4 : decode cL_split 4 = .ok (.iload_n 2, 1) := by decide +kernel
theorem dL_split_5 : decode cL_split 5 = .ok (.invokevirtual 105, 3) := by decide +kernel
theorem dL_split_13 : decode cL_split 13 = .ok (.astore 4, 2) := by decide +kernel
theorem dL_split_15 : decode cL_split 15 = .ok (.iconst 1, 1) := by decide +kernel
theorem dL_split_16 : decode cL_split 16 = .ok (.ireturn, 1) := by decide +kernel
theorem dL_start_0 : decode cL_start 0 = .ok (.aload_n 3, 1) := by decide +kernel
theorem dL_start_1 : decode cL_start 1 = .ok (.iconst 0, 1) := by decide +kernel
theorem dL_start_2 : decode cL_start 2 = .ok (.aload_n 0, 1) := by decide +kernel
theorem dL_start_3 : decode cL_start 3 = .ok (.iload_n 1, 1) := by decide +kernel
theorem dL_start_4 : decode cL_start 4 = .ok (.iload_n 2, 1) := by decide +kernel
theorem dL_start_5 : decode cL_start 5 = .ok (.invokevirtual 69, 3) := by decide +kernel
theorem dL_start_13 : decode cL_start 13 = .ok (.astore 4, 2) := by decide +kernel
theorem dL_start_15 : decode cL_start 15 = .ok (.iconst 1, 1) := by decide +kernel
theorem dL_start_16 : decode cL_start 16 = .ok (.ireturn, 1) := by decide +kernel
theorem dL_startOf_0 : decode cL_startOf 0 = .ok (.aload_n 2, 1) := by decide +kernel
theorem dL_startOf_1 : decode cL_startOf 1 = .ok (.iconst 0, 1) := by decide +kernel
theorem dL_startOf_2 : decode cL_startOf 2 = .ok (.aload_n 0, 1) := by decide +kernel
theorem dL_startOf_3 : decode cL_startOf 3 = .ok (.iload_n 1, 1) := by decide +kernel
theorem dL_startOf_4 : decode cL_startOf 4 = .ok (.invokevirtual 76, 3) := by decide +kernel
theorem dL_startOf_12 : decode cL_startOf 12 = .ok (.astore_n 3, 1) := by decide +kernel
theorem dL_startOf_13 : decode cL_startOf 13 = .ok (.iconst 1, 1) := by decide +kernel
theorem dL_startOf_14 : decode cL_startOf 14 = .ok (.ireturn, 1) := by decide +kernel
theorem dL_state_0 : decode cL_state 0 = .ok (.aload_n 2, 1) := by decide +kernel
theorem dL_state_1 : decode cL_state 1 = .ok (.iconst 0, 1) := by decide +kernel
theorem dL_state_2 : decode cL_state 2 = .ok (.aload_n 0, 1) := by decide +kernel
theorem dL_state_3 : decode cL_state 3 = .ok (.iload_n 1, 1) := by decide +kernel
theorem dL_state_4 : decode cL_state 4 = .ok (.invokevirtual 98, 3) := by decide +kernel
theorem dL_state_12 : decode cL_state 12 = .ok (.astore_n 3, 1) := by decide +kernel
theorem dL_state_13 : decode cL_state 13 = .ok (.iconst 1, 1) := by decide +kernel
theorem dL_state_14 : decode cL_state 14 = .ok (.ireturn, 1) := by decide +kernel
theorem dL_stolen_0 : decode cL_stolen 0 = .ok (.aload_n 3, 1) := by decide +kernel
theorem dL_stolen_1 : decode cL_stolen 1 = .ok (.iconst 0, 1) := by decide +kernel
theorem dL_stolen_2 : decode cL_stolen 2 = .ok (.aload_n 0, 1) := by decide +kernel
theorem dL_stolen_3 : decode cL_stolen 3 = .ok (.iload_n 1, 1) := by decide +kernel
theorem dL_stolen_4 : decode cL_stolen 4 = .ok (.iload_n 2, 1) := by decide +kernel
theorem dL_stolen_5 : decode cL_stolen 5 = .ok (.invokevirtual 88, 3) := by decide +kernel
theorem dL_stolen_13 : decode cL_stolen 13 = .ok (.astore 4, 2) := by decide +kernel
theorem dL_stolen_15 : decode cL_stolen 15 = .ok (.iconst 1, 1) := by decide +kernel
theorem dL_stolen_16 : decode cL_stolen 16 = .ok (.ireturn, 1) := by decide +kernel
theorem dL_team_0 : decode cL_team 0 = .ok (.aload_n 3, 1) := by decide +kernel
theorem dL_team_1 : decode cL_team 1 = .ok (.iconst 0, 1) := by decide +kernel
theorem dL_team_2 : decode cL_team 2 = .ok (.aload_n 0, 1) := by decide +kernel
theorem dL_team_3 : decode cL_team 3 = .ok (.iload_n 1, 1) := by decide +kernel
theorem dL_team_4 : decode cL_team 4 = .ok (.iload_n 2, 1) := by decide +kernel
theorem dL_team_5 : decode cL_team 5 = .ok (.invokevirtual 123, 3) := by decide +kernel
theorem dL_team_13 : decode cL_team 13 = .ok (.astore 4, 2) := by decide +kernel
theorem dL_team_15 : decode cL_team 15 = .ok (.iconst 1, 1) := by decide +kernel
theorem dL_team_16 : decode cL_team 16 = .ok (.ireturn, 1) := by decide +kernel
theorem dL_time_0 : decode cL_time 0 = .ok (.aload_n 2, 1) := by decide +kernel
theorem dL_time_1 : decode cL_time 1 = .ok (.iconst 0, 1) := by decide +kernel
theorem dL_time_2 : decode cL_time 2 = .ok (.aload_n 0, 1) := by decide +kernel
theorem dL_time_3 : decode cL_time 3 = .ok (.iload_n 1, 1) := by decide +kernel
theorem dL_time_4 : decode cL_time 4 = .ok (.invokevirtual 102, 3) := by decide +kernel
theorem dL_time_12 : decode cL_time 12 = .ok (.astore_n 3, 1) := by decide +kernel
theorem dL_time_13 : decode cL_time 13 = .ok (.iconst 1, 1) := by decide +kernel
theorem dL_time_14 : decode cL_time 14 = .ok (.ireturn, 1) := by decide +kernel
theorem dL_voided_0 : decode cL_voided 0 = .ok (.aload 4, 2) := by decide +kernel
theorem dL_voided_2 : decode cL_voided 2 = .ok (.iconst 0, 1) := by decide +kernel
theorem dL_voided_3 : decode cL_voided 3 = .ok (.aload_n 0, 1) := by decide +kernel
theorem dL_voided_4 : decode cL_voided 4 = .ok (.iload_n 1, 1) := by decide +kernel
theorem dL_voided_5 : decode cL_voided 5 = .ok (.iload_n 2, 1) := by decide +kernel
theorem dL_voided_6 : decode cL_voided 6 = .ok (.iload_n 3, 1) := by decide +kernel
theorem dL_voided_7 : decode cL_voided 7 = .ok (.invokevirtual 91, 3) := by decide +kernel
theorem dL_voided_22 : decode cL_voided 22 = .ok (.astore 5, 2) := by decide +kernel
theorem dL_voided_24 : decode cL_voided 24 = .ok (.iconst 1, 1) := by decide +kernel
theorem dL_voided_25 : decode cL_voided 25 = .ok (.ireturn, 1) := by decide +kernel
/-! the law's calls of a new object -/
def us_c_Ladd : List Cond := .codeWith yL_add cL_add 5 (some .int) [(0, 10, 13, 19), (0, 10, 17, 38), (0, 10, 21, 40)] :: (([.methodLink RL 50 yX6_add, .instanceMethod yX6_add, .selects RX6 yX6_add yX6_add, .initialized RX6, .classLink RL 19 "java/lang/IndexOutOfBoundsException"] : List Cond) ++ (us_c_add ++ ([])))
theorem gw_c_Ladd : ∀ w ∈ us_c_Ladd, goodWord w = true := gw_cons rfl (gw_app (by decide +kernel) (gw_app gw_c_add (fun _ h => nomatch h)))
set_option maxHeartbeats 4000000 in
set_option maxRecDepth 100000 in
/-- the law calls add -/
theorem c_Ladd (l : Launch) (hst : l.stackTraces = false) (D : va_G) (x : Nat) (g : Nat) (ca : Nat) (co : Nat) (ra : Nat) (rl : Nat) (tr : Nat) (f9 : Nat) (f10 : Nat) (f11 : Nat) (f12 : Nat) (f13 : Nat) (p0 : Int32) (p1 : Int32) (oo : Nat) (coo : ClassId) (f0 : Nat → Int64) (sz : Nat) : Met l yL_add us_c_Ladd { frames := 9, cells := 1, slots := 6, locals := 147 } (pw D [.ref x, .int p0, .int p1, .ref oo] [(coo, .long)] [(x, .inr (13, [.ref g, .ref ca, .int 0, .ref co, .int 0, .ref ra, .int 0, .ref rl, .ref tr, .ref f9, .ref f10, .ref f11, .ref f12, .ref f13])), (oo, .inl (coo, 1, .inr (.inl f0)))] sz) (va_Qi (fun (r : Int32) (u : Nat → Int64) => r = kf_add p0 p1 ∧ (kf_add p0 p1 = 0 → u 0 = (rf_add p0 p1).toInt64)) (qb D (va_A [(x, .inr (13, [.ref g, .ref ca, .int 0, .ref co, .int 0, .ref ra, .int 0, .ref rl, .ref tr, .ref f9, .ref f10, .ref f11, .ref f12, .ref f13])), (oo, .inl (coo, 1, .inr (.inl f0)))] sz) (fun u : (Nat → Int64) => [(oo, .inl (coo, 1, .inr (.inl u)))]) (fun u : (Nat → Int64) => ([] : List (ClassId × FieldType)))) (va_A [(x, .inr (13, [.ref g, .ref ca, .int 0, .ref co, .int 0, .ref ra, .int 0, .ref rl, .ref tr, .ref f9, .ref f10, .ref f11, .ref f12, .ref f13])), (oo, .inl (coo, 1, .inr (.inl f0)))] sz)) 1 6 (va_A [(x, .inr (13, [.ref g, .ref ca, .int 0, .ref co, .int 0, .ref ra, .int 0, .ref rl, .ref tr, .ref f9, .ref f10, .ref f11, .ref f12, .ref f13])), (oo, .inl (coo, 1, .inr (.inl f0)))] sz) := by
  refine op_H (Qc := fun A => (va_Qi (fun (r : Int32) (u : Nat → Int64) => r = kf_add p0 p1 ∧ (kf_add p0 p1 = 0 → u 0 = (rf_add p0 p1).toInt64)) (qb D A (fun u : (Nat → Int64) => [(oo, .inl (coo, 1, .inr (.inl u)))]) (fun u : (Nat → Int64) => ([] : List (ClassId × FieldType)))) A)) (by decide +kernel) rfl (Nat.le_of_ble_eq_true rfl) ?_
  intro p e s m args below meth c A ls hx hb hr hml hts hown hlocks hmn htab hA hD hS hP hK hE hsz hl
  have hown : s.vm.findClass RL = some m.cls := hown
  have hl : lv_has ls 5 [(0, .ref x), (1, .int p0), (2, .int p1), (3, .ref oo)] := hl
  have hw_0 := hts (.methodLink RL 50 yX6_add) (List.mem_cons_of_mem _ (List.mem_append_left _ (List.mem_of_getElem? (i := 0) rfl)))
  have hw_1 := hts (.instanceMethod yX6_add) (List.mem_cons_of_mem _ (List.mem_append_left _ (List.mem_of_getElem? (i := 1) rfl)))
  have hw_2 := hts (.selects RX6 yX6_add yX6_add) (List.mem_cons_of_mem _ (List.mem_append_left _ (List.mem_of_getElem? (i := 2) rfl)))
  have hw_3 := hts (.initialized RX6) (List.mem_cons_of_mem _ (List.mem_append_left _ (List.mem_of_getElem? (i := 3) rfl)))
  have hw_4 := hts (.classLink RL 19 "java/lang/IndexOutOfBoundsException") (List.mem_cons_of_mem _ (List.mem_append_left _ (List.mem_of_getElem? (i := 4) rfl)))
  have hb_0 : ∀ w ∈ us_c_add, w ∈ us_c_Ladd := fun w h => List.mem_cons_of_mem _ (List.mem_append_right _ (List.mem_append_left _ h))
  refine lv_aload_n hx hb dL_add_0 rfl (lv_at hl 3 rfl) ?_
  refine lv_iconst (v := 0) hx hb dL_add_1 (by decide) ?_
  refine lv_aload_n hx hb dL_add_2 rfl (lv_at hl 0 rfl) ?_
  refine lv_iload_n hx hb dL_add_3 rfl (lv_at hl 1 rfl) ?_
  refine lv_iload_n hx hb dL_add_4 rfl (lv_at hl 2 rfl) ?_
  refine mtc (wr := [(oo, .inl (coo, 1, .inr (.inl f0)))]) (vx_runV (As := [.int p0, .int p1]) (rest := [.int 0, .ref oo]) ⟨hx, hb, hml, hown, hts⟩ (c_add l hst D x g ca co ra rl tr f9 f10 f11 f12 f13 p0 p1 s.heap.size) (cwV 2 hts (gi_c (List.mem_cons_of_mem _ (List.mem_append_left _ (List.mem_of_getElem? (i := 0) rfl))) rfl (gi_c (List.mem_cons_of_mem _ (List.mem_append_left _ (List.mem_of_getElem? (i := 1) rfl))) rfl (gi_c (List.mem_cons_of_mem _ (List.mem_append_left _ (List.mem_of_getElem? (i := 2) rfl))) rfl (gi_c (List.mem_cons_of_mem _ (List.mem_append_left _ (List.mem_of_getElem? (i := 3) rfl))) rfl (goodIn_sub hb_0 (List.all_eq_true.mpr gw_c_add)))))) rfl rfl rfl (by decide +kernel) ⟨Nat.le_of_ble_eq_true rfl, Nat.le_of_ble_eq_true rfl⟩) (pr_V (As := [.int p0, .int p1]) (b := x) (C := RX6) hP hD hK hS hA hE [0] [] rfl rfl rfl 0 13 rfl rfl rfl) rfl rfl hl.1 rfl (lv_room (Nat.le_of_ble_eq_true rfl)) dL_add_5 ⟨Nat.le_of_ble_eq_true rfl, Nat.le_of_ble_eq_true rfl⟩) hP hD hS hA [0] [1] rfl rfl (by decide) (by decide) (fun E ce q9 H locs hp hP hD hS hq1 hq2 hq3 => ?_)
  have hKx := hE.2.2.2.2.2.1
  have hP : va_P D vwCl [(oo, .inl (coo, 1, .inr (.inl f0)))] H := hP
  have hD : va_D A [(oo, .inl (coo, 1, .inr (.inl f0)))] := hD
  rcases hp with rfl
  refine vx_catch (E := "java/lang/IndexOutOfBoundsException") (name := "java/lang/IndexOutOfBoundsException") hown [] (⟨0, 10, 13, 19⟩ : ExceptionTableEntry) [(⟨0, 10, 17, 38⟩ : ExceptionTableEntry), (⟨0, 10, 21, 40⟩ : ExceptionTableEntry)] (htab.trans rfl) (fun z hz => nomatch hz) rfl (by decide) hw_4 (hKx.use _ (List.mem_of_getElem? (i := 4) rfl)) hq1 hq2 hq3 ?_
  refine W.eq (g2 := F0 m 13 ls [.ref q9]) rfl ?_
  refine lv_astore (lv' := [(4, .ref q9), (0, .ref x), (1, .int p0), (2, .int p1), (3, .ref oo)]) hx hb dL_add_13 hl (by decide) rfl (fun ls hl => ?_)
  refine lv_iconst (v := 1) hx hb dL_add_15 (by decide) ?_
  exact mr_i hx hb hr f0 (⟨rfl, fun q9 => absurd (show (1 : Int32) = 0 from q9) (by decide)⟩) (hP.sub [0] rfl) (hK.sub [] rfl) (hD.sub [0] (by decide) rfl) hS (Nat.le_of_ble_eq_true rfl) (Nat.le_of_ble_eq_true rfl) hlocks dL_add_16

def us_c_LareNear : List Cond := .codeWith yL_areNear cL_areNear 5 (some .int) [(0, 17, 20, 19)] :: (([.methodLink RL 42 yX6_areNear, .instanceMethod yX6_areNear, .selects RX6 yX6_areNear yX6_areNear, .initialized RX6, .classLink RL 19 "java/lang/IndexOutOfBoundsException"] : List Cond) ++ (us_c_areNear ++ ([])))
theorem gw_c_LareNear : ∀ w ∈ us_c_LareNear, goodWord w = true := gw_cons rfl (gw_app (by decide +kernel) (gw_app gw_c_areNear (fun _ h => nomatch h)))
set_option maxHeartbeats 4000000 in
set_option maxRecDepth 100000 in
/-- the law calls areNear -/
theorem c_LareNear (l : Launch) (hst : l.stackTraces = false) (D : va_G) (x : Nat) (g : Nat) (ca : Nat) (co : Nat) (ra : Nat) (rl : Nat) (tr : Nat) (f9 : Nat) (f10 : Nat) (f11 : Nat) (f12 : Nat) (f13 : Nat) (p0 : Int32) (p1 : Int32) (oo : Nat) (coo : ClassId) (f0 : Nat → Int64) (sz : Nat) : Met l yL_areNear us_c_LareNear { frames := 9, cells := 1, slots := 6, locals := 147 } (pw D [.ref x, .int p0, .int p1, .ref oo] [(coo, .long)] [(x, .inr (13, [.ref g, .ref ca, .int 0, .ref co, .int 0, .ref ra, .int 0, .ref rl, .ref tr, .ref f9, .ref f10, .ref f11, .ref f12, .ref f13])), (oo, .inl (coo, 1, .inr (.inl f0)))] sz) (va_Qi (fun (r : Int32) (u : Nat → Int64) => r = kf_areNear p0 p1 ∧ (kf_areNear p0 p1 = 0 → u 0 = (rf_areNear p0 p1).toInt64)) (qb D (va_A [(x, .inr (13, [.ref g, .ref ca, .int 0, .ref co, .int 0, .ref ra, .int 0, .ref rl, .ref tr, .ref f9, .ref f10, .ref f11, .ref f12, .ref f13])), (oo, .inl (coo, 1, .inr (.inl f0)))] sz) (fun u : (Nat → Int64) => [(oo, .inl (coo, 1, .inr (.inl u)))]) (fun u : (Nat → Int64) => ([] : List (ClassId × FieldType)))) (va_A [(x, .inr (13, [.ref g, .ref ca, .int 0, .ref co, .int 0, .ref ra, .int 0, .ref rl, .ref tr, .ref f9, .ref f10, .ref f11, .ref f12, .ref f13])), (oo, .inl (coo, 1, .inr (.inl f0)))] sz)) 1 6 (va_A [(x, .inr (13, [.ref g, .ref ca, .int 0, .ref co, .int 0, .ref ra, .int 0, .ref rl, .ref tr, .ref f9, .ref f10, .ref f11, .ref f12, .ref f13])), (oo, .inl (coo, 1, .inr (.inl f0)))] sz) := by
  refine op_H (Qc := fun A => (va_Qi (fun (r : Int32) (u : Nat → Int64) => r = kf_areNear p0 p1 ∧ (kf_areNear p0 p1 = 0 → u 0 = (rf_areNear p0 p1).toInt64)) (qb D A (fun u : (Nat → Int64) => [(oo, .inl (coo, 1, .inr (.inl u)))]) (fun u : (Nat → Int64) => ([] : List (ClassId × FieldType)))) A)) (by decide +kernel) rfl (Nat.le_of_ble_eq_true rfl) ?_
  intro p e s m args below meth c A ls hx hb hr hml hts hown hlocks hmn htab hA hD hS hP hK hE hsz hl
  have hown : s.vm.findClass RL = some m.cls := hown
  have hl : lv_has ls 5 [(0, .ref x), (1, .int p0), (2, .int p1), (3, .ref oo)] := hl
  have hw_0 := hts (.methodLink RL 42 yX6_areNear) (List.mem_cons_of_mem _ (List.mem_append_left _ (List.mem_of_getElem? (i := 0) rfl)))
  have hw_1 := hts (.instanceMethod yX6_areNear) (List.mem_cons_of_mem _ (List.mem_append_left _ (List.mem_of_getElem? (i := 1) rfl)))
  have hw_2 := hts (.selects RX6 yX6_areNear yX6_areNear) (List.mem_cons_of_mem _ (List.mem_append_left _ (List.mem_of_getElem? (i := 2) rfl)))
  have hw_3 := hts (.initialized RX6) (List.mem_cons_of_mem _ (List.mem_append_left _ (List.mem_of_getElem? (i := 3) rfl)))
  have hw_4 := hts (.classLink RL 19 "java/lang/IndexOutOfBoundsException") (List.mem_cons_of_mem _ (List.mem_append_left _ (List.mem_of_getElem? (i := 4) rfl)))
  have hb_0 : ∀ w ∈ us_c_areNear, w ∈ us_c_LareNear := fun w h => List.mem_cons_of_mem _ (List.mem_append_right _ (List.mem_append_left _ h))
  refine lv_aload_n hx hb dL_areNear_0 rfl (lv_at hl 3 rfl) ?_
  refine lv_iconst (v := 0) hx hb dL_areNear_1 (by decide) ?_
  refine lv_aload_n hx hb dL_areNear_2 rfl (lv_at hl 0 rfl) ?_
  refine lv_iload_n hx hb dL_areNear_3 rfl (lv_at hl 1 rfl) ?_
  refine lv_iload_n hx hb dL_areNear_4 rfl (lv_at hl 2 rfl) ?_
  refine mtc (wr := [(oo, .inl (coo, 1, .inr (.inl f0)))]) (vx_runV (As := [.int p0, .int p1]) (rest := [.int 0, .ref oo]) ⟨hx, hb, hml, hown, hts⟩ (c_areNear l hst D x g ca co ra rl tr f9 f10 f11 f12 f13 p0 p1 s.heap.size) (cwV 2 hts (gi_c (List.mem_cons_of_mem _ (List.mem_append_left _ (List.mem_of_getElem? (i := 0) rfl))) rfl (gi_c (List.mem_cons_of_mem _ (List.mem_append_left _ (List.mem_of_getElem? (i := 1) rfl))) rfl (gi_c (List.mem_cons_of_mem _ (List.mem_append_left _ (List.mem_of_getElem? (i := 2) rfl))) rfl (gi_c (List.mem_cons_of_mem _ (List.mem_append_left _ (List.mem_of_getElem? (i := 3) rfl))) rfl (goodIn_sub hb_0 (List.all_eq_true.mpr gw_c_areNear)))))) rfl rfl rfl (by decide +kernel) ⟨Nat.le_of_ble_eq_true rfl, Nat.le_of_ble_eq_true rfl⟩) (pr_V (As := [.int p0, .int p1]) (b := x) (C := RX6) hP hD hK hS hA hE [0] [] rfl rfl rfl 0 13 rfl rfl rfl) rfl rfl hl.1 rfl (lv_room (Nat.le_of_ble_eq_true rfl)) dL_areNear_5 ⟨Nat.le_of_ble_eq_true rfl, Nat.le_of_ble_eq_true rfl⟩) hP hD hS hA [0] [1] rfl rfl (by decide) (by decide) (fun E ce q9 H locs hp hP hD hS hq1 hq2 hq3 => ?_)
  have hKx := hE.2.2.2.2.2.1
  have hP : va_P D vwCl [(oo, .inl (coo, 1, .inr (.inl f0)))] H := hP
  have hD : va_D A [(oo, .inl (coo, 1, .inr (.inl f0)))] := hD
  rcases hp with rfl
  refine vx_catch (E := "java/lang/IndexOutOfBoundsException") (name := "java/lang/IndexOutOfBoundsException") hown [] (⟨0, 17, 20, 19⟩ : ExceptionTableEntry) [] (htab.trans rfl) (fun z hz => nomatch hz) rfl (by decide) hw_4 (hKx.use _ (List.mem_of_getElem? (i := 4) rfl)) hq1 hq2 hq3 ?_
  refine W.eq (g2 := F0 m 20 ls [.ref q9]) rfl ?_
  refine lv_astore (lv' := [(4, .ref q9), (0, .ref x), (1, .int p0), (2, .int p1), (3, .ref oo)]) hx hb dL_areNear_20 hl (by decide) rfl (fun ls hl => ?_)
  refine lv_iconst (v := 1) hx hb dL_areNear_22 (by decide) ?_
  exact mr_i hx hb hr f0 (⟨rfl, fun q9 => absurd (show (1 : Int32) = 0 from q9) (by decide)⟩) (hP.sub [0] rfl) (hK.sub [] rfl) (hD.sub [0] (by decide) rfl) hS (Nat.le_of_ble_eq_true rfl) (Nat.le_of_ble_eq_true rfl) hlocks dL_areNear_23

def us_c_Lbranches : List Cond := .codeWith yL_branches cL_branches 5 (some .int) [(0, 10, 13, 19), (0, 10, 17, 13), (0, 10, 21, 38)] :: (([.methodLink RL 66 yX6_branches, .instanceMethod yX6_branches, .selects RX6 yX6_branches yX6_branches, .initialized RX6, .classLink RL 19 "java/lang/IndexOutOfBoundsException"] : List Cond) ++ (us_c_branches ++ ([])))
theorem gw_c_Lbranches : ∀ w ∈ us_c_Lbranches, goodWord w = true := gw_cons rfl (gw_app (by decide +kernel) (gw_app gw_c_branches (fun _ h => nomatch h)))
set_option maxHeartbeats 4000000 in
set_option maxRecDepth 100000 in
/-- the law calls branches -/
theorem c_Lbranches (l : Launch) (hst : l.stackTraces = false) (D : va_G) (x : Nat) (g : Nat) (ca : Nat) (co : Nat) (ra : Nat) (rl : Nat) (tr : Nat) (f9 : Nat) (f10 : Nat) (f11 : Nat) (f12 : Nat) (f13 : Nat) (p0 : Int32) (p1 : Int32) (oo : Nat) (coo : ClassId) (f0 : Nat → Int64) (sz : Nat) : Met l yL_branches us_c_Lbranches { frames := 9, cells := 1, slots := 6, locals := 148 } (pw D [.ref x, .int p0, .int p1, .ref oo] [(coo, .long)] [(x, .inr (13, [.ref g, .ref ca, .int 0, .ref co, .int 0, .ref ra, .int 0, .ref rl, .ref tr, .ref f9, .ref f10, .ref f11, .ref f12, .ref f13])), (oo, .inl (coo, 1, .inr (.inl f0)))] sz) (va_Qi (fun (r : Int32) (u : Nat → Int64) => r = kf_branches p0 p1 ∧ (kf_branches p0 p1 = 0 → u 0 = (rf_branches p0 p1).toInt64)) (qb D (va_A [(x, .inr (13, [.ref g, .ref ca, .int 0, .ref co, .int 0, .ref ra, .int 0, .ref rl, .ref tr, .ref f9, .ref f10, .ref f11, .ref f12, .ref f13])), (oo, .inl (coo, 1, .inr (.inl f0)))] sz) (fun u : (Nat → Int64) => [(oo, .inl (coo, 1, .inr (.inl u)))]) (fun u : (Nat → Int64) => ([] : List (ClassId × FieldType)))) (va_A [(x, .inr (13, [.ref g, .ref ca, .int 0, .ref co, .int 0, .ref ra, .int 0, .ref rl, .ref tr, .ref f9, .ref f10, .ref f11, .ref f12, .ref f13])), (oo, .inl (coo, 1, .inr (.inl f0)))] sz)) 1 6 (va_A [(x, .inr (13, [.ref g, .ref ca, .int 0, .ref co, .int 0, .ref ra, .int 0, .ref rl, .ref tr, .ref f9, .ref f10, .ref f11, .ref f12, .ref f13])), (oo, .inl (coo, 1, .inr (.inl f0)))] sz) := by
  refine op_H (Qc := fun A => (va_Qi (fun (r : Int32) (u : Nat → Int64) => r = kf_branches p0 p1 ∧ (kf_branches p0 p1 = 0 → u 0 = (rf_branches p0 p1).toInt64)) (qb D A (fun u : (Nat → Int64) => [(oo, .inl (coo, 1, .inr (.inl u)))]) (fun u : (Nat → Int64) => ([] : List (ClassId × FieldType)))) A)) (by decide +kernel) rfl (Nat.le_of_ble_eq_true rfl) ?_
  intro p e s m args below meth c A ls hx hb hr hml hts hown hlocks hmn htab hA hD hS hP hK hE hsz hl
  have hown : s.vm.findClass RL = some m.cls := hown
  have hl : lv_has ls 5 [(0, .ref x), (1, .int p0), (2, .int p1), (3, .ref oo)] := hl
  have hw_0 := hts (.methodLink RL 66 yX6_branches) (List.mem_cons_of_mem _ (List.mem_append_left _ (List.mem_of_getElem? (i := 0) rfl)))
  have hw_1 := hts (.instanceMethod yX6_branches) (List.mem_cons_of_mem _ (List.mem_append_left _ (List.mem_of_getElem? (i := 1) rfl)))
  have hw_2 := hts (.selects RX6 yX6_branches yX6_branches) (List.mem_cons_of_mem _ (List.mem_append_left _ (List.mem_of_getElem? (i := 2) rfl)))
  have hw_3 := hts (.initialized RX6) (List.mem_cons_of_mem _ (List.mem_append_left _ (List.mem_of_getElem? (i := 3) rfl)))
  have hw_4 := hts (.classLink RL 19 "java/lang/IndexOutOfBoundsException") (List.mem_cons_of_mem _ (List.mem_append_left _ (List.mem_of_getElem? (i := 4) rfl)))
  have hb_0 : ∀ w ∈ us_c_branches, w ∈ us_c_Lbranches := fun w h => List.mem_cons_of_mem _ (List.mem_append_right _ (List.mem_append_left _ h))
  refine lv_aload_n hx hb dL_branches_0 rfl (lv_at hl 3 rfl) ?_
  refine lv_iconst (v := 0) hx hb dL_branches_1 (by decide) ?_
  refine lv_aload_n hx hb dL_branches_2 rfl (lv_at hl 0 rfl) ?_
  refine lv_iload_n hx hb dL_branches_3 rfl (lv_at hl 1 rfl) ?_
  refine lv_iload_n hx hb dL_branches_4 rfl (lv_at hl 2 rfl) ?_
  refine mtc (wr := [(oo, .inl (coo, 1, .inr (.inl f0)))]) (vx_runV (As := [.int p0, .int p1]) (rest := [.int 0, .ref oo]) ⟨hx, hb, hml, hown, hts⟩ (c_branches l hst D x g ca co ra rl tr f9 f10 f11 f12 f13 p0 p1 s.heap.size) (cwV 2 hts (gi_c (List.mem_cons_of_mem _ (List.mem_append_left _ (List.mem_of_getElem? (i := 0) rfl))) rfl (gi_c (List.mem_cons_of_mem _ (List.mem_append_left _ (List.mem_of_getElem? (i := 1) rfl))) rfl (gi_c (List.mem_cons_of_mem _ (List.mem_append_left _ (List.mem_of_getElem? (i := 2) rfl))) rfl (gi_c (List.mem_cons_of_mem _ (List.mem_append_left _ (List.mem_of_getElem? (i := 3) rfl))) rfl (goodIn_sub hb_0 (List.all_eq_true.mpr gw_c_branches)))))) rfl rfl rfl (by decide +kernel) ⟨Nat.le_of_ble_eq_true rfl, Nat.le_of_ble_eq_true rfl⟩) (pr_V (As := [.int p0, .int p1]) (b := x) (C := RX6) hP hD hK hS hA hE [0] [] rfl rfl rfl 0 13 rfl rfl rfl) rfl rfl hl.1 rfl (lv_room (Nat.le_of_ble_eq_true rfl)) dL_branches_5 ⟨Nat.le_of_ble_eq_true rfl, Nat.le_of_ble_eq_true rfl⟩) hP hD hS hA [0] [1] rfl rfl (by decide) (by decide) (fun E ce q9 H locs hp hP hD hS hq1 hq2 hq3 => ?_)
  have hKx := hE.2.2.2.2.2.1
  have hP : va_P D vwCl [(oo, .inl (coo, 1, .inr (.inl f0)))] H := hP
  have hD : va_D A [(oo, .inl (coo, 1, .inr (.inl f0)))] := hD
  rcases hp with rfl
  refine vx_catch (E := "java/lang/IndexOutOfBoundsException") (name := "java/lang/IndexOutOfBoundsException") hown [] (⟨0, 10, 13, 19⟩ : ExceptionTableEntry) [(⟨0, 10, 17, 13⟩ : ExceptionTableEntry), (⟨0, 10, 21, 38⟩ : ExceptionTableEntry)] (htab.trans rfl) (fun z hz => nomatch hz) rfl (by decide) hw_4 (hKx.use _ (List.mem_of_getElem? (i := 4) rfl)) hq1 hq2 hq3 ?_
  refine W.eq (g2 := F0 m 13 ls [.ref q9]) rfl ?_
  refine lv_astore (lv' := [(4, .ref q9), (0, .ref x), (1, .int p0), (2, .int p1), (3, .ref oo)]) hx hb dL_branches_13 hl (by decide) rfl (fun ls hl => ?_)
  refine lv_iconst (v := 1) hx hb dL_branches_15 (by decide) ?_
  exact mr_i hx hb hr f0 (⟨rfl, fun q9 => absurd (show (1 : Int32) = 0 from q9) (by decide)⟩) (hP.sub [0] rfl) (hK.sub [] rfl) (hD.sub [0] (by decide) rfl) hS (Nat.le_of_ble_eq_true rfl) (Nat.le_of_ble_eq_true rfl) hlocks dL_branches_16

def us_c_Lcell : List Cond := .codeWith yL_cell cL_cell 7 (some .int) [(0, 14, 17, 19), (0, 14, 21, 13)] :: (([.methodLink RL 15 yX6_cell, .instanceMethod yX6_cell, .selects RX6 yX6_cell yX6_cell, .initialized RX6, .classLink RL 19 "java/lang/IndexOutOfBoundsException", .classLink RL 13 "java/lang/IllegalArgumentException"] : List Cond) ++ (us_c_cell ++ ([])))
theorem gw_c_Lcell : ∀ w ∈ us_c_Lcell, goodWord w = true := gw_cons rfl (gw_app (by decide +kernel) (gw_app gw_c_cell (fun _ h => nomatch h)))
set_option maxHeartbeats 4000000 in
set_option maxRecDepth 100000 in
/-- the law calls cell -/
theorem c_Lcell (l : Launch) (hst : l.stackTraces = false) (D : va_G) (x : Nat) (g : Nat) (ca : Nat) (co : Nat) (ra : Nat) (rl : Nat) (tr : Nat) (f9 : Nat) (f10 : Nat) (f11 : Nat) (f12 : Nat) (f13 : Nat) (a1 : Nat) (a2 : Nat) (a3 : Nat) (a4 : Nat) (a5 : Nat) (a6 : Nat) (a7 : Nat) (a8 : Nat) (a9 : Nat) (a10 : Nat) (a11 : Nat) (ck : ClassId) (cg : ClassId) (ch : ClassId) (p0 : Int32) (p1 : Int32) (p2 : Int32) (p3 : Int32) (oo : Nat) (coo : ClassId) (f0 : Nat → Int64) (sz : Nat) : Met l yL_cell us_c_Lcell { frames := 9, cells := 4, slots := 24, locals := 149 } (pw D [.ref x, .int p0, .int p1, .int p2, .int p3, .ref oo] [(ck, .char), (cg, .int), (ch, .int), (coo, .long)] [(x, .inr (13, [.ref g, .ref ca, .int 0, .ref co, .int 0, .ref ra, .int 0, .ref rl, .ref tr, .ref f9, .ref f10, .ref f11, .ref f12, .ref f13])), (g, .inr (11, [.int 25, .ref a1, .ref a2, .ref a3, .ref a4, .ref a5, .ref a6, .ref a7, .ref a8, .ref a9, .ref a10, .ref a11, .int 0, .int 0])), (a3, .inl (ck, 144, .inl okF)), (a1, .inl (cg, 144, .inl (fun _ => 0))), (a2, .inl (ch, 144, .inl (fun _ => 0))), (oo, .inl (coo, 1, .inr (.inl f0)))] sz) (va_Qi (fun (r : Int32) (u : Nat → Int64) => r = kf_cell p0 p1 p2 p3 ∧ (kf_cell p0 p1 p2 p3 = 0 → u 0 = (rf_cell p0 p1 p2 p3).toInt64)) (qb D (va_A [(x, .inr (13, [.ref g, .ref ca, .int 0, .ref co, .int 0, .ref ra, .int 0, .ref rl, .ref tr, .ref f9, .ref f10, .ref f11, .ref f12, .ref f13])), (g, .inr (11, [.int 25, .ref a1, .ref a2, .ref a3, .ref a4, .ref a5, .ref a6, .ref a7, .ref a8, .ref a9, .ref a10, .ref a11, .int 0, .int 0])), (a3, .inl (ck, 144, .inl okF)), (a1, .inl (cg, 144, .inl (fun _ => 0))), (a2, .inl (ch, 144, .inl (fun _ => 0))), (oo, .inl (coo, 1, .inr (.inl f0)))] sz) (fun u : (Nat → Int64) => [(oo, .inl (coo, 1, .inr (.inl u)))]) (fun u : (Nat → Int64) => ([] : List (ClassId × FieldType)))) (va_A [(x, .inr (13, [.ref g, .ref ca, .int 0, .ref co, .int 0, .ref ra, .int 0, .ref rl, .ref tr, .ref f9, .ref f10, .ref f11, .ref f12, .ref f13])), (g, .inr (11, [.int 25, .ref a1, .ref a2, .ref a3, .ref a4, .ref a5, .ref a6, .ref a7, .ref a8, .ref a9, .ref a10, .ref a11, .int 0, .int 0])), (a3, .inl (ck, 144, .inl okF)), (a1, .inl (cg, 144, .inl (fun _ => 0))), (a2, .inl (ch, 144, .inl (fun _ => 0))), (oo, .inl (coo, 1, .inr (.inl f0)))] sz)) 4 24 (va_A [(x, .inr (13, [.ref g, .ref ca, .int 0, .ref co, .int 0, .ref ra, .int 0, .ref rl, .ref tr, .ref f9, .ref f10, .ref f11, .ref f12, .ref f13])), (g, .inr (11, [.int 25, .ref a1, .ref a2, .ref a3, .ref a4, .ref a5, .ref a6, .ref a7, .ref a8, .ref a9, .ref a10, .ref a11, .int 0, .int 0])), (a3, .inl (ck, 144, .inl okF)), (a1, .inl (cg, 144, .inl (fun _ => 0))), (a2, .inl (ch, 144, .inl (fun _ => 0))), (oo, .inl (coo, 1, .inr (.inl f0)))] sz) := by
  refine op_H (Qc := fun A => (va_Qi (fun (r : Int32) (u : Nat → Int64) => r = kf_cell p0 p1 p2 p3 ∧ (kf_cell p0 p1 p2 p3 = 0 → u 0 = (rf_cell p0 p1 p2 p3).toInt64)) (qb D A (fun u : (Nat → Int64) => [(oo, .inl (coo, 1, .inr (.inl u)))]) (fun u : (Nat → Int64) => ([] : List (ClassId × FieldType)))) A)) (by decide +kernel) rfl (Nat.le_of_ble_eq_true rfl) ?_
  intro p e s m args below meth c A ls hx hb hr hml hts hown hlocks hmn htab hA hD hS hP hK hE hsz hl
  have hown : s.vm.findClass RL = some m.cls := hown
  have hl : lv_has ls 7 [(0, .ref x), (1, .int p0), (2, .int p1), (3, .int p2), (4, .int p3), (5, .ref oo)] := hl
  have hw_0 := hts (.methodLink RL 15 yX6_cell) (List.mem_cons_of_mem _ (List.mem_append_left _ (List.mem_of_getElem? (i := 0) rfl)))
  have hw_1 := hts (.instanceMethod yX6_cell) (List.mem_cons_of_mem _ (List.mem_append_left _ (List.mem_of_getElem? (i := 1) rfl)))
  have hw_2 := hts (.selects RX6 yX6_cell yX6_cell) (List.mem_cons_of_mem _ (List.mem_append_left _ (List.mem_of_getElem? (i := 2) rfl)))
  have hw_3 := hts (.initialized RX6) (List.mem_cons_of_mem _ (List.mem_append_left _ (List.mem_of_getElem? (i := 3) rfl)))
  have hw_4 := hts (.classLink RL 19 "java/lang/IndexOutOfBoundsException") (List.mem_cons_of_mem _ (List.mem_append_left _ (List.mem_of_getElem? (i := 4) rfl)))
  have hw_5 := hts (.classLink RL 13 "java/lang/IllegalArgumentException") (List.mem_cons_of_mem _ (List.mem_append_left _ (List.mem_of_getElem? (i := 5) rfl)))
  have hb_0 : ∀ w ∈ us_c_cell, w ∈ us_c_Lcell := fun w h => List.mem_cons_of_mem _ (List.mem_append_right _ (List.mem_append_left _ h))
  refine lv_aload hx hb dL_cell_0 (lv_at hl 5 rfl) ?_
  refine lv_iconst (v := 0) hx hb dL_cell_2 (by decide) ?_
  refine lv_aload_n hx hb dL_cell_3 rfl (lv_at hl 0 rfl) ?_
  refine lv_iload_n hx hb dL_cell_4 rfl (lv_at hl 1 rfl) ?_
  refine lv_iload_n hx hb dL_cell_5 rfl (lv_at hl 2 rfl) ?_
  refine lv_iload_n hx hb dL_cell_6 rfl (lv_at hl 3 rfl) ?_
  refine lv_iload hx hb dL_cell_7 (lv_at hl 4 rfl) ?_
  refine mxc_i (wr := [(oo, .inl (coo, 1, .inr (.inl f0)))]) (vx_runV (As := [.int p0, .int p1, .int p2, .int p3]) (rest := [.int 0, .ref oo]) ⟨hx, hb, hml, hown, hts⟩ (c_cell l hst D x g ca co ra rl tr f9 f10 f11 f12 f13 a1 a2 a3 a4 a5 a6 a7 a8 a9 a10 a11 ck cg ch p0 p1 p2 p3 s.heap.size) (cwV 4 hts (gi_c (List.mem_cons_of_mem _ (List.mem_append_left _ (List.mem_of_getElem? (i := 0) rfl))) rfl (gi_c (List.mem_cons_of_mem _ (List.mem_append_left _ (List.mem_of_getElem? (i := 1) rfl))) rfl (gi_c (List.mem_cons_of_mem _ (List.mem_append_left _ (List.mem_of_getElem? (i := 2) rfl))) rfl (gi_c (List.mem_cons_of_mem _ (List.mem_append_left _ (List.mem_of_getElem? (i := 3) rfl))) rfl (goodIn_sub hb_0 (List.all_eq_true.mpr gw_c_cell)))))) rfl rfl rfl (by decide +kernel) ⟨Nat.le_of_ble_eq_true rfl, Nat.le_of_ble_eq_true rfl⟩) (pr_V (As := [.int p0, .int p1, .int p2, .int p3]) (b := x) (C := RX6) hP hD hK hS hA hE [0, 1, 2, 3, 4] [0, 1, 2] rfl rfl rfl 0 13 rfl rfl rfl) rfl rfl hl.1 rfl (lv_room (Nat.le_of_ble_eq_true rfl)) dL_cell_9 ⟨Nat.le_of_ble_eq_true rfl, Nat.le_of_ble_eq_true rfl⟩) hP hD hK hS hA [0, 1, 2, 3, 4] [5] rfl rfl (by decide) (by decide) (fun E ce q9 H locs hp hP hD hS hq1 hq2 hq3 => ?_) (fun r2 _ H locs w1 hP hD hK hS => ?_)
  · have hKx := hE.2.2.2.2.2.1
    have hP : va_P D vwCl [(oo, .inl (coo, 1, .inr (.inl f0)))] H := hP
    have hD : va_D A [(oo, .inl (coo, 1, .inr (.inl f0)))] := hD
    rcases hp with ⟨rfl, hk⟩ | ⟨rfl, hk⟩
    · refine vx_catch (E := "java/lang/IndexOutOfBoundsException") (name := "java/lang/IndexOutOfBoundsException") hown [] (⟨0, 14, 17, 19⟩ : ExceptionTableEntry) [(⟨0, 14, 21, 13⟩ : ExceptionTableEntry)] (htab.trans rfl) (fun z hz => nomatch hz) rfl (by decide) hw_4 (hKx.use _ (List.mem_of_getElem? (i := 4) rfl)) hq1 hq2 hq3 ?_
      refine W.eq (g2 := F0 m 17 ls [.ref q9]) rfl ?_
      refine lv_astore (lv' := [(6, .ref q9), (0, .ref x), (1, .int p0), (2, .int p1), (3, .int p2), (4, .int p3), (5, .ref oo)]) hx hb dL_cell_17 hl (by decide) rfl (fun ls hl => ?_)
      refine lv_iconst (v := 1) hx hb dL_cell_19 (by decide) ?_
      exact mr_i hx hb hr f0 (⟨hk.symm, fun q9 => absurd (hk.symm.trans q9) (by decide)⟩) (hP.sub [0] rfl) (hK.sub [] rfl) (hD.sub [0] (by decide) rfl) hS (Nat.le_of_ble_eq_true rfl) (Nat.le_of_ble_eq_true rfl) hlocks dL_cell_20
    · refine vx_catch (E := "java/lang/IllegalArgumentException") (name := "java/lang/IllegalArgumentException") hown [(⟨0, 14, 17, 19⟩ : ExceptionTableEntry)] (⟨0, 14, 21, 13⟩ : ExceptionTableEntry) [] (htab.trans rfl) (List.forall_mem_cons.mpr ⟨Or.inr ⟨by decide, "java/lang/IndexOutOfBoundsException", hw_4, hKx.2.1⟩, (fun z hz => nomatch hz)⟩) rfl (by decide) hw_5 (hKx.use _ (List.mem_of_getElem? (i := 3) rfl)) hq1 hq2 hq3 ?_
      refine W.eq (g2 := F0 m 21 ls [.ref q9]) rfl ?_
      refine lv_astore (lv' := [(6, .ref q9), (0, .ref x), (1, .int p0), (2, .int p1), (3, .int p2), (4, .int p3), (5, .ref oo)]) hx hb dL_cell_21 hl (by decide) rfl (fun ls hl => ?_)
      refine lv_iconst (v := 2) hx hb dL_cell_23 (by decide) ?_
      exact mr_i hx hb hr f0 (⟨hk.symm, fun q9 => absurd (hk.symm.trans q9) (by decide)⟩) (hP.sub [0] rfl) (hK.sub [] rfl) (hD.sub [0] (by decide) rfl) hS (Nat.le_of_ble_eq_true rfl) (Nat.le_of_ble_eq_true rfl) hlocks dL_cell_24
  · have hP : va_P D vwCl [(oo, .inl (coo, 1, .inr (.inl f0)))] H := hP
    have hD : va_D A [(oo, .inl (coo, 1, .inr (.inl f0)))] := hD
    have hK : va_K D vwCl [(ck, .char), (cg, .int), (ch, .int), (coo, .long)] s := hK
    refine lv_i2l hx hb dL_cell_12 rfl ?_
    refine lv_topl (fun x3 e3 => ?_)
    obtain rfl : x3 = r2.toInt64 := e3
    refine va_last hx hb hK hP hD hS 0 3 rfl rfl (vp_in_nI (n := 0) (by decide) (by decide)) dL_cell_13 (fun H locs hP hD hS => ?_)
    have hP : va_P D vwCl [(oo, .inl (coo, 1, .inr (.inl (vp_updL f0 ((0 : Int32).toNatClampNeg) r2.toInt64))))] H := hP
    have hD : va_D A [(oo, .inl (coo, 1, .inr (.inl (vp_updL f0 ((0 : Int32).toNatClampNeg) r2.toInt64))))] := hD
    refine lv_goto (tgt := 25) hx hb dL_cell_14 (by decide) ?_
    refine lv_iconst (v := 0) hx hb dL_cell_25 (by decide) ?_
    exact mr_i hx hb hr (vp_updL f0 ((0 : Int32).toNatClampNeg) r2.toInt64) (⟨w1.1.symm, fun _ => by rw [← w1.2]; rfl⟩) (hP.sub [0] rfl) (hK.sub [] rfl) (hD.sub [0] (by decide) rfl) hS (Nat.le_of_ble_eq_true rfl) (Nat.le_of_ble_eq_true rfl) hlocks dL_cell_26

def us_c_Lchangeover : List Cond := .codeWith yL_changeover cL_changeover 7 (some .int) [(0, 14, 17, 13)] :: (([.methodLink RL 133 yX6_changeover, .instanceMethod yX6_changeover, .selects RX6 yX6_changeover yX6_changeover, .initialized RX6, .classLink RL 13 "java/lang/IllegalArgumentException"] : List Cond) ++ (us_c_changeover ++ ([])))
theorem gw_c_Lchangeover : ∀ w ∈ us_c_Lchangeover, goodWord w = true := gw_cons rfl (gw_app (by decide +kernel) (gw_app gw_c_changeover (fun _ h => nomatch h)))
set_option maxHeartbeats 4000000 in
set_option maxRecDepth 100000 in
/-- the law calls changeover -/
theorem c_Lchangeover (l : Launch) (hst : l.stackTraces = false) (D : va_G) (x : Nat) (g : Nat) (ca : Nat) (co : Nat) (ra : Nat) (rl : Nat) (tr : Nat) (f9 : Nat) (f10 : Nat) (f11 : Nat) (f12 : Nat) (f13 : Nat) (p0 : Int32) (p1 : Int32) (p2 : Int32) (p3 : Int32) (oo : Nat) (coo : ClassId) (f0 : Nat → Int64) (sz : Nat) : Met l yL_changeover us_c_Lchangeover { frames := 8, cells := 4, slots := 24, locals := 130 } (pw D [.ref x, .int p0, .int p1, .int p2, .int p3, .ref oo] [(coo, .long)] [(x, .inr (13, [.ref g, .ref ca, .int 0, .ref co, .int 0, .ref ra, .int 0, .ref rl, .ref tr, .ref f9, .ref f10, .ref f11, .ref f12, .ref f13])), (oo, .inl (coo, 1, .inr (.inl f0)))] sz) (va_Qi (fun (r : Int32) (u : Nat → Int64) => r = kf_changeover p0 p1 p2 p3 ∧ (kf_changeover p0 p1 p2 p3 = 0 → u 0 = (rf_changeover p0 p1 p2 p3).toInt64)) (qb D (va_A [(x, .inr (13, [.ref g, .ref ca, .int 0, .ref co, .int 0, .ref ra, .int 0, .ref rl, .ref tr, .ref f9, .ref f10, .ref f11, .ref f12, .ref f13])), (oo, .inl (coo, 1, .inr (.inl f0)))] sz) (fun u : (Nat → Int64) => [(oo, .inl (coo, 1, .inr (.inl u)))]) (fun u : (Nat → Int64) => ([] : List (ClassId × FieldType)))) (va_A [(x, .inr (13, [.ref g, .ref ca, .int 0, .ref co, .int 0, .ref ra, .int 0, .ref rl, .ref tr, .ref f9, .ref f10, .ref f11, .ref f12, .ref f13])), (oo, .inl (coo, 1, .inr (.inl f0)))] sz)) 4 24 (va_A [(x, .inr (13, [.ref g, .ref ca, .int 0, .ref co, .int 0, .ref ra, .int 0, .ref rl, .ref tr, .ref f9, .ref f10, .ref f11, .ref f12, .ref f13])), (oo, .inl (coo, 1, .inr (.inl f0)))] sz) := by
  refine op_H (Qc := fun A => (va_Qi (fun (r : Int32) (u : Nat → Int64) => r = kf_changeover p0 p1 p2 p3 ∧ (kf_changeover p0 p1 p2 p3 = 0 → u 0 = (rf_changeover p0 p1 p2 p3).toInt64)) (qb D A (fun u : (Nat → Int64) => [(oo, .inl (coo, 1, .inr (.inl u)))]) (fun u : (Nat → Int64) => ([] : List (ClassId × FieldType)))) A)) (by decide +kernel) rfl (Nat.le_of_ble_eq_true rfl) ?_
  intro p e s m args below meth c A ls hx hb hr hml hts hown hlocks hmn htab hA hD hS hP hK hE hsz hl
  have hown : s.vm.findClass RL = some m.cls := hown
  have hl : lv_has ls 7 [(0, .ref x), (1, .int p0), (2, .int p1), (3, .int p2), (4, .int p3), (5, .ref oo)] := hl
  have hw_0 := hts (.methodLink RL 133 yX6_changeover) (List.mem_cons_of_mem _ (List.mem_append_left _ (List.mem_of_getElem? (i := 0) rfl)))
  have hw_1 := hts (.instanceMethod yX6_changeover) (List.mem_cons_of_mem _ (List.mem_append_left _ (List.mem_of_getElem? (i := 1) rfl)))
  have hw_2 := hts (.selects RX6 yX6_changeover yX6_changeover) (List.mem_cons_of_mem _ (List.mem_append_left _ (List.mem_of_getElem? (i := 2) rfl)))
  have hw_3 := hts (.initialized RX6) (List.mem_cons_of_mem _ (List.mem_append_left _ (List.mem_of_getElem? (i := 3) rfl)))
  have hw_4 := hts (.classLink RL 13 "java/lang/IllegalArgumentException") (List.mem_cons_of_mem _ (List.mem_append_left _ (List.mem_of_getElem? (i := 4) rfl)))
  have hb_0 : ∀ w ∈ us_c_changeover, w ∈ us_c_Lchangeover := fun w h => List.mem_cons_of_mem _ (List.mem_append_right _ (List.mem_append_left _ h))
  refine lv_aload hx hb dL_changeover_0 (lv_at hl 5 rfl) ?_
  refine lv_iconst (v := 0) hx hb dL_changeover_2 (by decide) ?_
  refine lv_aload_n hx hb dL_changeover_3 rfl (lv_at hl 0 rfl) ?_
  refine lv_iload_n hx hb dL_changeover_4 rfl (lv_at hl 1 rfl) ?_
  refine lv_iload_n hx hb dL_changeover_5 rfl (lv_at hl 2 rfl) ?_
  refine lv_iload_n hx hb dL_changeover_6 rfl (lv_at hl 3 rfl) ?_
  refine lv_iload hx hb dL_changeover_7 (lv_at hl 4 rfl) ?_
  refine mxc_i (wr := [(oo, .inl (coo, 1, .inr (.inl f0)))]) (vx_runV (As := [.int p0, .int p1, .int p2, .int p3]) (rest := [.int 0, .ref oo]) ⟨hx, hb, hml, hown, hts⟩ (c_changeover l hst D x g ca co ra rl tr f9 f10 f11 f12 f13 p0 p1 p2 p3 s.heap.size) (cwV 4 hts (gi_c (List.mem_cons_of_mem _ (List.mem_append_left _ (List.mem_of_getElem? (i := 0) rfl))) rfl (gi_c (List.mem_cons_of_mem _ (List.mem_append_left _ (List.mem_of_getElem? (i := 1) rfl))) rfl (gi_c (List.mem_cons_of_mem _ (List.mem_append_left _ (List.mem_of_getElem? (i := 2) rfl))) rfl (gi_c (List.mem_cons_of_mem _ (List.mem_append_left _ (List.mem_of_getElem? (i := 3) rfl))) rfl (goodIn_sub hb_0 (List.all_eq_true.mpr gw_c_changeover)))))) rfl rfl rfl (by decide +kernel) ⟨Nat.le_of_ble_eq_true rfl, Nat.le_of_ble_eq_true rfl⟩) (pr_V (As := [.int p0, .int p1, .int p2, .int p3]) (b := x) (C := RX6) hP hD hK hS hA hE [0] [] rfl rfl rfl 0 13 rfl rfl rfl) rfl rfl hl.1 rfl (lv_room (Nat.le_of_ble_eq_true rfl)) dL_changeover_9 ⟨Nat.le_of_ble_eq_true rfl, Nat.le_of_ble_eq_true rfl⟩) hP hD hK hS hA [0] [1] rfl rfl (by decide) (by decide) (fun E ce q9 H locs hp hP hD hS hq1 hq2 hq3 => ?_) (fun r2 _ H locs w1 hP hD hK hS => ?_)
  · have hKx := hE.2.2.2.2.2.1
    have hP : va_P D vwCl [(oo, .inl (coo, 1, .inr (.inl f0)))] H := hP
    have hD : va_D A [(oo, .inl (coo, 1, .inr (.inl f0)))] := hD
    rcases hp with ⟨rfl, hk⟩
    refine vx_catch (E := "java/lang/IllegalArgumentException") (name := "java/lang/IllegalArgumentException") hown [] (⟨0, 14, 17, 13⟩ : ExceptionTableEntry) [] (htab.trans rfl) (fun z hz => nomatch hz) rfl (by decide) hw_4 (hKx.use _ (List.mem_of_getElem? (i := 3) rfl)) hq1 hq2 hq3 ?_
    refine W.eq (g2 := F0 m 17 ls [.ref q9]) rfl ?_
    refine lv_astore (lv' := [(6, .ref q9), (0, .ref x), (1, .int p0), (2, .int p1), (3, .int p2), (4, .int p3), (5, .ref oo)]) hx hb dL_changeover_17 hl (by decide) rfl (fun ls hl => ?_)
    refine lv_iconst (v := 1) hx hb dL_changeover_19 (by decide) ?_
    exact mr_i hx hb hr f0 (⟨hk.symm, fun q9 => absurd (hk.symm.trans q9) (by decide)⟩) (hP.sub [0] rfl) (hK.sub [] rfl) (hD.sub [0] (by decide) rfl) hS (Nat.le_of_ble_eq_true rfl) (Nat.le_of_ble_eq_true rfl) hlocks dL_changeover_20
  · have hP : va_P D vwCl [(oo, .inl (coo, 1, .inr (.inl f0)))] H := hP
    have hD : va_D A [(oo, .inl (coo, 1, .inr (.inl f0)))] := hD
    have hK : va_K D vwCl [(coo, .long)] s := hK
    refine lv_i2l hx hb dL_changeover_12 rfl ?_
    refine lv_topl (fun x3 e3 => ?_)
    obtain rfl : x3 = r2.toInt64 := e3
    refine va_last hx hb hK hP hD hS 0 0 rfl rfl (vp_in_nI (n := 0) (by decide) (by decide)) dL_changeover_13 (fun H locs hP hD hS => ?_)
    have hP : va_P D vwCl [(oo, .inl (coo, 1, .inr (.inl (vp_updL f0 ((0 : Int32).toNatClampNeg) r2.toInt64))))] H := hP
    have hD : va_D A [(oo, .inl (coo, 1, .inr (.inl (vp_updL f0 ((0 : Int32).toNatClampNeg) r2.toInt64))))] := hD
    refine lv_goto (tgt := 21) hx hb dL_changeover_14 (by decide) ?_
    refine lv_iconst (v := 0) hx hb dL_changeover_21 (by decide) ?_
    exact mr_i hx hb hr (vp_updL f0 ((0 : Int32).toNatClampNeg) r2.toInt64) (⟨w1.1.symm, fun _ => by rw [← w1.2]; rfl⟩) (hP.sub [0] rfl) (hK.sub [] rfl) (hD.sub [0] (by decide) rfl) hS (Nat.le_of_ble_eq_true rfl) (Nat.le_of_ble_eq_true rfl) hlocks dL_changeover_22

def us_c_Lchase : List Cond := .codeWith yL_chase cL_chase 6 (some .int) [(0, 12, 15, 19), (0, 12, 19, 13), (0, 12, 23, 40)] :: (([.methodLink RL 136 yX6_chase, .instanceMethod yX6_chase, .selects RX6 yX6_chase yX6_chase, .initialized RX6, .classLink RL 19 "java/lang/IndexOutOfBoundsException"] : List Cond) ++ (us_c_chase ++ ([])))
theorem gw_c_Lchase : ∀ w ∈ us_c_Lchase, goodWord w = true := gw_cons rfl (gw_app (by decide +kernel) (gw_app gw_c_chase (fun _ h => nomatch h)))
set_option maxHeartbeats 4000000 in
set_option maxRecDepth 100000 in
/-- the law calls chase -/
theorem c_Lchase (l : Launch) (hst : l.stackTraces = false) (D : va_G) (x : Nat) (g : Nat) (ca : Nat) (co : Nat) (ra : Nat) (rl : Nat) (tr : Nat) (f9 : Nat) (f10 : Nat) (f11 : Nat) (f12 : Nat) (f13 : Nat) (p0 : Int32) (p1 : Int32) (p2 : Int32) (oo : Nat) (coo : ClassId) (f0 : Nat → Int64) (sz : Nat) : Met l yL_chase us_c_Lchase { frames := 9, cells := 1, slots := 6, locals := 150 } (pw D [.ref x, .int p0, .int p1, .int p2, .ref oo] [(coo, .long)] [(x, .inr (13, [.ref g, .ref ca, .int 0, .ref co, .int 0, .ref ra, .int 0, .ref rl, .ref tr, .ref f9, .ref f10, .ref f11, .ref f12, .ref f13])), (oo, .inl (coo, 1, .inr (.inl f0)))] sz) (va_Qi (fun (r : Int32) (u : Nat → Int64) => r = kf_chase p0 p1 p2 ∧ (kf_chase p0 p1 p2 = 0 → u 0 = (rf_chase p0 p1 p2).toInt64)) (qb D (va_A [(x, .inr (13, [.ref g, .ref ca, .int 0, .ref co, .int 0, .ref ra, .int 0, .ref rl, .ref tr, .ref f9, .ref f10, .ref f11, .ref f12, .ref f13])), (oo, .inl (coo, 1, .inr (.inl f0)))] sz) (fun u : (Nat → Int64) => [(oo, .inl (coo, 1, .inr (.inl u)))]) (fun u : (Nat → Int64) => ([] : List (ClassId × FieldType)))) (va_A [(x, .inr (13, [.ref g, .ref ca, .int 0, .ref co, .int 0, .ref ra, .int 0, .ref rl, .ref tr, .ref f9, .ref f10, .ref f11, .ref f12, .ref f13])), (oo, .inl (coo, 1, .inr (.inl f0)))] sz)) 1 6 (va_A [(x, .inr (13, [.ref g, .ref ca, .int 0, .ref co, .int 0, .ref ra, .int 0, .ref rl, .ref tr, .ref f9, .ref f10, .ref f11, .ref f12, .ref f13])), (oo, .inl (coo, 1, .inr (.inl f0)))] sz) := by
  refine op_H (Qc := fun A => (va_Qi (fun (r : Int32) (u : Nat → Int64) => r = kf_chase p0 p1 p2 ∧ (kf_chase p0 p1 p2 = 0 → u 0 = (rf_chase p0 p1 p2).toInt64)) (qb D A (fun u : (Nat → Int64) => [(oo, .inl (coo, 1, .inr (.inl u)))]) (fun u : (Nat → Int64) => ([] : List (ClassId × FieldType)))) A)) (by decide +kernel) rfl (Nat.le_of_ble_eq_true rfl) ?_
  intro p e s m args below meth c A ls hx hb hr hml hts hown hlocks hmn htab hA hD hS hP hK hE hsz hl
  have hown : s.vm.findClass RL = some m.cls := hown
  have hl : lv_has ls 6 [(0, .ref x), (1, .int p0), (2, .int p1), (3, .int p2), (4, .ref oo)] := hl
  have hw_0 := hts (.methodLink RL 136 yX6_chase) (List.mem_cons_of_mem _ (List.mem_append_left _ (List.mem_of_getElem? (i := 0) rfl)))
  have hw_1 := hts (.instanceMethod yX6_chase) (List.mem_cons_of_mem _ (List.mem_append_left _ (List.mem_of_getElem? (i := 1) rfl)))
  have hw_2 := hts (.selects RX6 yX6_chase yX6_chase) (List.mem_cons_of_mem _ (List.mem_append_left _ (List.mem_of_getElem? (i := 2) rfl)))
  have hw_3 := hts (.initialized RX6) (List.mem_cons_of_mem _ (List.mem_append_left _ (List.mem_of_getElem? (i := 3) rfl)))
  have hw_4 := hts (.classLink RL 19 "java/lang/IndexOutOfBoundsException") (List.mem_cons_of_mem _ (List.mem_append_left _ (List.mem_of_getElem? (i := 4) rfl)))
  have hb_0 : ∀ w ∈ us_c_chase, w ∈ us_c_Lchase := fun w h => List.mem_cons_of_mem _ (List.mem_append_right _ (List.mem_append_left _ h))
  refine lv_aload hx hb dL_chase_0 (lv_at hl 4 rfl) ?_
  refine lv_iconst (v := 0) hx hb dL_chase_2 (by decide) ?_
  refine lv_aload_n hx hb dL_chase_3 rfl (lv_at hl 0 rfl) ?_
  refine lv_iload_n hx hb dL_chase_4 rfl (lv_at hl 1 rfl) ?_
  refine lv_iload_n hx hb dL_chase_5 rfl (lv_at hl 2 rfl) ?_
  refine lv_iload_n hx hb dL_chase_6 rfl (lv_at hl 3 rfl) ?_
  refine mtc (wr := [(oo, .inl (coo, 1, .inr (.inl f0)))]) (vx_runV (As := [.int p0, .int p1, .int p2]) (rest := [.int 0, .ref oo]) ⟨hx, hb, hml, hown, hts⟩ (c_chase l hst D x g ca co ra rl tr f9 f10 f11 f12 f13 p0 p1 p2 s.heap.size) (cwV 3 hts (gi_c (List.mem_cons_of_mem _ (List.mem_append_left _ (List.mem_of_getElem? (i := 0) rfl))) rfl (gi_c (List.mem_cons_of_mem _ (List.mem_append_left _ (List.mem_of_getElem? (i := 1) rfl))) rfl (gi_c (List.mem_cons_of_mem _ (List.mem_append_left _ (List.mem_of_getElem? (i := 2) rfl))) rfl (gi_c (List.mem_cons_of_mem _ (List.mem_append_left _ (List.mem_of_getElem? (i := 3) rfl))) rfl (goodIn_sub hb_0 (List.all_eq_true.mpr gw_c_chase)))))) rfl rfl rfl (by decide +kernel) ⟨Nat.le_of_ble_eq_true rfl, Nat.le_of_ble_eq_true rfl⟩) (pr_V (As := [.int p0, .int p1, .int p2]) (b := x) (C := RX6) hP hD hK hS hA hE [0] [] rfl rfl rfl 0 13 rfl rfl rfl) rfl rfl hl.1 rfl (lv_room (Nat.le_of_ble_eq_true rfl)) dL_chase_7 ⟨Nat.le_of_ble_eq_true rfl, Nat.le_of_ble_eq_true rfl⟩) hP hD hS hA [0] [1] rfl rfl (by decide) (by decide) (fun E ce q9 H locs hp hP hD hS hq1 hq2 hq3 => ?_)
  have hKx := hE.2.2.2.2.2.1
  have hP : va_P D vwCl [(oo, .inl (coo, 1, .inr (.inl f0)))] H := hP
  have hD : va_D A [(oo, .inl (coo, 1, .inr (.inl f0)))] := hD
  rcases hp with rfl
  refine vx_catch (E := "java/lang/IndexOutOfBoundsException") (name := "java/lang/IndexOutOfBoundsException") hown [] (⟨0, 12, 15, 19⟩ : ExceptionTableEntry) [(⟨0, 12, 19, 13⟩ : ExceptionTableEntry), (⟨0, 12, 23, 40⟩ : ExceptionTableEntry)] (htab.trans rfl) (fun z hz => nomatch hz) rfl (by decide) hw_4 (hKx.use _ (List.mem_of_getElem? (i := 4) rfl)) hq1 hq2 hq3 ?_
  refine W.eq (g2 := F0 m 15 ls [.ref q9]) rfl ?_
  refine lv_astore (lv' := [(5, .ref q9), (0, .ref x), (1, .int p0), (2, .int p1), (3, .int p2), (4, .ref oo)]) hx hb dL_chase_15 hl (by decide) rfl (fun ls hl => ?_)
  refine lv_iconst (v := 1) hx hb dL_chase_17 (by decide) ?_
  exact mr_i hx hb hr f0 (⟨rfl, fun q9 => absurd (show (1 : Int32) = 0 from q9) (by decide)⟩) (hP.sub [0] rfl) (hK.sub [] rfl) (hD.sub [0] (by decide) rfl) hS (Nat.le_of_ble_eq_true rfl) (Nat.le_of_ble_eq_true rfl) hlocks dL_chase_18

def us_c_Lcontrol : List Cond := .codeWith yL_control cL_control 6 (some .int) [(0, 12, 15, 19), (0, 12, 19, 13), (0, 12, 23, 38), (0, 12, 27, 40)] :: (([.methodLink RL 34 yX6_control, .instanceMethod yX6_control, .selects RX6 yX6_control yX6_control, .initialized RX6, .classLink RL 19 "java/lang/IndexOutOfBoundsException", .classLink RL 13 "java/lang/IllegalArgumentException"] : List Cond) ++ (us_c_control ++ ([])))
theorem gw_c_Lcontrol : ∀ w ∈ us_c_Lcontrol, goodWord w = true := gw_cons rfl (gw_app (by decide +kernel) (gw_app gw_c_control (fun _ h => nomatch h)))
set_option maxHeartbeats 4000000 in
set_option maxRecDepth 100000 in
/-- the law calls control -/
theorem c_Lcontrol (l : Launch) (hst : l.stackTraces = false) (D : va_G) (x : Nat) (g : Nat) (ca : Nat) (co : Nat) (ra : Nat) (rl : Nat) (tr : Nat) (f9 : Nat) (f10 : Nat) (f11 : Nat) (f12 : Nat) (f13 : Nat) (a1 : Nat) (a2 : Nat) (a3 : Nat) (a4 : Nat) (a5 : Nat) (a6 : Nat) (a7 : Nat) (a8 : Nat) (a9 : Nat) (a10 : Nat) (a11 : Nat) (fC : Nat → Option Nat) (po : Nat) (ck : ClassId) (cpo : ClassId) (p0 : Int32) (p1 : Int32) (p2 : Int32) (oo : Nat) (coo : ClassId) (f0 : Nat → Int64) (sz : Nat) (hC : fC 0 = some po) : Met l yL_control us_c_Lcontrol { frames := 9, cells := 3, slots := 18, locals := 147 } (pw D [.ref x, .int p0, .int p1, .int p2, .ref oo] [(ck, .char), (cpo, .object "ControlWood$Post"), (coo, .long)] [(x, .inr (13, [.ref g, .ref ca, .int 0, .ref co, .int 0, .ref ra, .int 0, .ref rl, .ref tr, .ref f9, .ref f10, .ref f11, .ref f12, .ref f13])), (g, .inr (11, [.int 25, .ref a1, .ref a2, .ref a3, .ref a4, .ref a5, .ref a6, .ref a7, .ref a8, .ref a9, .ref a10, .ref a11, .int 0, .int 0])), (a3, .inl (ck, 144, .inl okF)), (ca, .inl (cpo, 12, .inr (.inr (.inr (.inr fC))))), (po, .inr (8, [.int 0, .int 0, .int 0, .int 0, .int 0, .int 0])), (oo, .inl (coo, 1, .inr (.inl f0)))] sz) (va_Qi (fun (r : Int32) (u : Nat → Int64) => r = kf_control p0 p1 p2 ∧ (kf_control p0 p1 p2 = 0 → u 0 = (rf_control p0 p1 p2).toInt64)) (qb D (va_A [(x, .inr (13, [.ref g, .ref ca, .int 0, .ref co, .int 0, .ref ra, .int 0, .ref rl, .ref tr, .ref f9, .ref f10, .ref f11, .ref f12, .ref f13])), (g, .inr (11, [.int 25, .ref a1, .ref a2, .ref a3, .ref a4, .ref a5, .ref a6, .ref a7, .ref a8, .ref a9, .ref a10, .ref a11, .int 0, .int 0])), (a3, .inl (ck, 144, .inl okF)), (ca, .inl (cpo, 12, .inr (.inr (.inr (.inr fC))))), (po, .inr (8, [.int 0, .int 0, .int 0, .int 0, .int 0, .int 0])), (oo, .inl (coo, 1, .inr (.inl f0)))] sz) (fun u : (Nat → Int64) => [(oo, .inl (coo, 1, .inr (.inl u)))]) (fun u : (Nat → Int64) => ([] : List (ClassId × FieldType)))) (va_A [(x, .inr (13, [.ref g, .ref ca, .int 0, .ref co, .int 0, .ref ra, .int 0, .ref rl, .ref tr, .ref f9, .ref f10, .ref f11, .ref f12, .ref f13])), (g, .inr (11, [.int 25, .ref a1, .ref a2, .ref a3, .ref a4, .ref a5, .ref a6, .ref a7, .ref a8, .ref a9, .ref a10, .ref a11, .int 0, .int 0])), (a3, .inl (ck, 144, .inl okF)), (ca, .inl (cpo, 12, .inr (.inr (.inr (.inr fC))))), (po, .inr (8, [.int 0, .int 0, .int 0, .int 0, .int 0, .int 0])), (oo, .inl (coo, 1, .inr (.inl f0)))] sz)) 3 18 (va_A [(x, .inr (13, [.ref g, .ref ca, .int 0, .ref co, .int 0, .ref ra, .int 0, .ref rl, .ref tr, .ref f9, .ref f10, .ref f11, .ref f12, .ref f13])), (g, .inr (11, [.int 25, .ref a1, .ref a2, .ref a3, .ref a4, .ref a5, .ref a6, .ref a7, .ref a8, .ref a9, .ref a10, .ref a11, .int 0, .int 0])), (a3, .inl (ck, 144, .inl okF)), (ca, .inl (cpo, 12, .inr (.inr (.inr (.inr fC))))), (po, .inr (8, [.int 0, .int 0, .int 0, .int 0, .int 0, .int 0])), (oo, .inl (coo, 1, .inr (.inl f0)))] sz) := by
  refine op_H (Qc := fun A => (va_Qi (fun (r : Int32) (u : Nat → Int64) => r = kf_control p0 p1 p2 ∧ (kf_control p0 p1 p2 = 0 → u 0 = (rf_control p0 p1 p2).toInt64)) (qb D A (fun u : (Nat → Int64) => [(oo, .inl (coo, 1, .inr (.inl u)))]) (fun u : (Nat → Int64) => ([] : List (ClassId × FieldType)))) A)) (by decide +kernel) rfl (Nat.le_of_ble_eq_true rfl) ?_
  intro p e s m args below meth c A ls hx hb hr hml hts hown hlocks hmn htab hA hD hS hP hK hE hsz hl
  have hown : s.vm.findClass RL = some m.cls := hown
  have hl : lv_has ls 6 [(0, .ref x), (1, .int p0), (2, .int p1), (3, .int p2), (4, .ref oo)] := hl
  have hw_0 := hts (.methodLink RL 34 yX6_control) (List.mem_cons_of_mem _ (List.mem_append_left _ (List.mem_of_getElem? (i := 0) rfl)))
  have hw_1 := hts (.instanceMethod yX6_control) (List.mem_cons_of_mem _ (List.mem_append_left _ (List.mem_of_getElem? (i := 1) rfl)))
  have hw_2 := hts (.selects RX6 yX6_control yX6_control) (List.mem_cons_of_mem _ (List.mem_append_left _ (List.mem_of_getElem? (i := 2) rfl)))
  have hw_3 := hts (.initialized RX6) (List.mem_cons_of_mem _ (List.mem_append_left _ (List.mem_of_getElem? (i := 3) rfl)))
  have hw_4 := hts (.classLink RL 19 "java/lang/IndexOutOfBoundsException") (List.mem_cons_of_mem _ (List.mem_append_left _ (List.mem_of_getElem? (i := 4) rfl)))
  have hw_5 := hts (.classLink RL 13 "java/lang/IllegalArgumentException") (List.mem_cons_of_mem _ (List.mem_append_left _ (List.mem_of_getElem? (i := 5) rfl)))
  have hb_0 : ∀ w ∈ us_c_control, w ∈ us_c_Lcontrol := fun w h => List.mem_cons_of_mem _ (List.mem_append_right _ (List.mem_append_left _ h))
  refine lv_aload hx hb dL_control_0 (lv_at hl 4 rfl) ?_
  refine lv_iconst (v := 0) hx hb dL_control_2 (by decide) ?_
  refine lv_aload_n hx hb dL_control_3 rfl (lv_at hl 0 rfl) ?_
  refine lv_iload_n hx hb dL_control_4 rfl (lv_at hl 1 rfl) ?_
  refine lv_iload_n hx hb dL_control_5 rfl (lv_at hl 2 rfl) ?_
  refine lv_iload_n hx hb dL_control_6 rfl (lv_at hl 3 rfl) ?_
  refine mxc_i (wr := [(oo, .inl (coo, 1, .inr (.inl f0)))]) (vx_runV (As := [.int p0, .int p1, .int p2]) (rest := [.int 0, .ref oo]) ⟨hx, hb, hml, hown, hts⟩ (c_control l hst D x g ca co ra rl tr f9 f10 f11 f12 f13 a1 a2 a3 a4 a5 a6 a7 a8 a9 a10 a11 fC po ck cpo p0 p1 p2 s.heap.size (by assumption)) (cwV 3 hts (gi_c (List.mem_cons_of_mem _ (List.mem_append_left _ (List.mem_of_getElem? (i := 0) rfl))) rfl (gi_c (List.mem_cons_of_mem _ (List.mem_append_left _ (List.mem_of_getElem? (i := 1) rfl))) rfl (gi_c (List.mem_cons_of_mem _ (List.mem_append_left _ (List.mem_of_getElem? (i := 2) rfl))) rfl (gi_c (List.mem_cons_of_mem _ (List.mem_append_left _ (List.mem_of_getElem? (i := 3) rfl))) rfl (goodIn_sub hb_0 (List.all_eq_true.mpr gw_c_control)))))) rfl rfl rfl (by decide +kernel) ⟨Nat.le_of_ble_eq_true rfl, Nat.le_of_ble_eq_true rfl⟩) (pr_V (As := [.int p0, .int p1, .int p2]) (b := x) (C := RX6) hP hD hK hS hA hE [0, 1, 2, 3, 4] [0, 1] rfl rfl rfl 0 13 rfl rfl rfl) rfl rfl hl.1 rfl (lv_room (Nat.le_of_ble_eq_true rfl)) dL_control_7 ⟨Nat.le_of_ble_eq_true rfl, Nat.le_of_ble_eq_true rfl⟩) hP hD hK hS hA [0, 1, 2, 3, 4] [5] rfl rfl (by decide) (by decide) (fun E ce q9 H locs hp hP hD hS hq1 hq2 hq3 => ?_) (fun r2 _ H locs w1 hP hD hK hS => ?_)
  · have hKx := hE.2.2.2.2.2.1
    have hP : va_P D vwCl [(oo, .inl (coo, 1, .inr (.inl f0)))] H := hP
    have hD : va_D A [(oo, .inl (coo, 1, .inr (.inl f0)))] := hD
    rcases hp with ⟨rfl, hk⟩ | ⟨rfl, hk⟩
    · refine vx_catch (E := "java/lang/IndexOutOfBoundsException") (name := "java/lang/IndexOutOfBoundsException") hown [] (⟨0, 12, 15, 19⟩ : ExceptionTableEntry) [(⟨0, 12, 19, 13⟩ : ExceptionTableEntry), (⟨0, 12, 23, 38⟩ : ExceptionTableEntry), (⟨0, 12, 27, 40⟩ : ExceptionTableEntry)] (htab.trans rfl) (fun z hz => nomatch hz) rfl (by decide) hw_4 (hKx.use _ (List.mem_of_getElem? (i := 4) rfl)) hq1 hq2 hq3 ?_
      refine W.eq (g2 := F0 m 15 ls [.ref q9]) rfl ?_
      refine lv_astore (lv' := [(5, .ref q9), (0, .ref x), (1, .int p0), (2, .int p1), (3, .int p2), (4, .ref oo)]) hx hb dL_control_15 hl (by decide) rfl (fun ls hl => ?_)
      refine lv_iconst (v := 1) hx hb dL_control_17 (by decide) ?_
      exact mr_i hx hb hr f0 (⟨hk.symm, fun q9 => absurd (hk.symm.trans q9) (by decide)⟩) (hP.sub [0] rfl) (hK.sub [] rfl) (hD.sub [0] (by decide) rfl) hS (Nat.le_of_ble_eq_true rfl) (Nat.le_of_ble_eq_true rfl) hlocks dL_control_18
    · refine vx_catch (E := "java/lang/IllegalArgumentException") (name := "java/lang/IllegalArgumentException") hown [(⟨0, 12, 15, 19⟩ : ExceptionTableEntry)] (⟨0, 12, 19, 13⟩ : ExceptionTableEntry) [(⟨0, 12, 23, 38⟩ : ExceptionTableEntry), (⟨0, 12, 27, 40⟩ : ExceptionTableEntry)] (htab.trans rfl) (List.forall_mem_cons.mpr ⟨Or.inr ⟨by decide, "java/lang/IndexOutOfBoundsException", hw_4, hKx.2.1⟩, (fun z hz => nomatch hz)⟩) rfl (by decide) hw_5 (hKx.use _ (List.mem_of_getElem? (i := 3) rfl)) hq1 hq2 hq3 ?_
      refine W.eq (g2 := F0 m 19 ls [.ref q9]) rfl ?_
      refine lv_astore (lv' := [(5, .ref q9), (0, .ref x), (1, .int p0), (2, .int p1), (3, .int p2), (4, .ref oo)]) hx hb dL_control_19 hl (by decide) rfl (fun ls hl => ?_)
      refine lv_iconst (v := 2) hx hb dL_control_21 (by decide) ?_
      exact mr_i hx hb hr f0 (⟨hk.symm, fun q9 => absurd (hk.symm.trans q9) (by decide)⟩) (hP.sub [0] rfl) (hK.sub [] rfl) (hD.sub [0] (by decide) rfl) hS (Nat.le_of_ble_eq_true rfl) (Nat.le_of_ble_eq_true rfl) hlocks dL_control_22
  · have hP : va_P D vwCl [(oo, .inl (coo, 1, .inr (.inl f0)))] H := hP
    have hD : va_D A [(oo, .inl (coo, 1, .inr (.inl f0)))] := hD
    have hK : va_K D vwCl [(ck, .char), (cpo, .object "ControlWood$Post"), (coo, .long)] s := hK
    refine lv_i2l hx hb dL_control_10 rfl ?_
    refine lv_topl (fun x3 e3 => ?_)
    obtain rfl : x3 = r2.toInt64 := e3
    refine va_last hx hb hK hP hD hS 0 2 rfl rfl (vp_in_nI (n := 0) (by decide) (by decide)) dL_control_11 (fun H locs hP hD hS => ?_)
    have hP : va_P D vwCl [(oo, .inl (coo, 1, .inr (.inl (vp_updL f0 ((0 : Int32).toNatClampNeg) r2.toInt64))))] H := hP
    have hD : va_D A [(oo, .inl (coo, 1, .inr (.inl (vp_updL f0 ((0 : Int32).toNatClampNeg) r2.toInt64))))] := hD
    refine lv_goto (tgt := 31) hx hb dL_control_12 (by decide) ?_
    refine lv_iconst (v := 0) hx hb dL_control_31 (by decide) ?_
    exact mr_i hx hb hr (vp_updL f0 ((0 : Int32).toNatClampNeg) r2.toInt64) (⟨w1.1.symm, fun _ => by rw [← w1.2]; rfl⟩) (hP.sub [0] rfl) (hK.sub [] rfl) (hD.sub [0] (by decide) rfl) hS (Nat.le_of_ble_eq_true rfl) (Nat.le_of_ble_eq_true rfl) hlocks dL_control_32

def us_c_Lcost : List Cond := .codeWith yL_cost cL_cost 6 (some .int) [(0, 12, 15, 19), (0, 12, 19, 29)] :: (([.methodLink RL 25 yX6_cost, .instanceMethod yX6_cost, .selects RX6 yX6_cost yX6_cost, .initialized RX6, .classLink RL 19 "java/lang/IndexOutOfBoundsException"] : List Cond) ++ (us_c_cost ++ ([])))
theorem gw_c_Lcost : ∀ w ∈ us_c_Lcost, goodWord w = true := gw_cons rfl (gw_app (by decide +kernel) (gw_app gw_c_cost (fun _ h => nomatch h)))
set_option maxHeartbeats 4000000 in
set_option maxRecDepth 100000 in
/-- the law calls cost -/
theorem c_Lcost (l : Launch) (hst : l.stackTraces = false) (D : va_G) (x : Nat) (g : Nat) (ca : Nat) (co : Nat) (ra : Nat) (rl : Nat) (tr : Nat) (f9 : Nat) (f10 : Nat) (f11 : Nat) (f12 : Nat) (f13 : Nat) (a1 : Nat) (a2 : Nat) (a3 : Nat) (a4 : Nat) (a5 : Nat) (a6 : Nat) (a7 : Nat) (a8 : Nat) (a9 : Nat) (a10 : Nat) (a11 : Nat) (ck : ClassId) (csk : ClassId) (cg : ClassId) (ch : ClassId) (csg : ClassId) (cw : ClassId) (cq : ClassId) (cz : ClassId) (cb : ClassId) (p0 : Int32) (p1 : Int32) (p2 : Int32) (oo : Nat) (coo : ClassId) (f0 : Nat → Int64) (sz : Nat) : Met l yL_cost us_c_Lcost { frames := 9, cells := 2, slots := 12, locals := 147 } (pw D [.ref x, .int p0, .int p1, .int p2, .ref oo] [(ck, .char), (csk, .char), (cg, .int), (ch, .int), (csg, .int), (cw, .int), (cq, .int), (cz, .boolean), (cb, .int), (coo, .long)] [(x, .inr (13, [.ref g, .ref ca, .int 0, .ref co, .int 0, .ref ra, .int 0, .ref rl, .ref tr, .ref f9, .ref f10, .ref f11, .ref f12, .ref f13])), (g, .inr (11, [.int 25, .ref a1, .ref a2, .ref a3, .ref a4, .ref a5, .ref a6, .ref a7, .ref a8, .ref a9, .ref a10, .ref a11, .int 0, .int 0])), (a6, .inl (cw, 144, .inl (fL zL))), (a10, .inl (cq, 144, .inl (fL zL))), (a11, .inl (cz, 144, .inl (fL zL))), (a3, .inl (ck, 144, .inl okF)), (a5, .inl (csk, 144, .inl okF)), (a1, .inl (cg, 144, .inl (fun _ => 0))), (a2, .inl (ch, 144, .inl (fun _ => 0))), (a4, .inl (csg, 144, .inl (fun _ => 0))), (a9, .inl (cb, 576, .inl beF)), (oo, .inl (coo, 1, .inr (.inl f0)))] sz) (va_Qi (fun (r : Int32) (u : Nat → Int64) => r = kf_cost p0 p1 p2 ∧ (kf_cost p0 p1 p2 = 0 → u 0 = (rf_cost p0 p1 p2).toInt64)) (qb D (va_A [(x, .inr (13, [.ref g, .ref ca, .int 0, .ref co, .int 0, .ref ra, .int 0, .ref rl, .ref tr, .ref f9, .ref f10, .ref f11, .ref f12, .ref f13])), (g, .inr (11, [.int 25, .ref a1, .ref a2, .ref a3, .ref a4, .ref a5, .ref a6, .ref a7, .ref a8, .ref a9, .ref a10, .ref a11, .int 0, .int 0])), (a6, .inl (cw, 144, .inl (fL zL))), (a10, .inl (cq, 144, .inl (fL zL))), (a11, .inl (cz, 144, .inl (fL zL))), (a3, .inl (ck, 144, .inl okF)), (a5, .inl (csk, 144, .inl okF)), (a1, .inl (cg, 144, .inl (fun _ => 0))), (a2, .inl (ch, 144, .inl (fun _ => 0))), (a4, .inl (csg, 144, .inl (fun _ => 0))), (a9, .inl (cb, 576, .inl beF)), (oo, .inl (coo, 1, .inr (.inl f0)))] sz) (fun u : (Nat → Int64) => [(oo, .inl (coo, 1, .inr (.inl u)))]) (fun u : (Nat → Int64) => ([] : List (ClassId × FieldType)))) (va_A [(x, .inr (13, [.ref g, .ref ca, .int 0, .ref co, .int 0, .ref ra, .int 0, .ref rl, .ref tr, .ref f9, .ref f10, .ref f11, .ref f12, .ref f13])), (g, .inr (11, [.int 25, .ref a1, .ref a2, .ref a3, .ref a4, .ref a5, .ref a6, .ref a7, .ref a8, .ref a9, .ref a10, .ref a11, .int 0, .int 0])), (a6, .inl (cw, 144, .inl (fL zL))), (a10, .inl (cq, 144, .inl (fL zL))), (a11, .inl (cz, 144, .inl (fL zL))), (a3, .inl (ck, 144, .inl okF)), (a5, .inl (csk, 144, .inl okF)), (a1, .inl (cg, 144, .inl (fun _ => 0))), (a2, .inl (ch, 144, .inl (fun _ => 0))), (a4, .inl (csg, 144, .inl (fun _ => 0))), (a9, .inl (cb, 576, .inl beF)), (oo, .inl (coo, 1, .inr (.inl f0)))] sz)) 2 12 (va_A [(x, .inr (13, [.ref g, .ref ca, .int 0, .ref co, .int 0, .ref ra, .int 0, .ref rl, .ref tr, .ref f9, .ref f10, .ref f11, .ref f12, .ref f13])), (g, .inr (11, [.int 25, .ref a1, .ref a2, .ref a3, .ref a4, .ref a5, .ref a6, .ref a7, .ref a8, .ref a9, .ref a10, .ref a11, .int 0, .int 0])), (a6, .inl (cw, 144, .inl (fL zL))), (a10, .inl (cq, 144, .inl (fL zL))), (a11, .inl (cz, 144, .inl (fL zL))), (a3, .inl (ck, 144, .inl okF)), (a5, .inl (csk, 144, .inl okF)), (a1, .inl (cg, 144, .inl (fun _ => 0))), (a2, .inl (ch, 144, .inl (fun _ => 0))), (a4, .inl (csg, 144, .inl (fun _ => 0))), (a9, .inl (cb, 576, .inl beF)), (oo, .inl (coo, 1, .inr (.inl f0)))] sz) := by
  refine op_H (Qc := fun A => (va_Qi (fun (r : Int32) (u : Nat → Int64) => r = kf_cost p0 p1 p2 ∧ (kf_cost p0 p1 p2 = 0 → u 0 = (rf_cost p0 p1 p2).toInt64)) (qb D A (fun u : (Nat → Int64) => [(oo, .inl (coo, 1, .inr (.inl u)))]) (fun u : (Nat → Int64) => ([] : List (ClassId × FieldType)))) A)) (by decide +kernel) rfl (Nat.le_of_ble_eq_true rfl) ?_
  intro p e s m args below meth c A ls hx hb hr hml hts hown hlocks hmn htab hA hD hS hP hK hE hsz hl
  have hown : s.vm.findClass RL = some m.cls := hown
  have hl : lv_has ls 6 [(0, .ref x), (1, .int p0), (2, .int p1), (3, .int p2), (4, .ref oo)] := hl
  have hw_0 := hts (.methodLink RL 25 yX6_cost) (List.mem_cons_of_mem _ (List.mem_append_left _ (List.mem_of_getElem? (i := 0) rfl)))
  have hw_1 := hts (.instanceMethod yX6_cost) (List.mem_cons_of_mem _ (List.mem_append_left _ (List.mem_of_getElem? (i := 1) rfl)))
  have hw_2 := hts (.selects RX6 yX6_cost yX6_cost) (List.mem_cons_of_mem _ (List.mem_append_left _ (List.mem_of_getElem? (i := 2) rfl)))
  have hw_3 := hts (.initialized RX6) (List.mem_cons_of_mem _ (List.mem_append_left _ (List.mem_of_getElem? (i := 3) rfl)))
  have hw_4 := hts (.classLink RL 19 "java/lang/IndexOutOfBoundsException") (List.mem_cons_of_mem _ (List.mem_append_left _ (List.mem_of_getElem? (i := 4) rfl)))
  have hb_0 : ∀ w ∈ us_c_cost, w ∈ us_c_Lcost := fun w h => List.mem_cons_of_mem _ (List.mem_append_right _ (List.mem_append_left _ h))
  refine lv_aload hx hb dL_cost_0 (lv_at hl 4 rfl) ?_
  refine lv_iconst (v := 0) hx hb dL_cost_2 (by decide) ?_
  refine lv_aload_n hx hb dL_cost_3 rfl (lv_at hl 0 rfl) ?_
  refine lv_iload_n hx hb dL_cost_4 rfl (lv_at hl 1 rfl) ?_
  refine lv_iload_n hx hb dL_cost_5 rfl (lv_at hl 2 rfl) ?_
  refine lv_iload_n hx hb dL_cost_6 rfl (lv_at hl 3 rfl) ?_
  refine mxc_i (wr := [(oo, .inl (coo, 1, .inr (.inl f0)))]) (vx_runV (As := [.int p0, .int p1, .int p2]) (rest := [.int 0, .ref oo]) ⟨hx, hb, hml, hown, hts⟩ (c_cost l hst D x g ca co ra rl tr f9 f10 f11 f12 f13 a1 a2 a3 a4 a5 a6 a7 a8 a9 a10 a11 ck csk cg ch csg cw cq cz cb p0 p1 p2 s.heap.size) (cwV 3 hts (gi_c (List.mem_cons_of_mem _ (List.mem_append_left _ (List.mem_of_getElem? (i := 0) rfl))) rfl (gi_c (List.mem_cons_of_mem _ (List.mem_append_left _ (List.mem_of_getElem? (i := 1) rfl))) rfl (gi_c (List.mem_cons_of_mem _ (List.mem_append_left _ (List.mem_of_getElem? (i := 2) rfl))) rfl (gi_c (List.mem_cons_of_mem _ (List.mem_append_left _ (List.mem_of_getElem? (i := 3) rfl))) rfl (goodIn_sub hb_0 (List.all_eq_true.mpr gw_c_cost)))))) rfl rfl rfl (by decide +kernel) ⟨Nat.le_of_ble_eq_true rfl, Nat.le_of_ble_eq_true rfl⟩) (pr_V (As := [.int p0, .int p1, .int p2]) (b := x) (C := RX6) hP hD hK hS hA hE [0, 1, 2, 3, 4, 5, 6, 7, 8, 9, 10] [0, 1, 2, 3, 4, 5, 6, 7, 8] rfl rfl rfl 0 13 rfl rfl rfl) rfl rfl hl.1 rfl (lv_room (Nat.le_of_ble_eq_true rfl)) dL_cost_7 ⟨Nat.le_of_ble_eq_true rfl, Nat.le_of_ble_eq_true rfl⟩) hP hD hK hS hA [0, 1, 2, 3, 4, 5, 6, 7, 8, 9, 10] [11] rfl rfl (by decide) (by decide) (fun E ce q9 H locs hp hP hD hS hq1 hq2 hq3 => ?_) (fun r2 _ H locs w1 hP hD hK hS => ?_)
  · have hKx := hE.2.2.2.2.2.1
    have hP : va_P D vwCl [(oo, .inl (coo, 1, .inr (.inl f0)))] H := hP
    have hD : va_D A [(oo, .inl (coo, 1, .inr (.inl f0)))] := hD
    rcases hp with ⟨rfl, hk⟩
    refine vx_catch (E := "java/lang/IndexOutOfBoundsException") (name := "java/lang/IndexOutOfBoundsException") hown [] (⟨0, 12, 15, 19⟩ : ExceptionTableEntry) [(⟨0, 12, 19, 29⟩ : ExceptionTableEntry)] (htab.trans rfl) (fun z hz => nomatch hz) rfl (by decide) hw_4 (hKx.use _ (List.mem_of_getElem? (i := 4) rfl)) hq1 hq2 hq3 ?_
    refine W.eq (g2 := F0 m 15 ls [.ref q9]) rfl ?_
    refine lv_astore (lv' := [(5, .ref q9), (0, .ref x), (1, .int p0), (2, .int p1), (3, .int p2), (4, .ref oo)]) hx hb dL_cost_15 hl (by decide) rfl (fun ls hl => ?_)
    refine lv_iconst (v := 1) hx hb dL_cost_17 (by decide) ?_
    exact mr_i hx hb hr f0 (⟨hk.symm, fun q9 => absurd (hk.symm.trans q9) (by decide)⟩) (hP.sub [0] rfl) (hK.sub [] rfl) (hD.sub [0] (by decide) rfl) hS (Nat.le_of_ble_eq_true rfl) (Nat.le_of_ble_eq_true rfl) hlocks dL_cost_18
  · have hP : va_P D vwCl [(oo, .inl (coo, 1, .inr (.inl f0)))] H := hP
    have hD : va_D A [(oo, .inl (coo, 1, .inr (.inl f0)))] := hD
    have hK : va_K D vwCl [(ck, .char), (csk, .char), (cg, .int), (ch, .int), (csg, .int), (cw, .int), (cq, .int), (cz, .boolean), (cb, .int), (coo, .long)] s := hK
    refine lv_i2l hx hb dL_cost_10 rfl ?_
    refine lv_topl (fun x3 e3 => ?_)
    obtain rfl : x3 = r2.toInt64 := e3
    refine va_last hx hb hK hP hD hS 0 9 rfl rfl (vp_in_nI (n := 0) (by decide) (by decide)) dL_cost_11 (fun H locs hP hD hS => ?_)
    have hP : va_P D vwCl [(oo, .inl (coo, 1, .inr (.inl (vp_updL f0 ((0 : Int32).toNatClampNeg) r2.toInt64))))] H := hP
    have hD : va_D A [(oo, .inl (coo, 1, .inr (.inl (vp_updL f0 ((0 : Int32).toNatClampNeg) r2.toInt64))))] := hD
    refine lv_goto (tgt := 23) hx hb dL_cost_12 (by decide) ?_
    refine lv_iconst (v := 0) hx hb dL_cost_23 (by decide) ?_
    exact mr_i hx hb hr (vp_updL f0 ((0 : Int32).toNatClampNeg) r2.toInt64) (⟨w1.1.symm, fun _ => by rw [← w1.2]; rfl⟩) (hP.sub [0] rfl) (hK.sub [] rfl) (hD.sub [0] (by decide) rfl) hS (Nat.le_of_ble_eq_true rfl) (Nat.le_of_ble_eq_true rfl) hlocks dL_cost_24

def us_c_Lcourse : List Cond := .codeWith yL_course cL_course 4 (some .int) [(0, 9, 12, 19), (0, 9, 15, 40)] :: (([.methodLink RL 46 yX6_course, .instanceMethod yX6_course, .selects RX6 yX6_course yX6_course, .initialized RX6, .classLink RL 19 "java/lang/IndexOutOfBoundsException"] : List Cond) ++ (us_c_course ++ ([])))
theorem gw_c_Lcourse : ∀ w ∈ us_c_Lcourse, goodWord w = true := gw_cons rfl (gw_app (by decide +kernel) (gw_app gw_c_course (fun _ h => nomatch h)))
set_option maxHeartbeats 4000000 in
set_option maxRecDepth 100000 in
/-- the law calls course -/
theorem c_Lcourse (l : Launch) (hst : l.stackTraces = false) (D : va_G) (x : Nat) (g : Nat) (ca : Nat) (co : Nat) (ra : Nat) (rl : Nat) (tr : Nat) (f9 : Nat) (f10 : Nat) (f11 : Nat) (f12 : Nat) (f13 : Nat) (a1 : Nat) (a2 : Nat) (a3 : Nat) (a4 : Nat) (a5 : Nat) (a6 : Nat) (a7 : Nat) (a8 : Nat) (a9 : Nat) (a10 : Nat) (a11 : Nat) (fR : Nat → Option Nat) (r0 : Nat) (rc : Nat) (rt : Nat) (rv : Nat) (cro : ClassId) (crv : ClassId) (p0 : Int32) (oo : Nat) (coo : ClassId) (f0 : Nat → Int64) (sz : Nat) (hR : fR 0 = some r0) : Met l yL_course us_c_Lcourse { frames := 9, cells := 1, slots := 6, locals := 145 } (pw D [.ref x, .int p0, .ref oo] [(cro, .object "ControlWood$Route"), (crv, .boolean), (coo, .long)] [(x, .inr (13, [.ref g, .ref ca, .int 0, .ref co, .int 0, .ref ra, .int 0, .ref rl, .ref tr, .ref f9, .ref f10, .ref f11, .ref f12, .ref f13])), (g, .inr (11, [.int 25, .ref a1, .ref a2, .ref a3, .ref a4, .ref a5, .ref a6, .ref a7, .ref a8, .ref a9, .ref a10, .ref a11, .int 0, .int 0])), (co, .inl (cro, 6, .inr (.inr (.inr (.inr fR))))), (r0, .inr (10, [.int 0, .int 0, .ref rc, .ref rt, .ref rv])), (rv, .inl (crv, 10, .inl (fun _ => 0))), (oo, .inl (coo, 1, .inr (.inl f0)))] sz) (va_Qi (fun (r : Int32) (u : Nat → Int64) => r = kf_course p0 ∧ (kf_course p0 = 0 → u 0 = (rf_course p0).toInt64)) (qb D (va_A [(x, .inr (13, [.ref g, .ref ca, .int 0, .ref co, .int 0, .ref ra, .int 0, .ref rl, .ref tr, .ref f9, .ref f10, .ref f11, .ref f12, .ref f13])), (g, .inr (11, [.int 25, .ref a1, .ref a2, .ref a3, .ref a4, .ref a5, .ref a6, .ref a7, .ref a8, .ref a9, .ref a10, .ref a11, .int 0, .int 0])), (co, .inl (cro, 6, .inr (.inr (.inr (.inr fR))))), (r0, .inr (10, [.int 0, .int 0, .ref rc, .ref rt, .ref rv])), (rv, .inl (crv, 10, .inl (fun _ => 0))), (oo, .inl (coo, 1, .inr (.inl f0)))] sz) (fun u : (Nat → Int64) => [(oo, .inl (coo, 1, .inr (.inl u)))]) (fun u : (Nat → Int64) => ([] : List (ClassId × FieldType)))) (va_A [(x, .inr (13, [.ref g, .ref ca, .int 0, .ref co, .int 0, .ref ra, .int 0, .ref rl, .ref tr, .ref f9, .ref f10, .ref f11, .ref f12, .ref f13])), (g, .inr (11, [.int 25, .ref a1, .ref a2, .ref a3, .ref a4, .ref a5, .ref a6, .ref a7, .ref a8, .ref a9, .ref a10, .ref a11, .int 0, .int 0])), (co, .inl (cro, 6, .inr (.inr (.inr (.inr fR))))), (r0, .inr (10, [.int 0, .int 0, .ref rc, .ref rt, .ref rv])), (rv, .inl (crv, 10, .inl (fun _ => 0))), (oo, .inl (coo, 1, .inr (.inl f0)))] sz)) 1 6 (va_A [(x, .inr (13, [.ref g, .ref ca, .int 0, .ref co, .int 0, .ref ra, .int 0, .ref rl, .ref tr, .ref f9, .ref f10, .ref f11, .ref f12, .ref f13])), (g, .inr (11, [.int 25, .ref a1, .ref a2, .ref a3, .ref a4, .ref a5, .ref a6, .ref a7, .ref a8, .ref a9, .ref a10, .ref a11, .int 0, .int 0])), (co, .inl (cro, 6, .inr (.inr (.inr (.inr fR))))), (r0, .inr (10, [.int 0, .int 0, .ref rc, .ref rt, .ref rv])), (rv, .inl (crv, 10, .inl (fun _ => 0))), (oo, .inl (coo, 1, .inr (.inl f0)))] sz) := by
  refine op_H (Qc := fun A => (va_Qi (fun (r : Int32) (u : Nat → Int64) => r = kf_course p0 ∧ (kf_course p0 = 0 → u 0 = (rf_course p0).toInt64)) (qb D A (fun u : (Nat → Int64) => [(oo, .inl (coo, 1, .inr (.inl u)))]) (fun u : (Nat → Int64) => ([] : List (ClassId × FieldType)))) A)) (by decide +kernel) rfl (Nat.le_of_ble_eq_true rfl) ?_
  intro p e s m args below meth c A ls hx hb hr hml hts hown hlocks hmn htab hA hD hS hP hK hE hsz hl
  have hown : s.vm.findClass RL = some m.cls := hown
  have hl : lv_has ls 4 [(0, .ref x), (1, .int p0), (2, .ref oo)] := hl
  have hw_0 := hts (.methodLink RL 46 yX6_course) (List.mem_cons_of_mem _ (List.mem_append_left _ (List.mem_of_getElem? (i := 0) rfl)))
  have hw_1 := hts (.instanceMethod yX6_course) (List.mem_cons_of_mem _ (List.mem_append_left _ (List.mem_of_getElem? (i := 1) rfl)))
  have hw_2 := hts (.selects RX6 yX6_course yX6_course) (List.mem_cons_of_mem _ (List.mem_append_left _ (List.mem_of_getElem? (i := 2) rfl)))
  have hw_3 := hts (.initialized RX6) (List.mem_cons_of_mem _ (List.mem_append_left _ (List.mem_of_getElem? (i := 3) rfl)))
  have hw_4 := hts (.classLink RL 19 "java/lang/IndexOutOfBoundsException") (List.mem_cons_of_mem _ (List.mem_append_left _ (List.mem_of_getElem? (i := 4) rfl)))
  have hb_0 : ∀ w ∈ us_c_course, w ∈ us_c_Lcourse := fun w h => List.mem_cons_of_mem _ (List.mem_append_right _ (List.mem_append_left _ h))
  refine lv_aload_n hx hb dL_course_0 rfl (lv_at hl 2 rfl) ?_
  refine lv_iconst (v := 0) hx hb dL_course_1 (by decide) ?_
  refine lv_aload_n hx hb dL_course_2 rfl (lv_at hl 0 rfl) ?_
  refine lv_iload_n hx hb dL_course_3 rfl (lv_at hl 1 rfl) ?_
  refine mxc_i (wr := [(oo, .inl (coo, 1, .inr (.inl f0)))]) (vx_runV (As := [.int p0]) (rest := [.int 0, .ref oo]) ⟨hx, hb, hml, hown, hts⟩ (c_course l hst D x g ca co ra rl tr f9 f10 f11 f12 f13 a1 a2 a3 a4 a5 a6 a7 a8 a9 a10 a11 fR r0 rc rt rv cro crv p0 s.heap.size (by assumption)) (cwV 1 hts (gi_c (List.mem_cons_of_mem _ (List.mem_append_left _ (List.mem_of_getElem? (i := 0) rfl))) rfl (gi_c (List.mem_cons_of_mem _ (List.mem_append_left _ (List.mem_of_getElem? (i := 1) rfl))) rfl (gi_c (List.mem_cons_of_mem _ (List.mem_append_left _ (List.mem_of_getElem? (i := 2) rfl))) rfl (gi_c (List.mem_cons_of_mem _ (List.mem_append_left _ (List.mem_of_getElem? (i := 3) rfl))) rfl (goodIn_sub hb_0 (List.all_eq_true.mpr gw_c_course)))))) rfl rfl rfl (by decide +kernel) ⟨Nat.le_of_ble_eq_true rfl, Nat.le_of_ble_eq_true rfl⟩) (pr_V (As := [.int p0]) (b := x) (C := RX6) hP hD hK hS hA hE [0, 1, 2, 3, 4] [0, 1] rfl rfl rfl 0 13 rfl rfl rfl) rfl rfl hl.1 rfl (lv_room (Nat.le_of_ble_eq_true rfl)) dL_course_4 ⟨Nat.le_of_ble_eq_true rfl, Nat.le_of_ble_eq_true rfl⟩) hP hD hK hS hA [0, 1, 2, 3, 4] [5] rfl rfl (by decide) (by decide) (fun E ce q9 H locs hp hP hD hS hq1 hq2 hq3 => ?_) (fun r2 _ H locs w1 hP hD hK hS => ?_)
  · have hKx := hE.2.2.2.2.2.1
    have hP : va_P D vwCl [(oo, .inl (coo, 1, .inr (.inl f0)))] H := hP
    have hD : va_D A [(oo, .inl (coo, 1, .inr (.inl f0)))] := hD
    rcases hp with ⟨rfl, hk⟩
    refine vx_catch (E := "java/lang/IndexOutOfBoundsException") (name := "java/lang/IndexOutOfBoundsException") hown [] (⟨0, 9, 12, 19⟩ : ExceptionTableEntry) [(⟨0, 9, 15, 40⟩ : ExceptionTableEntry)] (htab.trans rfl) (fun z hz => nomatch hz) rfl (by decide) hw_4 (hKx.use _ (List.mem_of_getElem? (i := 4) rfl)) hq1 hq2 hq3 ?_
    refine W.eq (g2 := F0 m 12 ls [.ref q9]) rfl ?_
    refine lv_astore_n (lv' := [(3, .ref q9), (0, .ref x), (1, .int p0), (2, .ref oo)]) hx hb dL_course_12 rfl hl (by decide) rfl (fun ls hl => ?_)
    refine lv_iconst (v := 1) hx hb dL_course_13 (by decide) ?_
    exact mr_i hx hb hr f0 (⟨hk.symm, fun q9 => absurd (hk.symm.trans q9) (by decide)⟩) (hP.sub [0] rfl) (hK.sub [] rfl) (hD.sub [0] (by decide) rfl) hS (Nat.le_of_ble_eq_true rfl) (Nat.le_of_ble_eq_true rfl) hlocks dL_course_14
  · have hP : va_P D vwCl [(oo, .inl (coo, 1, .inr (.inl f0)))] H := hP
    have hD : va_D A [(oo, .inl (coo, 1, .inr (.inl f0)))] := hD
    have hK : va_K D vwCl [(cro, .object "ControlWood$Route"), (crv, .boolean), (coo, .long)] s := hK
    refine lv_i2l hx hb dL_course_7 rfl ?_
    refine lv_topl (fun x3 e3 => ?_)
    obtain rfl : x3 = r2.toInt64 := e3
    refine va_last hx hb hK hP hD hS 0 2 rfl rfl (vp_in_nI (n := 0) (by decide) (by decide)) dL_course_8 (fun H locs hP hD hS => ?_)
    have hP : va_P D vwCl [(oo, .inl (coo, 1, .inr (.inl (vp_updL f0 ((0 : Int32).toNatClampNeg) r2.toInt64))))] H := hP
    have hD : va_D A [(oo, .inl (coo, 1, .inr (.inl (vp_updL f0 ((0 : Int32).toNatClampNeg) r2.toInt64))))] := hD
    refine lv_goto (tgt := 18) hx hb dL_course_9 (by decide) ?_
    refine lv_iconst (v := 0) hx hb dL_course_18 (by decide) ?_
    exact mr_i hx hb hr (vp_updL f0 ((0 : Int32).toNatClampNeg) r2.toInt64) (⟨w1.1.symm, fun _ => by rw [← w1.2]; rfl⟩) (hP.sub [0] rfl) (hK.sub [] rfl) (hD.sub [0] (by decide) rfl) hS (Nat.le_of_ble_eq_true rfl) (Nat.le_of_ble_eq_true rfl) hlocks dL_course_19

def us_c_Ldead : List Cond := .codeWith yL_dead cL_dead 6 (some .int) [(0, 12, 15, 19), (0, 12, 19, 13)] :: (([.methodLink RL 85 yX6_dead, .instanceMethod yX6_dead, .selects RX6 yX6_dead yX6_dead, .initialized RX6, .classLink RL 19 "java/lang/IndexOutOfBoundsException"] : List Cond) ++ (us_c_dead ++ ([])))
theorem gw_c_Ldead : ∀ w ∈ us_c_Ldead, goodWord w = true := gw_cons rfl (gw_app (by decide +kernel) (gw_app gw_c_dead (fun _ h => nomatch h)))
set_option maxHeartbeats 4000000 in
set_option maxRecDepth 100000 in
/-- the law calls dead -/
theorem c_Ldead (l : Launch) (hst : l.stackTraces = false) (D : va_G) (x : Nat) (g : Nat) (ca : Nat) (co : Nat) (ra : Nat) (rl : Nat) (tr : Nat) (f9 : Nat) (f10 : Nat) (f11 : Nat) (f12 : Nat) (f13 : Nat) (p0 : Int32) (p1 : Int32) (p2 : Int32) (oo : Nat) (coo : ClassId) (f0 : Nat → Int64) (sz : Nat) : Met l yL_dead us_c_Ldead { frames := 9, cells := 1, slots := 6, locals := 148 } (pw D [.ref x, .int p0, .int p1, .int p2, .ref oo] [(coo, .long)] [(x, .inr (13, [.ref g, .ref ca, .int 0, .ref co, .int 0, .ref ra, .int 0, .ref rl, .ref tr, .ref f9, .ref f10, .ref f11, .ref f12, .ref f13])), (oo, .inl (coo, 1, .inr (.inl f0)))] sz) (va_Qi (fun (r : Int32) (u : Nat → Int64) => r = kf_dead p0 p1 p2 ∧ (kf_dead p0 p1 p2 = 0 → u 0 = (rf_dead p0 p1 p2).toInt64)) (qb D (va_A [(x, .inr (13, [.ref g, .ref ca, .int 0, .ref co, .int 0, .ref ra, .int 0, .ref rl, .ref tr, .ref f9, .ref f10, .ref f11, .ref f12, .ref f13])), (oo, .inl (coo, 1, .inr (.inl f0)))] sz) (fun u : (Nat → Int64) => [(oo, .inl (coo, 1, .inr (.inl u)))]) (fun u : (Nat → Int64) => ([] : List (ClassId × FieldType)))) (va_A [(x, .inr (13, [.ref g, .ref ca, .int 0, .ref co, .int 0, .ref ra, .int 0, .ref rl, .ref tr, .ref f9, .ref f10, .ref f11, .ref f12, .ref f13])), (oo, .inl (coo, 1, .inr (.inl f0)))] sz)) 1 6 (va_A [(x, .inr (13, [.ref g, .ref ca, .int 0, .ref co, .int 0, .ref ra, .int 0, .ref rl, .ref tr, .ref f9, .ref f10, .ref f11, .ref f12, .ref f13])), (oo, .inl (coo, 1, .inr (.inl f0)))] sz) := by
  refine op_H (Qc := fun A => (va_Qi (fun (r : Int32) (u : Nat → Int64) => r = kf_dead p0 p1 p2 ∧ (kf_dead p0 p1 p2 = 0 → u 0 = (rf_dead p0 p1 p2).toInt64)) (qb D A (fun u : (Nat → Int64) => [(oo, .inl (coo, 1, .inr (.inl u)))]) (fun u : (Nat → Int64) => ([] : List (ClassId × FieldType)))) A)) (by decide +kernel) rfl (Nat.le_of_ble_eq_true rfl) ?_
  intro p e s m args below meth c A ls hx hb hr hml hts hown hlocks hmn htab hA hD hS hP hK hE hsz hl
  have hown : s.vm.findClass RL = some m.cls := hown
  have hl : lv_has ls 6 [(0, .ref x), (1, .int p0), (2, .int p1), (3, .int p2), (4, .ref oo)] := hl
  have hw_0 := hts (.methodLink RL 85 yX6_dead) (List.mem_cons_of_mem _ (List.mem_append_left _ (List.mem_of_getElem? (i := 0) rfl)))
  have hw_1 := hts (.instanceMethod yX6_dead) (List.mem_cons_of_mem _ (List.mem_append_left _ (List.mem_of_getElem? (i := 1) rfl)))
  have hw_2 := hts (.selects RX6 yX6_dead yX6_dead) (List.mem_cons_of_mem _ (List.mem_append_left _ (List.mem_of_getElem? (i := 2) rfl)))
  have hw_3 := hts (.initialized RX6) (List.mem_cons_of_mem _ (List.mem_append_left _ (List.mem_of_getElem? (i := 3) rfl)))
  have hw_4 := hts (.classLink RL 19 "java/lang/IndexOutOfBoundsException") (List.mem_cons_of_mem _ (List.mem_append_left _ (List.mem_of_getElem? (i := 4) rfl)))
  have hb_0 : ∀ w ∈ us_c_dead, w ∈ us_c_Ldead := fun w h => List.mem_cons_of_mem _ (List.mem_append_right _ (List.mem_append_left _ h))
  refine lv_aload hx hb dL_dead_0 (lv_at hl 4 rfl) ?_
  refine lv_iconst (v := 0) hx hb dL_dead_2 (by decide) ?_
  refine lv_aload_n hx hb dL_dead_3 rfl (lv_at hl 0 rfl) ?_
  refine lv_iload_n hx hb dL_dead_4 rfl (lv_at hl 1 rfl) ?_
  refine lv_iload_n hx hb dL_dead_5 rfl (lv_at hl 2 rfl) ?_
  refine lv_iload_n hx hb dL_dead_6 rfl (lv_at hl 3 rfl) ?_
  refine mtc (wr := [(oo, .inl (coo, 1, .inr (.inl f0)))]) (vx_runV (As := [.int p0, .int p1, .int p2]) (rest := [.int 0, .ref oo]) ⟨hx, hb, hml, hown, hts⟩ (c_dead l hst D x g ca co ra rl tr f9 f10 f11 f12 f13 p0 p1 p2 s.heap.size) (cwV 3 hts (gi_c (List.mem_cons_of_mem _ (List.mem_append_left _ (List.mem_of_getElem? (i := 0) rfl))) rfl (gi_c (List.mem_cons_of_mem _ (List.mem_append_left _ (List.mem_of_getElem? (i := 1) rfl))) rfl (gi_c (List.mem_cons_of_mem _ (List.mem_append_left _ (List.mem_of_getElem? (i := 2) rfl))) rfl (gi_c (List.mem_cons_of_mem _ (List.mem_append_left _ (List.mem_of_getElem? (i := 3) rfl))) rfl (goodIn_sub hb_0 (List.all_eq_true.mpr gw_c_dead)))))) rfl rfl rfl (by decide +kernel) ⟨Nat.le_of_ble_eq_true rfl, Nat.le_of_ble_eq_true rfl⟩) (pr_V (As := [.int p0, .int p1, .int p2]) (b := x) (C := RX6) hP hD hK hS hA hE [0] [] rfl rfl rfl 0 13 rfl rfl rfl) rfl rfl hl.1 rfl (lv_room (Nat.le_of_ble_eq_true rfl)) dL_dead_7 ⟨Nat.le_of_ble_eq_true rfl, Nat.le_of_ble_eq_true rfl⟩) hP hD hS hA [0] [1] rfl rfl (by decide) (by decide) (fun E ce q9 H locs hp hP hD hS hq1 hq2 hq3 => ?_)
  have hKx := hE.2.2.2.2.2.1
  have hP : va_P D vwCl [(oo, .inl (coo, 1, .inr (.inl f0)))] H := hP
  have hD : va_D A [(oo, .inl (coo, 1, .inr (.inl f0)))] := hD
  rcases hp with rfl
  refine vx_catch (E := "java/lang/IndexOutOfBoundsException") (name := "java/lang/IndexOutOfBoundsException") hown [] (⟨0, 12, 15, 19⟩ : ExceptionTableEntry) [(⟨0, 12, 19, 13⟩ : ExceptionTableEntry)] (htab.trans rfl) (fun z hz => nomatch hz) rfl (by decide) hw_4 (hKx.use _ (List.mem_of_getElem? (i := 4) rfl)) hq1 hq2 hq3 ?_
  refine W.eq (g2 := F0 m 15 ls [.ref q9]) rfl ?_
  refine lv_astore (lv' := [(5, .ref q9), (0, .ref x), (1, .int p0), (2, .int p1), (3, .int p2), (4, .ref oo)]) hx hb dL_dead_15 hl (by decide) rfl (fun ls hl => ?_)
  refine lv_iconst (v := 1) hx hb dL_dead_17 (by decide) ?_
  exact mr_i hx hb hr f0 (⟨rfl, fun q9 => absurd (show (1 : Int32) = 0 from q9) (by decide)⟩) (hP.sub [0] rfl) (hK.sub [] rfl) (hD.sub [0] (by decide) rfl) hS (Nat.le_of_ble_eq_true rfl) (Nat.le_of_ble_eq_true rfl) hlocks dL_dead_18

def us_c_Ldraw : List Cond := .codeWith yL_draw cL_draw 7 (some .int) [(0, 14, 17, 19), (0, 14, 21, 13), (0, 14, 25, 38)] :: (([.methodLink RL 72 yX6_draw, .instanceMethod yX6_draw, .selects RX6 yX6_draw yX6_draw, .initialized RX6, .classLink RL 19 "java/lang/IndexOutOfBoundsException"] : List Cond) ++ (us_c_draw ++ ([])))
theorem gw_c_Ldraw : ∀ w ∈ us_c_Ldraw, goodWord w = true := gw_cons rfl (gw_app (by decide +kernel) (gw_app gw_c_draw (fun _ h => nomatch h)))
set_option maxHeartbeats 4000000 in
set_option maxRecDepth 100000 in
/-- the law calls draw -/
theorem c_Ldraw (l : Launch) (hst : l.stackTraces = false) (D : va_G) (x : Nat) (g : Nat) (ca : Nat) (co : Nat) (ra : Nat) (rl : Nat) (tr : Nat) (f9 : Nat) (f10 : Nat) (f11 : Nat) (f12 : Nat) (f13 : Nat) (p0 : Int32) (p1 : Int32) (p2 : Int32) (p3 : Int32) (oo : Nat) (coo : ClassId) (f0 : Nat → Int64) (sz : Nat) : Met l yL_draw us_c_Ldraw { frames := 9, cells := 1, slots := 6, locals := 149 } (pw D [.ref x, .int p0, .int p1, .int p2, .int p3, .ref oo] [(coo, .long)] [(x, .inr (13, [.ref g, .ref ca, .int 0, .ref co, .int 0, .ref ra, .int 0, .ref rl, .ref tr, .ref f9, .ref f10, .ref f11, .ref f12, .ref f13])), (oo, .inl (coo, 1, .inr (.inl f0)))] sz) (va_Qi (fun (r : Int32) (u : Nat → Int64) => r = kf_draw p0 p1 p2 p3 ∧ (kf_draw p0 p1 p2 p3 = 0 → u 0 = (rf_draw p0 p1 p2 p3).toInt64)) (qb D (va_A [(x, .inr (13, [.ref g, .ref ca, .int 0, .ref co, .int 0, .ref ra, .int 0, .ref rl, .ref tr, .ref f9, .ref f10, .ref f11, .ref f12, .ref f13])), (oo, .inl (coo, 1, .inr (.inl f0)))] sz) (fun u : (Nat → Int64) => [(oo, .inl (coo, 1, .inr (.inl u)))]) (fun u : (Nat → Int64) => ([] : List (ClassId × FieldType)))) (va_A [(x, .inr (13, [.ref g, .ref ca, .int 0, .ref co, .int 0, .ref ra, .int 0, .ref rl, .ref tr, .ref f9, .ref f10, .ref f11, .ref f12, .ref f13])), (oo, .inl (coo, 1, .inr (.inl f0)))] sz)) 1 6 (va_A [(x, .inr (13, [.ref g, .ref ca, .int 0, .ref co, .int 0, .ref ra, .int 0, .ref rl, .ref tr, .ref f9, .ref f10, .ref f11, .ref f12, .ref f13])), (oo, .inl (coo, 1, .inr (.inl f0)))] sz) := by
  refine op_H (Qc := fun A => (va_Qi (fun (r : Int32) (u : Nat → Int64) => r = kf_draw p0 p1 p2 p3 ∧ (kf_draw p0 p1 p2 p3 = 0 → u 0 = (rf_draw p0 p1 p2 p3).toInt64)) (qb D A (fun u : (Nat → Int64) => [(oo, .inl (coo, 1, .inr (.inl u)))]) (fun u : (Nat → Int64) => ([] : List (ClassId × FieldType)))) A)) (by decide +kernel) rfl (Nat.le_of_ble_eq_true rfl) ?_
  intro p e s m args below meth c A ls hx hb hr hml hts hown hlocks hmn htab hA hD hS hP hK hE hsz hl
  have hown : s.vm.findClass RL = some m.cls := hown
  have hl : lv_has ls 7 [(0, .ref x), (1, .int p0), (2, .int p1), (3, .int p2), (4, .int p3), (5, .ref oo)] := hl
  have hw_0 := hts (.methodLink RL 72 yX6_draw) (List.mem_cons_of_mem _ (List.mem_append_left _ (List.mem_of_getElem? (i := 0) rfl)))
  have hw_1 := hts (.instanceMethod yX6_draw) (List.mem_cons_of_mem _ (List.mem_append_left _ (List.mem_of_getElem? (i := 1) rfl)))
  have hw_2 := hts (.selects RX6 yX6_draw yX6_draw) (List.mem_cons_of_mem _ (List.mem_append_left _ (List.mem_of_getElem? (i := 2) rfl)))
  have hw_3 := hts (.initialized RX6) (List.mem_cons_of_mem _ (List.mem_append_left _ (List.mem_of_getElem? (i := 3) rfl)))
  have hw_4 := hts (.classLink RL 19 "java/lang/IndexOutOfBoundsException") (List.mem_cons_of_mem _ (List.mem_append_left _ (List.mem_of_getElem? (i := 4) rfl)))
  have hb_0 : ∀ w ∈ us_c_draw, w ∈ us_c_Ldraw := fun w h => List.mem_cons_of_mem _ (List.mem_append_right _ (List.mem_append_left _ h))
  refine lv_aload hx hb dL_draw_0 (lv_at hl 5 rfl) ?_
  refine lv_iconst (v := 0) hx hb dL_draw_2 (by decide) ?_
  refine lv_aload_n hx hb dL_draw_3 rfl (lv_at hl 0 rfl) ?_
  refine lv_iload_n hx hb dL_draw_4 rfl (lv_at hl 1 rfl) ?_
  refine lv_iload_n hx hb dL_draw_5 rfl (lv_at hl 2 rfl) ?_
  refine lv_iload_n hx hb dL_draw_6 rfl (lv_at hl 3 rfl) ?_
  refine lv_iload hx hb dL_draw_7 (lv_at hl 4 rfl) ?_
  refine mtc (wr := [(oo, .inl (coo, 1, .inr (.inl f0)))]) (vx_runV (As := [.int p0, .int p1, .int p2, .int p3]) (rest := [.int 0, .ref oo]) ⟨hx, hb, hml, hown, hts⟩ (c_draw l hst D x g ca co ra rl tr f9 f10 f11 f12 f13 p0 p1 p2 p3 s.heap.size) (cwV 4 hts (gi_c (List.mem_cons_of_mem _ (List.mem_append_left _ (List.mem_of_getElem? (i := 0) rfl))) rfl (gi_c (List.mem_cons_of_mem _ (List.mem_append_left _ (List.mem_of_getElem? (i := 1) rfl))) rfl (gi_c (List.mem_cons_of_mem _ (List.mem_append_left _ (List.mem_of_getElem? (i := 2) rfl))) rfl (gi_c (List.mem_cons_of_mem _ (List.mem_append_left _ (List.mem_of_getElem? (i := 3) rfl))) rfl (goodIn_sub hb_0 (List.all_eq_true.mpr gw_c_draw)))))) rfl rfl rfl (by decide +kernel) ⟨Nat.le_of_ble_eq_true rfl, Nat.le_of_ble_eq_true rfl⟩) (pr_V (As := [.int p0, .int p1, .int p2, .int p3]) (b := x) (C := RX6) hP hD hK hS hA hE [0] [] rfl rfl rfl 0 13 rfl rfl rfl) rfl rfl hl.1 rfl (lv_room (Nat.le_of_ble_eq_true rfl)) dL_draw_9 ⟨Nat.le_of_ble_eq_true rfl, Nat.le_of_ble_eq_true rfl⟩) hP hD hS hA [0] [1] rfl rfl (by decide) (by decide) (fun E ce q9 H locs hp hP hD hS hq1 hq2 hq3 => ?_)
  have hKx := hE.2.2.2.2.2.1
  have hP : va_P D vwCl [(oo, .inl (coo, 1, .inr (.inl f0)))] H := hP
  have hD : va_D A [(oo, .inl (coo, 1, .inr (.inl f0)))] := hD
  rcases hp with rfl
  refine vx_catch (E := "java/lang/IndexOutOfBoundsException") (name := "java/lang/IndexOutOfBoundsException") hown [] (⟨0, 14, 17, 19⟩ : ExceptionTableEntry) [(⟨0, 14, 21, 13⟩ : ExceptionTableEntry), (⟨0, 14, 25, 38⟩ : ExceptionTableEntry)] (htab.trans rfl) (fun z hz => nomatch hz) rfl (by decide) hw_4 (hKx.use _ (List.mem_of_getElem? (i := 4) rfl)) hq1 hq2 hq3 ?_
  refine W.eq (g2 := F0 m 17 ls [.ref q9]) rfl ?_
  refine lv_astore (lv' := [(6, .ref q9), (0, .ref x), (1, .int p0), (2, .int p1), (3, .int p2), (4, .int p3), (5, .ref oo)]) hx hb dL_draw_17 hl (by decide) rfl (fun ls hl => ?_)
  refine lv_iconst (v := 1) hx hb dL_draw_19 (by decide) ?_
  exact mr_i hx hb hr f0 (⟨rfl, fun q9 => absurd (show (1 : Int32) = 0 from q9) (by decide)⟩) (hP.sub [0] rfl) (hK.sub [] rfl) (hD.sub [0] (by decide) rfl) hS (Nat.le_of_ble_eq_true rfl) (Nat.le_of_ble_eq_true rfl) hlocks dL_draw_20

def us_c_LfairWays : List Cond := .codeWith yL_fairWays cL_fairWays 3 (some .int) [(0, 8, 11, 38)] :: (([.methodLink RL 129 yX6_fairWays, .instanceMethod yX6_fairWays, .selects RX6 yX6_fairWays yX6_fairWays, .initialized RX6] : List Cond) ++ (us_c_fairWays ++ ([])))
theorem gw_c_LfairWays : ∀ w ∈ us_c_LfairWays, goodWord w = true := gw_cons rfl (gw_app (by decide +kernel) (gw_app gw_c_fairWays (fun _ h => nomatch h)))
set_option maxHeartbeats 4000000 in
set_option maxRecDepth 100000 in
/-- the law calls fairWays -/
theorem c_LfairWays (l : Launch) (hst : l.stackTraces = false) (D : va_G) (x : Nat) (g : Nat) (ca : Nat) (co : Nat) (ra : Nat) (rl : Nat) (tr : Nat) (f9 : Nat) (f10 : Nat) (f11 : Nat) (f12 : Nat) (f13 : Nat) (re1 : Nat) (re2 : Nat) (re3 : Nat) (re4 : Nat) (oo : Nat) (coo : ClassId) (f0 : Nat → Int64) (sz : Nat) : Met l yL_fairWays us_c_LfairWays { frames := 1, cells := 0, slots := 0, locals := 22 } (pw D [.ref x, .ref oo] [(coo, .long)] [(x, .inr (13, [.ref g, .ref ca, .int 0, .ref co, .int 0, .ref ra, .int 0, .ref rl, .ref tr, .ref f9, .ref f10, .ref f11, .ref f12, .ref f13])), (rl, .inr (9, [.int 0, .int 0, .ref re1, .ref re2, .ref re3, .ref re4])), (oo, .inl (coo, 1, .inr (.inl f0)))] sz) (va_Qi (fun (r : Int32) (u : Nat → Int64) => r = kf_fairWays ∧ (kf_fairWays = 0 → u 0 = (rf_fairWays).toInt64)) (qb D (va_A [(x, .inr (13, [.ref g, .ref ca, .int 0, .ref co, .int 0, .ref ra, .int 0, .ref rl, .ref tr, .ref f9, .ref f10, .ref f11, .ref f12, .ref f13])), (rl, .inr (9, [.int 0, .int 0, .ref re1, .ref re2, .ref re3, .ref re4])), (oo, .inl (coo, 1, .inr (.inl f0)))] sz) (fun u : (Nat → Int64) => [(oo, .inl (coo, 1, .inr (.inl u)))]) (fun u : (Nat → Int64) => ([] : List (ClassId × FieldType)))) (va_A [(x, .inr (13, [.ref g, .ref ca, .int 0, .ref co, .int 0, .ref ra, .int 0, .ref rl, .ref tr, .ref f9, .ref f10, .ref f11, .ref f12, .ref f13])), (rl, .inr (9, [.int 0, .int 0, .ref re1, .ref re2, .ref re3, .ref re4])), (oo, .inl (coo, 1, .inr (.inl f0)))] sz)) 0 0 (va_A [(x, .inr (13, [.ref g, .ref ca, .int 0, .ref co, .int 0, .ref ra, .int 0, .ref rl, .ref tr, .ref f9, .ref f10, .ref f11, .ref f12, .ref f13])), (rl, .inr (9, [.int 0, .int 0, .ref re1, .ref re2, .ref re3, .ref re4])), (oo, .inl (coo, 1, .inr (.inl f0)))] sz) := by
  refine op_H (Qc := fun A => (va_Qi (fun (r : Int32) (u : Nat → Int64) => r = kf_fairWays ∧ (kf_fairWays = 0 → u 0 = (rf_fairWays).toInt64)) (qb D A (fun u : (Nat → Int64) => [(oo, .inl (coo, 1, .inr (.inl u)))]) (fun u : (Nat → Int64) => ([] : List (ClassId × FieldType)))) A)) (by decide +kernel) rfl (Nat.le_of_ble_eq_true rfl) ?_
  intro p e s m args below meth c A ls hx hb hr hml hts hown hlocks hmn htab hA hD hS hP hK hE hsz hl
  have hown : s.vm.findClass RL = some m.cls := hown
  have hl : lv_has ls 3 [(0, .ref x), (1, .ref oo)] := hl
  have hw_0 := hts (.methodLink RL 129 yX6_fairWays) (List.mem_cons_of_mem _ (List.mem_append_left _ (List.mem_of_getElem? (i := 0) rfl)))
  have hw_1 := hts (.instanceMethod yX6_fairWays) (List.mem_cons_of_mem _ (List.mem_append_left _ (List.mem_of_getElem? (i := 1) rfl)))
  have hw_2 := hts (.selects RX6 yX6_fairWays yX6_fairWays) (List.mem_cons_of_mem _ (List.mem_append_left _ (List.mem_of_getElem? (i := 2) rfl)))
  have hw_3 := hts (.initialized RX6) (List.mem_cons_of_mem _ (List.mem_append_left _ (List.mem_of_getElem? (i := 3) rfl)))
  have hb_0 : ∀ w ∈ us_c_fairWays, w ∈ us_c_LfairWays := fun w h => List.mem_cons_of_mem _ (List.mem_append_right _ (List.mem_append_left _ h))
  refine lv_aload_n hx hb dL_fairWays_0 rfl (lv_at hl 1 rfl) ?_
  refine lv_iconst (v := 0) hx hb dL_fairWays_1 (by decide) ?_
  refine lv_aload_n hx hb dL_fairWays_2 rfl (lv_at hl 0 rfl) ?_
  refine mc_i (wr := [(oo, .inl (coo, 1, .inr (.inl f0)))]) (va_runV (As := []) (rest := [.int 0, .ref oo]) ⟨hx, hb, hml, hown, hts⟩ (c_fairWays l hst D x g ca co ra rl tr f9 f10 f11 f12 f13 re1 re2 re3 re4 s.heap.size) (cwV 0 hts (gi_c (List.mem_cons_of_mem _ (List.mem_append_left _ (List.mem_of_getElem? (i := 0) rfl))) rfl (gi_c (List.mem_cons_of_mem _ (List.mem_append_left _ (List.mem_of_getElem? (i := 1) rfl))) rfl (gi_c (List.mem_cons_of_mem _ (List.mem_append_left _ (List.mem_of_getElem? (i := 2) rfl))) rfl (gi_c (List.mem_cons_of_mem _ (List.mem_append_left _ (List.mem_of_getElem? (i := 3) rfl))) rfl (goodIn_sub hb_0 (List.all_eq_true.mpr gw_c_fairWays)))))) rfl rfl rfl (by decide +kernel) ⟨Nat.le_of_ble_eq_true rfl, Nat.le_of_ble_eq_true rfl⟩) (pr_V (As := []) (b := x) (C := RX6) hP hD hK hS hA hE [0, 1] [] rfl rfl rfl 0 13 rfl rfl rfl) rfl rfl hl.1 rfl (lv_room (Nat.le_of_ble_eq_true rfl)) dL_fairWays_3 ⟨Nat.le_of_ble_eq_true rfl, Nat.le_of_ble_eq_true rfl⟩) hP hD hK hS hA [0, 1] [2] rfl rfl (by decide) (by decide) (fun r2 _ H locs w1 hP hD hK hS => ?_)
  have hP : va_P D vwCl [(oo, .inl (coo, 1, .inr (.inl f0)))] H := hP
  have hD : va_D A [(oo, .inl (coo, 1, .inr (.inl f0)))] := hD
  have hK : va_K D vwCl [(coo, .long)] s := hK
  refine lv_i2l hx hb dL_fairWays_6 rfl ?_
  refine lv_topl (fun x3 e3 => ?_)
  obtain rfl : x3 = r2.toInt64 := e3
  refine va_last hx hb hK hP hD hS 0 0 rfl rfl (vp_in_nI (n := 0) (by decide) (by decide)) dL_fairWays_7 (fun H locs hP hD hS => ?_)
  have hP : va_P D vwCl [(oo, .inl (coo, 1, .inr (.inl (vp_updL f0 ((0 : Int32).toNatClampNeg) r2.toInt64))))] H := hP
  have hD : va_D A [(oo, .inl (coo, 1, .inr (.inl (vp_updL f0 ((0 : Int32).toNatClampNeg) r2.toInt64))))] := hD
  refine lv_goto (tgt := 14) hx hb dL_fairWays_8 (by decide) ?_
  refine lv_iconst (v := 0) hx hb dL_fairWays_14 (by decide) ?_
  exact mr_i hx hb hr (vp_updL f0 ((0 : Int32).toNatClampNeg) r2.toInt64) (⟨rfl, fun _ => by rw [w1]; rfl⟩) (hP.sub [0] rfl) (hK.sub [] rfl) (hD.sub [0] (by decide) rfl) hS (Nat.le_of_ble_eq_true rfl) (Nat.le_of_ble_eq_true rfl) hlocks dL_fairWays_15

def us_c_Lfinish : List Cond := .codeWith yL_finish cL_finish 5 (some .int) [(0, 10, 13, 19), (0, 10, 17, 38), (0, 10, 21, 13)] :: (([.methodLink RL 82 yX6_finish, .instanceMethod yX6_finish, .selects RX6 yX6_finish yX6_finish, .initialized RX6, .classLink RL 19 "java/lang/IndexOutOfBoundsException"] : List Cond) ++ (us_c_finish ++ ([])))
theorem gw_c_Lfinish : ∀ w ∈ us_c_Lfinish, goodWord w = true := gw_cons rfl (gw_app (by decide +kernel) (gw_app gw_c_finish (fun _ h => nomatch h)))
set_option maxHeartbeats 4000000 in
set_option maxRecDepth 100000 in
/-- the law calls finish -/
theorem c_Lfinish (l : Launch) (hst : l.stackTraces = false) (D : va_G) (x : Nat) (g : Nat) (ca : Nat) (co : Nat) (ra : Nat) (rl : Nat) (tr : Nat) (f9 : Nat) (f10 : Nat) (f11 : Nat) (f12 : Nat) (f13 : Nat) (p0 : Int32) (p1 : Int32) (oo : Nat) (coo : ClassId) (f0 : Nat → Int64) (sz : Nat) : Met l yL_finish us_c_Lfinish { frames := 9, cells := 1, slots := 6, locals := 147 } (pw D [.ref x, .int p0, .int p1, .ref oo] [(coo, .long)] [(x, .inr (13, [.ref g, .ref ca, .int 0, .ref co, .int 0, .ref ra, .int 0, .ref rl, .ref tr, .ref f9, .ref f10, .ref f11, .ref f12, .ref f13])), (oo, .inl (coo, 1, .inr (.inl f0)))] sz) (va_Qi (fun (r : Int32) (u : Nat → Int64) => r = kf_finish p0 p1 ∧ (kf_finish p0 p1 = 0 → u 0 = (rf_finish p0 p1).toInt64)) (qb D (va_A [(x, .inr (13, [.ref g, .ref ca, .int 0, .ref co, .int 0, .ref ra, .int 0, .ref rl, .ref tr, .ref f9, .ref f10, .ref f11, .ref f12, .ref f13])), (oo, .inl (coo, 1, .inr (.inl f0)))] sz) (fun u : (Nat → Int64) => [(oo, .inl (coo, 1, .inr (.inl u)))]) (fun u : (Nat → Int64) => ([] : List (ClassId × FieldType)))) (va_A [(x, .inr (13, [.ref g, .ref ca, .int 0, .ref co, .int 0, .ref ra, .int 0, .ref rl, .ref tr, .ref f9, .ref f10, .ref f11, .ref f12, .ref f13])), (oo, .inl (coo, 1, .inr (.inl f0)))] sz)) 1 6 (va_A [(x, .inr (13, [.ref g, .ref ca, .int 0, .ref co, .int 0, .ref ra, .int 0, .ref rl, .ref tr, .ref f9, .ref f10, .ref f11, .ref f12, .ref f13])), (oo, .inl (coo, 1, .inr (.inl f0)))] sz) := by
  refine op_H (Qc := fun A => (va_Qi (fun (r : Int32) (u : Nat → Int64) => r = kf_finish p0 p1 ∧ (kf_finish p0 p1 = 0 → u 0 = (rf_finish p0 p1).toInt64)) (qb D A (fun u : (Nat → Int64) => [(oo, .inl (coo, 1, .inr (.inl u)))]) (fun u : (Nat → Int64) => ([] : List (ClassId × FieldType)))) A)) (by decide +kernel) rfl (Nat.le_of_ble_eq_true rfl) ?_
  intro p e s m args below meth c A ls hx hb hr hml hts hown hlocks hmn htab hA hD hS hP hK hE hsz hl
  have hown : s.vm.findClass RL = some m.cls := hown
  have hl : lv_has ls 5 [(0, .ref x), (1, .int p0), (2, .int p1), (3, .ref oo)] := hl
  have hw_0 := hts (.methodLink RL 82 yX6_finish) (List.mem_cons_of_mem _ (List.mem_append_left _ (List.mem_of_getElem? (i := 0) rfl)))
  have hw_1 := hts (.instanceMethod yX6_finish) (List.mem_cons_of_mem _ (List.mem_append_left _ (List.mem_of_getElem? (i := 1) rfl)))
  have hw_2 := hts (.selects RX6 yX6_finish yX6_finish) (List.mem_cons_of_mem _ (List.mem_append_left _ (List.mem_of_getElem? (i := 2) rfl)))
  have hw_3 := hts (.initialized RX6) (List.mem_cons_of_mem _ (List.mem_append_left _ (List.mem_of_getElem? (i := 3) rfl)))
  have hw_4 := hts (.classLink RL 19 "java/lang/IndexOutOfBoundsException") (List.mem_cons_of_mem _ (List.mem_append_left _ (List.mem_of_getElem? (i := 4) rfl)))
  have hb_0 : ∀ w ∈ us_c_finish, w ∈ us_c_Lfinish := fun w h => List.mem_cons_of_mem _ (List.mem_append_right _ (List.mem_append_left _ h))
  refine lv_aload_n hx hb dL_finish_0 rfl (lv_at hl 3 rfl) ?_
  refine lv_iconst (v := 0) hx hb dL_finish_1 (by decide) ?_
  refine lv_aload_n hx hb dL_finish_2 rfl (lv_at hl 0 rfl) ?_
  refine lv_iload_n hx hb dL_finish_3 rfl (lv_at hl 1 rfl) ?_
  refine lv_iload_n hx hb dL_finish_4 rfl (lv_at hl 2 rfl) ?_
  refine mtc (wr := [(oo, .inl (coo, 1, .inr (.inl f0)))]) (vx_runV (As := [.int p0, .int p1]) (rest := [.int 0, .ref oo]) ⟨hx, hb, hml, hown, hts⟩ (c_finish l hst D x g ca co ra rl tr f9 f10 f11 f12 f13 p0 p1 s.heap.size) (cwV 2 hts (gi_c (List.mem_cons_of_mem _ (List.mem_append_left _ (List.mem_of_getElem? (i := 0) rfl))) rfl (gi_c (List.mem_cons_of_mem _ (List.mem_append_left _ (List.mem_of_getElem? (i := 1) rfl))) rfl (gi_c (List.mem_cons_of_mem _ (List.mem_append_left _ (List.mem_of_getElem? (i := 2) rfl))) rfl (gi_c (List.mem_cons_of_mem _ (List.mem_append_left _ (List.mem_of_getElem? (i := 3) rfl))) rfl (goodIn_sub hb_0 (List.all_eq_true.mpr gw_c_finish)))))) rfl rfl rfl (by decide +kernel) ⟨Nat.le_of_ble_eq_true rfl, Nat.le_of_ble_eq_true rfl⟩) (pr_V (As := [.int p0, .int p1]) (b := x) (C := RX6) hP hD hK hS hA hE [0] [] rfl rfl rfl 0 13 rfl rfl rfl) rfl rfl hl.1 rfl (lv_room (Nat.le_of_ble_eq_true rfl)) dL_finish_5 ⟨Nat.le_of_ble_eq_true rfl, Nat.le_of_ble_eq_true rfl⟩) hP hD hS hA [0] [1] rfl rfl (by decide) (by decide) (fun E ce q9 H locs hp hP hD hS hq1 hq2 hq3 => ?_)
  have hKx := hE.2.2.2.2.2.1
  have hP : va_P D vwCl [(oo, .inl (coo, 1, .inr (.inl f0)))] H := hP
  have hD : va_D A [(oo, .inl (coo, 1, .inr (.inl f0)))] := hD
  rcases hp with rfl
  refine vx_catch (E := "java/lang/IndexOutOfBoundsException") (name := "java/lang/IndexOutOfBoundsException") hown [] (⟨0, 10, 13, 19⟩ : ExceptionTableEntry) [(⟨0, 10, 17, 38⟩ : ExceptionTableEntry), (⟨0, 10, 21, 13⟩ : ExceptionTableEntry)] (htab.trans rfl) (fun z hz => nomatch hz) rfl (by decide) hw_4 (hKx.use _ (List.mem_of_getElem? (i := 4) rfl)) hq1 hq2 hq3 ?_
  refine W.eq (g2 := F0 m 13 ls [.ref q9]) rfl ?_
  refine lv_astore (lv' := [(4, .ref q9), (0, .ref x), (1, .int p0), (2, .int p1), (3, .ref oo)]) hx hb dL_finish_13 hl (by decide) rfl (fun ls hl => ?_)
  refine lv_iconst (v := 1) hx hb dL_finish_15 (by decide) ?_
  exact mr_i hx hb hr f0 (⟨rfl, fun q9 => absurd (show (1 : Int32) = 0 from q9) (by decide)⟩) (hP.sub [0] rfl) (hK.sub [] rfl) (hD.sub [0] (by decide) rfl) hS (Nat.le_of_ble_eq_true rfl) (Nat.le_of_ble_eq_true rfl) hlocks dL_finish_16

def us_c_Lfix : List Cond := .codeWith yL_fix cL_fix 6 (some .int) [(0, 12, 15, 19), (0, 12, 19, 13), (0, 12, 23, 40)] :: (([.methodLink RL 145 yX6_fix, .instanceMethod yX6_fix, .selects RX6 yX6_fix yX6_fix, .initialized RX6, .classLink RL 19 "java/lang/IndexOutOfBoundsException"] : List Cond) ++ (us_c_fix ++ ([])))
theorem gw_c_Lfix : ∀ w ∈ us_c_Lfix, goodWord w = true := gw_cons rfl (gw_app (by decide +kernel) (gw_app gw_c_fix (fun _ h => nomatch h)))
set_option maxHeartbeats 4000000 in
set_option maxRecDepth 100000 in
/-- the law calls fix -/
theorem c_Lfix (l : Launch) (hst : l.stackTraces = false) (D : va_G) (x : Nat) (g : Nat) (ca : Nat) (co : Nat) (ra : Nat) (rl : Nat) (tr : Nat) (f9 : Nat) (f10 : Nat) (f11 : Nat) (f12 : Nat) (f13 : Nat) (p0 : Int32) (p1 : Int32) (p2 : Int32) (oo : Nat) (coo : ClassId) (f0 : Nat → Int64) (sz : Nat) : Met l yL_fix us_c_Lfix { frames := 9, cells := 1, slots := 6, locals := 148 } (pw D [.ref x, .int p0, .int p1, .int p2, .ref oo] [(coo, .long)] [(x, .inr (13, [.ref g, .ref ca, .int 0, .ref co, .int 0, .ref ra, .int 0, .ref rl, .ref tr, .ref f9, .ref f10, .ref f11, .ref f12, .ref f13])), (oo, .inl (coo, 1, .inr (.inl f0)))] sz) (va_Qi (fun (r : Int32) (u : Nat → Int64) => r = kf_fix p0 p1 p2 ∧ (kf_fix p0 p1 p2 = 0 → u 0 = (rf_fix p0 p1 p2).toInt64)) (qb D (va_A [(x, .inr (13, [.ref g, .ref ca, .int 0, .ref co, .int 0, .ref ra, .int 0, .ref rl, .ref tr, .ref f9, .ref f10, .ref f11, .ref f12, .ref f13])), (oo, .inl (coo, 1, .inr (.inl f0)))] sz) (fun u : (Nat → Int64) => [(oo, .inl (coo, 1, .inr (.inl u)))]) (fun u : (Nat → Int64) => ([] : List (ClassId × FieldType)))) (va_A [(x, .inr (13, [.ref g, .ref ca, .int 0, .ref co, .int 0, .ref ra, .int 0, .ref rl, .ref tr, .ref f9, .ref f10, .ref f11, .ref f12, .ref f13])), (oo, .inl (coo, 1, .inr (.inl f0)))] sz)) 1 6 (va_A [(x, .inr (13, [.ref g, .ref ca, .int 0, .ref co, .int 0, .ref ra, .int 0, .ref rl, .ref tr, .ref f9, .ref f10, .ref f11, .ref f12, .ref f13])), (oo, .inl (coo, 1, .inr (.inl f0)))] sz) := by
  refine op_H (Qc := fun A => (va_Qi (fun (r : Int32) (u : Nat → Int64) => r = kf_fix p0 p1 p2 ∧ (kf_fix p0 p1 p2 = 0 → u 0 = (rf_fix p0 p1 p2).toInt64)) (qb D A (fun u : (Nat → Int64) => [(oo, .inl (coo, 1, .inr (.inl u)))]) (fun u : (Nat → Int64) => ([] : List (ClassId × FieldType)))) A)) (by decide +kernel) rfl (Nat.le_of_ble_eq_true rfl) ?_
  intro p e s m args below meth c A ls hx hb hr hml hts hown hlocks hmn htab hA hD hS hP hK hE hsz hl
  have hown : s.vm.findClass RL = some m.cls := hown
  have hl : lv_has ls 6 [(0, .ref x), (1, .int p0), (2, .int p1), (3, .int p2), (4, .ref oo)] := hl
  have hw_0 := hts (.methodLink RL 145 yX6_fix) (List.mem_cons_of_mem _ (List.mem_append_left _ (List.mem_of_getElem? (i := 0) rfl)))
  have hw_1 := hts (.instanceMethod yX6_fix) (List.mem_cons_of_mem _ (List.mem_append_left _ (List.mem_of_getElem? (i := 1) rfl)))
  have hw_2 := hts (.selects RX6 yX6_fix yX6_fix) (List.mem_cons_of_mem _ (List.mem_append_left _ (List.mem_of_getElem? (i := 2) rfl)))
  have hw_3 := hts (.initialized RX6) (List.mem_cons_of_mem _ (List.mem_append_left _ (List.mem_of_getElem? (i := 3) rfl)))
  have hw_4 := hts (.classLink RL 19 "java/lang/IndexOutOfBoundsException") (List.mem_cons_of_mem _ (List.mem_append_left _ (List.mem_of_getElem? (i := 4) rfl)))
  have hb_0 : ∀ w ∈ us_c_fix, w ∈ us_c_Lfix := fun w h => List.mem_cons_of_mem _ (List.mem_append_right _ (List.mem_append_left _ h))
  refine lv_aload hx hb dL_fix_0 (lv_at hl 4 rfl) ?_
  refine lv_iconst (v := 0) hx hb dL_fix_2 (by decide) ?_
  refine lv_aload_n hx hb dL_fix_3 rfl (lv_at hl 0 rfl) ?_
  refine lv_iload_n hx hb dL_fix_4 rfl (lv_at hl 1 rfl) ?_
  refine lv_iload_n hx hb dL_fix_5 rfl (lv_at hl 2 rfl) ?_
  refine lv_iload_n hx hb dL_fix_6 rfl (lv_at hl 3 rfl) ?_
  refine mtc (wr := [(oo, .inl (coo, 1, .inr (.inl f0)))]) (vx_runV (As := [.int p0, .int p1, .int p2]) (rest := [.int 0, .ref oo]) ⟨hx, hb, hml, hown, hts⟩ (c_fix l hst D x g ca co ra rl tr f9 f10 f11 f12 f13 p0 p1 p2 s.heap.size) (cwV 3 hts (gi_c (List.mem_cons_of_mem _ (List.mem_append_left _ (List.mem_of_getElem? (i := 0) rfl))) rfl (gi_c (List.mem_cons_of_mem _ (List.mem_append_left _ (List.mem_of_getElem? (i := 1) rfl))) rfl (gi_c (List.mem_cons_of_mem _ (List.mem_append_left _ (List.mem_of_getElem? (i := 2) rfl))) rfl (gi_c (List.mem_cons_of_mem _ (List.mem_append_left _ (List.mem_of_getElem? (i := 3) rfl))) rfl (goodIn_sub hb_0 (List.all_eq_true.mpr gw_c_fix)))))) rfl rfl rfl (by decide +kernel) ⟨Nat.le_of_ble_eq_true rfl, Nat.le_of_ble_eq_true rfl⟩) (pr_V (As := [.int p0, .int p1, .int p2]) (b := x) (C := RX6) hP hD hK hS hA hE [0] [] rfl rfl rfl 0 13 rfl rfl rfl) rfl rfl hl.1 rfl (lv_room (Nat.le_of_ble_eq_true rfl)) dL_fix_7 ⟨Nat.le_of_ble_eq_true rfl, Nat.le_of_ble_eq_true rfl⟩) hP hD hS hA [0] [1] rfl rfl (by decide) (by decide) (fun E ce q9 H locs hp hP hD hS hq1 hq2 hq3 => ?_)
  have hKx := hE.2.2.2.2.2.1
  have hP : va_P D vwCl [(oo, .inl (coo, 1, .inr (.inl f0)))] H := hP
  have hD : va_D A [(oo, .inl (coo, 1, .inr (.inl f0)))] := hD
  rcases hp with rfl
  refine vx_catch (E := "java/lang/IndexOutOfBoundsException") (name := "java/lang/IndexOutOfBoundsException") hown [] (⟨0, 12, 15, 19⟩ : ExceptionTableEntry) [(⟨0, 12, 19, 13⟩ : ExceptionTableEntry), (⟨0, 12, 23, 40⟩ : ExceptionTableEntry)] (htab.trans rfl) (fun z hz => nomatch hz) rfl (by decide) hw_4 (hKx.use _ (List.mem_of_getElem? (i := 4) rfl)) hq1 hq2 hq3 ?_
  refine W.eq (g2 := F0 m 15 ls [.ref q9]) rfl ?_
  refine lv_astore (lv' := [(5, .ref q9), (0, .ref x), (1, .int p0), (2, .int p1), (3, .int p2), (4, .ref oo)]) hx hb dL_fix_15 hl (by decide) rfl (fun ls hl => ?_)
  refine lv_iconst (v := 1) hx hb dL_fix_17 (by decide) ?_
  exact mr_i hx hb hr f0 (⟨rfl, fun q9 => absurd (show (1 : Int32) = 0 from q9) (by decide)⟩) (hP.sub [0] rfl) (hK.sub [] rfl) (hD.sub [0] (by decide) rfl) hS (Nat.le_of_ble_eq_true rfl) (Nat.le_of_ble_eq_true rfl) hlocks dL_fix_18

def us_c_Lfork : List Cond := .codeWith yL_fork cL_fork 6 (some .int) [(0, 12, 15, 19), (0, 12, 19, 38), (0, 12, 23, 13)] :: (([.methodLink RL 53 yX6_fork, .instanceMethod yX6_fork, .selects RX6 yX6_fork yX6_fork, .initialized RX6, .classLink RL 19 "java/lang/IndexOutOfBoundsException"] : List Cond) ++ (us_c_fork ++ ([])))
theorem gw_c_Lfork : ∀ w ∈ us_c_Lfork, goodWord w = true := gw_cons rfl (gw_app (by decide +kernel) (gw_app gw_c_fork (fun _ h => nomatch h)))
set_option maxHeartbeats 4000000 in
set_option maxRecDepth 100000 in
/-- the law calls fork -/
theorem c_Lfork (l : Launch) (hst : l.stackTraces = false) (D : va_G) (x : Nat) (g : Nat) (ca : Nat) (co : Nat) (ra : Nat) (rl : Nat) (tr : Nat) (f9 : Nat) (f10 : Nat) (f11 : Nat) (f12 : Nat) (f13 : Nat) (p0 : Int32) (p1 : Int32) (p2 : Int32) (oo : Nat) (coo : ClassId) (f0 : Nat → Int64) (sz : Nat) : Met l yL_fork us_c_Lfork { frames := 9, cells := 1, slots := 6, locals := 148 } (pw D [.ref x, .int p0, .int p1, .int p2, .ref oo] [(coo, .long)] [(x, .inr (13, [.ref g, .ref ca, .int 0, .ref co, .int 0, .ref ra, .int 0, .ref rl, .ref tr, .ref f9, .ref f10, .ref f11, .ref f12, .ref f13])), (oo, .inl (coo, 1, .inr (.inl f0)))] sz) (va_Qi (fun (r : Int32) (u : Nat → Int64) => r = kf_fork p0 p1 p2 ∧ (kf_fork p0 p1 p2 = 0 → u 0 = (rf_fork p0 p1 p2).toInt64)) (qb D (va_A [(x, .inr (13, [.ref g, .ref ca, .int 0, .ref co, .int 0, .ref ra, .int 0, .ref rl, .ref tr, .ref f9, .ref f10, .ref f11, .ref f12, .ref f13])), (oo, .inl (coo, 1, .inr (.inl f0)))] sz) (fun u : (Nat → Int64) => [(oo, .inl (coo, 1, .inr (.inl u)))]) (fun u : (Nat → Int64) => ([] : List (ClassId × FieldType)))) (va_A [(x, .inr (13, [.ref g, .ref ca, .int 0, .ref co, .int 0, .ref ra, .int 0, .ref rl, .ref tr, .ref f9, .ref f10, .ref f11, .ref f12, .ref f13])), (oo, .inl (coo, 1, .inr (.inl f0)))] sz)) 1 6 (va_A [(x, .inr (13, [.ref g, .ref ca, .int 0, .ref co, .int 0, .ref ra, .int 0, .ref rl, .ref tr, .ref f9, .ref f10, .ref f11, .ref f12, .ref f13])), (oo, .inl (coo, 1, .inr (.inl f0)))] sz) := by
  refine op_H (Qc := fun A => (va_Qi (fun (r : Int32) (u : Nat → Int64) => r = kf_fork p0 p1 p2 ∧ (kf_fork p0 p1 p2 = 0 → u 0 = (rf_fork p0 p1 p2).toInt64)) (qb D A (fun u : (Nat → Int64) => [(oo, .inl (coo, 1, .inr (.inl u)))]) (fun u : (Nat → Int64) => ([] : List (ClassId × FieldType)))) A)) (by decide +kernel) rfl (Nat.le_of_ble_eq_true rfl) ?_
  intro p e s m args below meth c A ls hx hb hr hml hts hown hlocks hmn htab hA hD hS hP hK hE hsz hl
  have hown : s.vm.findClass RL = some m.cls := hown
  have hl : lv_has ls 6 [(0, .ref x), (1, .int p0), (2, .int p1), (3, .int p2), (4, .ref oo)] := hl
  have hw_0 := hts (.methodLink RL 53 yX6_fork) (List.mem_cons_of_mem _ (List.mem_append_left _ (List.mem_of_getElem? (i := 0) rfl)))
  have hw_1 := hts (.instanceMethod yX6_fork) (List.mem_cons_of_mem _ (List.mem_append_left _ (List.mem_of_getElem? (i := 1) rfl)))
  have hw_2 := hts (.selects RX6 yX6_fork yX6_fork) (List.mem_cons_of_mem _ (List.mem_append_left _ (List.mem_of_getElem? (i := 2) rfl)))
  have hw_3 := hts (.initialized RX6) (List.mem_cons_of_mem _ (List.mem_append_left _ (List.mem_of_getElem? (i := 3) rfl)))
  have hw_4 := hts (.classLink RL 19 "java/lang/IndexOutOfBoundsException") (List.mem_cons_of_mem _ (List.mem_append_left _ (List.mem_of_getElem? (i := 4) rfl)))
  have hb_0 : ∀ w ∈ us_c_fork, w ∈ us_c_Lfork := fun w h => List.mem_cons_of_mem _ (List.mem_append_right _ (List.mem_append_left _ h))
  refine lv_aload hx hb dL_fork_0 (lv_at hl 4 rfl) ?_
  refine lv_iconst (v := 0) hx hb dL_fork_2 (by decide) ?_
  refine lv_aload_n hx hb dL_fork_3 rfl (lv_at hl 0 rfl) ?_
  refine lv_iload_n hx hb dL_fork_4 rfl (lv_at hl 1 rfl) ?_
  refine lv_iload_n hx hb dL_fork_5 rfl (lv_at hl 2 rfl) ?_
  refine lv_iload_n hx hb dL_fork_6 rfl (lv_at hl 3 rfl) ?_
  refine mtc (wr := [(oo, .inl (coo, 1, .inr (.inl f0)))]) (vx_runV (As := [.int p0, .int p1, .int p2]) (rest := [.int 0, .ref oo]) ⟨hx, hb, hml, hown, hts⟩ (c_fork l hst D x g ca co ra rl tr f9 f10 f11 f12 f13 p0 p1 p2 s.heap.size) (cwV 3 hts (gi_c (List.mem_cons_of_mem _ (List.mem_append_left _ (List.mem_of_getElem? (i := 0) rfl))) rfl (gi_c (List.mem_cons_of_mem _ (List.mem_append_left _ (List.mem_of_getElem? (i := 1) rfl))) rfl (gi_c (List.mem_cons_of_mem _ (List.mem_append_left _ (List.mem_of_getElem? (i := 2) rfl))) rfl (gi_c (List.mem_cons_of_mem _ (List.mem_append_left _ (List.mem_of_getElem? (i := 3) rfl))) rfl (goodIn_sub hb_0 (List.all_eq_true.mpr gw_c_fork)))))) rfl rfl rfl (by decide +kernel) ⟨Nat.le_of_ble_eq_true rfl, Nat.le_of_ble_eq_true rfl⟩) (pr_V (As := [.int p0, .int p1, .int p2]) (b := x) (C := RX6) hP hD hK hS hA hE [0] [] rfl rfl rfl 0 13 rfl rfl rfl) rfl rfl hl.1 rfl (lv_room (Nat.le_of_ble_eq_true rfl)) dL_fork_7 ⟨Nat.le_of_ble_eq_true rfl, Nat.le_of_ble_eq_true rfl⟩) hP hD hS hA [0] [1] rfl rfl (by decide) (by decide) (fun E ce q9 H locs hp hP hD hS hq1 hq2 hq3 => ?_)
  have hKx := hE.2.2.2.2.2.1
  have hP : va_P D vwCl [(oo, .inl (coo, 1, .inr (.inl f0)))] H := hP
  have hD : va_D A [(oo, .inl (coo, 1, .inr (.inl f0)))] := hD
  rcases hp with rfl
  refine vx_catch (E := "java/lang/IndexOutOfBoundsException") (name := "java/lang/IndexOutOfBoundsException") hown [] (⟨0, 12, 15, 19⟩ : ExceptionTableEntry) [(⟨0, 12, 19, 38⟩ : ExceptionTableEntry), (⟨0, 12, 23, 13⟩ : ExceptionTableEntry)] (htab.trans rfl) (fun z hz => nomatch hz) rfl (by decide) hw_4 (hKx.use _ (List.mem_of_getElem? (i := 4) rfl)) hq1 hq2 hq3 ?_
  refine W.eq (g2 := F0 m 15 ls [.ref q9]) rfl ?_
  refine lv_astore (lv' := [(5, .ref q9), (0, .ref x), (1, .int p0), (2, .int p1), (3, .int p2), (4, .ref oo)]) hx hb dL_fork_15 hl (by decide) rfl (fun ls hl => ?_)
  refine lv_iconst (v := 1) hx hb dL_fork_17 (by decide) ?_
  exact mr_i hx hb hr f0 (⟨rfl, fun q9 => absurd (show (1 : Int32) = 0 from q9) (by decide)⟩) (hP.sub [0] rfl) (hK.sub [] rfl) (hD.sub [0] (by decide) rfl) hS (Nat.le_of_ble_eq_true rfl) (Nat.le_of_ble_eq_true rfl) hlocks dL_fork_18

def us_c_LisLawful : List Cond := .codeWith yL_isLawful cL_isLawful 4 (some .int) [(0, 16, 19, 19)] :: (([.methodLink RL 56 yX6_isLawful, .instanceMethod yX6_isLawful, .selects RX6 yX6_isLawful yX6_isLawful, .initialized RX6, .classLink RL 19 "java/lang/IndexOutOfBoundsException"] : List Cond) ++ (us_c_isLawful ++ ([])))
theorem gw_c_LisLawful : ∀ w ∈ us_c_LisLawful, goodWord w = true := gw_cons rfl (gw_app (by decide +kernel) (gw_app gw_c_isLawful (fun _ h => nomatch h)))
set_option maxHeartbeats 4000000 in
set_option maxRecDepth 100000 in
/-- the law calls isLawful -/
theorem c_LisLawful (l : Launch) (hst : l.stackTraces = false) (D : va_G) (x : Nat) (g : Nat) (ca : Nat) (co : Nat) (ra : Nat) (rl : Nat) (tr : Nat) (f9 : Nat) (f10 : Nat) (f11 : Nat) (f12 : Nat) (f13 : Nat) (p0 : Int32) (oo : Nat) (coo : ClassId) (f0 : Nat → Int64) (sz : Nat) : Met l yL_isLawful us_c_LisLawful { frames := 9, cells := 1, slots := 6, locals := 146 } (pw D [.ref x, .int p0, .ref oo] [(coo, .long)] [(x, .inr (13, [.ref g, .ref ca, .int 0, .ref co, .int 0, .ref ra, .int 0, .ref rl, .ref tr, .ref f9, .ref f10, .ref f11, .ref f12, .ref f13])), (oo, .inl (coo, 1, .inr (.inl f0)))] sz) (va_Qi (fun (r : Int32) (u : Nat → Int64) => r = kf_isLawful p0 ∧ (kf_isLawful p0 = 0 → u 0 = (rf_isLawful p0).toInt64)) (qb D (va_A [(x, .inr (13, [.ref g, .ref ca, .int 0, .ref co, .int 0, .ref ra, .int 0, .ref rl, .ref tr, .ref f9, .ref f10, .ref f11, .ref f12, .ref f13])), (oo, .inl (coo, 1, .inr (.inl f0)))] sz) (fun u : (Nat → Int64) => [(oo, .inl (coo, 1, .inr (.inl u)))]) (fun u : (Nat → Int64) => ([] : List (ClassId × FieldType)))) (va_A [(x, .inr (13, [.ref g, .ref ca, .int 0, .ref co, .int 0, .ref ra, .int 0, .ref rl, .ref tr, .ref f9, .ref f10, .ref f11, .ref f12, .ref f13])), (oo, .inl (coo, 1, .inr (.inl f0)))] sz)) 1 6 (va_A [(x, .inr (13, [.ref g, .ref ca, .int 0, .ref co, .int 0, .ref ra, .int 0, .ref rl, .ref tr, .ref f9, .ref f10, .ref f11, .ref f12, .ref f13])), (oo, .inl (coo, 1, .inr (.inl f0)))] sz) := by
  refine op_H (Qc := fun A => (va_Qi (fun (r : Int32) (u : Nat → Int64) => r = kf_isLawful p0 ∧ (kf_isLawful p0 = 0 → u 0 = (rf_isLawful p0).toInt64)) (qb D A (fun u : (Nat → Int64) => [(oo, .inl (coo, 1, .inr (.inl u)))]) (fun u : (Nat → Int64) => ([] : List (ClassId × FieldType)))) A)) (by decide +kernel) rfl (Nat.le_of_ble_eq_true rfl) ?_
  intro p e s m args below meth c A ls hx hb hr hml hts hown hlocks hmn htab hA hD hS hP hK hE hsz hl
  have hown : s.vm.findClass RL = some m.cls := hown
  have hl : lv_has ls 4 [(0, .ref x), (1, .int p0), (2, .ref oo)] := hl
  have hw_0 := hts (.methodLink RL 56 yX6_isLawful) (List.mem_cons_of_mem _ (List.mem_append_left _ (List.mem_of_getElem? (i := 0) rfl)))
  have hw_1 := hts (.instanceMethod yX6_isLawful) (List.mem_cons_of_mem _ (List.mem_append_left _ (List.mem_of_getElem? (i := 1) rfl)))
  have hw_2 := hts (.selects RX6 yX6_isLawful yX6_isLawful) (List.mem_cons_of_mem _ (List.mem_append_left _ (List.mem_of_getElem? (i := 2) rfl)))
  have hw_3 := hts (.initialized RX6) (List.mem_cons_of_mem _ (List.mem_append_left _ (List.mem_of_getElem? (i := 3) rfl)))
  have hw_4 := hts (.classLink RL 19 "java/lang/IndexOutOfBoundsException") (List.mem_cons_of_mem _ (List.mem_append_left _ (List.mem_of_getElem? (i := 4) rfl)))
  have hb_0 : ∀ w ∈ us_c_isLawful, w ∈ us_c_LisLawful := fun w h => List.mem_cons_of_mem _ (List.mem_append_right _ (List.mem_append_left _ h))
  refine lv_aload_n hx hb dL_isLawful_0 rfl (lv_at hl 2 rfl) ?_
  refine lv_iconst (v := 0) hx hb dL_isLawful_1 (by decide) ?_
  refine lv_aload_n hx hb dL_isLawful_2 rfl (lv_at hl 0 rfl) ?_
  refine lv_iload_n hx hb dL_isLawful_3 rfl (lv_at hl 1 rfl) ?_
  refine mtc (wr := [(oo, .inl (coo, 1, .inr (.inl f0)))]) (vx_runV (As := [.int p0]) (rest := [.int 0, .ref oo]) ⟨hx, hb, hml, hown, hts⟩ (c_isLawful l hst D x g ca co ra rl tr f9 f10 f11 f12 f13 p0 s.heap.size) (cwV 1 hts (gi_c (List.mem_cons_of_mem _ (List.mem_append_left _ (List.mem_of_getElem? (i := 0) rfl))) rfl (gi_c (List.mem_cons_of_mem _ (List.mem_append_left _ (List.mem_of_getElem? (i := 1) rfl))) rfl (gi_c (List.mem_cons_of_mem _ (List.mem_append_left _ (List.mem_of_getElem? (i := 2) rfl))) rfl (gi_c (List.mem_cons_of_mem _ (List.mem_append_left _ (List.mem_of_getElem? (i := 3) rfl))) rfl (goodIn_sub hb_0 (List.all_eq_true.mpr gw_c_isLawful)))))) rfl rfl rfl (by decide +kernel) ⟨Nat.le_of_ble_eq_true rfl, Nat.le_of_ble_eq_true rfl⟩) (pr_V (As := [.int p0]) (b := x) (C := RX6) hP hD hK hS hA hE [0] [] rfl rfl rfl 0 13 rfl rfl rfl) rfl rfl hl.1 rfl (lv_room (Nat.le_of_ble_eq_true rfl)) dL_isLawful_4 ⟨Nat.le_of_ble_eq_true rfl, Nat.le_of_ble_eq_true rfl⟩) hP hD hS hA [0] [1] rfl rfl (by decide) (by decide) (fun E ce q9 H locs hp hP hD hS hq1 hq2 hq3 => ?_)
  have hKx := hE.2.2.2.2.2.1
  have hP : va_P D vwCl [(oo, .inl (coo, 1, .inr (.inl f0)))] H := hP
  have hD : va_D A [(oo, .inl (coo, 1, .inr (.inl f0)))] := hD
  rcases hp with rfl
  refine vx_catch (E := "java/lang/IndexOutOfBoundsException") (name := "java/lang/IndexOutOfBoundsException") hown [] (⟨0, 16, 19, 19⟩ : ExceptionTableEntry) [] (htab.trans rfl) (fun z hz => nomatch hz) rfl (by decide) hw_4 (hKx.use _ (List.mem_of_getElem? (i := 4) rfl)) hq1 hq2 hq3 ?_
  refine W.eq (g2 := F0 m 19 ls [.ref q9]) rfl ?_
  refine lv_astore_n (lv' := [(3, .ref q9), (0, .ref x), (1, .int p0), (2, .ref oo)]) hx hb dL_isLawful_19 rfl hl (by decide) rfl (fun ls hl => ?_)
  refine lv_iconst (v := 1) hx hb dL_isLawful_20 (by decide) ?_
  exact mr_i hx hb hr f0 (⟨rfl, fun q9 => absurd (show (1 : Int32) = 0 from q9) (by decide)⟩) (hP.sub [0] rfl) (hK.sub [] rfl) (hD.sub [0] (by decide) rfl) hS (Nat.le_of_ble_eq_true rfl) (Nat.le_of_ble_eq_true rfl) hlocks dL_isLawful_21

def us_c_Lland : List Cond := .codeWith yL_land cL_land 5 (some .int) [(0, 10, 13, 13)] :: (([.methodLink RL 7 yX6_land, .instanceMethod yX6_land, .selects RX6 yX6_land yX6_land, .initialized RX6, .classLink RL 13 "java/lang/IllegalArgumentException"] : List Cond) ++ (us_c_land ++ ([])))
theorem gw_c_Lland : ∀ w ∈ us_c_Lland, goodWord w = true := gw_cons rfl (gw_app (by decide +kernel) (gw_app gw_c_land (fun _ h => nomatch h)))
set_option maxHeartbeats 4000000 in
set_option maxRecDepth 100000 in
/-- the law calls land -/
theorem c_Lland (l : Launch) (hst : l.stackTraces = false) (D : va_G) (x : Nat) (g : Nat) (ca : Nat) (co : Nat) (ra : Nat) (rl : Nat) (tr : Nat) (f9 : Nat) (f10 : Nat) (f11 : Nat) (f12 : Nat) (f13 : Nat) (a1 : Nat) (a2 : Nat) (a3 : Nat) (a4 : Nat) (a5 : Nat) (a6 : Nat) (a7 : Nat) (a8 : Nat) (a9 : Nat) (a10 : Nat) (a11 : Nat) (f7 : Nat → Int32) (f8 : Nat → Int32) (re1 : Nat) (re2 : Nat) (re3 : Nat) (re4 : Nat) (ck : ClassId) (csk : ClassId) (cg : ClassId) (ch : ClassId) (csg : ClassId) (cb : ClassId) (cc7 : ClassId) (cc8 : ClassId) (p0 : Int32) (p1 : Int32) (oo : Nat) (coo : ClassId) (f0 : Nat → Int64) (sz : Nat) : Met l yL_land us_c_Lland { frames := 8, cells := 2, slots := 12, locals := 126 } (pw D [.ref x, .int p0, .int p1, .ref oo] [(ck, .char), (csk, .char), (cg, .int), (ch, .int), (csg, .int), (cb, .int), (cc7, .int), (cc8, .int), (coo, .long)] [(x, .inr (13, [.ref g, .ref ca, .int 0, .ref co, .int 0, .ref ra, .int 0, .ref rl, .ref tr, .ref f9, .ref f10, .ref f11, .ref f12, .ref f13])), (g, .inr (11, [.int 25, .ref a1, .ref a2, .ref a3, .ref a4, .ref a5, .ref a6, .ref a7, .ref a8, .ref a9, .ref a10, .ref a11, .int 0, .int 0])), (a3, .inl (ck, 144, .inl okF)), (a5, .inl (csk, 144, .inl okF)), (a1, .inl (cg, 144, .inl (fun _ => 0))), (a2, .inl (ch, 144, .inl (fun _ => 0))), (a4, .inl (csg, 144, .inl (fun _ => 0))), (a9, .inl (cb, 576, .inl beF)), (a7, .inl (cc7, 144, .inl f7)), (a8, .inl (cc8, 144, .inl f8)), (rl, .inr (9, [.int 0, .int 0, .ref re1, .ref re2, .ref re3, .ref re4])), (oo, .inl (coo, 1, .inr (.inl f0)))] sz) (va_Qi (fun (r : Int32) (u : Nat → Int64) => r = kf_land p0 p1 ∧ (kf_land p0 p1 = 0 → u 0 = (rf_land p0 p1).toInt64)) (qb D (va_A [(x, .inr (13, [.ref g, .ref ca, .int 0, .ref co, .int 0, .ref ra, .int 0, .ref rl, .ref tr, .ref f9, .ref f10, .ref f11, .ref f12, .ref f13])), (g, .inr (11, [.int 25, .ref a1, .ref a2, .ref a3, .ref a4, .ref a5, .ref a6, .ref a7, .ref a8, .ref a9, .ref a10, .ref a11, .int 0, .int 0])), (a3, .inl (ck, 144, .inl okF)), (a5, .inl (csk, 144, .inl okF)), (a1, .inl (cg, 144, .inl (fun _ => 0))), (a2, .inl (ch, 144, .inl (fun _ => 0))), (a4, .inl (csg, 144, .inl (fun _ => 0))), (a9, .inl (cb, 576, .inl beF)), (a7, .inl (cc7, 144, .inl f7)), (a8, .inl (cc8, 144, .inl f8)), (rl, .inr (9, [.int 0, .int 0, .ref re1, .ref re2, .ref re3, .ref re4])), (oo, .inl (coo, 1, .inr (.inl f0)))] sz) (fun u : (Nat → Int64) => [(oo, .inl (coo, 1, .inr (.inl u)))]) (fun u : (Nat → Int64) => ([] : List (ClassId × FieldType)))) (va_A [(x, .inr (13, [.ref g, .ref ca, .int 0, .ref co, .int 0, .ref ra, .int 0, .ref rl, .ref tr, .ref f9, .ref f10, .ref f11, .ref f12, .ref f13])), (g, .inr (11, [.int 25, .ref a1, .ref a2, .ref a3, .ref a4, .ref a5, .ref a6, .ref a7, .ref a8, .ref a9, .ref a10, .ref a11, .int 0, .int 0])), (a3, .inl (ck, 144, .inl okF)), (a5, .inl (csk, 144, .inl okF)), (a1, .inl (cg, 144, .inl (fun _ => 0))), (a2, .inl (ch, 144, .inl (fun _ => 0))), (a4, .inl (csg, 144, .inl (fun _ => 0))), (a9, .inl (cb, 576, .inl beF)), (a7, .inl (cc7, 144, .inl f7)), (a8, .inl (cc8, 144, .inl f8)), (rl, .inr (9, [.int 0, .int 0, .ref re1, .ref re2, .ref re3, .ref re4])), (oo, .inl (coo, 1, .inr (.inl f0)))] sz)) 2 12 (va_A [(x, .inr (13, [.ref g, .ref ca, .int 0, .ref co, .int 0, .ref ra, .int 0, .ref rl, .ref tr, .ref f9, .ref f10, .ref f11, .ref f12, .ref f13])), (g, .inr (11, [.int 25, .ref a1, .ref a2, .ref a3, .ref a4, .ref a5, .ref a6, .ref a7, .ref a8, .ref a9, .ref a10, .ref a11, .int 0, .int 0])), (a3, .inl (ck, 144, .inl okF)), (a5, .inl (csk, 144, .inl okF)), (a1, .inl (cg, 144, .inl (fun _ => 0))), (a2, .inl (ch, 144, .inl (fun _ => 0))), (a4, .inl (csg, 144, .inl (fun _ => 0))), (a9, .inl (cb, 576, .inl beF)), (a7, .inl (cc7, 144, .inl f7)), (a8, .inl (cc8, 144, .inl f8)), (rl, .inr (9, [.int 0, .int 0, .ref re1, .ref re2, .ref re3, .ref re4])), (oo, .inl (coo, 1, .inr (.inl f0)))] sz) := by
  refine op_H (Qc := fun A => (va_Qi (fun (r : Int32) (u : Nat → Int64) => r = kf_land p0 p1 ∧ (kf_land p0 p1 = 0 → u 0 = (rf_land p0 p1).toInt64)) (qb D A (fun u : (Nat → Int64) => [(oo, .inl (coo, 1, .inr (.inl u)))]) (fun u : (Nat → Int64) => ([] : List (ClassId × FieldType)))) A)) (by decide +kernel) rfl (Nat.le_of_ble_eq_true rfl) ?_
  intro p e s m args below meth c A ls hx hb hr hml hts hown hlocks hmn htab hA hD hS hP hK hE hsz hl
  have hown : s.vm.findClass RL = some m.cls := hown
  have hl : lv_has ls 5 [(0, .ref x), (1, .int p0), (2, .int p1), (3, .ref oo)] := hl
  have hw_0 := hts (.methodLink RL 7 yX6_land) (List.mem_cons_of_mem _ (List.mem_append_left _ (List.mem_of_getElem? (i := 0) rfl)))
  have hw_1 := hts (.instanceMethod yX6_land) (List.mem_cons_of_mem _ (List.mem_append_left _ (List.mem_of_getElem? (i := 1) rfl)))
  have hw_2 := hts (.selects RX6 yX6_land yX6_land) (List.mem_cons_of_mem _ (List.mem_append_left _ (List.mem_of_getElem? (i := 2) rfl)))
  have hw_3 := hts (.initialized RX6) (List.mem_cons_of_mem _ (List.mem_append_left _ (List.mem_of_getElem? (i := 3) rfl)))
  have hw_4 := hts (.classLink RL 13 "java/lang/IllegalArgumentException") (List.mem_cons_of_mem _ (List.mem_append_left _ (List.mem_of_getElem? (i := 4) rfl)))
  have hb_0 : ∀ w ∈ us_c_land, w ∈ us_c_Lland := fun w h => List.mem_cons_of_mem _ (List.mem_append_right _ (List.mem_append_left _ h))
  refine lv_aload_n hx hb dL_land_0 rfl (lv_at hl 3 rfl) ?_
  refine lv_iconst (v := 0) hx hb dL_land_1 (by decide) ?_
  refine lv_aload_n hx hb dL_land_2 rfl (lv_at hl 0 rfl) ?_
  refine lv_iload_n hx hb dL_land_3 rfl (lv_at hl 1 rfl) ?_
  refine lv_iload_n hx hb dL_land_4 rfl (lv_at hl 2 rfl) ?_
  refine mxc_i (wr := [(oo, .inl (coo, 1, .inr (.inl f0)))]) (vx_runV (As := [.int p0, .int p1]) (rest := [.int 0, .ref oo]) ⟨hx, hb, hml, hown, hts⟩ (c_land l hst D x g ca co ra rl tr f9 f10 f11 f12 f13 a1 a2 a3 a4 a5 a6 a7 a8 a9 a10 a11 f7 f8 re1 re2 re3 re4 ck csk cg ch csg cb cc7 cc8 p0 p1 s.heap.size) (cwV 2 hts (gi_c (List.mem_cons_of_mem _ (List.mem_append_left _ (List.mem_of_getElem? (i := 0) rfl))) rfl (gi_c (List.mem_cons_of_mem _ (List.mem_append_left _ (List.mem_of_getElem? (i := 1) rfl))) rfl (gi_c (List.mem_cons_of_mem _ (List.mem_append_left _ (List.mem_of_getElem? (i := 2) rfl))) rfl (gi_c (List.mem_cons_of_mem _ (List.mem_append_left _ (List.mem_of_getElem? (i := 3) rfl))) rfl (goodIn_sub hb_0 (List.all_eq_true.mpr gw_c_land)))))) rfl rfl rfl (by decide +kernel) ⟨Nat.le_of_ble_eq_true rfl, Nat.le_of_ble_eq_true rfl⟩) (pr_V (As := [.int p0, .int p1]) (b := x) (C := RX6) hP hD hK hS hA hE [0, 1, 2, 3, 4, 5, 6, 7, 8, 9, 10] [0, 1, 2, 3, 4, 5, 6, 7] rfl rfl rfl 0 13 rfl rfl rfl) rfl rfl hl.1 rfl (lv_room (Nat.le_of_ble_eq_true rfl)) dL_land_5 ⟨Nat.le_of_ble_eq_true rfl, Nat.le_of_ble_eq_true rfl⟩) hP hD hK hS hA [0, 1, 2, 3, 4, 5, 6, 7, 8, 9, 10] [11] rfl rfl (by decide) (by decide) (fun E ce q9 H locs hp hP hD hS hq1 hq2 hq3 => ?_) (fun r2 _ H locs w1 hP hD hK hS => ?_)
  · have hKx := hE.2.2.2.2.2.1
    have hP : va_P D vwCl [(oo, .inl (coo, 1, .inr (.inl f0)))] H := hP
    have hD : va_D A [(oo, .inl (coo, 1, .inr (.inl f0)))] := hD
    rcases hp with ⟨rfl, hk⟩
    refine vx_catch (E := "java/lang/IllegalArgumentException") (name := "java/lang/IllegalArgumentException") hown [] (⟨0, 10, 13, 13⟩ : ExceptionTableEntry) [] (htab.trans rfl) (fun z hz => nomatch hz) rfl (by decide) hw_4 (hKx.use _ (List.mem_of_getElem? (i := 3) rfl)) hq1 hq2 hq3 ?_
    refine W.eq (g2 := F0 m 13 ls [.ref q9]) rfl ?_
    refine lv_astore (lv' := [(4, .ref q9), (0, .ref x), (1, .int p0), (2, .int p1), (3, .ref oo)]) hx hb dL_land_13 hl (by decide) rfl (fun ls hl => ?_)
    refine lv_iconst (v := 1) hx hb dL_land_15 (by decide) ?_
    exact mr_i hx hb hr f0 (⟨hk.symm, fun q9 => absurd (hk.symm.trans q9) (by decide)⟩) (hP.sub [0] rfl) (hK.sub [] rfl) (hD.sub [0] (by decide) rfl) hS (Nat.le_of_ble_eq_true rfl) (Nat.le_of_ble_eq_true rfl) hlocks dL_land_16
  · have hP : va_P D vwCl [(oo, .inl (coo, 1, .inr (.inl f0)))] H := hP
    have hD : va_D A [(oo, .inl (coo, 1, .inr (.inl f0)))] := hD
    have hK : va_K D vwCl [(ck, .char), (csk, .char), (cg, .int), (ch, .int), (csg, .int), (cb, .int), (cc7, .int), (cc8, .int), (coo, .long)] s := hK
    refine lv_i2l hx hb dL_land_8 rfl ?_
    refine lv_topl (fun x3 e3 => ?_)
    obtain rfl : x3 = r2.toInt64 := e3
    refine va_last hx hb hK hP hD hS 0 8 rfl rfl (vp_in_nI (n := 0) (by decide) (by decide)) dL_land_9 (fun H locs hP hD hS => ?_)
    have hP : va_P D vwCl [(oo, .inl (coo, 1, .inr (.inl (vp_updL f0 ((0 : Int32).toNatClampNeg) r2.toInt64))))] H := hP
    have hD : va_D A [(oo, .inl (coo, 1, .inr (.inl (vp_updL f0 ((0 : Int32).toNatClampNeg) r2.toInt64))))] := hD
    refine lv_goto (tgt := 17) hx hb dL_land_10 (by decide) ?_
    refine lv_iconst (v := 0) hx hb dL_land_17 (by decide) ?_
    exact mr_i hx hb hr (vp_updL f0 ((0 : Int32).toNatClampNeg) r2.toInt64) (⟨w1.1.symm, fun _ => by rw [← w1.2]; rfl⟩) (hP.sub [0] rfl) (hK.sub [] rfl) (hD.sub [0] (by decide) rfl) hS (Nat.le_of_ble_eq_true rfl) (Nat.le_of_ble_eq_true rfl) hlocks dL_land_18

def us_c_Llate : List Cond := .codeWith yL_late cL_late 6 (some .int) [(0, 12, 15, 13)] :: (([.methodLink RL 142 yX6_late, .instanceMethod yX6_late, .selects RX6 yX6_late yX6_late, .initialized RX6, .classLink RL 13 "java/lang/IllegalArgumentException"] : List Cond) ++ (us_c_late ++ ([])))
theorem gw_c_Llate : ∀ w ∈ us_c_Llate, goodWord w = true := gw_cons rfl (gw_app (by decide +kernel) (gw_app gw_c_late (fun _ h => nomatch h)))
set_option maxHeartbeats 4000000 in
set_option maxRecDepth 100000 in
/-- the law calls late -/
theorem c_Llate (l : Launch) (hst : l.stackTraces = false) (D : va_G) (x : Nat) (g : Nat) (ca : Nat) (co : Nat) (ra : Nat) (rl : Nat) (tr : Nat) (f9 : Nat) (f10 : Nat) (f11 : Nat) (f12 : Nat) (f13 : Nat) (p0 : Int32) (p1 : Int32) (p2 : Int32) (oo : Nat) (coo : ClassId) (f0 : Nat → Int64) (sz : Nat) : Met l yL_late us_c_Llate { frames := 8, cells := 3, slots := 18, locals := 128 } (pw D [.ref x, .int p0, .int p1, .int p2, .ref oo] [(coo, .long)] [(x, .inr (13, [.ref g, .ref ca, .int 0, .ref co, .int 0, .ref ra, .int 0, .ref rl, .ref tr, .ref f9, .ref f10, .ref f11, .ref f12, .ref f13])), (oo, .inl (coo, 1, .inr (.inl f0)))] sz) (va_Qi (fun (r : Int32) (u : Nat → Int64) => r = kf_late p0 p1 p2 ∧ (kf_late p0 p1 p2 = 0 → u 0 = (rf_late p0 p1 p2).toInt64)) (qb D (va_A [(x, .inr (13, [.ref g, .ref ca, .int 0, .ref co, .int 0, .ref ra, .int 0, .ref rl, .ref tr, .ref f9, .ref f10, .ref f11, .ref f12, .ref f13])), (oo, .inl (coo, 1, .inr (.inl f0)))] sz) (fun u : (Nat → Int64) => [(oo, .inl (coo, 1, .inr (.inl u)))]) (fun u : (Nat → Int64) => ([] : List (ClassId × FieldType)))) (va_A [(x, .inr (13, [.ref g, .ref ca, .int 0, .ref co, .int 0, .ref ra, .int 0, .ref rl, .ref tr, .ref f9, .ref f10, .ref f11, .ref f12, .ref f13])), (oo, .inl (coo, 1, .inr (.inl f0)))] sz)) 3 18 (va_A [(x, .inr (13, [.ref g, .ref ca, .int 0, .ref co, .int 0, .ref ra, .int 0, .ref rl, .ref tr, .ref f9, .ref f10, .ref f11, .ref f12, .ref f13])), (oo, .inl (coo, 1, .inr (.inl f0)))] sz) := by
  refine op_H (Qc := fun A => (va_Qi (fun (r : Int32) (u : Nat → Int64) => r = kf_late p0 p1 p2 ∧ (kf_late p0 p1 p2 = 0 → u 0 = (rf_late p0 p1 p2).toInt64)) (qb D A (fun u : (Nat → Int64) => [(oo, .inl (coo, 1, .inr (.inl u)))]) (fun u : (Nat → Int64) => ([] : List (ClassId × FieldType)))) A)) (by decide +kernel) rfl (Nat.le_of_ble_eq_true rfl) ?_
  intro p e s m args below meth c A ls hx hb hr hml hts hown hlocks hmn htab hA hD hS hP hK hE hsz hl
  have hown : s.vm.findClass RL = some m.cls := hown
  have hl : lv_has ls 6 [(0, .ref x), (1, .int p0), (2, .int p1), (3, .int p2), (4, .ref oo)] := hl
  have hw_0 := hts (.methodLink RL 142 yX6_late) (List.mem_cons_of_mem _ (List.mem_append_left _ (List.mem_of_getElem? (i := 0) rfl)))
  have hw_1 := hts (.instanceMethod yX6_late) (List.mem_cons_of_mem _ (List.mem_append_left _ (List.mem_of_getElem? (i := 1) rfl)))
  have hw_2 := hts (.selects RX6 yX6_late yX6_late) (List.mem_cons_of_mem _ (List.mem_append_left _ (List.mem_of_getElem? (i := 2) rfl)))
  have hw_3 := hts (.initialized RX6) (List.mem_cons_of_mem _ (List.mem_append_left _ (List.mem_of_getElem? (i := 3) rfl)))
  have hw_4 := hts (.classLink RL 13 "java/lang/IllegalArgumentException") (List.mem_cons_of_mem _ (List.mem_append_left _ (List.mem_of_getElem? (i := 4) rfl)))
  have hb_0 : ∀ w ∈ us_c_late, w ∈ us_c_Llate := fun w h => List.mem_cons_of_mem _ (List.mem_append_right _ (List.mem_append_left _ h))
  refine lv_aload hx hb dL_late_0 (lv_at hl 4 rfl) ?_
  refine lv_iconst (v := 0) hx hb dL_late_2 (by decide) ?_
  refine lv_aload_n hx hb dL_late_3 rfl (lv_at hl 0 rfl) ?_
  refine lv_iload_n hx hb dL_late_4 rfl (lv_at hl 1 rfl) ?_
  refine lv_iload_n hx hb dL_late_5 rfl (lv_at hl 2 rfl) ?_
  refine lv_iload_n hx hb dL_late_6 rfl (lv_at hl 3 rfl) ?_
  refine mxc_i (wr := [(oo, .inl (coo, 1, .inr (.inl f0)))]) (vx_runV (As := [.int p0, .int p1, .int p2]) (rest := [.int 0, .ref oo]) ⟨hx, hb, hml, hown, hts⟩ (c_late l hst D x g ca co ra rl tr f9 f10 f11 f12 f13 p0 p1 p2 s.heap.size) (cwV 3 hts (gi_c (List.mem_cons_of_mem _ (List.mem_append_left _ (List.mem_of_getElem? (i := 0) rfl))) rfl (gi_c (List.mem_cons_of_mem _ (List.mem_append_left _ (List.mem_of_getElem? (i := 1) rfl))) rfl (gi_c (List.mem_cons_of_mem _ (List.mem_append_left _ (List.mem_of_getElem? (i := 2) rfl))) rfl (gi_c (List.mem_cons_of_mem _ (List.mem_append_left _ (List.mem_of_getElem? (i := 3) rfl))) rfl (goodIn_sub hb_0 (List.all_eq_true.mpr gw_c_late)))))) rfl rfl rfl (by decide +kernel) ⟨Nat.le_of_ble_eq_true rfl, Nat.le_of_ble_eq_true rfl⟩) (pr_V (As := [.int p0, .int p1, .int p2]) (b := x) (C := RX6) hP hD hK hS hA hE [0] [] rfl rfl rfl 0 13 rfl rfl rfl) rfl rfl hl.1 rfl (lv_room (Nat.le_of_ble_eq_true rfl)) dL_late_7 ⟨Nat.le_of_ble_eq_true rfl, Nat.le_of_ble_eq_true rfl⟩) hP hD hK hS hA [0] [1] rfl rfl (by decide) (by decide) (fun E ce q9 H locs hp hP hD hS hq1 hq2 hq3 => ?_) (fun r2 _ H locs w1 hP hD hK hS => ?_)
  · have hKx := hE.2.2.2.2.2.1
    have hP : va_P D vwCl [(oo, .inl (coo, 1, .inr (.inl f0)))] H := hP
    have hD : va_D A [(oo, .inl (coo, 1, .inr (.inl f0)))] := hD
    rcases hp with ⟨rfl, hk⟩
    refine vx_catch (E := "java/lang/IllegalArgumentException") (name := "java/lang/IllegalArgumentException") hown [] (⟨0, 12, 15, 13⟩ : ExceptionTableEntry) [] (htab.trans rfl) (fun z hz => nomatch hz) rfl (by decide) hw_4 (hKx.use _ (List.mem_of_getElem? (i := 3) rfl)) hq1 hq2 hq3 ?_
    refine W.eq (g2 := F0 m 15 ls [.ref q9]) rfl ?_
    refine lv_astore (lv' := [(5, .ref q9), (0, .ref x), (1, .int p0), (2, .int p1), (3, .int p2), (4, .ref oo)]) hx hb dL_late_15 hl (by decide) rfl (fun ls hl => ?_)
    refine lv_iconst (v := 1) hx hb dL_late_17 (by decide) ?_
    exact mr_i hx hb hr f0 (⟨hk.symm, fun q9 => absurd (hk.symm.trans q9) (by decide)⟩) (hP.sub [0] rfl) (hK.sub [] rfl) (hD.sub [0] (by decide) rfl) hS (Nat.le_of_ble_eq_true rfl) (Nat.le_of_ble_eq_true rfl) hlocks dL_late_18
  · have hP : va_P D vwCl [(oo, .inl (coo, 1, .inr (.inl f0)))] H := hP
    have hD : va_D A [(oo, .inl (coo, 1, .inr (.inl f0)))] := hD
    have hK : va_K D vwCl [(coo, .long)] s := hK
    refine lv_i2l hx hb dL_late_10 rfl ?_
    refine lv_topl (fun x3 e3 => ?_)
    obtain rfl : x3 = r2.toInt64 := e3
    refine va_last hx hb hK hP hD hS 0 0 rfl rfl (vp_in_nI (n := 0) (by decide) (by decide)) dL_late_11 (fun H locs hP hD hS => ?_)
    have hP : va_P D vwCl [(oo, .inl (coo, 1, .inr (.inl (vp_updL f0 ((0 : Int32).toNatClampNeg) r2.toInt64))))] H := hP
    have hD : va_D A [(oo, .inl (coo, 1, .inr (.inl (vp_updL f0 ((0 : Int32).toNatClampNeg) r2.toInt64))))] := hD
    refine lv_goto (tgt := 19) hx hb dL_late_12 (by decide) ?_
    refine lv_iconst (v := 0) hx hb dL_late_19 (by decide) ?_
    exact mr_i hx hb hr (vp_updL f0 ((0 : Int32).toNatClampNeg) r2.toInt64) (⟨w1.1.symm, fun _ => by rw [← w1.2]; rfl⟩) (hP.sub [0] rfl) (hK.sub [] rfl) (hD.sub [0] (by decide) rfl) hS (Nat.le_of_ble_eq_true rfl) (Nat.le_of_ble_eq_true rfl) hlocks dL_late_20

def us_c_LlengthOf : List Cond := .codeWith yL_lengthOf cL_lengthOf 4 (some .int) [(0, 9, 12, 19), (0, 9, 15, 29)] :: (([.methodLink RL 60 yX6_lengthOf, .instanceMethod yX6_lengthOf, .selects RX6 yX6_lengthOf yX6_lengthOf, .initialized RX6, .classLink RL 19 "java/lang/IndexOutOfBoundsException"] : List Cond) ++ (us_c_lengthOf ++ ([])))
theorem gw_c_LlengthOf : ∀ w ∈ us_c_LlengthOf, goodWord w = true := gw_cons rfl (gw_app (by decide +kernel) (gw_app gw_c_lengthOf (fun _ h => nomatch h)))
set_option maxHeartbeats 4000000 in
set_option maxRecDepth 100000 in
/-- the law calls lengthOf -/
theorem c_LlengthOf (l : Launch) (hst : l.stackTraces = false) (D : va_G) (x : Nat) (g : Nat) (ca : Nat) (co : Nat) (ra : Nat) (rl : Nat) (tr : Nat) (f9 : Nat) (f10 : Nat) (f11 : Nat) (f12 : Nat) (f13 : Nat) (p0 : Int32) (oo : Nat) (coo : ClassId) (f0 : Nat → Int64) (sz : Nat) : Met l yL_lengthOf us_c_LlengthOf { frames := 9, cells := 1, slots := 6, locals := 145 } (pw D [.ref x, .int p0, .ref oo] [(coo, .long)] [(x, .inr (13, [.ref g, .ref ca, .int 0, .ref co, .int 0, .ref ra, .int 0, .ref rl, .ref tr, .ref f9, .ref f10, .ref f11, .ref f12, .ref f13])), (oo, .inl (coo, 1, .inr (.inl f0)))] sz) (va_Qi (fun (r : Int32) (u : Nat → Int64) => r = kf_lengthOf p0 ∧ (kf_lengthOf p0 = 0 → u 0 = (rf_lengthOf p0).toInt64)) (qb D (va_A [(x, .inr (13, [.ref g, .ref ca, .int 0, .ref co, .int 0, .ref ra, .int 0, .ref rl, .ref tr, .ref f9, .ref f10, .ref f11, .ref f12, .ref f13])), (oo, .inl (coo, 1, .inr (.inl f0)))] sz) (fun u : (Nat → Int64) => [(oo, .inl (coo, 1, .inr (.inl u)))]) (fun u : (Nat → Int64) => ([] : List (ClassId × FieldType)))) (va_A [(x, .inr (13, [.ref g, .ref ca, .int 0, .ref co, .int 0, .ref ra, .int 0, .ref rl, .ref tr, .ref f9, .ref f10, .ref f11, .ref f12, .ref f13])), (oo, .inl (coo, 1, .inr (.inl f0)))] sz)) 1 6 (va_A [(x, .inr (13, [.ref g, .ref ca, .int 0, .ref co, .int 0, .ref ra, .int 0, .ref rl, .ref tr, .ref f9, .ref f10, .ref f11, .ref f12, .ref f13])), (oo, .inl (coo, 1, .inr (.inl f0)))] sz) := by
  refine op_H (Qc := fun A => (va_Qi (fun (r : Int32) (u : Nat → Int64) => r = kf_lengthOf p0 ∧ (kf_lengthOf p0 = 0 → u 0 = (rf_lengthOf p0).toInt64)) (qb D A (fun u : (Nat → Int64) => [(oo, .inl (coo, 1, .inr (.inl u)))]) (fun u : (Nat → Int64) => ([] : List (ClassId × FieldType)))) A)) (by decide +kernel) rfl (Nat.le_of_ble_eq_true rfl) ?_
  intro p e s m args below meth c A ls hx hb hr hml hts hown hlocks hmn htab hA hD hS hP hK hE hsz hl
  have hown : s.vm.findClass RL = some m.cls := hown
  have hl : lv_has ls 4 [(0, .ref x), (1, .int p0), (2, .ref oo)] := hl
  have hw_0 := hts (.methodLink RL 60 yX6_lengthOf) (List.mem_cons_of_mem _ (List.mem_append_left _ (List.mem_of_getElem? (i := 0) rfl)))
  have hw_1 := hts (.instanceMethod yX6_lengthOf) (List.mem_cons_of_mem _ (List.mem_append_left _ (List.mem_of_getElem? (i := 1) rfl)))
  have hw_2 := hts (.selects RX6 yX6_lengthOf yX6_lengthOf) (List.mem_cons_of_mem _ (List.mem_append_left _ (List.mem_of_getElem? (i := 2) rfl)))
  have hw_3 := hts (.initialized RX6) (List.mem_cons_of_mem _ (List.mem_append_left _ (List.mem_of_getElem? (i := 3) rfl)))
  have hw_4 := hts (.classLink RL 19 "java/lang/IndexOutOfBoundsException") (List.mem_cons_of_mem _ (List.mem_append_left _ (List.mem_of_getElem? (i := 4) rfl)))
  have hb_0 : ∀ w ∈ us_c_lengthOf, w ∈ us_c_LlengthOf := fun w h => List.mem_cons_of_mem _ (List.mem_append_right _ (List.mem_append_left _ h))
  refine lv_aload_n hx hb dL_lengthOf_0 rfl (lv_at hl 2 rfl) ?_
  refine lv_iconst (v := 0) hx hb dL_lengthOf_1 (by decide) ?_
  refine lv_aload_n hx hb dL_lengthOf_2 rfl (lv_at hl 0 rfl) ?_
  refine lv_iload_n hx hb dL_lengthOf_3 rfl (lv_at hl 1 rfl) ?_
  refine mtc (wr := [(oo, .inl (coo, 1, .inr (.inl f0)))]) (vx_runV (As := [.int p0]) (rest := [.int 0, .ref oo]) ⟨hx, hb, hml, hown, hts⟩ (c_lengthOf l hst D x g ca co ra rl tr f9 f10 f11 f12 f13 p0 s.heap.size) (cwV 1 hts (gi_c (List.mem_cons_of_mem _ (List.mem_append_left _ (List.mem_of_getElem? (i := 0) rfl))) rfl (gi_c (List.mem_cons_of_mem _ (List.mem_append_left _ (List.mem_of_getElem? (i := 1) rfl))) rfl (gi_c (List.mem_cons_of_mem _ (List.mem_append_left _ (List.mem_of_getElem? (i := 2) rfl))) rfl (gi_c (List.mem_cons_of_mem _ (List.mem_append_left _ (List.mem_of_getElem? (i := 3) rfl))) rfl (goodIn_sub hb_0 (List.all_eq_true.mpr gw_c_lengthOf)))))) rfl rfl rfl (by decide +kernel) ⟨Nat.le_of_ble_eq_true rfl, Nat.le_of_ble_eq_true rfl⟩) (pr_V (As := [.int p0]) (b := x) (C := RX6) hP hD hK hS hA hE [0] [] rfl rfl rfl 0 13 rfl rfl rfl) rfl rfl hl.1 rfl (lv_room (Nat.le_of_ble_eq_true rfl)) dL_lengthOf_4 ⟨Nat.le_of_ble_eq_true rfl, Nat.le_of_ble_eq_true rfl⟩) hP hD hS hA [0] [1] rfl rfl (by decide) (by decide) (fun E ce q9 H locs hp hP hD hS hq1 hq2 hq3 => ?_)
  have hKx := hE.2.2.2.2.2.1
  have hP : va_P D vwCl [(oo, .inl (coo, 1, .inr (.inl f0)))] H := hP
  have hD : va_D A [(oo, .inl (coo, 1, .inr (.inl f0)))] := hD
  rcases hp with rfl
  refine vx_catch (E := "java/lang/IndexOutOfBoundsException") (name := "java/lang/IndexOutOfBoundsException") hown [] (⟨0, 9, 12, 19⟩ : ExceptionTableEntry) [(⟨0, 9, 15, 29⟩ : ExceptionTableEntry)] (htab.trans rfl) (fun z hz => nomatch hz) rfl (by decide) hw_4 (hKx.use _ (List.mem_of_getElem? (i := 4) rfl)) hq1 hq2 hq3 ?_
  refine W.eq (g2 := F0 m 12 ls [.ref q9]) rfl ?_
  refine lv_astore_n (lv' := [(3, .ref q9), (0, .ref x), (1, .int p0), (2, .ref oo)]) hx hb dL_lengthOf_12 rfl hl (by decide) rfl (fun ls hl => ?_)
  refine lv_iconst (v := 1) hx hb dL_lengthOf_13 (by decide) ?_
  exact mr_i hx hb hr f0 (⟨rfl, fun q9 => absurd (show (1 : Int32) = 0 from q9) (by decide)⟩) (hP.sub [0] rfl) (hK.sub [] rfl) (hD.sub [0] (by decide) rfl) hS (Nat.le_of_ble_eq_true rfl) (Nat.le_of_ble_eq_true rfl) hlocks dL_lengthOf_14

def us_c_Lloss : List Cond := .codeWith yL_loss cL_loss 5 (some .int) [(0, 10, 13, 19), (0, 10, 17, 29)] :: (([.methodLink RL 117 yX6_loss, .instanceMethod yX6_loss, .selects RX6 yX6_loss yX6_loss, .initialized RX6, .classLink RL 19 "java/lang/IndexOutOfBoundsException"] : List Cond) ++ (us_c_loss ++ ([])))
theorem gw_c_Lloss : ∀ w ∈ us_c_Lloss, goodWord w = true := gw_cons rfl (gw_app (by decide +kernel) (gw_app gw_c_loss (fun _ h => nomatch h)))
set_option maxHeartbeats 4000000 in
set_option maxRecDepth 100000 in
/-- the law calls loss -/
theorem c_Lloss (l : Launch) (hst : l.stackTraces = false) (D : va_G) (x : Nat) (g : Nat) (ca : Nat) (co : Nat) (ra : Nat) (rl : Nat) (tr : Nat) (f9 : Nat) (f10 : Nat) (f11 : Nat) (f12 : Nat) (f13 : Nat) (p0 : Int32) (p1 : Int32) (oo : Nat) (coo : ClassId) (f0 : Nat → Int64) (sz : Nat) : Met l yL_loss us_c_Lloss { frames := 9, cells := 1, slots := 6, locals := 151 } (pw D [.ref x, .int p0, .int p1, .ref oo] [(coo, .long)] [(x, .inr (13, [.ref g, .ref ca, .int 0, .ref co, .int 0, .ref ra, .int 0, .ref rl, .ref tr, .ref f9, .ref f10, .ref f11, .ref f12, .ref f13])), (oo, .inl (coo, 1, .inr (.inl f0)))] sz) (va_Qi (fun (r : Int32) (u : Nat → Int64) => r = kf_loss p0 p1 ∧ (kf_loss p0 p1 = 0 → u 0 = (rf_loss p0 p1).toInt64)) (qb D (va_A [(x, .inr (13, [.ref g, .ref ca, .int 0, .ref co, .int 0, .ref ra, .int 0, .ref rl, .ref tr, .ref f9, .ref f10, .ref f11, .ref f12, .ref f13])), (oo, .inl (coo, 1, .inr (.inl f0)))] sz) (fun u : (Nat → Int64) => [(oo, .inl (coo, 1, .inr (.inl u)))]) (fun u : (Nat → Int64) => ([] : List (ClassId × FieldType)))) (va_A [(x, .inr (13, [.ref g, .ref ca, .int 0, .ref co, .int 0, .ref ra, .int 0, .ref rl, .ref tr, .ref f9, .ref f10, .ref f11, .ref f12, .ref f13])), (oo, .inl (coo, 1, .inr (.inl f0)))] sz)) 1 6 (va_A [(x, .inr (13, [.ref g, .ref ca, .int 0, .ref co, .int 0, .ref ra, .int 0, .ref rl, .ref tr, .ref f9, .ref f10, .ref f11, .ref f12, .ref f13])), (oo, .inl (coo, 1, .inr (.inl f0)))] sz) := by
  refine op_H (Qc := fun A => (va_Qi (fun (r : Int32) (u : Nat → Int64) => r = kf_loss p0 p1 ∧ (kf_loss p0 p1 = 0 → u 0 = (rf_loss p0 p1).toInt64)) (qb D A (fun u : (Nat → Int64) => [(oo, .inl (coo, 1, .inr (.inl u)))]) (fun u : (Nat → Int64) => ([] : List (ClassId × FieldType)))) A)) (by decide +kernel) rfl (Nat.le_of_ble_eq_true rfl) ?_
  intro p e s m args below meth c A ls hx hb hr hml hts hown hlocks hmn htab hA hD hS hP hK hE hsz hl
  have hown : s.vm.findClass RL = some m.cls := hown
  have hl : lv_has ls 5 [(0, .ref x), (1, .int p0), (2, .int p1), (3, .ref oo)] := hl
  have hw_0 := hts (.methodLink RL 117 yX6_loss) (List.mem_cons_of_mem _ (List.mem_append_left _ (List.mem_of_getElem? (i := 0) rfl)))
  have hw_1 := hts (.instanceMethod yX6_loss) (List.mem_cons_of_mem _ (List.mem_append_left _ (List.mem_of_getElem? (i := 1) rfl)))
  have hw_2 := hts (.selects RX6 yX6_loss yX6_loss) (List.mem_cons_of_mem _ (List.mem_append_left _ (List.mem_of_getElem? (i := 2) rfl)))
  have hw_3 := hts (.initialized RX6) (List.mem_cons_of_mem _ (List.mem_append_left _ (List.mem_of_getElem? (i := 3) rfl)))
  have hw_4 := hts (.classLink RL 19 "java/lang/IndexOutOfBoundsException") (List.mem_cons_of_mem _ (List.mem_append_left _ (List.mem_of_getElem? (i := 4) rfl)))
  have hb_0 : ∀ w ∈ us_c_loss, w ∈ us_c_Lloss := fun w h => List.mem_cons_of_mem _ (List.mem_append_right _ (List.mem_append_left _ h))
  refine lv_aload_n hx hb dL_loss_0 rfl (lv_at hl 3 rfl) ?_
  refine lv_iconst (v := 0) hx hb dL_loss_1 (by decide) ?_
  refine lv_aload_n hx hb dL_loss_2 rfl (lv_at hl 0 rfl) ?_
  refine lv_iload_n hx hb dL_loss_3 rfl (lv_at hl 1 rfl) ?_
  refine lv_iload_n hx hb dL_loss_4 rfl (lv_at hl 2 rfl) ?_
  refine mtc (wr := [(oo, .inl (coo, 1, .inr (.inl f0)))]) (vx_runV (As := [.int p0, .int p1]) (rest := [.int 0, .ref oo]) ⟨hx, hb, hml, hown, hts⟩ (c_loss l hst D x g ca co ra rl tr f9 f10 f11 f12 f13 p0 p1 s.heap.size) (cwV 2 hts (gi_c (List.mem_cons_of_mem _ (List.mem_append_left _ (List.mem_of_getElem? (i := 0) rfl))) rfl (gi_c (List.mem_cons_of_mem _ (List.mem_append_left _ (List.mem_of_getElem? (i := 1) rfl))) rfl (gi_c (List.mem_cons_of_mem _ (List.mem_append_left _ (List.mem_of_getElem? (i := 2) rfl))) rfl (gi_c (List.mem_cons_of_mem _ (List.mem_append_left _ (List.mem_of_getElem? (i := 3) rfl))) rfl (goodIn_sub hb_0 (List.all_eq_true.mpr gw_c_loss)))))) rfl rfl rfl (by decide +kernel) ⟨Nat.le_of_ble_eq_true rfl, Nat.le_of_ble_eq_true rfl⟩) (pr_V (As := [.int p0, .int p1]) (b := x) (C := RX6) hP hD hK hS hA hE [0] [] rfl rfl rfl 0 13 rfl rfl rfl) rfl rfl hl.1 rfl (lv_room (Nat.le_of_ble_eq_true rfl)) dL_loss_5 ⟨Nat.le_of_ble_eq_true rfl, Nat.le_of_ble_eq_true rfl⟩) hP hD hS hA [0] [1] rfl rfl (by decide) (by decide) (fun E ce q9 H locs hp hP hD hS hq1 hq2 hq3 => ?_)
  have hKx := hE.2.2.2.2.2.1
  have hP : va_P D vwCl [(oo, .inl (coo, 1, .inr (.inl f0)))] H := hP
  have hD : va_D A [(oo, .inl (coo, 1, .inr (.inl f0)))] := hD
  rcases hp with rfl
  refine vx_catch (E := "java/lang/IndexOutOfBoundsException") (name := "java/lang/IndexOutOfBoundsException") hown [] (⟨0, 10, 13, 19⟩ : ExceptionTableEntry) [(⟨0, 10, 17, 29⟩ : ExceptionTableEntry)] (htab.trans rfl) (fun z hz => nomatch hz) rfl (by decide) hw_4 (hKx.use _ (List.mem_of_getElem? (i := 4) rfl)) hq1 hq2 hq3 ?_
  refine W.eq (g2 := F0 m 13 ls [.ref q9]) rfl ?_
  refine lv_astore (lv' := [(4, .ref q9), (0, .ref x), (1, .int p0), (2, .int p1), (3, .ref oo)]) hx hb dL_loss_13 hl (by decide) rfl (fun ls hl => ?_)
  refine lv_iconst (v := 1) hx hb dL_loss_15 (by decide) ?_
  exact mr_i hx hb hr f0 (⟨rfl, fun q9 => absurd (show (1 : Int32) = 0 from q9) (by decide)⟩) (hP.sub [0] rfl) (hK.sub [] rfl) (hD.sub [0] (by decide) rfl) hS (Nat.le_of_ble_eq_true rfl) (Nat.le_of_ble_eq_true rfl) hlocks dL_loss_16

def us_c_LmayHave : List Cond := .codeWith yL_mayHave cL_mayHave 5 (some .int) [(0, 17, 20, 19)] :: (([.methodLink RL 148 yX6_mayHave, .instanceMethod yX6_mayHave, .selects RX6 yX6_mayHave yX6_mayHave, .initialized RX6, .classLink RL 19 "java/lang/IndexOutOfBoundsException"] : List Cond) ++ (us_c_mayHave ++ ([])))
theorem gw_c_LmayHave : ∀ w ∈ us_c_LmayHave, goodWord w = true := gw_cons rfl (gw_app (by decide +kernel) (gw_app gw_c_mayHave (fun _ h => nomatch h)))
set_option maxHeartbeats 4000000 in
set_option maxRecDepth 100000 in
/-- the law calls mayHave -/
theorem c_LmayHave (l : Launch) (hst : l.stackTraces = false) (D : va_G) (x : Nat) (g : Nat) (ca : Nat) (co : Nat) (ra : Nat) (rl : Nat) (tr : Nat) (f9 : Nat) (f10 : Nat) (f11 : Nat) (f12 : Nat) (f13 : Nat) (p0 : Int32) (p1 : Int32) (oo : Nat) (coo : ClassId) (f0 : Nat → Int64) (sz : Nat) : Met l yL_mayHave us_c_LmayHave { frames := 9, cells := 1, slots := 6, locals := 149 } (pw D [.ref x, .int p0, .int p1, .ref oo] [(coo, .long)] [(x, .inr (13, [.ref g, .ref ca, .int 0, .ref co, .int 0, .ref ra, .int 0, .ref rl, .ref tr, .ref f9, .ref f10, .ref f11, .ref f12, .ref f13])), (oo, .inl (coo, 1, .inr (.inl f0)))] sz) (va_Qi (fun (r : Int32) (u : Nat → Int64) => r = kf_mayHave p0 p1 ∧ (kf_mayHave p0 p1 = 0 → u 0 = (rf_mayHave p0 p1).toInt64)) (qb D (va_A [(x, .inr (13, [.ref g, .ref ca, .int 0, .ref co, .int 0, .ref ra, .int 0, .ref rl, .ref tr, .ref f9, .ref f10, .ref f11, .ref f12, .ref f13])), (oo, .inl (coo, 1, .inr (.inl f0)))] sz) (fun u : (Nat → Int64) => [(oo, .inl (coo, 1, .inr (.inl u)))]) (fun u : (Nat → Int64) => ([] : List (ClassId × FieldType)))) (va_A [(x, .inr (13, [.ref g, .ref ca, .int 0, .ref co, .int 0, .ref ra, .int 0, .ref rl, .ref tr, .ref f9, .ref f10, .ref f11, .ref f12, .ref f13])), (oo, .inl (coo, 1, .inr (.inl f0)))] sz)) 1 6 (va_A [(x, .inr (13, [.ref g, .ref ca, .int 0, .ref co, .int 0, .ref ra, .int 0, .ref rl, .ref tr, .ref f9, .ref f10, .ref f11, .ref f12, .ref f13])), (oo, .inl (coo, 1, .inr (.inl f0)))] sz) := by
  refine op_H (Qc := fun A => (va_Qi (fun (r : Int32) (u : Nat → Int64) => r = kf_mayHave p0 p1 ∧ (kf_mayHave p0 p1 = 0 → u 0 = (rf_mayHave p0 p1).toInt64)) (qb D A (fun u : (Nat → Int64) => [(oo, .inl (coo, 1, .inr (.inl u)))]) (fun u : (Nat → Int64) => ([] : List (ClassId × FieldType)))) A)) (by decide +kernel) rfl (Nat.le_of_ble_eq_true rfl) ?_
  intro p e s m args below meth c A ls hx hb hr hml hts hown hlocks hmn htab hA hD hS hP hK hE hsz hl
  have hown : s.vm.findClass RL = some m.cls := hown
  have hl : lv_has ls 5 [(0, .ref x), (1, .int p0), (2, .int p1), (3, .ref oo)] := hl
  have hw_0 := hts (.methodLink RL 148 yX6_mayHave) (List.mem_cons_of_mem _ (List.mem_append_left _ (List.mem_of_getElem? (i := 0) rfl)))
  have hw_1 := hts (.instanceMethod yX6_mayHave) (List.mem_cons_of_mem _ (List.mem_append_left _ (List.mem_of_getElem? (i := 1) rfl)))
  have hw_2 := hts (.selects RX6 yX6_mayHave yX6_mayHave) (List.mem_cons_of_mem _ (List.mem_append_left _ (List.mem_of_getElem? (i := 2) rfl)))
  have hw_3 := hts (.initialized RX6) (List.mem_cons_of_mem _ (List.mem_append_left _ (List.mem_of_getElem? (i := 3) rfl)))
  have hw_4 := hts (.classLink RL 19 "java/lang/IndexOutOfBoundsException") (List.mem_cons_of_mem _ (List.mem_append_left _ (List.mem_of_getElem? (i := 4) rfl)))
  have hb_0 : ∀ w ∈ us_c_mayHave, w ∈ us_c_LmayHave := fun w h => List.mem_cons_of_mem _ (List.mem_append_right _ (List.mem_append_left _ h))
  refine lv_aload_n hx hb dL_mayHave_0 rfl (lv_at hl 3 rfl) ?_
  refine lv_iconst (v := 0) hx hb dL_mayHave_1 (by decide) ?_
  refine lv_aload_n hx hb dL_mayHave_2 rfl (lv_at hl 0 rfl) ?_
  refine lv_iload_n hx hb dL_mayHave_3 rfl (lv_at hl 1 rfl) ?_
  refine lv_iload_n hx hb dL_mayHave_4 rfl (lv_at hl 2 rfl) ?_
  refine mtc (wr := [(oo, .inl (coo, 1, .inr (.inl f0)))]) (vx_runV (As := [.int p0, .int p1]) (rest := [.int 0, .ref oo]) ⟨hx, hb, hml, hown, hts⟩ (c_mayHave l hst D x g ca co ra rl tr f9 f10 f11 f12 f13 p0 p1 s.heap.size) (cwV 2 hts (gi_c (List.mem_cons_of_mem _ (List.mem_append_left _ (List.mem_of_getElem? (i := 0) rfl))) rfl (gi_c (List.mem_cons_of_mem _ (List.mem_append_left _ (List.mem_of_getElem? (i := 1) rfl))) rfl (gi_c (List.mem_cons_of_mem _ (List.mem_append_left _ (List.mem_of_getElem? (i := 2) rfl))) rfl (gi_c (List.mem_cons_of_mem _ (List.mem_append_left _ (List.mem_of_getElem? (i := 3) rfl))) rfl (goodIn_sub hb_0 (List.all_eq_true.mpr gw_c_mayHave)))))) rfl rfl rfl (by decide +kernel) ⟨Nat.le_of_ble_eq_true rfl, Nat.le_of_ble_eq_true rfl⟩) (pr_V (As := [.int p0, .int p1]) (b := x) (C := RX6) hP hD hK hS hA hE [0] [] rfl rfl rfl 0 13 rfl rfl rfl) rfl rfl hl.1 rfl (lv_room (Nat.le_of_ble_eq_true rfl)) dL_mayHave_5 ⟨Nat.le_of_ble_eq_true rfl, Nat.le_of_ble_eq_true rfl⟩) hP hD hS hA [0] [1] rfl rfl (by decide) (by decide) (fun E ce q9 H locs hp hP hD hS hq1 hq2 hq3 => ?_)
  have hKx := hE.2.2.2.2.2.1
  have hP : va_P D vwCl [(oo, .inl (coo, 1, .inr (.inl f0)))] H := hP
  have hD : va_D A [(oo, .inl (coo, 1, .inr (.inl f0)))] := hD
  rcases hp with rfl
  refine vx_catch (E := "java/lang/IndexOutOfBoundsException") (name := "java/lang/IndexOutOfBoundsException") hown [] (⟨0, 17, 20, 19⟩ : ExceptionTableEntry) [] (htab.trans rfl) (fun z hz => nomatch hz) rfl (by decide) hw_4 (hKx.use _ (List.mem_of_getElem? (i := 4) rfl)) hq1 hq2 hq3 ?_
  refine W.eq (g2 := F0 m 20 ls [.ref q9]) rfl ?_
  refine lv_astore (lv' := [(4, .ref q9), (0, .ref x), (1, .int p0), (2, .int p1), (3, .ref oo)]) hx hb dL_mayHave_20 hl (by decide) rfl (fun ls hl => ?_)
  refine lv_iconst (v := 1) hx hb dL_mayHave_22 (by decide) ?_
  exact mr_i hx hb hr f0 (⟨rfl, fun q9 => absurd (show (1 : Int32) = 0 from q9) (by decide)⟩) (hP.sub [0] rfl) (hK.sub [] rfl) (hD.sub [0] (by decide) rfl) hS (Nat.le_of_ble_eq_true rfl) (Nat.le_of_ble_eq_true rfl) hlocks dL_mayHave_23

def us_c_LmeanTime : List Cond := .codeWith yL_meanTime cL_meanTime 4 (some .int) [(0, 8, 11, 19), (0, 8, 14, 155)] :: (([.methodLink RL 157 yX6_meanTime, .instanceMethod yX6_meanTime, .selects RX6 yX6_meanTime yX6_meanTime, .initialized RX6, .classLink RL 19 "java/lang/IndexOutOfBoundsException"] : List Cond) ++ (us_c_meanTime ++ ([])))
theorem gw_c_LmeanTime : ∀ w ∈ us_c_LmeanTime, goodWord w = true := gw_cons rfl (gw_app (by decide +kernel) (gw_app gw_c_meanTime (fun _ h => nomatch h)))
set_option maxHeartbeats 4000000 in
set_option maxRecDepth 100000 in
/-- the law calls meanTime -/
theorem c_LmeanTime (l : Launch) (hst : l.stackTraces = false) (D : va_G) (x : Nat) (g : Nat) (ca : Nat) (co : Nat) (ra : Nat) (rl : Nat) (tr : Nat) (f9 : Nat) (f10 : Nat) (f11 : Nat) (f12 : Nat) (f13 : Nat) (p0 : Int32) (oo : Nat) (coo : ClassId) (f0 : Nat → UInt64) (sz : Nat) : Met l yL_meanTime us_c_LmeanTime { frames := 9, cells := 1, slots := 6, locals := 148 } (pw D [.ref x, .int p0, .ref oo] [(coo, .double)] [(x, .inr (13, [.ref g, .ref ca, .int 0, .ref co, .int 0, .ref ra, .int 0, .ref rl, .ref tr, .ref f9, .ref f10, .ref f11, .ref f12, .ref f13])), (oo, .inl (coo, 1, .inr (.inr (.inr (.inl f0)))))] sz) (va_Qi (fun (r : Int32) (u : Nat → UInt64) => r = kf_meanTime p0) (qb D (va_A [(x, .inr (13, [.ref g, .ref ca, .int 0, .ref co, .int 0, .ref ra, .int 0, .ref rl, .ref tr, .ref f9, .ref f10, .ref f11, .ref f12, .ref f13])), (oo, .inl (coo, 1, .inr (.inr (.inr (.inl f0)))))] sz) (fun u : (Nat → UInt64) => [(oo, .inl (coo, 1, .inr (.inr (.inr (.inl u)))))]) (fun u : (Nat → UInt64) => ([] : List (ClassId × FieldType)))) (va_A [(x, .inr (13, [.ref g, .ref ca, .int 0, .ref co, .int 0, .ref ra, .int 0, .ref rl, .ref tr, .ref f9, .ref f10, .ref f11, .ref f12, .ref f13])), (oo, .inl (coo, 1, .inr (.inr (.inr (.inl f0)))))] sz)) 1 6 (va_A [(x, .inr (13, [.ref g, .ref ca, .int 0, .ref co, .int 0, .ref ra, .int 0, .ref rl, .ref tr, .ref f9, .ref f10, .ref f11, .ref f12, .ref f13])), (oo, .inl (coo, 1, .inr (.inr (.inr (.inl f0)))))] sz) := by
  refine op_H (Qc := fun A => (va_Qi (fun (r : Int32) (u : Nat → UInt64) => r = kf_meanTime p0) (qb D A (fun u : (Nat → UInt64) => [(oo, .inl (coo, 1, .inr (.inr (.inr (.inl u)))))]) (fun u : (Nat → UInt64) => ([] : List (ClassId × FieldType)))) A)) (by decide +kernel) rfl (Nat.le_of_ble_eq_true rfl) ?_
  intro p e s m args below meth c A ls hx hb hr hml hts hown hlocks hmn htab hA hD hS hP hK hE hsz hl
  have hown : s.vm.findClass RL = some m.cls := hown
  have hl : lv_has ls 4 [(0, .ref x), (1, .int p0), (2, .ref oo)] := hl
  have hw_0 := hts (.methodLink RL 157 yX6_meanTime) (List.mem_cons_of_mem _ (List.mem_append_left _ (List.mem_of_getElem? (i := 0) rfl)))
  have hw_1 := hts (.instanceMethod yX6_meanTime) (List.mem_cons_of_mem _ (List.mem_append_left _ (List.mem_of_getElem? (i := 1) rfl)))
  have hw_2 := hts (.selects RX6 yX6_meanTime yX6_meanTime) (List.mem_cons_of_mem _ (List.mem_append_left _ (List.mem_of_getElem? (i := 2) rfl)))
  have hw_3 := hts (.initialized RX6) (List.mem_cons_of_mem _ (List.mem_append_left _ (List.mem_of_getElem? (i := 3) rfl)))
  have hw_4 := hts (.classLink RL 19 "java/lang/IndexOutOfBoundsException") (List.mem_cons_of_mem _ (List.mem_append_left _ (List.mem_of_getElem? (i := 4) rfl)))
  have hb_0 : ∀ w ∈ us_c_meanTime, w ∈ us_c_LmeanTime := fun w h => List.mem_cons_of_mem _ (List.mem_append_right _ (List.mem_append_left _ h))
  refine lv_aload_n hx hb dL_meanTime_0 rfl (lv_at hl 2 rfl) ?_
  refine lv_iconst (v := 0) hx hb dL_meanTime_1 (by decide) ?_
  refine lv_aload_n hx hb dL_meanTime_2 rfl (lv_at hl 0 rfl) ?_
  refine lv_iload_n hx hb dL_meanTime_3 rfl (lv_at hl 1 rfl) ?_
  refine mtc (wr := [(oo, .inl (coo, 1, .inr (.inr (.inr (.inl f0)))))]) (vx_runV (As := [.int p0]) (rest := [.int 0, .ref oo]) ⟨hx, hb, hml, hown, hts⟩ (c_meanTime l hst D x g ca co ra rl tr f9 f10 f11 f12 f13 p0 s.heap.size) (cwV 1 hts (gi_c (List.mem_cons_of_mem _ (List.mem_append_left _ (List.mem_of_getElem? (i := 0) rfl))) rfl (gi_c (List.mem_cons_of_mem _ (List.mem_append_left _ (List.mem_of_getElem? (i := 1) rfl))) rfl (gi_c (List.mem_cons_of_mem _ (List.mem_append_left _ (List.mem_of_getElem? (i := 2) rfl))) rfl (gi_c (List.mem_cons_of_mem _ (List.mem_append_left _ (List.mem_of_getElem? (i := 3) rfl))) rfl (goodIn_sub hb_0 (List.all_eq_true.mpr gw_c_meanTime)))))) rfl rfl rfl (by decide +kernel) ⟨Nat.le_of_ble_eq_true rfl, Nat.le_of_ble_eq_true rfl⟩) (pr_V (As := [.int p0]) (b := x) (C := RX6) hP hD hK hS hA hE [0] [] rfl rfl rfl 0 13 rfl rfl rfl) rfl rfl hl.1 rfl (lv_room (Nat.le_of_ble_eq_true rfl)) dL_meanTime_4 ⟨Nat.le_of_ble_eq_true rfl, Nat.le_of_ble_eq_true rfl⟩) hP hD hS hA [0] [1] rfl rfl (by decide) (by decide) (fun E ce q9 H locs hp hP hD hS hq1 hq2 hq3 => ?_)
  have hKx := hE.2.2.2.2.2.1
  have hP : va_P D vwCl [(oo, .inl (coo, 1, .inr (.inr (.inr (.inl f0)))))] H := hP
  have hD : va_D A [(oo, .inl (coo, 1, .inr (.inr (.inr (.inl f0)))))] := hD
  rcases hp with rfl
  refine vx_catch (E := "java/lang/IndexOutOfBoundsException") (name := "java/lang/IndexOutOfBoundsException") hown [] (⟨0, 8, 11, 19⟩ : ExceptionTableEntry) [(⟨0, 8, 14, 155⟩ : ExceptionTableEntry)] (htab.trans rfl) (fun z hz => nomatch hz) rfl (by decide) hw_4 (hKx.use _ (List.mem_of_getElem? (i := 4) rfl)) hq1 hq2 hq3 ?_
  refine W.eq (g2 := F0 m 11 ls [.ref q9]) rfl ?_
  refine lv_astore_n (lv' := [(3, .ref q9), (0, .ref x), (1, .int p0), (2, .ref oo)]) hx hb dL_meanTime_11 rfl hl (by decide) rfl (fun ls hl => ?_)
  refine lv_iconst (v := 1) hx hb dL_meanTime_12 (by decide) ?_
  exact mr_i hx hb hr f0 (rfl) (hP.sub [0] rfl) (hK.sub [] rfl) (hD.sub [0] (by decide) rfl) hS (Nat.le_of_ble_eq_true rfl) (Nat.le_of_ble_eq_true rfl) hlocks dL_meanTime_13

def us_c_Lmisled : List Cond := .codeWith yL_misled cL_misled 5 (some .int) [(0, 10, 13, 19), (0, 10, 17, 29)] :: (([.methodLink RL 31 yX6_misled, .instanceMethod yX6_misled, .selects RX6 yX6_misled yX6_misled, .initialized RX6, .classLink RL 19 "java/lang/IndexOutOfBoundsException"] : List Cond) ++ (us_c_misled ++ ([])))
theorem gw_c_Lmisled : ∀ w ∈ us_c_Lmisled, goodWord w = true := gw_cons rfl (gw_app (by decide +kernel) (gw_app gw_c_misled (fun _ h => nomatch h)))
set_option maxHeartbeats 4000000 in
set_option maxRecDepth 100000 in
/-- the law calls misled -/
theorem c_Lmisled (l : Launch) (hst : l.stackTraces = false) (D : va_G) (x : Nat) (g : Nat) (ca : Nat) (co : Nat) (ra : Nat) (rl : Nat) (tr : Nat) (f9 : Nat) (f10 : Nat) (f11 : Nat) (f12 : Nat) (f13 : Nat) (a1 : Nat) (a2 : Nat) (a3 : Nat) (a4 : Nat) (a5 : Nat) (a6 : Nat) (a7 : Nat) (a8 : Nat) (a9 : Nat) (a10 : Nat) (a11 : Nat) (ck : ClassId) (csk : ClassId) (cg : ClassId) (ch : ClassId) (csg : ClassId) (cw : ClassId) (cq : ClassId) (cz : ClassId) (cb : ClassId) (p0 : Int32) (p1 : Int32) (oo : Nat) (coo : ClassId) (f0 : Nat → Int64) (sz : Nat) : Met l yL_misled us_c_Lmisled { frames := 9, cells := 2, slots := 12, locals := 146 } (pw D [.ref x, .int p0, .int p1, .ref oo] [(ck, .char), (csk, .char), (cg, .int), (ch, .int), (csg, .int), (cw, .int), (cq, .int), (cz, .boolean), (cb, .int), (coo, .long)] [(x, .inr (13, [.ref g, .ref ca, .int 0, .ref co, .int 0, .ref ra, .int 0, .ref rl, .ref tr, .ref f9, .ref f10, .ref f11, .ref f12, .ref f13])), (g, .inr (11, [.int 25, .ref a1, .ref a2, .ref a3, .ref a4, .ref a5, .ref a6, .ref a7, .ref a8, .ref a9, .ref a10, .ref a11, .int 0, .int 0])), (a6, .inl (cw, 144, .inl (fL zL))), (a10, .inl (cq, 144, .inl (fL zL))), (a11, .inl (cz, 144, .inl (fL zL))), (a3, .inl (ck, 144, .inl okF)), (a5, .inl (csk, 144, .inl okF)), (a1, .inl (cg, 144, .inl (fun _ => 0))), (a2, .inl (ch, 144, .inl (fun _ => 0))), (a4, .inl (csg, 144, .inl (fun _ => 0))), (a9, .inl (cb, 576, .inl beF)), (oo, .inl (coo, 1, .inr (.inl f0)))] sz) (va_Qi (fun (r : Int32) (u : Nat → Int64) => r = kf_misled p0 p1 ∧ (kf_misled p0 p1 = 0 → u 0 = (rf_misled p0 p1).toInt64)) (qb D (va_A [(x, .inr (13, [.ref g, .ref ca, .int 0, .ref co, .int 0, .ref ra, .int 0, .ref rl, .ref tr, .ref f9, .ref f10, .ref f11, .ref f12, .ref f13])), (g, .inr (11, [.int 25, .ref a1, .ref a2, .ref a3, .ref a4, .ref a5, .ref a6, .ref a7, .ref a8, .ref a9, .ref a10, .ref a11, .int 0, .int 0])), (a6, .inl (cw, 144, .inl (fL zL))), (a10, .inl (cq, 144, .inl (fL zL))), (a11, .inl (cz, 144, .inl (fL zL))), (a3, .inl (ck, 144, .inl okF)), (a5, .inl (csk, 144, .inl okF)), (a1, .inl (cg, 144, .inl (fun _ => 0))), (a2, .inl (ch, 144, .inl (fun _ => 0))), (a4, .inl (csg, 144, .inl (fun _ => 0))), (a9, .inl (cb, 576, .inl beF)), (oo, .inl (coo, 1, .inr (.inl f0)))] sz) (fun u : (Nat → Int64) => [(oo, .inl (coo, 1, .inr (.inl u)))]) (fun u : (Nat → Int64) => ([] : List (ClassId × FieldType)))) (va_A [(x, .inr (13, [.ref g, .ref ca, .int 0, .ref co, .int 0, .ref ra, .int 0, .ref rl, .ref tr, .ref f9, .ref f10, .ref f11, .ref f12, .ref f13])), (g, .inr (11, [.int 25, .ref a1, .ref a2, .ref a3, .ref a4, .ref a5, .ref a6, .ref a7, .ref a8, .ref a9, .ref a10, .ref a11, .int 0, .int 0])), (a6, .inl (cw, 144, .inl (fL zL))), (a10, .inl (cq, 144, .inl (fL zL))), (a11, .inl (cz, 144, .inl (fL zL))), (a3, .inl (ck, 144, .inl okF)), (a5, .inl (csk, 144, .inl okF)), (a1, .inl (cg, 144, .inl (fun _ => 0))), (a2, .inl (ch, 144, .inl (fun _ => 0))), (a4, .inl (csg, 144, .inl (fun _ => 0))), (a9, .inl (cb, 576, .inl beF)), (oo, .inl (coo, 1, .inr (.inl f0)))] sz)) 2 12 (va_A [(x, .inr (13, [.ref g, .ref ca, .int 0, .ref co, .int 0, .ref ra, .int 0, .ref rl, .ref tr, .ref f9, .ref f10, .ref f11, .ref f12, .ref f13])), (g, .inr (11, [.int 25, .ref a1, .ref a2, .ref a3, .ref a4, .ref a5, .ref a6, .ref a7, .ref a8, .ref a9, .ref a10, .ref a11, .int 0, .int 0])), (a6, .inl (cw, 144, .inl (fL zL))), (a10, .inl (cq, 144, .inl (fL zL))), (a11, .inl (cz, 144, .inl (fL zL))), (a3, .inl (ck, 144, .inl okF)), (a5, .inl (csk, 144, .inl okF)), (a1, .inl (cg, 144, .inl (fun _ => 0))), (a2, .inl (ch, 144, .inl (fun _ => 0))), (a4, .inl (csg, 144, .inl (fun _ => 0))), (a9, .inl (cb, 576, .inl beF)), (oo, .inl (coo, 1, .inr (.inl f0)))] sz) := by
  refine op_H (Qc := fun A => (va_Qi (fun (r : Int32) (u : Nat → Int64) => r = kf_misled p0 p1 ∧ (kf_misled p0 p1 = 0 → u 0 = (rf_misled p0 p1).toInt64)) (qb D A (fun u : (Nat → Int64) => [(oo, .inl (coo, 1, .inr (.inl u)))]) (fun u : (Nat → Int64) => ([] : List (ClassId × FieldType)))) A)) (by decide +kernel) rfl (Nat.le_of_ble_eq_true rfl) ?_
  intro p e s m args below meth c A ls hx hb hr hml hts hown hlocks hmn htab hA hD hS hP hK hE hsz hl
  have hown : s.vm.findClass RL = some m.cls := hown
  have hl : lv_has ls 5 [(0, .ref x), (1, .int p0), (2, .int p1), (3, .ref oo)] := hl
  have hw_0 := hts (.methodLink RL 31 yX6_misled) (List.mem_cons_of_mem _ (List.mem_append_left _ (List.mem_of_getElem? (i := 0) rfl)))
  have hw_1 := hts (.instanceMethod yX6_misled) (List.mem_cons_of_mem _ (List.mem_append_left _ (List.mem_of_getElem? (i := 1) rfl)))
  have hw_2 := hts (.selects RX6 yX6_misled yX6_misled) (List.mem_cons_of_mem _ (List.mem_append_left _ (List.mem_of_getElem? (i := 2) rfl)))
  have hw_3 := hts (.initialized RX6) (List.mem_cons_of_mem _ (List.mem_append_left _ (List.mem_of_getElem? (i := 3) rfl)))
  have hw_4 := hts (.classLink RL 19 "java/lang/IndexOutOfBoundsException") (List.mem_cons_of_mem _ (List.mem_append_left _ (List.mem_of_getElem? (i := 4) rfl)))
  have hb_0 : ∀ w ∈ us_c_misled, w ∈ us_c_Lmisled := fun w h => List.mem_cons_of_mem _ (List.mem_append_right _ (List.mem_append_left _ h))
  refine lv_aload_n hx hb dL_misled_0 rfl (lv_at hl 3 rfl) ?_
  refine lv_iconst (v := 0) hx hb dL_misled_1 (by decide) ?_
  refine lv_aload_n hx hb dL_misled_2 rfl (lv_at hl 0 rfl) ?_
  refine lv_iload_n hx hb dL_misled_3 rfl (lv_at hl 1 rfl) ?_
  refine lv_iload_n hx hb dL_misled_4 rfl (lv_at hl 2 rfl) ?_
  refine mxc_i (wr := [(oo, .inl (coo, 1, .inr (.inl f0)))]) (vx_runV (As := [.int p0, .int p1]) (rest := [.int 0, .ref oo]) ⟨hx, hb, hml, hown, hts⟩ (c_misled l hst D x g ca co ra rl tr f9 f10 f11 f12 f13 a1 a2 a3 a4 a5 a6 a7 a8 a9 a10 a11 ck csk cg ch csg cw cq cz cb p0 p1 s.heap.size) (cwV 2 hts (gi_c (List.mem_cons_of_mem _ (List.mem_append_left _ (List.mem_of_getElem? (i := 0) rfl))) rfl (gi_c (List.mem_cons_of_mem _ (List.mem_append_left _ (List.mem_of_getElem? (i := 1) rfl))) rfl (gi_c (List.mem_cons_of_mem _ (List.mem_append_left _ (List.mem_of_getElem? (i := 2) rfl))) rfl (gi_c (List.mem_cons_of_mem _ (List.mem_append_left _ (List.mem_of_getElem? (i := 3) rfl))) rfl (goodIn_sub hb_0 (List.all_eq_true.mpr gw_c_misled)))))) rfl rfl rfl (by decide +kernel) ⟨Nat.le_of_ble_eq_true rfl, Nat.le_of_ble_eq_true rfl⟩) (pr_V (As := [.int p0, .int p1]) (b := x) (C := RX6) hP hD hK hS hA hE [0, 1, 2, 3, 4, 5, 6, 7, 8, 9, 10] [0, 1, 2, 3, 4, 5, 6, 7, 8] rfl rfl rfl 0 13 rfl rfl rfl) rfl rfl hl.1 rfl (lv_room (Nat.le_of_ble_eq_true rfl)) dL_misled_5 ⟨Nat.le_of_ble_eq_true rfl, Nat.le_of_ble_eq_true rfl⟩) hP hD hK hS hA [0, 1, 2, 3, 4, 5, 6, 7, 8, 9, 10] [11] rfl rfl (by decide) (by decide) (fun E ce q9 H locs hp hP hD hS hq1 hq2 hq3 => ?_) (fun r2 _ H locs w1 hP hD hK hS => ?_)
  · have hKx := hE.2.2.2.2.2.1
    have hP : va_P D vwCl [(oo, .inl (coo, 1, .inr (.inl f0)))] H := hP
    have hD : va_D A [(oo, .inl (coo, 1, .inr (.inl f0)))] := hD
    rcases hp with ⟨rfl, hk⟩
    refine vx_catch (E := "java/lang/IndexOutOfBoundsException") (name := "java/lang/IndexOutOfBoundsException") hown [] (⟨0, 10, 13, 19⟩ : ExceptionTableEntry) [(⟨0, 10, 17, 29⟩ : ExceptionTableEntry)] (htab.trans rfl) (fun z hz => nomatch hz) rfl (by decide) hw_4 (hKx.use _ (List.mem_of_getElem? (i := 4) rfl)) hq1 hq2 hq3 ?_
    refine W.eq (g2 := F0 m 13 ls [.ref q9]) rfl ?_
    refine lv_astore (lv' := [(4, .ref q9), (0, .ref x), (1, .int p0), (2, .int p1), (3, .ref oo)]) hx hb dL_misled_13 hl (by decide) rfl (fun ls hl => ?_)
    refine lv_iconst (v := 1) hx hb dL_misled_15 (by decide) ?_
    exact mr_i hx hb hr f0 (⟨hk.symm, fun q9 => absurd (hk.symm.trans q9) (by decide)⟩) (hP.sub [0] rfl) (hK.sub [] rfl) (hD.sub [0] (by decide) rfl) hS (Nat.le_of_ble_eq_true rfl) (Nat.le_of_ble_eq_true rfl) hlocks dL_misled_16
  · have hP : va_P D vwCl [(oo, .inl (coo, 1, .inr (.inl f0)))] H := hP
    have hD : va_D A [(oo, .inl (coo, 1, .inr (.inl f0)))] := hD
    have hK : va_K D vwCl [(ck, .char), (csk, .char), (cg, .int), (ch, .int), (csg, .int), (cw, .int), (cq, .int), (cz, .boolean), (cb, .int), (coo, .long)] s := hK
    refine lv_i2l hx hb dL_misled_8 rfl ?_
    refine lv_topl (fun x3 e3 => ?_)
    obtain rfl : x3 = r2.toInt64 := e3
    refine va_last hx hb hK hP hD hS 0 9 rfl rfl (vp_in_nI (n := 0) (by decide) (by decide)) dL_misled_9 (fun H locs hP hD hS => ?_)
    have hP : va_P D vwCl [(oo, .inl (coo, 1, .inr (.inl (vp_updL f0 ((0 : Int32).toNatClampNeg) r2.toInt64))))] H := hP
    have hD : va_D A [(oo, .inl (coo, 1, .inr (.inl (vp_updL f0 ((0 : Int32).toNatClampNeg) r2.toInt64))))] := hD
    refine lv_goto (tgt := 21) hx hb dL_misled_10 (by decide) ?_
    refine lv_iconst (v := 0) hx hb dL_misled_21 (by decide) ?_
    exact mr_i hx hb hr (vp_updL f0 ((0 : Int32).toNatClampNeg) r2.toInt64) (⟨w1.1.symm, fun _ => by rw [← w1.2]; rfl⟩) (hP.sub [0] rfl) (hK.sub [] rfl) (hD.sub [0] (by decide) rfl) hS (Nat.le_of_ble_eq_true rfl) (Nat.le_of_ble_eq_true rfl) hlocks dL_misled_22

def us_c_LokShare : List Cond := .codeWith yL_okShare cL_okShare 4 (some .int) [(0, 9, 12, 19), (0, 9, 15, 155)] :: (([.methodLink RL 151 yX6_okShare, .instanceMethod yX6_okShare, .selects RX6 yX6_okShare yX6_okShare, .initialized RX6, .classLink RL 19 "java/lang/IndexOutOfBoundsException"] : List Cond) ++ (us_c_okShare ++ ([])))
theorem gw_c_LokShare : ∀ w ∈ us_c_LokShare, goodWord w = true := gw_cons rfl (gw_app (by decide +kernel) (gw_app gw_c_okShare (fun _ h => nomatch h)))
set_option maxHeartbeats 4000000 in
set_option maxRecDepth 100000 in
/-- the law calls okShare -/
theorem c_LokShare (l : Launch) (hst : l.stackTraces = false) (D : va_G) (x : Nat) (g : Nat) (ca : Nat) (co : Nat) (ra : Nat) (rl : Nat) (tr : Nat) (f9 : Nat) (f10 : Nat) (f11 : Nat) (f12 : Nat) (f13 : Nat) (p0 : Int32) (oo : Nat) (coo : ClassId) (f0 : Nat → UInt64) (sz : Nat) : Met l yL_okShare us_c_LokShare { frames := 9, cells := 1, slots := 6, locals := 146 } (pw D [.ref x, .int p0, .ref oo] [(coo, .double)] [(x, .inr (13, [.ref g, .ref ca, .int 0, .ref co, .int 0, .ref ra, .int 0, .ref rl, .ref tr, .ref f9, .ref f10, .ref f11, .ref f12, .ref f13])), (oo, .inl (coo, 1, .inr (.inr (.inr (.inl f0)))))] sz) (va_Qi (fun (r : Int32) (u : Nat → UInt64) => r = kf_okShare p0) (qb D (va_A [(x, .inr (13, [.ref g, .ref ca, .int 0, .ref co, .int 0, .ref ra, .int 0, .ref rl, .ref tr, .ref f9, .ref f10, .ref f11, .ref f12, .ref f13])), (oo, .inl (coo, 1, .inr (.inr (.inr (.inl f0)))))] sz) (fun u : (Nat → UInt64) => [(oo, .inl (coo, 1, .inr (.inr (.inr (.inl u)))))]) (fun u : (Nat → UInt64) => ([] : List (ClassId × FieldType)))) (va_A [(x, .inr (13, [.ref g, .ref ca, .int 0, .ref co, .int 0, .ref ra, .int 0, .ref rl, .ref tr, .ref f9, .ref f10, .ref f11, .ref f12, .ref f13])), (oo, .inl (coo, 1, .inr (.inr (.inr (.inl f0)))))] sz)) 1 6 (va_A [(x, .inr (13, [.ref g, .ref ca, .int 0, .ref co, .int 0, .ref ra, .int 0, .ref rl, .ref tr, .ref f9, .ref f10, .ref f11, .ref f12, .ref f13])), (oo, .inl (coo, 1, .inr (.inr (.inr (.inl f0)))))] sz) := by
  refine op_H (Qc := fun A => (va_Qi (fun (r : Int32) (u : Nat → UInt64) => r = kf_okShare p0) (qb D A (fun u : (Nat → UInt64) => [(oo, .inl (coo, 1, .inr (.inr (.inr (.inl u)))))]) (fun u : (Nat → UInt64) => ([] : List (ClassId × FieldType)))) A)) (by decide +kernel) rfl (Nat.le_of_ble_eq_true rfl) ?_
  intro p e s m args below meth c A ls hx hb hr hml hts hown hlocks hmn htab hA hD hS hP hK hE hsz hl
  have hown : s.vm.findClass RL = some m.cls := hown
  have hl : lv_has ls 4 [(0, .ref x), (1, .int p0), (2, .ref oo)] := hl
  have hw_0 := hts (.methodLink RL 151 yX6_okShare) (List.mem_cons_of_mem _ (List.mem_append_left _ (List.mem_of_getElem? (i := 0) rfl)))
  have hw_1 := hts (.instanceMethod yX6_okShare) (List.mem_cons_of_mem _ (List.mem_append_left _ (List.mem_of_getElem? (i := 1) rfl)))
  have hw_2 := hts (.selects RX6 yX6_okShare yX6_okShare) (List.mem_cons_of_mem _ (List.mem_append_left _ (List.mem_of_getElem? (i := 2) rfl)))
  have hw_3 := hts (.initialized RX6) (List.mem_cons_of_mem _ (List.mem_append_left _ (List.mem_of_getElem? (i := 3) rfl)))
  have hw_4 := hts (.classLink RL 19 "java/lang/IndexOutOfBoundsException") (List.mem_cons_of_mem _ (List.mem_append_left _ (List.mem_of_getElem? (i := 4) rfl)))
  have hb_0 : ∀ w ∈ us_c_okShare, w ∈ us_c_LokShare := fun w h => List.mem_cons_of_mem _ (List.mem_append_right _ (List.mem_append_left _ h))
  refine lv_aload_n hx hb dL_okShare_0 rfl (lv_at hl 2 rfl) ?_
  refine lv_iconst (v := 0) hx hb dL_okShare_1 (by decide) ?_
  refine lv_aload_n hx hb dL_okShare_2 rfl (lv_at hl 0 rfl) ?_
  refine lv_iload_n hx hb dL_okShare_3 rfl (lv_at hl 1 rfl) ?_
  refine mtc (wr := [(oo, .inl (coo, 1, .inr (.inr (.inr (.inl f0)))))]) (vx_runV (As := [.int p0]) (rest := [.int 0, .ref oo]) ⟨hx, hb, hml, hown, hts⟩ (c_okShare l hst D x g ca co ra rl tr f9 f10 f11 f12 f13 p0 s.heap.size) (cwV 1 hts (gi_c (List.mem_cons_of_mem _ (List.mem_append_left _ (List.mem_of_getElem? (i := 0) rfl))) rfl (gi_c (List.mem_cons_of_mem _ (List.mem_append_left _ (List.mem_of_getElem? (i := 1) rfl))) rfl (gi_c (List.mem_cons_of_mem _ (List.mem_append_left _ (List.mem_of_getElem? (i := 2) rfl))) rfl (gi_c (List.mem_cons_of_mem _ (List.mem_append_left _ (List.mem_of_getElem? (i := 3) rfl))) rfl (goodIn_sub hb_0 (List.all_eq_true.mpr gw_c_okShare)))))) rfl rfl rfl (by decide +kernel) ⟨Nat.le_of_ble_eq_true rfl, Nat.le_of_ble_eq_true rfl⟩) (pr_V (As := [.int p0]) (b := x) (C := RX6) hP hD hK hS hA hE [0] [] rfl rfl rfl 0 13 rfl rfl rfl) rfl rfl hl.1 rfl (lv_room (Nat.le_of_ble_eq_true rfl)) dL_okShare_4 ⟨Nat.le_of_ble_eq_true rfl, Nat.le_of_ble_eq_true rfl⟩) hP hD hS hA [0] [1] rfl rfl (by decide) (by decide) (fun E ce q9 H locs hp hP hD hS hq1 hq2 hq3 => ?_)
  have hKx := hE.2.2.2.2.2.1
  have hP : va_P D vwCl [(oo, .inl (coo, 1, .inr (.inr (.inr (.inl f0)))))] H := hP
  have hD : va_D A [(oo, .inl (coo, 1, .inr (.inr (.inr (.inl f0)))))] := hD
  rcases hp with rfl
  refine vx_catch (E := "java/lang/IndexOutOfBoundsException") (name := "java/lang/IndexOutOfBoundsException") hown [] (⟨0, 9, 12, 19⟩ : ExceptionTableEntry) [(⟨0, 9, 15, 155⟩ : ExceptionTableEntry)] (htab.trans rfl) (fun z hz => nomatch hz) rfl (by decide) hw_4 (hKx.use _ (List.mem_of_getElem? (i := 4) rfl)) hq1 hq2 hq3 ?_
  refine W.eq (g2 := F0 m 12 ls [.ref q9]) rfl ?_
  refine lv_astore_n (lv' := [(3, .ref q9), (0, .ref x), (1, .int p0), (2, .ref oo)]) hx hb dL_okShare_12 rfl hl (by decide) rfl (fun ls hl => ?_)
  refine lv_iconst (v := 1) hx hb dL_okShare_13 (by decide) ?_
  exact mr_i hx hb hr f0 (rfl) (hP.sub [0] rfl) (hK.sub [] rfl) (hD.sub [0] (by decide) rfl) hS (Nat.le_of_ble_eq_true rfl) (Nat.le_of_ble_eq_true rfl) hlocks dL_okShare_14

def us_c_Lpace : List Cond := .codeWith yL_pace cL_pace 4 (some .int) [(0, 9, 12, 19), (0, 9, 15, 29)] :: (([.methodLink RL 114 yX6_pace, .instanceMethod yX6_pace, .selects RX6 yX6_pace yX6_pace, .initialized RX6, .classLink RL 19 "java/lang/IndexOutOfBoundsException"] : List Cond) ++ (us_c_pace ++ ([])))
theorem gw_c_Lpace : ∀ w ∈ us_c_Lpace, goodWord w = true := gw_cons rfl (gw_app (by decide +kernel) (gw_app gw_c_pace (fun _ h => nomatch h)))
set_option maxHeartbeats 4000000 in
set_option maxRecDepth 100000 in
/-- the law calls pace -/
theorem c_Lpace (l : Launch) (hst : l.stackTraces = false) (D : va_G) (x : Nat) (g : Nat) (ca : Nat) (co : Nat) (ra : Nat) (rl : Nat) (tr : Nat) (f9 : Nat) (f10 : Nat) (f11 : Nat) (f12 : Nat) (f13 : Nat) (p0 : Int32) (oo : Nat) (coo : ClassId) (f0 : Nat → Int64) (sz : Nat) : Met l yL_pace us_c_Lpace { frames := 9, cells := 1, slots := 6, locals := 146 } (pw D [.ref x, .int p0, .ref oo] [(coo, .long)] [(x, .inr (13, [.ref g, .ref ca, .int 0, .ref co, .int 0, .ref ra, .int 0, .ref rl, .ref tr, .ref f9, .ref f10, .ref f11, .ref f12, .ref f13])), (oo, .inl (coo, 1, .inr (.inl f0)))] sz) (va_Qi (fun (r : Int32) (u : Nat → Int64) => r = kf_pace p0 ∧ (kf_pace p0 = 0 → u 0 = (rf_pace p0).toInt64)) (qb D (va_A [(x, .inr (13, [.ref g, .ref ca, .int 0, .ref co, .int 0, .ref ra, .int 0, .ref rl, .ref tr, .ref f9, .ref f10, .ref f11, .ref f12, .ref f13])), (oo, .inl (coo, 1, .inr (.inl f0)))] sz) (fun u : (Nat → Int64) => [(oo, .inl (coo, 1, .inr (.inl u)))]) (fun u : (Nat → Int64) => ([] : List (ClassId × FieldType)))) (va_A [(x, .inr (13, [.ref g, .ref ca, .int 0, .ref co, .int 0, .ref ra, .int 0, .ref rl, .ref tr, .ref f9, .ref f10, .ref f11, .ref f12, .ref f13])), (oo, .inl (coo, 1, .inr (.inl f0)))] sz)) 1 6 (va_A [(x, .inr (13, [.ref g, .ref ca, .int 0, .ref co, .int 0, .ref ra, .int 0, .ref rl, .ref tr, .ref f9, .ref f10, .ref f11, .ref f12, .ref f13])), (oo, .inl (coo, 1, .inr (.inl f0)))] sz) := by
  refine op_H (Qc := fun A => (va_Qi (fun (r : Int32) (u : Nat → Int64) => r = kf_pace p0 ∧ (kf_pace p0 = 0 → u 0 = (rf_pace p0).toInt64)) (qb D A (fun u : (Nat → Int64) => [(oo, .inl (coo, 1, .inr (.inl u)))]) (fun u : (Nat → Int64) => ([] : List (ClassId × FieldType)))) A)) (by decide +kernel) rfl (Nat.le_of_ble_eq_true rfl) ?_
  intro p e s m args below meth c A ls hx hb hr hml hts hown hlocks hmn htab hA hD hS hP hK hE hsz hl
  have hown : s.vm.findClass RL = some m.cls := hown
  have hl : lv_has ls 4 [(0, .ref x), (1, .int p0), (2, .ref oo)] := hl
  have hw_0 := hts (.methodLink RL 114 yX6_pace) (List.mem_cons_of_mem _ (List.mem_append_left _ (List.mem_of_getElem? (i := 0) rfl)))
  have hw_1 := hts (.instanceMethod yX6_pace) (List.mem_cons_of_mem _ (List.mem_append_left _ (List.mem_of_getElem? (i := 1) rfl)))
  have hw_2 := hts (.selects RX6 yX6_pace yX6_pace) (List.mem_cons_of_mem _ (List.mem_append_left _ (List.mem_of_getElem? (i := 2) rfl)))
  have hw_3 := hts (.initialized RX6) (List.mem_cons_of_mem _ (List.mem_append_left _ (List.mem_of_getElem? (i := 3) rfl)))
  have hw_4 := hts (.classLink RL 19 "java/lang/IndexOutOfBoundsException") (List.mem_cons_of_mem _ (List.mem_append_left _ (List.mem_of_getElem? (i := 4) rfl)))
  have hb_0 : ∀ w ∈ us_c_pace, w ∈ us_c_Lpace := fun w h => List.mem_cons_of_mem _ (List.mem_append_right _ (List.mem_append_left _ h))
  refine lv_aload_n hx hb dL_pace_0 rfl (lv_at hl 2 rfl) ?_
  refine lv_iconst (v := 0) hx hb dL_pace_1 (by decide) ?_
  refine lv_aload_n hx hb dL_pace_2 rfl (lv_at hl 0 rfl) ?_
  refine lv_iload_n hx hb dL_pace_3 rfl (lv_at hl 1 rfl) ?_
  refine mtc (wr := [(oo, .inl (coo, 1, .inr (.inl f0)))]) (vx_runV (As := [.int p0]) (rest := [.int 0, .ref oo]) ⟨hx, hb, hml, hown, hts⟩ (c_pace l hst D x g ca co ra rl tr f9 f10 f11 f12 f13 p0 s.heap.size) (cwV 1 hts (gi_c (List.mem_cons_of_mem _ (List.mem_append_left _ (List.mem_of_getElem? (i := 0) rfl))) rfl (gi_c (List.mem_cons_of_mem _ (List.mem_append_left _ (List.mem_of_getElem? (i := 1) rfl))) rfl (gi_c (List.mem_cons_of_mem _ (List.mem_append_left _ (List.mem_of_getElem? (i := 2) rfl))) rfl (gi_c (List.mem_cons_of_mem _ (List.mem_append_left _ (List.mem_of_getElem? (i := 3) rfl))) rfl (goodIn_sub hb_0 (List.all_eq_true.mpr gw_c_pace)))))) rfl rfl rfl (by decide +kernel) ⟨Nat.le_of_ble_eq_true rfl, Nat.le_of_ble_eq_true rfl⟩) (pr_V (As := [.int p0]) (b := x) (C := RX6) hP hD hK hS hA hE [0] [] rfl rfl rfl 0 13 rfl rfl rfl) rfl rfl hl.1 rfl (lv_room (Nat.le_of_ble_eq_true rfl)) dL_pace_4 ⟨Nat.le_of_ble_eq_true rfl, Nat.le_of_ble_eq_true rfl⟩) hP hD hS hA [0] [1] rfl rfl (by decide) (by decide) (fun E ce q9 H locs hp hP hD hS hq1 hq2 hq3 => ?_)
  have hKx := hE.2.2.2.2.2.1
  have hP : va_P D vwCl [(oo, .inl (coo, 1, .inr (.inl f0)))] H := hP
  have hD : va_D A [(oo, .inl (coo, 1, .inr (.inl f0)))] := hD
  rcases hp with rfl
  refine vx_catch (E := "java/lang/IndexOutOfBoundsException") (name := "java/lang/IndexOutOfBoundsException") hown [] (⟨0, 9, 12, 19⟩ : ExceptionTableEntry) [(⟨0, 9, 15, 29⟩ : ExceptionTableEntry)] (htab.trans rfl) (fun z hz => nomatch hz) rfl (by decide) hw_4 (hKx.use _ (List.mem_of_getElem? (i := 4) rfl)) hq1 hq2 hq3 ?_
  refine W.eq (g2 := F0 m 12 ls [.ref q9]) rfl ?_
  refine lv_astore_n (lv' := [(3, .ref q9), (0, .ref x), (1, .int p0), (2, .ref oo)]) hx hb dL_pace_12 rfl hl (by decide) rfl (fun ls hl => ?_)
  refine lv_iconst (v := 1) hx hb dL_pace_13 (by decide) ?_
  exact mr_i hx hb hr f0 (⟨rfl, fun q9 => absurd (show (1 : Int32) = 0 from q9) (by decide)⟩) (hP.sub [0] rfl) (hK.sub [] rfl) (hD.sub [0] (by decide) rfl) hS (Nat.le_of_ble_eq_true rfl) (Nat.le_of_ble_eq_true rfl) hlocks dL_pace_14

def us_c_Lplace : List Cond := .codeWith yL_place cL_place 4 (some .int) [(0, 9, 12, 19), (0, 9, 15, 29)] :: (([.methodLink RL 108 yX6_place, .instanceMethod yX6_place, .selects RX6 yX6_place yX6_place, .initialized RX6, .classLink RL 19 "java/lang/IndexOutOfBoundsException"] : List Cond) ++ (us_c_place ++ ([])))
theorem gw_c_Lplace : ∀ w ∈ us_c_Lplace, goodWord w = true := gw_cons rfl (gw_app (by decide +kernel) (gw_app gw_c_place (fun _ h => nomatch h)))
set_option maxHeartbeats 4000000 in
set_option maxRecDepth 100000 in
/-- the law calls place -/
theorem c_Lplace (l : Launch) (hst : l.stackTraces = false) (D : va_G) (x : Nat) (g : Nat) (ca : Nat) (co : Nat) (ra : Nat) (rl : Nat) (tr : Nat) (f9 : Nat) (f10 : Nat) (f11 : Nat) (f12 : Nat) (f13 : Nat) (p0 : Int32) (oo : Nat) (coo : ClassId) (f0 : Nat → Int64) (sz : Nat) : Met l yL_place us_c_Lplace { frames := 9, cells := 1, slots := 6, locals := 148 } (pw D [.ref x, .int p0, .ref oo] [(coo, .long)] [(x, .inr (13, [.ref g, .ref ca, .int 0, .ref co, .int 0, .ref ra, .int 0, .ref rl, .ref tr, .ref f9, .ref f10, .ref f11, .ref f12, .ref f13])), (oo, .inl (coo, 1, .inr (.inl f0)))] sz) (va_Qi (fun (r : Int32) (u : Nat → Int64) => r = kf_place p0 ∧ (kf_place p0 = 0 → u 0 = (rf_place p0).toInt64)) (qb D (va_A [(x, .inr (13, [.ref g, .ref ca, .int 0, .ref co, .int 0, .ref ra, .int 0, .ref rl, .ref tr, .ref f9, .ref f10, .ref f11, .ref f12, .ref f13])), (oo, .inl (coo, 1, .inr (.inl f0)))] sz) (fun u : (Nat → Int64) => [(oo, .inl (coo, 1, .inr (.inl u)))]) (fun u : (Nat → Int64) => ([] : List (ClassId × FieldType)))) (va_A [(x, .inr (13, [.ref g, .ref ca, .int 0, .ref co, .int 0, .ref ra, .int 0, .ref rl, .ref tr, .ref f9, .ref f10, .ref f11, .ref f12, .ref f13])), (oo, .inl (coo, 1, .inr (.inl f0)))] sz)) 1 6 (va_A [(x, .inr (13, [.ref g, .ref ca, .int 0, .ref co, .int 0, .ref ra, .int 0, .ref rl, .ref tr, .ref f9, .ref f10, .ref f11, .ref f12, .ref f13])), (oo, .inl (coo, 1, .inr (.inl f0)))] sz) := by
  refine op_H (Qc := fun A => (va_Qi (fun (r : Int32) (u : Nat → Int64) => r = kf_place p0 ∧ (kf_place p0 = 0 → u 0 = (rf_place p0).toInt64)) (qb D A (fun u : (Nat → Int64) => [(oo, .inl (coo, 1, .inr (.inl u)))]) (fun u : (Nat → Int64) => ([] : List (ClassId × FieldType)))) A)) (by decide +kernel) rfl (Nat.le_of_ble_eq_true rfl) ?_
  intro p e s m args below meth c A ls hx hb hr hml hts hown hlocks hmn htab hA hD hS hP hK hE hsz hl
  have hown : s.vm.findClass RL = some m.cls := hown
  have hl : lv_has ls 4 [(0, .ref x), (1, .int p0), (2, .ref oo)] := hl
  have hw_0 := hts (.methodLink RL 108 yX6_place) (List.mem_cons_of_mem _ (List.mem_append_left _ (List.mem_of_getElem? (i := 0) rfl)))
  have hw_1 := hts (.instanceMethod yX6_place) (List.mem_cons_of_mem _ (List.mem_append_left _ (List.mem_of_getElem? (i := 1) rfl)))
  have hw_2 := hts (.selects RX6 yX6_place yX6_place) (List.mem_cons_of_mem _ (List.mem_append_left _ (List.mem_of_getElem? (i := 2) rfl)))
  have hw_3 := hts (.initialized RX6) (List.mem_cons_of_mem _ (List.mem_append_left _ (List.mem_of_getElem? (i := 3) rfl)))
  have hw_4 := hts (.classLink RL 19 "java/lang/IndexOutOfBoundsException") (List.mem_cons_of_mem _ (List.mem_append_left _ (List.mem_of_getElem? (i := 4) rfl)))
  have hb_0 : ∀ w ∈ us_c_place, w ∈ us_c_Lplace := fun w h => List.mem_cons_of_mem _ (List.mem_append_right _ (List.mem_append_left _ h))
  refine lv_aload_n hx hb dL_place_0 rfl (lv_at hl 2 rfl) ?_
  refine lv_iconst (v := 0) hx hb dL_place_1 (by decide) ?_
  refine lv_aload_n hx hb dL_place_2 rfl (lv_at hl 0 rfl) ?_
  refine lv_iload_n hx hb dL_place_3 rfl (lv_at hl 1 rfl) ?_
  refine mtc (wr := [(oo, .inl (coo, 1, .inr (.inl f0)))]) (vx_runV (As := [.int p0]) (rest := [.int 0, .ref oo]) ⟨hx, hb, hml, hown, hts⟩ (c_place l hst D x g ca co ra rl tr f9 f10 f11 f12 f13 p0 s.heap.size) (cwV 1 hts (gi_c (List.mem_cons_of_mem _ (List.mem_append_left _ (List.mem_of_getElem? (i := 0) rfl))) rfl (gi_c (List.mem_cons_of_mem _ (List.mem_append_left _ (List.mem_of_getElem? (i := 1) rfl))) rfl (gi_c (List.mem_cons_of_mem _ (List.mem_append_left _ (List.mem_of_getElem? (i := 2) rfl))) rfl (gi_c (List.mem_cons_of_mem _ (List.mem_append_left _ (List.mem_of_getElem? (i := 3) rfl))) rfl (goodIn_sub hb_0 (List.all_eq_true.mpr gw_c_place)))))) rfl rfl rfl (by decide +kernel) ⟨Nat.le_of_ble_eq_true rfl, Nat.le_of_ble_eq_true rfl⟩) (pr_V (As := [.int p0]) (b := x) (C := RX6) hP hD hK hS hA hE [0] [] rfl rfl rfl 0 13 rfl rfl rfl) rfl rfl hl.1 rfl (lv_room (Nat.le_of_ble_eq_true rfl)) dL_place_4 ⟨Nat.le_of_ble_eq_true rfl, Nat.le_of_ble_eq_true rfl⟩) hP hD hS hA [0] [1] rfl rfl (by decide) (by decide) (fun E ce q9 H locs hp hP hD hS hq1 hq2 hq3 => ?_)
  have hKx := hE.2.2.2.2.2.1
  have hP : va_P D vwCl [(oo, .inl (coo, 1, .inr (.inl f0)))] H := hP
  have hD : va_D A [(oo, .inl (coo, 1, .inr (.inl f0)))] := hD
  rcases hp with rfl
  refine vx_catch (E := "java/lang/IndexOutOfBoundsException") (name := "java/lang/IndexOutOfBoundsException") hown [] (⟨0, 9, 12, 19⟩ : ExceptionTableEntry) [(⟨0, 9, 15, 29⟩ : ExceptionTableEntry)] (htab.trans rfl) (fun z hz => nomatch hz) rfl (by decide) hw_4 (hKx.use _ (List.mem_of_getElem? (i := 4) rfl)) hq1 hq2 hq3 ?_
  refine W.eq (g2 := F0 m 12 ls [.ref q9]) rfl ?_
  refine lv_astore_n (lv' := [(3, .ref q9), (0, .ref x), (1, .int p0), (2, .ref oo)]) hx hb dL_place_12 rfl hl (by decide) rfl (fun ls hl => ?_)
  refine lv_iconst (v := 1) hx hb dL_place_13 (by decide) ?_
  exact mr_i hx hb hr f0 (⟨rfl, fun q9 => absurd (show (1 : Int32) = 0 from q9) (by decide)⟩) (hP.sub [0] rfl) (hK.sub [] rfl) (hD.sub [0] (by decide) rfl) hS (Nat.le_of_ble_eq_true rfl) (Nat.le_of_ble_eq_true rfl) hlocks dL_place_14

def us_c_Lpoints : List Cond := .codeWith yL_points cL_points 4 (some .int) [(0, 9, 12, 19), (0, 9, 15, 29)] :: (([.methodLink RL 120 yX6_points, .instanceMethod yX6_points, .selects RX6 yX6_points yX6_points, .initialized RX6, .classLink RL 19 "java/lang/IndexOutOfBoundsException"] : List Cond) ++ (us_c_points ++ ([])))
theorem gw_c_Lpoints : ∀ w ∈ us_c_Lpoints, goodWord w = true := gw_cons rfl (gw_app (by decide +kernel) (gw_app gw_c_points (fun _ h => nomatch h)))
set_option maxHeartbeats 4000000 in
set_option maxRecDepth 100000 in
/-- the law calls points -/
theorem c_Lpoints (l : Launch) (hst : l.stackTraces = false) (D : va_G) (x : Nat) (g : Nat) (ca : Nat) (co : Nat) (ra : Nat) (rl : Nat) (tr : Nat) (f9 : Nat) (f10 : Nat) (f11 : Nat) (f12 : Nat) (f13 : Nat) (p0 : Int32) (oo : Nat) (coo : ClassId) (f0 : Nat → Int64) (sz : Nat) : Met l yL_points us_c_Lpoints { frames := 9, cells := 1, slots := 6, locals := 147 } (pw D [.ref x, .int p0, .ref oo] [(coo, .long)] [(x, .inr (13, [.ref g, .ref ca, .int 0, .ref co, .int 0, .ref ra, .int 0, .ref rl, .ref tr, .ref f9, .ref f10, .ref f11, .ref f12, .ref f13])), (oo, .inl (coo, 1, .inr (.inl f0)))] sz) (va_Qi (fun (r : Int32) (u : Nat → Int64) => r = kf_points p0 ∧ (kf_points p0 = 0 → u 0 = (rf_points p0).toInt64)) (qb D (va_A [(x, .inr (13, [.ref g, .ref ca, .int 0, .ref co, .int 0, .ref ra, .int 0, .ref rl, .ref tr, .ref f9, .ref f10, .ref f11, .ref f12, .ref f13])), (oo, .inl (coo, 1, .inr (.inl f0)))] sz) (fun u : (Nat → Int64) => [(oo, .inl (coo, 1, .inr (.inl u)))]) (fun u : (Nat → Int64) => ([] : List (ClassId × FieldType)))) (va_A [(x, .inr (13, [.ref g, .ref ca, .int 0, .ref co, .int 0, .ref ra, .int 0, .ref rl, .ref tr, .ref f9, .ref f10, .ref f11, .ref f12, .ref f13])), (oo, .inl (coo, 1, .inr (.inl f0)))] sz)) 1 6 (va_A [(x, .inr (13, [.ref g, .ref ca, .int 0, .ref co, .int 0, .ref ra, .int 0, .ref rl, .ref tr, .ref f9, .ref f10, .ref f11, .ref f12, .ref f13])), (oo, .inl (coo, 1, .inr (.inl f0)))] sz) := by
  refine op_H (Qc := fun A => (va_Qi (fun (r : Int32) (u : Nat → Int64) => r = kf_points p0 ∧ (kf_points p0 = 0 → u 0 = (rf_points p0).toInt64)) (qb D A (fun u : (Nat → Int64) => [(oo, .inl (coo, 1, .inr (.inl u)))]) (fun u : (Nat → Int64) => ([] : List (ClassId × FieldType)))) A)) (by decide +kernel) rfl (Nat.le_of_ble_eq_true rfl) ?_
  intro p e s m args below meth c A ls hx hb hr hml hts hown hlocks hmn htab hA hD hS hP hK hE hsz hl
  have hown : s.vm.findClass RL = some m.cls := hown
  have hl : lv_has ls 4 [(0, .ref x), (1, .int p0), (2, .ref oo)] := hl
  have hw_0 := hts (.methodLink RL 120 yX6_points) (List.mem_cons_of_mem _ (List.mem_append_left _ (List.mem_of_getElem? (i := 0) rfl)))
  have hw_1 := hts (.instanceMethod yX6_points) (List.mem_cons_of_mem _ (List.mem_append_left _ (List.mem_of_getElem? (i := 1) rfl)))
  have hw_2 := hts (.selects RX6 yX6_points yX6_points) (List.mem_cons_of_mem _ (List.mem_append_left _ (List.mem_of_getElem? (i := 2) rfl)))
  have hw_3 := hts (.initialized RX6) (List.mem_cons_of_mem _ (List.mem_append_left _ (List.mem_of_getElem? (i := 3) rfl)))
  have hw_4 := hts (.classLink RL 19 "java/lang/IndexOutOfBoundsException") (List.mem_cons_of_mem _ (List.mem_append_left _ (List.mem_of_getElem? (i := 4) rfl)))
  have hb_0 : ∀ w ∈ us_c_points, w ∈ us_c_Lpoints := fun w h => List.mem_cons_of_mem _ (List.mem_append_right _ (List.mem_append_left _ h))
  refine lv_aload_n hx hb dL_points_0 rfl (lv_at hl 2 rfl) ?_
  refine lv_iconst (v := 0) hx hb dL_points_1 (by decide) ?_
  refine lv_aload_n hx hb dL_points_2 rfl (lv_at hl 0 rfl) ?_
  refine lv_iload_n hx hb dL_points_3 rfl (lv_at hl 1 rfl) ?_
  refine mtc (wr := [(oo, .inl (coo, 1, .inr (.inl f0)))]) (vx_runV (As := [.int p0]) (rest := [.int 0, .ref oo]) ⟨hx, hb, hml, hown, hts⟩ (c_points l hst D x g ca co ra rl tr f9 f10 f11 f12 f13 p0 s.heap.size) (cwV 1 hts (gi_c (List.mem_cons_of_mem _ (List.mem_append_left _ (List.mem_of_getElem? (i := 0) rfl))) rfl (gi_c (List.mem_cons_of_mem _ (List.mem_append_left _ (List.mem_of_getElem? (i := 1) rfl))) rfl (gi_c (List.mem_cons_of_mem _ (List.mem_append_left _ (List.mem_of_getElem? (i := 2) rfl))) rfl (gi_c (List.mem_cons_of_mem _ (List.mem_append_left _ (List.mem_of_getElem? (i := 3) rfl))) rfl (goodIn_sub hb_0 (List.all_eq_true.mpr gw_c_points)))))) rfl rfl rfl (by decide +kernel) ⟨Nat.le_of_ble_eq_true rfl, Nat.le_of_ble_eq_true rfl⟩) (pr_V (As := [.int p0]) (b := x) (C := RX6) hP hD hK hS hA hE [0] [] rfl rfl rfl 0 13 rfl rfl rfl) rfl rfl hl.1 rfl (lv_room (Nat.le_of_ble_eq_true rfl)) dL_points_4 ⟨Nat.le_of_ble_eq_true rfl, Nat.le_of_ble_eq_true rfl⟩) hP hD hS hA [0] [1] rfl rfl (by decide) (by decide) (fun E ce q9 H locs hp hP hD hS hq1 hq2 hq3 => ?_)
  have hKx := hE.2.2.2.2.2.1
  have hP : va_P D vwCl [(oo, .inl (coo, 1, .inr (.inl f0)))] H := hP
  have hD : va_D A [(oo, .inl (coo, 1, .inr (.inl f0)))] := hD
  rcases hp with rfl
  refine vx_catch (E := "java/lang/IndexOutOfBoundsException") (name := "java/lang/IndexOutOfBoundsException") hown [] (⟨0, 9, 12, 19⟩ : ExceptionTableEntry) [(⟨0, 9, 15, 29⟩ : ExceptionTableEntry)] (htab.trans rfl) (fun z hz => nomatch hz) rfl (by decide) hw_4 (hKx.use _ (List.mem_of_getElem? (i := 4) rfl)) hq1 hq2 hq3 ?_
  refine W.eq (g2 := F0 m 12 ls [.ref q9]) rfl ?_
  refine lv_astore_n (lv' := [(3, .ref q9), (0, .ref x), (1, .int p0), (2, .ref oo)]) hx hb dL_points_12 rfl hl (by decide) rfl (fun ls hl => ?_)
  refine lv_iconst (v := 1) hx hb dL_points_13 (by decide) ?_
  exact mr_i hx hb hr f0 (⟨rfl, fun q9 => absurd (show (1 : Int32) = 0 from q9) (by decide)⟩) (hP.sub [0] rfl) (hK.sub [] rfl) (hD.sub [0] (by decide) rfl) hS (Nat.le_of_ble_eq_true rfl) (Nat.le_of_ble_eq_true rfl) hlocks dL_points_14

def us_c_Lpunch : List Cond := .codeWith yL_punch cL_punch 6 (some .int) [(0, 12, 15, 19), (0, 12, 19, 38), (0, 12, 23, 13), (0, 12, 27, 40)] :: (([.methodLink RL 79 yX6_punch, .instanceMethod yX6_punch, .selects RX6 yX6_punch yX6_punch, .initialized RX6, .classLink RL 19 "java/lang/IndexOutOfBoundsException"] : List Cond) ++ (us_c_punch ++ ([])))
theorem gw_c_Lpunch : ∀ w ∈ us_c_Lpunch, goodWord w = true := gw_cons rfl (gw_app (by decide +kernel) (gw_app gw_c_punch (fun _ h => nomatch h)))
set_option maxHeartbeats 4000000 in
set_option maxRecDepth 100000 in
/-- the law calls punch -/
theorem c_Lpunch (l : Launch) (hst : l.stackTraces = false) (D : va_G) (x : Nat) (g : Nat) (ca : Nat) (co : Nat) (ra : Nat) (rl : Nat) (tr : Nat) (f9 : Nat) (f10 : Nat) (f11 : Nat) (f12 : Nat) (f13 : Nat) (p0 : Int32) (p1 : Int32) (p2 : Int32) (oo : Nat) (coo : ClassId) (f0 : Nat → Int64) (sz : Nat) : Met l yL_punch us_c_Lpunch { frames := 9, cells := 1, slots := 6, locals := 149 } (pw D [.ref x, .int p0, .int p1, .int p2, .ref oo] [(coo, .long)] [(x, .inr (13, [.ref g, .ref ca, .int 0, .ref co, .int 0, .ref ra, .int 0, .ref rl, .ref tr, .ref f9, .ref f10, .ref f11, .ref f12, .ref f13])), (oo, .inl (coo, 1, .inr (.inl f0)))] sz) (va_Qi (fun (r : Int32) (u : Nat → Int64) => r = kf_punch p0 p1 p2 ∧ (kf_punch p0 p1 p2 = 0 → u 0 = (rf_punch p0 p1 p2).toInt64)) (qb D (va_A [(x, .inr (13, [.ref g, .ref ca, .int 0, .ref co, .int 0, .ref ra, .int 0, .ref rl, .ref tr, .ref f9, .ref f10, .ref f11, .ref f12, .ref f13])), (oo, .inl (coo, 1, .inr (.inl f0)))] sz) (fun u : (Nat → Int64) => [(oo, .inl (coo, 1, .inr (.inl u)))]) (fun u : (Nat → Int64) => ([] : List (ClassId × FieldType)))) (va_A [(x, .inr (13, [.ref g, .ref ca, .int 0, .ref co, .int 0, .ref ra, .int 0, .ref rl, .ref tr, .ref f9, .ref f10, .ref f11, .ref f12, .ref f13])), (oo, .inl (coo, 1, .inr (.inl f0)))] sz)) 1 6 (va_A [(x, .inr (13, [.ref g, .ref ca, .int 0, .ref co, .int 0, .ref ra, .int 0, .ref rl, .ref tr, .ref f9, .ref f10, .ref f11, .ref f12, .ref f13])), (oo, .inl (coo, 1, .inr (.inl f0)))] sz) := by
  refine op_H (Qc := fun A => (va_Qi (fun (r : Int32) (u : Nat → Int64) => r = kf_punch p0 p1 p2 ∧ (kf_punch p0 p1 p2 = 0 → u 0 = (rf_punch p0 p1 p2).toInt64)) (qb D A (fun u : (Nat → Int64) => [(oo, .inl (coo, 1, .inr (.inl u)))]) (fun u : (Nat → Int64) => ([] : List (ClassId × FieldType)))) A)) (by decide +kernel) rfl (Nat.le_of_ble_eq_true rfl) ?_
  intro p e s m args below meth c A ls hx hb hr hml hts hown hlocks hmn htab hA hD hS hP hK hE hsz hl
  have hown : s.vm.findClass RL = some m.cls := hown
  have hl : lv_has ls 6 [(0, .ref x), (1, .int p0), (2, .int p1), (3, .int p2), (4, .ref oo)] := hl
  have hw_0 := hts (.methodLink RL 79 yX6_punch) (List.mem_cons_of_mem _ (List.mem_append_left _ (List.mem_of_getElem? (i := 0) rfl)))
  have hw_1 := hts (.instanceMethod yX6_punch) (List.mem_cons_of_mem _ (List.mem_append_left _ (List.mem_of_getElem? (i := 1) rfl)))
  have hw_2 := hts (.selects RX6 yX6_punch yX6_punch) (List.mem_cons_of_mem _ (List.mem_append_left _ (List.mem_of_getElem? (i := 2) rfl)))
  have hw_3 := hts (.initialized RX6) (List.mem_cons_of_mem _ (List.mem_append_left _ (List.mem_of_getElem? (i := 3) rfl)))
  have hw_4 := hts (.classLink RL 19 "java/lang/IndexOutOfBoundsException") (List.mem_cons_of_mem _ (List.mem_append_left _ (List.mem_of_getElem? (i := 4) rfl)))
  have hb_0 : ∀ w ∈ us_c_punch, w ∈ us_c_Lpunch := fun w h => List.mem_cons_of_mem _ (List.mem_append_right _ (List.mem_append_left _ h))
  refine lv_aload hx hb dL_punch_0 (lv_at hl 4 rfl) ?_
  refine lv_iconst (v := 0) hx hb dL_punch_2 (by decide) ?_
  refine lv_aload_n hx hb dL_punch_3 rfl (lv_at hl 0 rfl) ?_
  refine lv_iload_n hx hb dL_punch_4 rfl (lv_at hl 1 rfl) ?_
  refine lv_iload_n hx hb dL_punch_5 rfl (lv_at hl 2 rfl) ?_
  refine lv_iload_n hx hb dL_punch_6 rfl (lv_at hl 3 rfl) ?_
  refine mtc (wr := [(oo, .inl (coo, 1, .inr (.inl f0)))]) (vx_runV (As := [.int p0, .int p1, .int p2]) (rest := [.int 0, .ref oo]) ⟨hx, hb, hml, hown, hts⟩ (c_punch l hst D x g ca co ra rl tr f9 f10 f11 f12 f13 p0 p1 p2 s.heap.size) (cwV 3 hts (gi_c (List.mem_cons_of_mem _ (List.mem_append_left _ (List.mem_of_getElem? (i := 0) rfl))) rfl (gi_c (List.mem_cons_of_mem _ (List.mem_append_left _ (List.mem_of_getElem? (i := 1) rfl))) rfl (gi_c (List.mem_cons_of_mem _ (List.mem_append_left _ (List.mem_of_getElem? (i := 2) rfl))) rfl (gi_c (List.mem_cons_of_mem _ (List.mem_append_left _ (List.mem_of_getElem? (i := 3) rfl))) rfl (goodIn_sub hb_0 (List.all_eq_true.mpr gw_c_punch)))))) rfl rfl rfl (by decide +kernel) ⟨Nat.le_of_ble_eq_true rfl, Nat.le_of_ble_eq_true rfl⟩) (pr_V (As := [.int p0, .int p1, .int p2]) (b := x) (C := RX6) hP hD hK hS hA hE [0] [] rfl rfl rfl 0 13 rfl rfl rfl) rfl rfl hl.1 rfl (lv_room (Nat.le_of_ble_eq_true rfl)) dL_punch_7 ⟨Nat.le_of_ble_eq_true rfl, Nat.le_of_ble_eq_true rfl⟩) hP hD hS hA [0] [1] rfl rfl (by decide) (by decide) (fun E ce q9 H locs hp hP hD hS hq1 hq2 hq3 => ?_)
  have hKx := hE.2.2.2.2.2.1
  have hP : va_P D vwCl [(oo, .inl (coo, 1, .inr (.inl f0)))] H := hP
  have hD : va_D A [(oo, .inl (coo, 1, .inr (.inl f0)))] := hD
  rcases hp with rfl
  refine vx_catch (E := "java/lang/IndexOutOfBoundsException") (name := "java/lang/IndexOutOfBoundsException") hown [] (⟨0, 12, 15, 19⟩ : ExceptionTableEntry) [(⟨0, 12, 19, 38⟩ : ExceptionTableEntry), (⟨0, 12, 23, 13⟩ : ExceptionTableEntry), (⟨0, 12, 27, 40⟩ : ExceptionTableEntry)] (htab.trans rfl) (fun z hz => nomatch hz) rfl (by decide) hw_4 (hKx.use _ (List.mem_of_getElem? (i := 4) rfl)) hq1 hq2 hq3 ?_
  refine W.eq (g2 := F0 m 15 ls [.ref q9]) rfl ?_
  refine lv_astore (lv' := [(5, .ref q9), (0, .ref x), (1, .int p0), (2, .int p1), (3, .int p2), (4, .ref oo)]) hx hb dL_punch_15 hl (by decide) rfl (fun ls hl => ?_)
  refine lv_iconst (v := 1) hx hb dL_punch_17 (by decide) ?_
  exact mr_i hx hb hr f0 (⟨rfl, fun q9 => absurd (show (1 : Int32) = 0 from q9) (by decide)⟩) (hP.sub [0] rfl) (hK.sub [] rfl) (hD.sub [0] (by decide) rfl) hS (Nat.le_of_ble_eq_true rfl) (Nat.le_of_ble_eq_true rfl) hlocks dL_punch_18

def us_c_Lreference : List Cond := .codeWith yL_reference cL_reference 5 (some .int) [(0, 10, 13, 19), (0, 10, 17, 29)] :: (([.methodLink RL 111 yX6_reference, .instanceMethod yX6_reference, .selects RX6 yX6_reference yX6_reference, .initialized RX6, .classLink RL 19 "java/lang/IndexOutOfBoundsException"] : List Cond) ++ (us_c_reference ++ ([])))
theorem gw_c_Lreference : ∀ w ∈ us_c_Lreference, goodWord w = true := gw_cons rfl (gw_app (by decide +kernel) (gw_app gw_c_reference (fun _ h => nomatch h)))
set_option maxHeartbeats 4000000 in
set_option maxRecDepth 100000 in
/-- the law calls reference -/
theorem c_Lreference (l : Launch) (hst : l.stackTraces = false) (D : va_G) (x : Nat) (g : Nat) (ca : Nat) (co : Nat) (ra : Nat) (rl : Nat) (tr : Nat) (f9 : Nat) (f10 : Nat) (f11 : Nat) (f12 : Nat) (f13 : Nat) (p0 : Int32) (p1 : Int32) (oo : Nat) (coo : ClassId) (f0 : Nat → Int64) (sz : Nat) : Met l yL_reference us_c_Lreference { frames := 9, cells := 1, slots := 6, locals := 147 } (pw D [.ref x, .int p0, .int p1, .ref oo] [(coo, .long)] [(x, .inr (13, [.ref g, .ref ca, .int 0, .ref co, .int 0, .ref ra, .int 0, .ref rl, .ref tr, .ref f9, .ref f10, .ref f11, .ref f12, .ref f13])), (oo, .inl (coo, 1, .inr (.inl f0)))] sz) (va_Qi (fun (r : Int32) (u : Nat → Int64) => r = kf_reference p0 p1 ∧ (kf_reference p0 p1 = 0 → u 0 = (rf_reference p0 p1).toInt64)) (qb D (va_A [(x, .inr (13, [.ref g, .ref ca, .int 0, .ref co, .int 0, .ref ra, .int 0, .ref rl, .ref tr, .ref f9, .ref f10, .ref f11, .ref f12, .ref f13])), (oo, .inl (coo, 1, .inr (.inl f0)))] sz) (fun u : (Nat → Int64) => [(oo, .inl (coo, 1, .inr (.inl u)))]) (fun u : (Nat → Int64) => ([] : List (ClassId × FieldType)))) (va_A [(x, .inr (13, [.ref g, .ref ca, .int 0, .ref co, .int 0, .ref ra, .int 0, .ref rl, .ref tr, .ref f9, .ref f10, .ref f11, .ref f12, .ref f13])), (oo, .inl (coo, 1, .inr (.inl f0)))] sz)) 1 6 (va_A [(x, .inr (13, [.ref g, .ref ca, .int 0, .ref co, .int 0, .ref ra, .int 0, .ref rl, .ref tr, .ref f9, .ref f10, .ref f11, .ref f12, .ref f13])), (oo, .inl (coo, 1, .inr (.inl f0)))] sz) := by
  refine op_H (Qc := fun A => (va_Qi (fun (r : Int32) (u : Nat → Int64) => r = kf_reference p0 p1 ∧ (kf_reference p0 p1 = 0 → u 0 = (rf_reference p0 p1).toInt64)) (qb D A (fun u : (Nat → Int64) => [(oo, .inl (coo, 1, .inr (.inl u)))]) (fun u : (Nat → Int64) => ([] : List (ClassId × FieldType)))) A)) (by decide +kernel) rfl (Nat.le_of_ble_eq_true rfl) ?_
  intro p e s m args below meth c A ls hx hb hr hml hts hown hlocks hmn htab hA hD hS hP hK hE hsz hl
  have hown : s.vm.findClass RL = some m.cls := hown
  have hl : lv_has ls 5 [(0, .ref x), (1, .int p0), (2, .int p1), (3, .ref oo)] := hl
  have hw_0 := hts (.methodLink RL 111 yX6_reference) (List.mem_cons_of_mem _ (List.mem_append_left _ (List.mem_of_getElem? (i := 0) rfl)))
  have hw_1 := hts (.instanceMethod yX6_reference) (List.mem_cons_of_mem _ (List.mem_append_left _ (List.mem_of_getElem? (i := 1) rfl)))
  have hw_2 := hts (.selects RX6 yX6_reference yX6_reference) (List.mem_cons_of_mem _ (List.mem_append_left _ (List.mem_of_getElem? (i := 2) rfl)))
  have hw_3 := hts (.initialized RX6) (List.mem_cons_of_mem _ (List.mem_append_left _ (List.mem_of_getElem? (i := 3) rfl)))
  have hw_4 := hts (.classLink RL 19 "java/lang/IndexOutOfBoundsException") (List.mem_cons_of_mem _ (List.mem_append_left _ (List.mem_of_getElem? (i := 4) rfl)))
  have hb_0 : ∀ w ∈ us_c_reference, w ∈ us_c_Lreference := fun w h => List.mem_cons_of_mem _ (List.mem_append_right _ (List.mem_append_left _ h))
  refine lv_aload_n hx hb dL_reference_0 rfl (lv_at hl 3 rfl) ?_
  refine lv_iconst (v := 0) hx hb dL_reference_1 (by decide) ?_
  refine lv_aload_n hx hb dL_reference_2 rfl (lv_at hl 0 rfl) ?_
  refine lv_iload_n hx hb dL_reference_3 rfl (lv_at hl 1 rfl) ?_
  refine lv_iload_n hx hb dL_reference_4 rfl (lv_at hl 2 rfl) ?_
  refine mtc (wr := [(oo, .inl (coo, 1, .inr (.inl f0)))]) (vx_runV (As := [.int p0, .int p1]) (rest := [.int 0, .ref oo]) ⟨hx, hb, hml, hown, hts⟩ (c_reference l hst D x g ca co ra rl tr f9 f10 f11 f12 f13 p0 p1 s.heap.size) (cwV 2 hts (gi_c (List.mem_cons_of_mem _ (List.mem_append_left _ (List.mem_of_getElem? (i := 0) rfl))) rfl (gi_c (List.mem_cons_of_mem _ (List.mem_append_left _ (List.mem_of_getElem? (i := 1) rfl))) rfl (gi_c (List.mem_cons_of_mem _ (List.mem_append_left _ (List.mem_of_getElem? (i := 2) rfl))) rfl (gi_c (List.mem_cons_of_mem _ (List.mem_append_left _ (List.mem_of_getElem? (i := 3) rfl))) rfl (goodIn_sub hb_0 (List.all_eq_true.mpr gw_c_reference)))))) rfl rfl rfl (by decide +kernel) ⟨Nat.le_of_ble_eq_true rfl, Nat.le_of_ble_eq_true rfl⟩) (pr_V (As := [.int p0, .int p1]) (b := x) (C := RX6) hP hD hK hS hA hE [0] [] rfl rfl rfl 0 13 rfl rfl rfl) rfl rfl hl.1 rfl (lv_room (Nat.le_of_ble_eq_true rfl)) dL_reference_5 ⟨Nat.le_of_ble_eq_true rfl, Nat.le_of_ble_eq_true rfl⟩) hP hD hS hA [0] [1] rfl rfl (by decide) (by decide) (fun E ce q9 H locs hp hP hD hS hq1 hq2 hq3 => ?_)
  have hKx := hE.2.2.2.2.2.1
  have hP : va_P D vwCl [(oo, .inl (coo, 1, .inr (.inl f0)))] H := hP
  have hD : va_D A [(oo, .inl (coo, 1, .inr (.inl f0)))] := hD
  rcases hp with rfl
  refine vx_catch (E := "java/lang/IndexOutOfBoundsException") (name := "java/lang/IndexOutOfBoundsException") hown [] (⟨0, 10, 13, 19⟩ : ExceptionTableEntry) [(⟨0, 10, 17, 29⟩ : ExceptionTableEntry)] (htab.trans rfl) (fun z hz => nomatch hz) rfl (by decide) hw_4 (hKx.use _ (List.mem_of_getElem? (i := 4) rfl)) hq1 hq2 hq3 ?_
  refine W.eq (g2 := F0 m 13 ls [.ref q9]) rfl ?_
  refine lv_astore (lv' := [(4, .ref q9), (0, .ref x), (1, .int p0), (2, .int p1), (3, .ref oo)]) hx hb dL_reference_13 hl (by decide) rfl (fun ls hl => ?_)
  refine lv_iconst (v := 1) hx hb dL_reference_15 (by decide) ?_
  exact mr_i hx hb hr f0 (⟨rfl, fun q9 => absurd (show (1 : Int32) = 0 from q9) (by decide)⟩) (hP.sub [0] rfl) (hK.sub [] rfl) (hD.sub [0] (by decide) rfl) hS (Nat.le_of_ble_eq_true rfl) (Nat.le_of_ble_eq_true rfl) hlocks dL_reference_16

def us_c_Lrule : List Cond := .codeWith yL_rule cL_rule 5 (some .int) [(0, 10, 13, 19), (0, 10, 17, 38), (0, 10, 21, 13)] :: (([.methodLink RL 95 yX6_rule, .instanceMethod yX6_rule, .selects RX6 yX6_rule yX6_rule, .initialized RX6, .classLink RL 19 "java/lang/IndexOutOfBoundsException"] : List Cond) ++ (us_c_rule ++ ([])))
theorem gw_c_Lrule : ∀ w ∈ us_c_Lrule, goodWord w = true := gw_cons rfl (gw_app (by decide +kernel) (gw_app gw_c_rule (fun _ h => nomatch h)))
set_option maxHeartbeats 4000000 in
set_option maxRecDepth 100000 in
/-- the law calls rule -/
theorem c_Lrule (l : Launch) (hst : l.stackTraces = false) (D : va_G) (x : Nat) (g : Nat) (ca : Nat) (co : Nat) (ra : Nat) (rl : Nat) (tr : Nat) (f9 : Nat) (f10 : Nat) (f11 : Nat) (f12 : Nat) (f13 : Nat) (p0 : Int32) (p1 : Int32) (oo : Nat) (coo : ClassId) (f0 : Nat → Int64) (sz : Nat) : Met l yL_rule us_c_Lrule { frames := 9, cells := 1, slots := 6, locals := 148 } (pw D [.ref x, .int p0, .int p1, .ref oo] [(coo, .long)] [(x, .inr (13, [.ref g, .ref ca, .int 0, .ref co, .int 0, .ref ra, .int 0, .ref rl, .ref tr, .ref f9, .ref f10, .ref f11, .ref f12, .ref f13])), (oo, .inl (coo, 1, .inr (.inl f0)))] sz) (va_Qi (fun (r : Int32) (u : Nat → Int64) => r = kf_rule p0 p1 ∧ (kf_rule p0 p1 = 0 → u 0 = (rf_rule p0 p1).toInt64)) (qb D (va_A [(x, .inr (13, [.ref g, .ref ca, .int 0, .ref co, .int 0, .ref ra, .int 0, .ref rl, .ref tr, .ref f9, .ref f10, .ref f11, .ref f12, .ref f13])), (oo, .inl (coo, 1, .inr (.inl f0)))] sz) (fun u : (Nat → Int64) => [(oo, .inl (coo, 1, .inr (.inl u)))]) (fun u : (Nat → Int64) => ([] : List (ClassId × FieldType)))) (va_A [(x, .inr (13, [.ref g, .ref ca, .int 0, .ref co, .int 0, .ref ra, .int 0, .ref rl, .ref tr, .ref f9, .ref f10, .ref f11, .ref f12, .ref f13])), (oo, .inl (coo, 1, .inr (.inl f0)))] sz)) 1 6 (va_A [(x, .inr (13, [.ref g, .ref ca, .int 0, .ref co, .int 0, .ref ra, .int 0, .ref rl, .ref tr, .ref f9, .ref f10, .ref f11, .ref f12, .ref f13])), (oo, .inl (coo, 1, .inr (.inl f0)))] sz) := by
  refine op_H (Qc := fun A => (va_Qi (fun (r : Int32) (u : Nat → Int64) => r = kf_rule p0 p1 ∧ (kf_rule p0 p1 = 0 → u 0 = (rf_rule p0 p1).toInt64)) (qb D A (fun u : (Nat → Int64) => [(oo, .inl (coo, 1, .inr (.inl u)))]) (fun u : (Nat → Int64) => ([] : List (ClassId × FieldType)))) A)) (by decide +kernel) rfl (Nat.le_of_ble_eq_true rfl) ?_
  intro p e s m args below meth c A ls hx hb hr hml hts hown hlocks hmn htab hA hD hS hP hK hE hsz hl
  have hown : s.vm.findClass RL = some m.cls := hown
  have hl : lv_has ls 5 [(0, .ref x), (1, .int p0), (2, .int p1), (3, .ref oo)] := hl
  have hw_0 := hts (.methodLink RL 95 yX6_rule) (List.mem_cons_of_mem _ (List.mem_append_left _ (List.mem_of_getElem? (i := 0) rfl)))
  have hw_1 := hts (.instanceMethod yX6_rule) (List.mem_cons_of_mem _ (List.mem_append_left _ (List.mem_of_getElem? (i := 1) rfl)))
  have hw_2 := hts (.selects RX6 yX6_rule yX6_rule) (List.mem_cons_of_mem _ (List.mem_append_left _ (List.mem_of_getElem? (i := 2) rfl)))
  have hw_3 := hts (.initialized RX6) (List.mem_cons_of_mem _ (List.mem_append_left _ (List.mem_of_getElem? (i := 3) rfl)))
  have hw_4 := hts (.classLink RL 19 "java/lang/IndexOutOfBoundsException") (List.mem_cons_of_mem _ (List.mem_append_left _ (List.mem_of_getElem? (i := 4) rfl)))
  have hb_0 : ∀ w ∈ us_c_rule, w ∈ us_c_Lrule := fun w h => List.mem_cons_of_mem _ (List.mem_append_right _ (List.mem_append_left _ h))
  refine lv_aload_n hx hb dL_rule_0 rfl (lv_at hl 3 rfl) ?_
  refine lv_iconst (v := 0) hx hb dL_rule_1 (by decide) ?_
  refine lv_aload_n hx hb dL_rule_2 rfl (lv_at hl 0 rfl) ?_
  refine lv_iload_n hx hb dL_rule_3 rfl (lv_at hl 1 rfl) ?_
  refine lv_iload_n hx hb dL_rule_4 rfl (lv_at hl 2 rfl) ?_
  refine mtc (wr := [(oo, .inl (coo, 1, .inr (.inl f0)))]) (vx_runV (As := [.int p0, .int p1]) (rest := [.int 0, .ref oo]) ⟨hx, hb, hml, hown, hts⟩ (c_rule l hst D x g ca co ra rl tr f9 f10 f11 f12 f13 p0 p1 s.heap.size) (cwV 2 hts (gi_c (List.mem_cons_of_mem _ (List.mem_append_left _ (List.mem_of_getElem? (i := 0) rfl))) rfl (gi_c (List.mem_cons_of_mem _ (List.mem_append_left _ (List.mem_of_getElem? (i := 1) rfl))) rfl (gi_c (List.mem_cons_of_mem _ (List.mem_append_left _ (List.mem_of_getElem? (i := 2) rfl))) rfl (gi_c (List.mem_cons_of_mem _ (List.mem_append_left _ (List.mem_of_getElem? (i := 3) rfl))) rfl (goodIn_sub hb_0 (List.all_eq_true.mpr gw_c_rule)))))) rfl rfl rfl (by decide +kernel) ⟨Nat.le_of_ble_eq_true rfl, Nat.le_of_ble_eq_true rfl⟩) (pr_V (As := [.int p0, .int p1]) (b := x) (C := RX6) hP hD hK hS hA hE [0] [] rfl rfl rfl 0 13 rfl rfl rfl) rfl rfl hl.1 rfl (lv_room (Nat.le_of_ble_eq_true rfl)) dL_rule_5 ⟨Nat.le_of_ble_eq_true rfl, Nat.le_of_ble_eq_true rfl⟩) hP hD hS hA [0] [1] rfl rfl (by decide) (by decide) (fun E ce q9 H locs hp hP hD hS hq1 hq2 hq3 => ?_)
  have hKx := hE.2.2.2.2.2.1
  have hP : va_P D vwCl [(oo, .inl (coo, 1, .inr (.inl f0)))] H := hP
  have hD : va_D A [(oo, .inl (coo, 1, .inr (.inl f0)))] := hD
  rcases hp with rfl
  refine vx_catch (E := "java/lang/IndexOutOfBoundsException") (name := "java/lang/IndexOutOfBoundsException") hown [] (⟨0, 10, 13, 19⟩ : ExceptionTableEntry) [(⟨0, 10, 17, 38⟩ : ExceptionTableEntry), (⟨0, 10, 21, 13⟩ : ExceptionTableEntry)] (htab.trans rfl) (fun z hz => nomatch hz) rfl (by decide) hw_4 (hKx.use _ (List.mem_of_getElem? (i := 4) rfl)) hq1 hq2 hq3 ?_
  refine W.eq (g2 := F0 m 13 ls [.ref q9]) rfl ?_
  refine lv_astore (lv' := [(4, .ref q9), (0, .ref x), (1, .int p0), (2, .int p1), (3, .ref oo)]) hx hb dL_rule_13 hl (by decide) rfl (fun ls hl => ?_)
  refine lv_iconst (v := 1) hx hb dL_rule_15 (by decide) ?_
  exact mr_i hx hb hr f0 (⟨rfl, fun q9 => absurd (show (1 : Int32) = 0 from q9) (by decide)⟩) (hP.sub [0] rfl) (hK.sub [] rfl) (hD.sub [0] (by decide) rfl) hS (Nat.le_of_ble_eq_true rfl) (Nat.le_of_ble_eq_true rfl) hlocks dL_rule_16

def us_c_Lrunner : List Cond := .codeWith yL_runner cL_runner 5 (some .int) [(0, 10, 13, 13), (0, 10, 17, 19), (0, 10, 21, 40)] :: (([.methodLink RL 63 yX6_runner, .instanceMethod yX6_runner, .selects RX6 yX6_runner yX6_runner, .initialized RX6, .classLink RL 13 "java/lang/IllegalArgumentException", .classLink RL 19 "java/lang/IndexOutOfBoundsException"] : List Cond) ++ (us_c_runner ++ ([])))
theorem gw_c_Lrunner : ∀ w ∈ us_c_Lrunner, goodWord w = true := gw_cons rfl (gw_app (by decide +kernel) (gw_app gw_c_runner (fun _ h => nomatch h)))
set_option maxHeartbeats 4000000 in
set_option maxRecDepth 100000 in
/-- the law calls runner -/
theorem c_Lrunner (l : Launch) (hst : l.stackTraces = false) (D : va_G) (x : Nat) (g : Nat) (ca : Nat) (co : Nat) (ra : Nat) (rl : Nat) (tr : Nat) (f9 : Nat) (f10 : Nat) (f11 : Nat) (f12 : Nat) (f13 : Nat) (p0 : Int32) (p1 : Int32) (oo : Nat) (coo : ClassId) (f0 : Nat → Int64) (sz : Nat) : Met l yL_runner us_c_Lrunner { frames := 9, cells := 2, slots := 12, locals := 146 } (pw D [.ref x, .int p0, .int p1, .ref oo] [(coo, .long)] [(x, .inr (13, [.ref g, .ref ca, .int 0, .ref co, .int 0, .ref ra, .int 0, .ref rl, .ref tr, .ref f9, .ref f10, .ref f11, .ref f12, .ref f13])), (oo, .inl (coo, 1, .inr (.inl f0)))] sz) (va_Qi (fun (r : Int32) (u : Nat → Int64) => r = kf_runner p0 p1 ∧ (kf_runner p0 p1 = 0 → u 0 = (rf_runner p0 p1).toInt64)) (qb D (va_A [(x, .inr (13, [.ref g, .ref ca, .int 0, .ref co, .int 0, .ref ra, .int 0, .ref rl, .ref tr, .ref f9, .ref f10, .ref f11, .ref f12, .ref f13])), (oo, .inl (coo, 1, .inr (.inl f0)))] sz) (fun u : (Nat → Int64) => [(oo, .inl (coo, 1, .inr (.inl u)))]) (fun u : (Nat → Int64) => ([] : List (ClassId × FieldType)))) (va_A [(x, .inr (13, [.ref g, .ref ca, .int 0, .ref co, .int 0, .ref ra, .int 0, .ref rl, .ref tr, .ref f9, .ref f10, .ref f11, .ref f12, .ref f13])), (oo, .inl (coo, 1, .inr (.inl f0)))] sz)) 2 12 (va_A [(x, .inr (13, [.ref g, .ref ca, .int 0, .ref co, .int 0, .ref ra, .int 0, .ref rl, .ref tr, .ref f9, .ref f10, .ref f11, .ref f12, .ref f13])), (oo, .inl (coo, 1, .inr (.inl f0)))] sz) := by
  refine op_H (Qc := fun A => (va_Qi (fun (r : Int32) (u : Nat → Int64) => r = kf_runner p0 p1 ∧ (kf_runner p0 p1 = 0 → u 0 = (rf_runner p0 p1).toInt64)) (qb D A (fun u : (Nat → Int64) => [(oo, .inl (coo, 1, .inr (.inl u)))]) (fun u : (Nat → Int64) => ([] : List (ClassId × FieldType)))) A)) (by decide +kernel) rfl (Nat.le_of_ble_eq_true rfl) ?_
  intro p e s m args below meth c A ls hx hb hr hml hts hown hlocks hmn htab hA hD hS hP hK hE hsz hl
  have hown : s.vm.findClass RL = some m.cls := hown
  have hl : lv_has ls 5 [(0, .ref x), (1, .int p0), (2, .int p1), (3, .ref oo)] := hl
  have hw_0 := hts (.methodLink RL 63 yX6_runner) (List.mem_cons_of_mem _ (List.mem_append_left _ (List.mem_of_getElem? (i := 0) rfl)))
  have hw_1 := hts (.instanceMethod yX6_runner) (List.mem_cons_of_mem _ (List.mem_append_left _ (List.mem_of_getElem? (i := 1) rfl)))
  have hw_2 := hts (.selects RX6 yX6_runner yX6_runner) (List.mem_cons_of_mem _ (List.mem_append_left _ (List.mem_of_getElem? (i := 2) rfl)))
  have hw_3 := hts (.initialized RX6) (List.mem_cons_of_mem _ (List.mem_append_left _ (List.mem_of_getElem? (i := 3) rfl)))
  have hw_4 := hts (.classLink RL 13 "java/lang/IllegalArgumentException") (List.mem_cons_of_mem _ (List.mem_append_left _ (List.mem_of_getElem? (i := 4) rfl)))
  have hw_5 := hts (.classLink RL 19 "java/lang/IndexOutOfBoundsException") (List.mem_cons_of_mem _ (List.mem_append_left _ (List.mem_of_getElem? (i := 5) rfl)))
  have hb_0 : ∀ w ∈ us_c_runner, w ∈ us_c_Lrunner := fun w h => List.mem_cons_of_mem _ (List.mem_append_right _ (List.mem_append_left _ h))
  refine lv_aload_n hx hb dL_runner_0 rfl (lv_at hl 3 rfl) ?_
  refine lv_iconst (v := 0) hx hb dL_runner_1 (by decide) ?_
  refine lv_aload_n hx hb dL_runner_2 rfl (lv_at hl 0 rfl) ?_
  refine lv_iload_n hx hb dL_runner_3 rfl (lv_at hl 1 rfl) ?_
  refine lv_iload_n hx hb dL_runner_4 rfl (lv_at hl 2 rfl) ?_
  refine mtc (wr := [(oo, .inl (coo, 1, .inr (.inl f0)))]) (vx_runV (As := [.int p0, .int p1]) (rest := [.int 0, .ref oo]) ⟨hx, hb, hml, hown, hts⟩ (c_runner l hst D x g ca co ra rl tr f9 f10 f11 f12 f13 p0 p1 s.heap.size) (cwV 2 hts (gi_c (List.mem_cons_of_mem _ (List.mem_append_left _ (List.mem_of_getElem? (i := 0) rfl))) rfl (gi_c (List.mem_cons_of_mem _ (List.mem_append_left _ (List.mem_of_getElem? (i := 1) rfl))) rfl (gi_c (List.mem_cons_of_mem _ (List.mem_append_left _ (List.mem_of_getElem? (i := 2) rfl))) rfl (gi_c (List.mem_cons_of_mem _ (List.mem_append_left _ (List.mem_of_getElem? (i := 3) rfl))) rfl (goodIn_sub hb_0 (List.all_eq_true.mpr gw_c_runner)))))) rfl rfl rfl (by decide +kernel) ⟨Nat.le_of_ble_eq_true rfl, Nat.le_of_ble_eq_true rfl⟩) (pr_V (As := [.int p0, .int p1]) (b := x) (C := RX6) hP hD hK hS hA hE [0] [] rfl rfl rfl 0 13 rfl rfl rfl) rfl rfl hl.1 rfl (lv_room (Nat.le_of_ble_eq_true rfl)) dL_runner_5 ⟨Nat.le_of_ble_eq_true rfl, Nat.le_of_ble_eq_true rfl⟩) hP hD hS hA [0] [1] rfl rfl (by decide) (by decide) (fun E ce q9 H locs hp hP hD hS hq1 hq2 hq3 => ?_)
  have hKx := hE.2.2.2.2.2.1
  have hP : va_P D vwCl [(oo, .inl (coo, 1, .inr (.inl f0)))] H := hP
  have hD : va_D A [(oo, .inl (coo, 1, .inr (.inl f0)))] := hD
  rcases hp with ⟨rfl, hk⟩ | ⟨rfl, hk⟩
  · refine vx_catch (E := "java/lang/IllegalArgumentException") (name := "java/lang/IllegalArgumentException") hown [] (⟨0, 10, 13, 13⟩ : ExceptionTableEntry) [(⟨0, 10, 17, 19⟩ : ExceptionTableEntry), (⟨0, 10, 21, 40⟩ : ExceptionTableEntry)] (htab.trans rfl) (fun z hz => nomatch hz) rfl (by decide) hw_4 (hKx.use _ (List.mem_of_getElem? (i := 3) rfl)) hq1 hq2 hq3 ?_
    refine W.eq (g2 := F0 m 13 ls [.ref q9]) rfl ?_
    refine lv_astore (lv' := [(4, .ref q9), (0, .ref x), (1, .int p0), (2, .int p1), (3, .ref oo)]) hx hb dL_runner_13 hl (by decide) rfl (fun ls hl => ?_)
    refine lv_iconst (v := 1) hx hb dL_runner_15 (by decide) ?_
    exact mr_i hx hb hr f0 (⟨hk.symm, fun q9 => absurd (hk.symm.trans q9) (by decide)⟩) (hP.sub [0] rfl) (hK.sub [] rfl) (hD.sub [0] (by decide) rfl) hS (Nat.le_of_ble_eq_true rfl) (Nat.le_of_ble_eq_true rfl) hlocks dL_runner_16
  · refine vx_catch (E := "java/lang/IndexOutOfBoundsException") (name := "java/lang/IndexOutOfBoundsException") hown [(⟨0, 10, 13, 13⟩ : ExceptionTableEntry)] (⟨0, 10, 17, 19⟩ : ExceptionTableEntry) [(⟨0, 10, 21, 40⟩ : ExceptionTableEntry)] (htab.trans rfl) (List.forall_mem_cons.mpr ⟨Or.inr ⟨by decide, "java/lang/IllegalArgumentException", hw_4, hKx.2.2.1⟩, (fun z hz => nomatch hz)⟩) rfl (by decide) hw_5 (hKx.use _ (List.mem_of_getElem? (i := 4) rfl)) hq1 hq2 hq3 ?_
    refine W.eq (g2 := F0 m 17 ls [.ref q9]) rfl ?_
    refine lv_astore (lv' := [(4, .ref q9), (0, .ref x), (1, .int p0), (2, .int p1), (3, .ref oo)]) hx hb dL_runner_17 hl (by decide) rfl (fun ls hl => ?_)
    refine lv_iconst (v := 2) hx hb dL_runner_19 (by decide) ?_
    exact mr_i hx hb hr f0 (⟨hk.symm, fun q9 => absurd (hk.symm.trans q9) (by decide)⟩) (hP.sub [0] rfl) (hK.sub [] rfl) (hD.sub [0] (by decide) rfl) hS (Nat.le_of_ble_eq_true rfl) (Nat.le_of_ble_eq_true rfl) hlocks dL_runner_20

def us_c_Lruns : List Cond := .codeWith yL_runs cL_runs 6 (some .int) [(0, 12, 15, 19), (0, 12, 19, 13)] :: (([.methodLink RL 126 yX6_runs, .instanceMethod yX6_runs, .selects RX6 yX6_runs yX6_runs, .initialized RX6, .classLink RL 19 "java/lang/IndexOutOfBoundsException"] : List Cond) ++ (us_c_runs ++ ([])))
theorem gw_c_Lruns : ∀ w ∈ us_c_Lruns, goodWord w = true := gw_cons rfl (gw_app (by decide +kernel) (gw_app gw_c_runs (fun _ h => nomatch h)))
set_option maxHeartbeats 4000000 in
set_option maxRecDepth 100000 in
/-- the law calls runs -/
theorem c_Lruns (l : Launch) (hst : l.stackTraces = false) (D : va_G) (x : Nat) (g : Nat) (ca : Nat) (co : Nat) (ra : Nat) (rl : Nat) (tr : Nat) (f9 : Nat) (f10 : Nat) (f11 : Nat) (f12 : Nat) (f13 : Nat) (re1 : Nat) (re2 : Nat) (re3 : Nat) (re4 : Nat) (p0 : Int32) (p1 : Int32) (p2 : Int32) (oo : Nat) (coo : ClassId) (f0 : Nat → Int64) (sz : Nat) : Met l yL_runs us_c_Lruns { frames := 8, cells := 1, slots := 6, locals := 127 } (pw D [.ref x, .int p0, .int p1, .int p2, .ref oo] [(coo, .long)] [(x, .inr (13, [.ref g, .ref ca, .int 0, .ref co, .int 0, .ref ra, .int 0, .ref rl, .ref tr, .ref f9, .ref f10, .ref f11, .ref f12, .ref f13])), (rl, .inr (9, [.int 0, .int 0, .ref re1, .ref re2, .ref re3, .ref re4])), (oo, .inl (coo, 1, .inr (.inl f0)))] sz) (va_Qi (fun (r : Int32) (u : Nat → Int64) => r = kf_runs p0 p1 p2 ∧ (kf_runs p0 p1 p2 = 0 → u 0 = (rf_runs p0 p1 p2).toInt64)) (qb D (va_A [(x, .inr (13, [.ref g, .ref ca, .int 0, .ref co, .int 0, .ref ra, .int 0, .ref rl, .ref tr, .ref f9, .ref f10, .ref f11, .ref f12, .ref f13])), (rl, .inr (9, [.int 0, .int 0, .ref re1, .ref re2, .ref re3, .ref re4])), (oo, .inl (coo, 1, .inr (.inl f0)))] sz) (fun u : (Nat → Int64) => [(oo, .inl (coo, 1, .inr (.inl u)))]) (fun u : (Nat → Int64) => ([] : List (ClassId × FieldType)))) (va_A [(x, .inr (13, [.ref g, .ref ca, .int 0, .ref co, .int 0, .ref ra, .int 0, .ref rl, .ref tr, .ref f9, .ref f10, .ref f11, .ref f12, .ref f13])), (rl, .inr (9, [.int 0, .int 0, .ref re1, .ref re2, .ref re3, .ref re4])), (oo, .inl (coo, 1, .inr (.inl f0)))] sz)) 1 6 (va_A [(x, .inr (13, [.ref g, .ref ca, .int 0, .ref co, .int 0, .ref ra, .int 0, .ref rl, .ref tr, .ref f9, .ref f10, .ref f11, .ref f12, .ref f13])), (rl, .inr (9, [.int 0, .int 0, .ref re1, .ref re2, .ref re3, .ref re4])), (oo, .inl (coo, 1, .inr (.inl f0)))] sz) := by
  refine op_H (Qc := fun A => (va_Qi (fun (r : Int32) (u : Nat → Int64) => r = kf_runs p0 p1 p2 ∧ (kf_runs p0 p1 p2 = 0 → u 0 = (rf_runs p0 p1 p2).toInt64)) (qb D A (fun u : (Nat → Int64) => [(oo, .inl (coo, 1, .inr (.inl u)))]) (fun u : (Nat → Int64) => ([] : List (ClassId × FieldType)))) A)) (by decide +kernel) rfl (Nat.le_of_ble_eq_true rfl) ?_
  intro p e s m args below meth c A ls hx hb hr hml hts hown hlocks hmn htab hA hD hS hP hK hE hsz hl
  have hown : s.vm.findClass RL = some m.cls := hown
  have hl : lv_has ls 6 [(0, .ref x), (1, .int p0), (2, .int p1), (3, .int p2), (4, .ref oo)] := hl
  have hw_0 := hts (.methodLink RL 126 yX6_runs) (List.mem_cons_of_mem _ (List.mem_append_left _ (List.mem_of_getElem? (i := 0) rfl)))
  have hw_1 := hts (.instanceMethod yX6_runs) (List.mem_cons_of_mem _ (List.mem_append_left _ (List.mem_of_getElem? (i := 1) rfl)))
  have hw_2 := hts (.selects RX6 yX6_runs yX6_runs) (List.mem_cons_of_mem _ (List.mem_append_left _ (List.mem_of_getElem? (i := 2) rfl)))
  have hw_3 := hts (.initialized RX6) (List.mem_cons_of_mem _ (List.mem_append_left _ (List.mem_of_getElem? (i := 3) rfl)))
  have hw_4 := hts (.classLink RL 19 "java/lang/IndexOutOfBoundsException") (List.mem_cons_of_mem _ (List.mem_append_left _ (List.mem_of_getElem? (i := 4) rfl)))
  have hb_0 : ∀ w ∈ us_c_runs, w ∈ us_c_Lruns := fun w h => List.mem_cons_of_mem _ (List.mem_append_right _ (List.mem_append_left _ h))
  refine lv_aload hx hb dL_runs_0 (lv_at hl 4 rfl) ?_
  refine lv_iconst (v := 0) hx hb dL_runs_2 (by decide) ?_
  refine lv_aload_n hx hb dL_runs_3 rfl (lv_at hl 0 rfl) ?_
  refine lv_iload_n hx hb dL_runs_4 rfl (lv_at hl 1 rfl) ?_
  refine lv_iload_n hx hb dL_runs_5 rfl (lv_at hl 2 rfl) ?_
  refine lv_iload_n hx hb dL_runs_6 rfl (lv_at hl 3 rfl) ?_
  refine mtc (wr := [(oo, .inl (coo, 1, .inr (.inl f0)))]) (vx_runV (As := [.int p0, .int p1, .int p2]) (rest := [.int 0, .ref oo]) ⟨hx, hb, hml, hown, hts⟩ (c_runs l hst D x g ca co ra rl tr f9 f10 f11 f12 f13 re1 re2 re3 re4 p0 p1 p2 s.heap.size) (cwV 3 hts (gi_c (List.mem_cons_of_mem _ (List.mem_append_left _ (List.mem_of_getElem? (i := 0) rfl))) rfl (gi_c (List.mem_cons_of_mem _ (List.mem_append_left _ (List.mem_of_getElem? (i := 1) rfl))) rfl (gi_c (List.mem_cons_of_mem _ (List.mem_append_left _ (List.mem_of_getElem? (i := 2) rfl))) rfl (gi_c (List.mem_cons_of_mem _ (List.mem_append_left _ (List.mem_of_getElem? (i := 3) rfl))) rfl (goodIn_sub hb_0 (List.all_eq_true.mpr gw_c_runs)))))) rfl rfl rfl (by decide +kernel) ⟨Nat.le_of_ble_eq_true rfl, Nat.le_of_ble_eq_true rfl⟩) (pr_V (As := [.int p0, .int p1, .int p2]) (b := x) (C := RX6) hP hD hK hS hA hE [0, 1] [] rfl rfl rfl 0 13 rfl rfl rfl) rfl rfl hl.1 rfl (lv_room (Nat.le_of_ble_eq_true rfl)) dL_runs_7 ⟨Nat.le_of_ble_eq_true rfl, Nat.le_of_ble_eq_true rfl⟩) hP hD hS hA [0, 1] [2] rfl rfl (by decide) (by decide) (fun E ce q9 H locs hp hP hD hS hq1 hq2 hq3 => ?_)
  have hKx := hE.2.2.2.2.2.1
  have hP : va_P D vwCl [(oo, .inl (coo, 1, .inr (.inl f0)))] H := hP
  have hD : va_D A [(oo, .inl (coo, 1, .inr (.inl f0)))] := hD
  rcases hp with rfl
  refine vx_catch (E := "java/lang/IndexOutOfBoundsException") (name := "java/lang/IndexOutOfBoundsException") hown [] (⟨0, 12, 15, 19⟩ : ExceptionTableEntry) [(⟨0, 12, 19, 13⟩ : ExceptionTableEntry)] (htab.trans rfl) (fun z hz => nomatch hz) rfl (by decide) hw_4 (hKx.use _ (List.mem_of_getElem? (i := 4) rfl)) hq1 hq2 hq3 ?_
  refine W.eq (g2 := F0 m 15 ls [.ref q9]) rfl ?_
  refine lv_astore (lv' := [(5, .ref q9), (0, .ref x), (1, .int p0), (2, .int p1), (3, .int p2), (4, .ref oo)]) hx hb dL_runs_15 hl (by decide) rfl (fun ls hl => ?_)
  refine lv_iconst (v := 1) hx hb dL_runs_17 (by decide) ?_
  exact mr_i hx hb hr f0 (⟨rfl, fun q9 => absurd (show (1 : Int32) = 0 from q9) (by decide)⟩) (hP.sub [0] rfl) (hK.sub [] rfl) (hD.sub [0] (by decide) rfl) hS (Nat.le_of_ble_eq_true rfl) (Nat.le_of_ble_eq_true rfl) hlocks dL_runs_18

def us_c_Lscore : List Cond := .codeWith yL_score cL_score 6 (some .int) [(0, 12, 15, 19), (0, 12, 19, 13)] :: (([.methodLink RL 139 yX6_score, .instanceMethod yX6_score, .selects RX6 yX6_score yX6_score, .initialized RX6, .classLink RL 19 "java/lang/IndexOutOfBoundsException", .classLink RL 13 "java/lang/IllegalArgumentException"] : List Cond) ++ (us_c_score ++ ([])))
theorem gw_c_Lscore : ∀ w ∈ us_c_Lscore, goodWord w = true := gw_cons rfl (gw_app (by decide +kernel) (gw_app gw_c_score (fun _ h => nomatch h)))
set_option maxHeartbeats 4000000 in
set_option maxRecDepth 100000 in
/-- the law calls score -/
theorem c_Lscore (l : Launch) (hst : l.stackTraces = false) (D : va_G) (x : Nat) (g : Nat) (ca : Nat) (co : Nat) (ra : Nat) (rl : Nat) (tr : Nat) (f9 : Nat) (f10 : Nat) (f11 : Nat) (f12 : Nat) (f13 : Nat) (a1 : Nat) (a2 : Nat) (a3 : Nat) (a4 : Nat) (a5 : Nat) (a6 : Nat) (a7 : Nat) (a8 : Nat) (a9 : Nat) (a10 : Nat) (a11 : Nat) (ts1 : Nat) (tw : Nat) (ts2 : Nat) (ck : ClassId) (csk : ClassId) (cg : ClassId) (ch : ClassId) (csg : ClassId) (cw : ClassId) (cq : ClassId) (cz : ClassId) (cb : ClassId) (ctw : ClassId) (p0 : Int32) (p1 : Int32) (p2 : Int32) (oo : Nat) (coo : ClassId) (f0 : Nat → Int64) (sz : Nat) : Met l yL_score us_c_Lscore { frames := 9, cells := 3, slots := 18, locals := 148 } (pw D [.ref x, .int p0, .int p1, .int p2, .ref oo] [(ck, .char), (csk, .char), (cg, .int), (ch, .int), (csg, .int), (cw, .int), (cq, .int), (cz, .boolean), (cb, .int), (ctw, .int), (coo, .long)] [(x, .inr (13, [.ref g, .ref ca, .int 0, .ref co, .int 0, .ref ra, .int 0, .ref rl, .ref tr, .ref f9, .ref f10, .ref f11, .ref f12, .ref f13])), (g, .inr (11, [.int 25, .ref a1, .ref a2, .ref a3, .ref a4, .ref a5, .ref a6, .ref a7, .ref a8, .ref a9, .ref a10, .ref a11, .int 0, .int 0])), (a6, .inl (cw, 144, .inl (fL zL))), (a10, .inl (cq, 144, .inl (fL zL))), (a11, .inl (cz, 144, .inl (fL zL))), (a3, .inl (ck, 144, .inl okF)), (a5, .inl (csk, 144, .inl okF)), (a1, .inl (cg, 144, .inl (fun _ => 0))), (a2, .inl (ch, 144, .inl (fun _ => 0))), (a4, .inl (csg, 144, .inl (fun _ => 0))), (a9, .inl (cb, 576, .inl beF)), (tr, .inr (12, [.ref ts1, .ref tw, .ref ts2])), (tw, .inl (ctw, 169, .inl (fun _ => 0))), (oo, .inl (coo, 1, .inr (.inl f0)))] sz) (va_Qi (fun (r : Int32) (u : Nat → Int64) => r = kf_score p0 p1 p2 ∧ (kf_score p0 p1 p2 = 0 → u 0 = (rf_score p0 p1 p2).toInt64)) (qb D (va_A [(x, .inr (13, [.ref g, .ref ca, .int 0, .ref co, .int 0, .ref ra, .int 0, .ref rl, .ref tr, .ref f9, .ref f10, .ref f11, .ref f12, .ref f13])), (g, .inr (11, [.int 25, .ref a1, .ref a2, .ref a3, .ref a4, .ref a5, .ref a6, .ref a7, .ref a8, .ref a9, .ref a10, .ref a11, .int 0, .int 0])), (a6, .inl (cw, 144, .inl (fL zL))), (a10, .inl (cq, 144, .inl (fL zL))), (a11, .inl (cz, 144, .inl (fL zL))), (a3, .inl (ck, 144, .inl okF)), (a5, .inl (csk, 144, .inl okF)), (a1, .inl (cg, 144, .inl (fun _ => 0))), (a2, .inl (ch, 144, .inl (fun _ => 0))), (a4, .inl (csg, 144, .inl (fun _ => 0))), (a9, .inl (cb, 576, .inl beF)), (tr, .inr (12, [.ref ts1, .ref tw, .ref ts2])), (tw, .inl (ctw, 169, .inl (fun _ => 0))), (oo, .inl (coo, 1, .inr (.inl f0)))] sz) (fun u : (Nat → Int64) => [(oo, .inl (coo, 1, .inr (.inl u)))]) (fun u : (Nat → Int64) => ([] : List (ClassId × FieldType)))) (va_A [(x, .inr (13, [.ref g, .ref ca, .int 0, .ref co, .int 0, .ref ra, .int 0, .ref rl, .ref tr, .ref f9, .ref f10, .ref f11, .ref f12, .ref f13])), (g, .inr (11, [.int 25, .ref a1, .ref a2, .ref a3, .ref a4, .ref a5, .ref a6, .ref a7, .ref a8, .ref a9, .ref a10, .ref a11, .int 0, .int 0])), (a6, .inl (cw, 144, .inl (fL zL))), (a10, .inl (cq, 144, .inl (fL zL))), (a11, .inl (cz, 144, .inl (fL zL))), (a3, .inl (ck, 144, .inl okF)), (a5, .inl (csk, 144, .inl okF)), (a1, .inl (cg, 144, .inl (fun _ => 0))), (a2, .inl (ch, 144, .inl (fun _ => 0))), (a4, .inl (csg, 144, .inl (fun _ => 0))), (a9, .inl (cb, 576, .inl beF)), (tr, .inr (12, [.ref ts1, .ref tw, .ref ts2])), (tw, .inl (ctw, 169, .inl (fun _ => 0))), (oo, .inl (coo, 1, .inr (.inl f0)))] sz)) 3 18 (va_A [(x, .inr (13, [.ref g, .ref ca, .int 0, .ref co, .int 0, .ref ra, .int 0, .ref rl, .ref tr, .ref f9, .ref f10, .ref f11, .ref f12, .ref f13])), (g, .inr (11, [.int 25, .ref a1, .ref a2, .ref a3, .ref a4, .ref a5, .ref a6, .ref a7, .ref a8, .ref a9, .ref a10, .ref a11, .int 0, .int 0])), (a6, .inl (cw, 144, .inl (fL zL))), (a10, .inl (cq, 144, .inl (fL zL))), (a11, .inl (cz, 144, .inl (fL zL))), (a3, .inl (ck, 144, .inl okF)), (a5, .inl (csk, 144, .inl okF)), (a1, .inl (cg, 144, .inl (fun _ => 0))), (a2, .inl (ch, 144, .inl (fun _ => 0))), (a4, .inl (csg, 144, .inl (fun _ => 0))), (a9, .inl (cb, 576, .inl beF)), (tr, .inr (12, [.ref ts1, .ref tw, .ref ts2])), (tw, .inl (ctw, 169, .inl (fun _ => 0))), (oo, .inl (coo, 1, .inr (.inl f0)))] sz) := by
  refine op_H (Qc := fun A => (va_Qi (fun (r : Int32) (u : Nat → Int64) => r = kf_score p0 p1 p2 ∧ (kf_score p0 p1 p2 = 0 → u 0 = (rf_score p0 p1 p2).toInt64)) (qb D A (fun u : (Nat → Int64) => [(oo, .inl (coo, 1, .inr (.inl u)))]) (fun u : (Nat → Int64) => ([] : List (ClassId × FieldType)))) A)) (by decide +kernel) rfl (Nat.le_of_ble_eq_true rfl) ?_
  intro p e s m args below meth c A ls hx hb hr hml hts hown hlocks hmn htab hA hD hS hP hK hE hsz hl
  have hown : s.vm.findClass RL = some m.cls := hown
  have hl : lv_has ls 6 [(0, .ref x), (1, .int p0), (2, .int p1), (3, .int p2), (4, .ref oo)] := hl
  have hw_0 := hts (.methodLink RL 139 yX6_score) (List.mem_cons_of_mem _ (List.mem_append_left _ (List.mem_of_getElem? (i := 0) rfl)))
  have hw_1 := hts (.instanceMethod yX6_score) (List.mem_cons_of_mem _ (List.mem_append_left _ (List.mem_of_getElem? (i := 1) rfl)))
  have hw_2 := hts (.selects RX6 yX6_score yX6_score) (List.mem_cons_of_mem _ (List.mem_append_left _ (List.mem_of_getElem? (i := 2) rfl)))
  have hw_3 := hts (.initialized RX6) (List.mem_cons_of_mem _ (List.mem_append_left _ (List.mem_of_getElem? (i := 3) rfl)))
  have hw_4 := hts (.classLink RL 19 "java/lang/IndexOutOfBoundsException") (List.mem_cons_of_mem _ (List.mem_append_left _ (List.mem_of_getElem? (i := 4) rfl)))
  have hw_5 := hts (.classLink RL 13 "java/lang/IllegalArgumentException") (List.mem_cons_of_mem _ (List.mem_append_left _ (List.mem_of_getElem? (i := 5) rfl)))
  have hb_0 : ∀ w ∈ us_c_score, w ∈ us_c_Lscore := fun w h => List.mem_cons_of_mem _ (List.mem_append_right _ (List.mem_append_left _ h))
  refine lv_aload hx hb dL_score_0 (lv_at hl 4 rfl) ?_
  refine lv_iconst (v := 0) hx hb dL_score_2 (by decide) ?_
  refine lv_aload_n hx hb dL_score_3 rfl (lv_at hl 0 rfl) ?_
  refine lv_iload_n hx hb dL_score_4 rfl (lv_at hl 1 rfl) ?_
  refine lv_iload_n hx hb dL_score_5 rfl (lv_at hl 2 rfl) ?_
  refine lv_iload_n hx hb dL_score_6 rfl (lv_at hl 3 rfl) ?_
  refine mxc_i (wr := [(oo, .inl (coo, 1, .inr (.inl f0)))]) (vx_runV (As := [.int p0, .int p1, .int p2]) (rest := [.int 0, .ref oo]) ⟨hx, hb, hml, hown, hts⟩ (c_score l hst D x g ca co ra rl tr f9 f10 f11 f12 f13 a1 a2 a3 a4 a5 a6 a7 a8 a9 a10 a11 ts1 tw ts2 ck csk cg ch csg cw cq cz cb ctw p0 p1 p2 s.heap.size) (cwV 3 hts (gi_c (List.mem_cons_of_mem _ (List.mem_append_left _ (List.mem_of_getElem? (i := 0) rfl))) rfl (gi_c (List.mem_cons_of_mem _ (List.mem_append_left _ (List.mem_of_getElem? (i := 1) rfl))) rfl (gi_c (List.mem_cons_of_mem _ (List.mem_append_left _ (List.mem_of_getElem? (i := 2) rfl))) rfl (gi_c (List.mem_cons_of_mem _ (List.mem_append_left _ (List.mem_of_getElem? (i := 3) rfl))) rfl (goodIn_sub hb_0 (List.all_eq_true.mpr gw_c_score)))))) rfl rfl rfl (by decide +kernel) ⟨Nat.le_of_ble_eq_true rfl, Nat.le_of_ble_eq_true rfl⟩) (pr_V (As := [.int p0, .int p1, .int p2]) (b := x) (C := RX6) hP hD hK hS hA hE [0, 1, 2, 3, 4, 5, 6, 7, 8, 9, 10, 11, 12] [0, 1, 2, 3, 4, 5, 6, 7, 8, 9] rfl rfl rfl 0 13 rfl rfl rfl) rfl rfl hl.1 rfl (lv_room (Nat.le_of_ble_eq_true rfl)) dL_score_7 ⟨Nat.le_of_ble_eq_true rfl, Nat.le_of_ble_eq_true rfl⟩) hP hD hK hS hA [0, 1, 2, 3, 4, 5, 6, 7, 8, 9, 10, 11, 12] [13] rfl rfl (by decide) (by decide) (fun E ce q9 H locs hp hP hD hS hq1 hq2 hq3 => ?_) (fun r2 _ H locs w1 hP hD hK hS => ?_)
  · have hKx := hE.2.2.2.2.2.1
    have hP : va_P D vwCl [(oo, .inl (coo, 1, .inr (.inl f0)))] H := hP
    have hD : va_D A [(oo, .inl (coo, 1, .inr (.inl f0)))] := hD
    rcases hp with ⟨rfl, hk⟩ | ⟨rfl, hk⟩
    · refine vx_catch (E := "java/lang/IndexOutOfBoundsException") (name := "java/lang/IndexOutOfBoundsException") hown [] (⟨0, 12, 15, 19⟩ : ExceptionTableEntry) [(⟨0, 12, 19, 13⟩ : ExceptionTableEntry)] (htab.trans rfl) (fun z hz => nomatch hz) rfl (by decide) hw_4 (hKx.use _ (List.mem_of_getElem? (i := 4) rfl)) hq1 hq2 hq3 ?_
      refine W.eq (g2 := F0 m 15 ls [.ref q9]) rfl ?_
      refine lv_astore (lv' := [(5, .ref q9), (0, .ref x), (1, .int p0), (2, .int p1), (3, .int p2), (4, .ref oo)]) hx hb dL_score_15 hl (by decide) rfl (fun ls hl => ?_)
      refine lv_iconst (v := 1) hx hb dL_score_17 (by decide) ?_
      exact mr_i hx hb hr f0 (⟨hk.symm, fun q9 => absurd (hk.symm.trans q9) (by decide)⟩) (hP.sub [0] rfl) (hK.sub [] rfl) (hD.sub [0] (by decide) rfl) hS (Nat.le_of_ble_eq_true rfl) (Nat.le_of_ble_eq_true rfl) hlocks dL_score_18
    · refine vx_catch (E := "java/lang/IllegalArgumentException") (name := "java/lang/IllegalArgumentException") hown [(⟨0, 12, 15, 19⟩ : ExceptionTableEntry)] (⟨0, 12, 19, 13⟩ : ExceptionTableEntry) [] (htab.trans rfl) (List.forall_mem_cons.mpr ⟨Or.inr ⟨by decide, "java/lang/IndexOutOfBoundsException", hw_4, hKx.2.1⟩, (fun z hz => nomatch hz)⟩) rfl (by decide) hw_5 (hKx.use _ (List.mem_of_getElem? (i := 3) rfl)) hq1 hq2 hq3 ?_
      refine W.eq (g2 := F0 m 19 ls [.ref q9]) rfl ?_
      refine lv_astore (lv' := [(5, .ref q9), (0, .ref x), (1, .int p0), (2, .int p1), (3, .int p2), (4, .ref oo)]) hx hb dL_score_19 hl (by decide) rfl (fun ls hl => ?_)
      refine lv_iconst (v := 2) hx hb dL_score_21 (by decide) ?_
      exact mr_i hx hb hr f0 (⟨hk.symm, fun q9 => absurd (hk.symm.trans q9) (by decide)⟩) (hP.sub [0] rfl) (hK.sub [] rfl) (hD.sub [0] (by decide) rfl) hS (Nat.le_of_ble_eq_true rfl) (Nat.le_of_ble_eq_true rfl) hlocks dL_score_22
  · have hP : va_P D vwCl [(oo, .inl (coo, 1, .inr (.inl f0)))] H := hP
    have hD : va_D A [(oo, .inl (coo, 1, .inr (.inl f0)))] := hD
    have hK : va_K D vwCl [(ck, .char), (csk, .char), (cg, .int), (ch, .int), (csg, .int), (cw, .int), (cq, .int), (cz, .boolean), (cb, .int), (ctw, .int), (coo, .long)] s := hK
    refine lv_i2l hx hb dL_score_10 rfl ?_
    refine lv_topl (fun x3 e3 => ?_)
    obtain rfl : x3 = r2.toInt64 := e3
    refine va_last hx hb hK hP hD hS 0 10 rfl rfl (vp_in_nI (n := 0) (by decide) (by decide)) dL_score_11 (fun H locs hP hD hS => ?_)
    have hP : va_P D vwCl [(oo, .inl (coo, 1, .inr (.inl (vp_updL f0 ((0 : Int32).toNatClampNeg) r2.toInt64))))] H := hP
    have hD : va_D A [(oo, .inl (coo, 1, .inr (.inl (vp_updL f0 ((0 : Int32).toNatClampNeg) r2.toInt64))))] := hD
    refine lv_goto (tgt := 23) hx hb dL_score_12 (by decide) ?_
    refine lv_iconst (v := 0) hx hb dL_score_23 (by decide) ?_
    exact mr_i hx hb hr (vp_updL f0 ((0 : Int32).toNatClampNeg) r2.toInt64) (⟨w1.1.symm, fun _ => by rw [← w1.2]; rfl⟩) (hP.sub [0] rfl) (hK.sub [] rfl) (hD.sub [0] (by decide) rfl) hS (Nat.le_of_ble_eq_true rfl) (Nat.le_of_ble_eq_true rfl) hlocks dL_score_24

def us_c_Lshow : List Cond := .codeWith yL_show cL_show 6 (some .int) [(0, 12, 15, 19), (0, 12, 19, 13)] :: (([.methodLink RL 21 yX6_show, .instanceMethod yX6_show, .selects RX6 yX6_show yX6_show, .initialized RX6, .classLink RL 19 "java/lang/IndexOutOfBoundsException", .classLink RL 13 "java/lang/IllegalArgumentException"] : List Cond) ++ (us_c_show ++ ([])))
theorem gw_c_Lshow : ∀ w ∈ us_c_Lshow, goodWord w = true := gw_cons rfl (gw_app (by decide +kernel) (gw_app gw_c_show (fun _ h => nomatch h)))
set_option maxHeartbeats 4000000 in
set_option maxRecDepth 100000 in
/-- the law calls show -/
theorem c_Lshow (l : Launch) (hst : l.stackTraces = false) (D : va_G) (x : Nat) (g : Nat) (ca : Nat) (co : Nat) (ra : Nat) (rl : Nat) (tr : Nat) (f9 : Nat) (f10 : Nat) (f11 : Nat) (f12 : Nat) (f13 : Nat) (a1 : Nat) (a2 : Nat) (a3 : Nat) (a4 : Nat) (a5 : Nat) (a6 : Nat) (a7 : Nat) (a8 : Nat) (a9 : Nat) (a10 : Nat) (a11 : Nat) (csk : ClassId) (csg : ClassId) (p0 : Int32) (p1 : Int32) (p2 : Int32) (oo : Nat) (coo : ClassId) (f0 : Nat → Int64) (sz : Nat) : Met l yL_show us_c_Lshow { frames := 9, cells := 3, slots := 18, locals := 148 } (pw D [.ref x, .int p0, .int p1, .int p2, .ref oo] [(csk, .char), (csg, .int), (coo, .long)] [(x, .inr (13, [.ref g, .ref ca, .int 0, .ref co, .int 0, .ref ra, .int 0, .ref rl, .ref tr, .ref f9, .ref f10, .ref f11, .ref f12, .ref f13])), (g, .inr (11, [.int 25, .ref a1, .ref a2, .ref a3, .ref a4, .ref a5, .ref a6, .ref a7, .ref a8, .ref a9, .ref a10, .ref a11, .int 0, .int 0])), (a5, .inl (csk, 144, .inl okF)), (a4, .inl (csg, 144, .inl (fun _ => 0))), (oo, .inl (coo, 1, .inr (.inl f0)))] sz) (va_Qi (fun (r : Int32) (u : Nat → Int64) => r = kf_show p0 p1 p2 ∧ (kf_show p0 p1 p2 = 0 → u 0 = (rf_show p0 p1 p2).toInt64)) (qb D (va_A [(x, .inr (13, [.ref g, .ref ca, .int 0, .ref co, .int 0, .ref ra, .int 0, .ref rl, .ref tr, .ref f9, .ref f10, .ref f11, .ref f12, .ref f13])), (g, .inr (11, [.int 25, .ref a1, .ref a2, .ref a3, .ref a4, .ref a5, .ref a6, .ref a7, .ref a8, .ref a9, .ref a10, .ref a11, .int 0, .int 0])), (a5, .inl (csk, 144, .inl okF)), (a4, .inl (csg, 144, .inl (fun _ => 0))), (oo, .inl (coo, 1, .inr (.inl f0)))] sz) (fun u : (Nat → Int64) => [(oo, .inl (coo, 1, .inr (.inl u)))]) (fun u : (Nat → Int64) => ([] : List (ClassId × FieldType)))) (va_A [(x, .inr (13, [.ref g, .ref ca, .int 0, .ref co, .int 0, .ref ra, .int 0, .ref rl, .ref tr, .ref f9, .ref f10, .ref f11, .ref f12, .ref f13])), (g, .inr (11, [.int 25, .ref a1, .ref a2, .ref a3, .ref a4, .ref a5, .ref a6, .ref a7, .ref a8, .ref a9, .ref a10, .ref a11, .int 0, .int 0])), (a5, .inl (csk, 144, .inl okF)), (a4, .inl (csg, 144, .inl (fun _ => 0))), (oo, .inl (coo, 1, .inr (.inl f0)))] sz)) 3 18 (va_A [(x, .inr (13, [.ref g, .ref ca, .int 0, .ref co, .int 0, .ref ra, .int 0, .ref rl, .ref tr, .ref f9, .ref f10, .ref f11, .ref f12, .ref f13])), (g, .inr (11, [.int 25, .ref a1, .ref a2, .ref a3, .ref a4, .ref a5, .ref a6, .ref a7, .ref a8, .ref a9, .ref a10, .ref a11, .int 0, .int 0])), (a5, .inl (csk, 144, .inl okF)), (a4, .inl (csg, 144, .inl (fun _ => 0))), (oo, .inl (coo, 1, .inr (.inl f0)))] sz) := by
  refine op_H (Qc := fun A => (va_Qi (fun (r : Int32) (u : Nat → Int64) => r = kf_show p0 p1 p2 ∧ (kf_show p0 p1 p2 = 0 → u 0 = (rf_show p0 p1 p2).toInt64)) (qb D A (fun u : (Nat → Int64) => [(oo, .inl (coo, 1, .inr (.inl u)))]) (fun u : (Nat → Int64) => ([] : List (ClassId × FieldType)))) A)) (by decide +kernel) rfl (Nat.le_of_ble_eq_true rfl) ?_
  intro p e s m args below meth c A ls hx hb hr hml hts hown hlocks hmn htab hA hD hS hP hK hE hsz hl
  have hown : s.vm.findClass RL = some m.cls := hown
  have hl : lv_has ls 6 [(0, .ref x), (1, .int p0), (2, .int p1), (3, .int p2), (4, .ref oo)] := hl
  have hw_0 := hts (.methodLink RL 21 yX6_show) (List.mem_cons_of_mem _ (List.mem_append_left _ (List.mem_of_getElem? (i := 0) rfl)))
  have hw_1 := hts (.instanceMethod yX6_show) (List.mem_cons_of_mem _ (List.mem_append_left _ (List.mem_of_getElem? (i := 1) rfl)))
  have hw_2 := hts (.selects RX6 yX6_show yX6_show) (List.mem_cons_of_mem _ (List.mem_append_left _ (List.mem_of_getElem? (i := 2) rfl)))
  have hw_3 := hts (.initialized RX6) (List.mem_cons_of_mem _ (List.mem_append_left _ (List.mem_of_getElem? (i := 3) rfl)))
  have hw_4 := hts (.classLink RL 19 "java/lang/IndexOutOfBoundsException") (List.mem_cons_of_mem _ (List.mem_append_left _ (List.mem_of_getElem? (i := 4) rfl)))
  have hw_5 := hts (.classLink RL 13 "java/lang/IllegalArgumentException") (List.mem_cons_of_mem _ (List.mem_append_left _ (List.mem_of_getElem? (i := 5) rfl)))
  have hb_0 : ∀ w ∈ us_c_show, w ∈ us_c_Lshow := fun w h => List.mem_cons_of_mem _ (List.mem_append_right _ (List.mem_append_left _ h))
  refine lv_aload hx hb dL_show_0 (lv_at hl 4 rfl) ?_
  refine lv_iconst (v := 0) hx hb dL_show_2 (by decide) ?_
  refine lv_aload_n hx hb dL_show_3 rfl (lv_at hl 0 rfl) ?_
  refine lv_iload_n hx hb dL_show_4 rfl (lv_at hl 1 rfl) ?_
  refine lv_iload_n hx hb dL_show_5 rfl (lv_at hl 2 rfl) ?_
  refine lv_iload_n hx hb dL_show_6 rfl (lv_at hl 3 rfl) ?_
  refine mxc_i (wr := [(oo, .inl (coo, 1, .inr (.inl f0)))]) (vx_runV (As := [.int p0, .int p1, .int p2]) (rest := [.int 0, .ref oo]) ⟨hx, hb, hml, hown, hts⟩ (c_show l hst D x g ca co ra rl tr f9 f10 f11 f12 f13 a1 a2 a3 a4 a5 a6 a7 a8 a9 a10 a11 csk csg p0 p1 p2 s.heap.size) (cwV 3 hts (gi_c (List.mem_cons_of_mem _ (List.mem_append_left _ (List.mem_of_getElem? (i := 0) rfl))) rfl (gi_c (List.mem_cons_of_mem _ (List.mem_append_left _ (List.mem_of_getElem? (i := 1) rfl))) rfl (gi_c (List.mem_cons_of_mem _ (List.mem_append_left _ (List.mem_of_getElem? (i := 2) rfl))) rfl (gi_c (List.mem_cons_of_mem _ (List.mem_append_left _ (List.mem_of_getElem? (i := 3) rfl))) rfl (goodIn_sub hb_0 (List.all_eq_true.mpr gw_c_show)))))) rfl rfl rfl (by decide +kernel) ⟨Nat.le_of_ble_eq_true rfl, Nat.le_of_ble_eq_true rfl⟩) (pr_V (As := [.int p0, .int p1, .int p2]) (b := x) (C := RX6) hP hD hK hS hA hE [0, 1, 2, 3] [0, 1] rfl rfl rfl 0 13 rfl rfl rfl) rfl rfl hl.1 rfl (lv_room (Nat.le_of_ble_eq_true rfl)) dL_show_7 ⟨Nat.le_of_ble_eq_true rfl, Nat.le_of_ble_eq_true rfl⟩) hP hD hK hS hA [0, 1, 2, 3] [4] rfl rfl (by decide) (by decide) (fun E ce q9 H locs hp hP hD hS hq1 hq2 hq3 => ?_) (fun r2 _ H locs w1 hP hD hK hS => ?_)
  · have hKx := hE.2.2.2.2.2.1
    have hP : va_P D vwCl [(oo, .inl (coo, 1, .inr (.inl f0)))] H := hP
    have hD : va_D A [(oo, .inl (coo, 1, .inr (.inl f0)))] := hD
    rcases hp with ⟨rfl, hk⟩ | ⟨rfl, hk⟩
    · refine vx_catch (E := "java/lang/IndexOutOfBoundsException") (name := "java/lang/IndexOutOfBoundsException") hown [] (⟨0, 12, 15, 19⟩ : ExceptionTableEntry) [(⟨0, 12, 19, 13⟩ : ExceptionTableEntry)] (htab.trans rfl) (fun z hz => nomatch hz) rfl (by decide) hw_4 (hKx.use _ (List.mem_of_getElem? (i := 4) rfl)) hq1 hq2 hq3 ?_
      refine W.eq (g2 := F0 m 15 ls [.ref q9]) rfl ?_
      refine lv_astore (lv' := [(5, .ref q9), (0, .ref x), (1, .int p0), (2, .int p1), (3, .int p2), (4, .ref oo)]) hx hb dL_show_15 hl (by decide) rfl (fun ls hl => ?_)
      refine lv_iconst (v := 1) hx hb dL_show_17 (by decide) ?_
      exact mr_i hx hb hr f0 (⟨hk.symm, fun q9 => absurd (hk.symm.trans q9) (by decide)⟩) (hP.sub [0] rfl) (hK.sub [] rfl) (hD.sub [0] (by decide) rfl) hS (Nat.le_of_ble_eq_true rfl) (Nat.le_of_ble_eq_true rfl) hlocks dL_show_18
    · refine vx_catch (E := "java/lang/IllegalArgumentException") (name := "java/lang/IllegalArgumentException") hown [(⟨0, 12, 15, 19⟩ : ExceptionTableEntry)] (⟨0, 12, 19, 13⟩ : ExceptionTableEntry) [] (htab.trans rfl) (List.forall_mem_cons.mpr ⟨Or.inr ⟨by decide, "java/lang/IndexOutOfBoundsException", hw_4, hKx.2.1⟩, (fun z hz => nomatch hz)⟩) rfl (by decide) hw_5 (hKx.use _ (List.mem_of_getElem? (i := 3) rfl)) hq1 hq2 hq3 ?_
      refine W.eq (g2 := F0 m 19 ls [.ref q9]) rfl ?_
      refine lv_astore (lv' := [(5, .ref q9), (0, .ref x), (1, .int p0), (2, .int p1), (3, .int p2), (4, .ref oo)]) hx hb dL_show_19 hl (by decide) rfl (fun ls hl => ?_)
      refine lv_iconst (v := 2) hx hb dL_show_21 (by decide) ?_
      exact mr_i hx hb hr f0 (⟨hk.symm, fun q9 => absurd (hk.symm.trans q9) (by decide)⟩) (hP.sub [0] rfl) (hK.sub [] rfl) (hD.sub [0] (by decide) rfl) hS (Nat.le_of_ble_eq_true rfl) (Nat.le_of_ble_eq_true rfl) hlocks dL_show_22
  · have hP : va_P D vwCl [(oo, .inl (coo, 1, .inr (.inl f0)))] H := hP
    have hD : va_D A [(oo, .inl (coo, 1, .inr (.inl f0)))] := hD
    have hK : va_K D vwCl [(csk, .char), (csg, .int), (coo, .long)] s := hK
    refine lv_i2l hx hb dL_show_10 rfl ?_
    refine lv_topl (fun x3 e3 => ?_)
    obtain rfl : x3 = r2.toInt64 := e3
    refine va_last hx hb hK hP hD hS 0 2 rfl rfl (vp_in_nI (n := 0) (by decide) (by decide)) dL_show_11 (fun H locs hP hD hS => ?_)
    have hP : va_P D vwCl [(oo, .inl (coo, 1, .inr (.inl (vp_updL f0 ((0 : Int32).toNatClampNeg) r2.toInt64))))] H := hP
    have hD : va_D A [(oo, .inl (coo, 1, .inr (.inl (vp_updL f0 ((0 : Int32).toNatClampNeg) r2.toInt64))))] := hD
    refine lv_goto (tgt := 23) hx hb dL_show_12 (by decide) ?_
    refine lv_iconst (v := 0) hx hb dL_show_23 (by decide) ?_
    exact mr_i hx hb hr (vp_updL f0 ((0 : Int32).toNatClampNeg) r2.toInt64) (⟨w1.1.symm, fun _ => by rw [← w1.2]; rfl⟩) (hP.sub [0] rfl) (hK.sub [] rfl) (hD.sub [0] (by decide) rfl) hS (Nat.le_of_ble_eq_true rfl) (Nat.le_of_ble_eq_true rfl) hlocks dL_show_24

def us_c_Lsplit : List Cond := .codeWith yL_split cL_split 5 (some .int) [(0, 10, 13, 19), (0, 10, 17, 29)] :: (([.methodLink RL 105 yX6_split, .instanceMethod yX6_split, .selects RX6 yX6_split yX6_split, .initialized RX6, .classLink RL 19 "java/lang/IndexOutOfBoundsException"] : List Cond) ++ (us_c_split ++ ([])))
theorem gw_c_Lsplit : ∀ w ∈ us_c_Lsplit, goodWord w = true := gw_cons rfl (gw_app (by decide +kernel) (gw_app gw_c_split (fun _ h => nomatch h)))
set_option maxHeartbeats 4000000 in
set_option maxRecDepth 100000 in
/-- the law calls split -/
theorem c_Lsplit (l : Launch) (hst : l.stackTraces = false) (D : va_G) (x : Nat) (g : Nat) (ca : Nat) (co : Nat) (ra : Nat) (rl : Nat) (tr : Nat) (f9 : Nat) (f10 : Nat) (f11 : Nat) (f12 : Nat) (f13 : Nat) (p0 : Int32) (p1 : Int32) (oo : Nat) (coo : ClassId) (f0 : Nat → Int64) (sz : Nat) : Met l yL_split us_c_Lsplit { frames := 9, cells := 1, slots := 6, locals := 147 } (pw D [.ref x, .int p0, .int p1, .ref oo] [(coo, .long)] [(x, .inr (13, [.ref g, .ref ca, .int 0, .ref co, .int 0, .ref ra, .int 0, .ref rl, .ref tr, .ref f9, .ref f10, .ref f11, .ref f12, .ref f13])), (oo, .inl (coo, 1, .inr (.inl f0)))] sz) (va_Qi (fun (r : Int32) (u : Nat → Int64) => r = kf_split p0 p1 ∧ (kf_split p0 p1 = 0 → u 0 = (rf_split p0 p1).toInt64)) (qb D (va_A [(x, .inr (13, [.ref g, .ref ca, .int 0, .ref co, .int 0, .ref ra, .int 0, .ref rl, .ref tr, .ref f9, .ref f10, .ref f11, .ref f12, .ref f13])), (oo, .inl (coo, 1, .inr (.inl f0)))] sz) (fun u : (Nat → Int64) => [(oo, .inl (coo, 1, .inr (.inl u)))]) (fun u : (Nat → Int64) => ([] : List (ClassId × FieldType)))) (va_A [(x, .inr (13, [.ref g, .ref ca, .int 0, .ref co, .int 0, .ref ra, .int 0, .ref rl, .ref tr, .ref f9, .ref f10, .ref f11, .ref f12, .ref f13])), (oo, .inl (coo, 1, .inr (.inl f0)))] sz)) 1 6 (va_A [(x, .inr (13, [.ref g, .ref ca, .int 0, .ref co, .int 0, .ref ra, .int 0, .ref rl, .ref tr, .ref f9, .ref f10, .ref f11, .ref f12, .ref f13])), (oo, .inl (coo, 1, .inr (.inl f0)))] sz) := by
  refine op_H (Qc := fun A => (va_Qi (fun (r : Int32) (u : Nat → Int64) => r = kf_split p0 p1 ∧ (kf_split p0 p1 = 0 → u 0 = (rf_split p0 p1).toInt64)) (qb D A (fun u : (Nat → Int64) => [(oo, .inl (coo, 1, .inr (.inl u)))]) (fun u : (Nat → Int64) => ([] : List (ClassId × FieldType)))) A)) (by decide +kernel) rfl (Nat.le_of_ble_eq_true rfl) ?_
  intro p e s m args below meth c A ls hx hb hr hml hts hown hlocks hmn htab hA hD hS hP hK hE hsz hl
  have hown : s.vm.findClass RL = some m.cls := hown
  have hl : lv_has ls 5 [(0, .ref x), (1, .int p0), (2, .int p1), (3, .ref oo)] := hl
  have hw_0 := hts (.methodLink RL 105 yX6_split) (List.mem_cons_of_mem _ (List.mem_append_left _ (List.mem_of_getElem? (i := 0) rfl)))
  have hw_1 := hts (.instanceMethod yX6_split) (List.mem_cons_of_mem _ (List.mem_append_left _ (List.mem_of_getElem? (i := 1) rfl)))
  have hw_2 := hts (.selects RX6 yX6_split yX6_split) (List.mem_cons_of_mem _ (List.mem_append_left _ (List.mem_of_getElem? (i := 2) rfl)))
  have hw_3 := hts (.initialized RX6) (List.mem_cons_of_mem _ (List.mem_append_left _ (List.mem_of_getElem? (i := 3) rfl)))
  have hw_4 := hts (.classLink RL 19 "java/lang/IndexOutOfBoundsException") (List.mem_cons_of_mem _ (List.mem_append_left _ (List.mem_of_getElem? (i := 4) rfl)))
  have hb_0 : ∀ w ∈ us_c_split, w ∈ us_c_Lsplit := fun w h => List.mem_cons_of_mem _ (List.mem_append_right _ (List.mem_append_left _ h))
  refine lv_aload_n hx hb dL_split_0 rfl (lv_at hl 3 rfl) ?_
  refine lv_iconst (v := 0) hx hb dL_split_1 (by decide) ?_
  refine lv_aload_n hx hb dL_split_2 rfl (lv_at hl 0 rfl) ?_
  refine lv_iload_n hx hb dL_split_3 rfl (lv_at hl 1 rfl) ?_
  refine lv_iload_n hx hb dL_split_4 rfl (lv_at hl 2 rfl) ?_
  refine mtc (wr := [(oo, .inl (coo, 1, .inr (.inl f0)))]) (vx_runV (As := [.int p0, .int p1]) (rest := [.int 0, .ref oo]) ⟨hx, hb, hml, hown, hts⟩ (c_split l hst D x g ca co ra rl tr f9 f10 f11 f12 f13 p0 p1 s.heap.size) (cwV 2 hts (gi_c (List.mem_cons_of_mem _ (List.mem_append_left _ (List.mem_of_getElem? (i := 0) rfl))) rfl (gi_c (List.mem_cons_of_mem _ (List.mem_append_left _ (List.mem_of_getElem? (i := 1) rfl))) rfl (gi_c (List.mem_cons_of_mem _ (List.mem_append_left _ (List.mem_of_getElem? (i := 2) rfl))) rfl (gi_c (List.mem_cons_of_mem _ (List.mem_append_left _ (List.mem_of_getElem? (i := 3) rfl))) rfl (goodIn_sub hb_0 (List.all_eq_true.mpr gw_c_split)))))) rfl rfl rfl (by decide +kernel) ⟨Nat.le_of_ble_eq_true rfl, Nat.le_of_ble_eq_true rfl⟩) (pr_V (As := [.int p0, .int p1]) (b := x) (C := RX6) hP hD hK hS hA hE [0] [] rfl rfl rfl 0 13 rfl rfl rfl) rfl rfl hl.1 rfl (lv_room (Nat.le_of_ble_eq_true rfl)) dL_split_5 ⟨Nat.le_of_ble_eq_true rfl, Nat.le_of_ble_eq_true rfl⟩) hP hD hS hA [0] [1] rfl rfl (by decide) (by decide) (fun E ce q9 H locs hp hP hD hS hq1 hq2 hq3 => ?_)
  have hKx := hE.2.2.2.2.2.1
  have hP : va_P D vwCl [(oo, .inl (coo, 1, .inr (.inl f0)))] H := hP
  have hD : va_D A [(oo, .inl (coo, 1, .inr (.inl f0)))] := hD
  rcases hp with rfl
  refine vx_catch (E := "java/lang/IndexOutOfBoundsException") (name := "java/lang/IndexOutOfBoundsException") hown [] (⟨0, 10, 13, 19⟩ : ExceptionTableEntry) [(⟨0, 10, 17, 29⟩ : ExceptionTableEntry)] (htab.trans rfl) (fun z hz => nomatch hz) rfl (by decide) hw_4 (hKx.use _ (List.mem_of_getElem? (i := 4) rfl)) hq1 hq2 hq3 ?_
  refine W.eq (g2 := F0 m 13 ls [.ref q9]) rfl ?_
  refine lv_astore (lv' := [(4, .ref q9), (0, .ref x), (1, .int p0), (2, .int p1), (3, .ref oo)]) hx hb dL_split_13 hl (by decide) rfl (fun ls hl => ?_)
  refine lv_iconst (v := 1) hx hb dL_split_15 (by decide) ?_
  exact mr_i hx hb hr f0 (⟨rfl, fun q9 => absurd (show (1 : Int32) = 0 from q9) (by decide)⟩) (hP.sub [0] rfl) (hK.sub [] rfl) (hD.sub [0] (by decide) rfl) hS (Nat.le_of_ble_eq_true rfl) (Nat.le_of_ble_eq_true rfl) hlocks dL_split_16

def us_c_Lstart : List Cond := .codeWith yL_start cL_start 5 (some .int) [(0, 10, 13, 19), (0, 10, 17, 13), (0, 10, 21, 38)] :: (([.methodLink RL 69 yX6_start, .instanceMethod yX6_start, .selects RX6 yX6_start yX6_start, .initialized RX6, .classLink RL 19 "java/lang/IndexOutOfBoundsException"] : List Cond) ++ (us_c_start ++ ([])))
theorem gw_c_Lstart : ∀ w ∈ us_c_Lstart, goodWord w = true := gw_cons rfl (gw_app (by decide +kernel) (gw_app gw_c_start (fun _ h => nomatch h)))
set_option maxHeartbeats 4000000 in
set_option maxRecDepth 100000 in
/-- the law calls start -/
theorem c_Lstart (l : Launch) (hst : l.stackTraces = false) (D : va_G) (x : Nat) (g : Nat) (ca : Nat) (co : Nat) (ra : Nat) (rl : Nat) (tr : Nat) (f9 : Nat) (f10 : Nat) (f11 : Nat) (f12 : Nat) (f13 : Nat) (p0 : Int32) (p1 : Int32) (oo : Nat) (coo : ClassId) (f0 : Nat → Int64) (sz : Nat) : Met l yL_start us_c_Lstart { frames := 9, cells := 1, slots := 6, locals := 148 } (pw D [.ref x, .int p0, .int p1, .ref oo] [(coo, .long)] [(x, .inr (13, [.ref g, .ref ca, .int 0, .ref co, .int 0, .ref ra, .int 0, .ref rl, .ref tr, .ref f9, .ref f10, .ref f11, .ref f12, .ref f13])), (oo, .inl (coo, 1, .inr (.inl f0)))] sz) (va_Qi (fun (r : Int32) (u : Nat → Int64) => r = kf_start p0 p1 ∧ (kf_start p0 p1 = 0 → u 0 = (rf_start p0 p1).toInt64)) (qb D (va_A [(x, .inr (13, [.ref g, .ref ca, .int 0, .ref co, .int 0, .ref ra, .int 0, .ref rl, .ref tr, .ref f9, .ref f10, .ref f11, .ref f12, .ref f13])), (oo, .inl (coo, 1, .inr (.inl f0)))] sz) (fun u : (Nat → Int64) => [(oo, .inl (coo, 1, .inr (.inl u)))]) (fun u : (Nat → Int64) => ([] : List (ClassId × FieldType)))) (va_A [(x, .inr (13, [.ref g, .ref ca, .int 0, .ref co, .int 0, .ref ra, .int 0, .ref rl, .ref tr, .ref f9, .ref f10, .ref f11, .ref f12, .ref f13])), (oo, .inl (coo, 1, .inr (.inl f0)))] sz)) 1 6 (va_A [(x, .inr (13, [.ref g, .ref ca, .int 0, .ref co, .int 0, .ref ra, .int 0, .ref rl, .ref tr, .ref f9, .ref f10, .ref f11, .ref f12, .ref f13])), (oo, .inl (coo, 1, .inr (.inl f0)))] sz) := by
  refine op_H (Qc := fun A => (va_Qi (fun (r : Int32) (u : Nat → Int64) => r = kf_start p0 p1 ∧ (kf_start p0 p1 = 0 → u 0 = (rf_start p0 p1).toInt64)) (qb D A (fun u : (Nat → Int64) => [(oo, .inl (coo, 1, .inr (.inl u)))]) (fun u : (Nat → Int64) => ([] : List (ClassId × FieldType)))) A)) (by decide +kernel) rfl (Nat.le_of_ble_eq_true rfl) ?_
  intro p e s m args below meth c A ls hx hb hr hml hts hown hlocks hmn htab hA hD hS hP hK hE hsz hl
  have hown : s.vm.findClass RL = some m.cls := hown
  have hl : lv_has ls 5 [(0, .ref x), (1, .int p0), (2, .int p1), (3, .ref oo)] := hl
  have hw_0 := hts (.methodLink RL 69 yX6_start) (List.mem_cons_of_mem _ (List.mem_append_left _ (List.mem_of_getElem? (i := 0) rfl)))
  have hw_1 := hts (.instanceMethod yX6_start) (List.mem_cons_of_mem _ (List.mem_append_left _ (List.mem_of_getElem? (i := 1) rfl)))
  have hw_2 := hts (.selects RX6 yX6_start yX6_start) (List.mem_cons_of_mem _ (List.mem_append_left _ (List.mem_of_getElem? (i := 2) rfl)))
  have hw_3 := hts (.initialized RX6) (List.mem_cons_of_mem _ (List.mem_append_left _ (List.mem_of_getElem? (i := 3) rfl)))
  have hw_4 := hts (.classLink RL 19 "java/lang/IndexOutOfBoundsException") (List.mem_cons_of_mem _ (List.mem_append_left _ (List.mem_of_getElem? (i := 4) rfl)))
  have hb_0 : ∀ w ∈ us_c_start, w ∈ us_c_Lstart := fun w h => List.mem_cons_of_mem _ (List.mem_append_right _ (List.mem_append_left _ h))
  refine lv_aload_n hx hb dL_start_0 rfl (lv_at hl 3 rfl) ?_
  refine lv_iconst (v := 0) hx hb dL_start_1 (by decide) ?_
  refine lv_aload_n hx hb dL_start_2 rfl (lv_at hl 0 rfl) ?_
  refine lv_iload_n hx hb dL_start_3 rfl (lv_at hl 1 rfl) ?_
  refine lv_iload_n hx hb dL_start_4 rfl (lv_at hl 2 rfl) ?_
  refine mtc (wr := [(oo, .inl (coo, 1, .inr (.inl f0)))]) (vx_runV (As := [.int p0, .int p1]) (rest := [.int 0, .ref oo]) ⟨hx, hb, hml, hown, hts⟩ (c_start l hst D x g ca co ra rl tr f9 f10 f11 f12 f13 p0 p1 s.heap.size) (cwV 2 hts (gi_c (List.mem_cons_of_mem _ (List.mem_append_left _ (List.mem_of_getElem? (i := 0) rfl))) rfl (gi_c (List.mem_cons_of_mem _ (List.mem_append_left _ (List.mem_of_getElem? (i := 1) rfl))) rfl (gi_c (List.mem_cons_of_mem _ (List.mem_append_left _ (List.mem_of_getElem? (i := 2) rfl))) rfl (gi_c (List.mem_cons_of_mem _ (List.mem_append_left _ (List.mem_of_getElem? (i := 3) rfl))) rfl (goodIn_sub hb_0 (List.all_eq_true.mpr gw_c_start)))))) rfl rfl rfl (by decide +kernel) ⟨Nat.le_of_ble_eq_true rfl, Nat.le_of_ble_eq_true rfl⟩) (pr_V (As := [.int p0, .int p1]) (b := x) (C := RX6) hP hD hK hS hA hE [0] [] rfl rfl rfl 0 13 rfl rfl rfl) rfl rfl hl.1 rfl (lv_room (Nat.le_of_ble_eq_true rfl)) dL_start_5 ⟨Nat.le_of_ble_eq_true rfl, Nat.le_of_ble_eq_true rfl⟩) hP hD hS hA [0] [1] rfl rfl (by decide) (by decide) (fun E ce q9 H locs hp hP hD hS hq1 hq2 hq3 => ?_)
  have hKx := hE.2.2.2.2.2.1
  have hP : va_P D vwCl [(oo, .inl (coo, 1, .inr (.inl f0)))] H := hP
  have hD : va_D A [(oo, .inl (coo, 1, .inr (.inl f0)))] := hD
  rcases hp with rfl
  refine vx_catch (E := "java/lang/IndexOutOfBoundsException") (name := "java/lang/IndexOutOfBoundsException") hown [] (⟨0, 10, 13, 19⟩ : ExceptionTableEntry) [(⟨0, 10, 17, 13⟩ : ExceptionTableEntry), (⟨0, 10, 21, 38⟩ : ExceptionTableEntry)] (htab.trans rfl) (fun z hz => nomatch hz) rfl (by decide) hw_4 (hKx.use _ (List.mem_of_getElem? (i := 4) rfl)) hq1 hq2 hq3 ?_
  refine W.eq (g2 := F0 m 13 ls [.ref q9]) rfl ?_
  refine lv_astore (lv' := [(4, .ref q9), (0, .ref x), (1, .int p0), (2, .int p1), (3, .ref oo)]) hx hb dL_start_13 hl (by decide) rfl (fun ls hl => ?_)
  refine lv_iconst (v := 1) hx hb dL_start_15 (by decide) ?_
  exact mr_i hx hb hr f0 (⟨rfl, fun q9 => absurd (show (1 : Int32) = 0 from q9) (by decide)⟩) (hP.sub [0] rfl) (hK.sub [] rfl) (hD.sub [0] (by decide) rfl) hS (Nat.le_of_ble_eq_true rfl) (Nat.le_of_ble_eq_true rfl) hlocks dL_start_16

def us_c_LstartOf : List Cond := .codeWith yL_startOf cL_startOf 4 (some .int) [(0, 9, 12, 19), (0, 9, 15, 29)] :: (([.methodLink RL 76 yX6_startOf, .instanceMethod yX6_startOf, .selects RX6 yX6_startOf yX6_startOf, .initialized RX6, .classLink RL 19 "java/lang/IndexOutOfBoundsException"] : List Cond) ++ (us_c_startOf ++ ([])))
theorem gw_c_LstartOf : ∀ w ∈ us_c_LstartOf, goodWord w = true := gw_cons rfl (gw_app (by decide +kernel) (gw_app gw_c_startOf (fun _ h => nomatch h)))
set_option maxHeartbeats 4000000 in
set_option maxRecDepth 100000 in
/-- the law calls startOf -/
theorem c_LstartOf (l : Launch) (hst : l.stackTraces = false) (D : va_G) (x : Nat) (g : Nat) (ca : Nat) (co : Nat) (ra : Nat) (rl : Nat) (tr : Nat) (f9 : Nat) (f10 : Nat) (f11 : Nat) (f12 : Nat) (f13 : Nat) (p0 : Int32) (oo : Nat) (coo : ClassId) (f0 : Nat → Int64) (sz : Nat) : Met l yL_startOf us_c_LstartOf { frames := 9, cells := 1, slots := 6, locals := 146 } (pw D [.ref x, .int p0, .ref oo] [(coo, .long)] [(x, .inr (13, [.ref g, .ref ca, .int 0, .ref co, .int 0, .ref ra, .int 0, .ref rl, .ref tr, .ref f9, .ref f10, .ref f11, .ref f12, .ref f13])), (oo, .inl (coo, 1, .inr (.inl f0)))] sz) (va_Qi (fun (r : Int32) (u : Nat → Int64) => r = kf_startOf p0 ∧ (kf_startOf p0 = 0 → u 0 = (rf_startOf p0).toInt64)) (qb D (va_A [(x, .inr (13, [.ref g, .ref ca, .int 0, .ref co, .int 0, .ref ra, .int 0, .ref rl, .ref tr, .ref f9, .ref f10, .ref f11, .ref f12, .ref f13])), (oo, .inl (coo, 1, .inr (.inl f0)))] sz) (fun u : (Nat → Int64) => [(oo, .inl (coo, 1, .inr (.inl u)))]) (fun u : (Nat → Int64) => ([] : List (ClassId × FieldType)))) (va_A [(x, .inr (13, [.ref g, .ref ca, .int 0, .ref co, .int 0, .ref ra, .int 0, .ref rl, .ref tr, .ref f9, .ref f10, .ref f11, .ref f12, .ref f13])), (oo, .inl (coo, 1, .inr (.inl f0)))] sz)) 1 6 (va_A [(x, .inr (13, [.ref g, .ref ca, .int 0, .ref co, .int 0, .ref ra, .int 0, .ref rl, .ref tr, .ref f9, .ref f10, .ref f11, .ref f12, .ref f13])), (oo, .inl (coo, 1, .inr (.inl f0)))] sz) := by
  refine op_H (Qc := fun A => (va_Qi (fun (r : Int32) (u : Nat → Int64) => r = kf_startOf p0 ∧ (kf_startOf p0 = 0 → u 0 = (rf_startOf p0).toInt64)) (qb D A (fun u : (Nat → Int64) => [(oo, .inl (coo, 1, .inr (.inl u)))]) (fun u : (Nat → Int64) => ([] : List (ClassId × FieldType)))) A)) (by decide +kernel) rfl (Nat.le_of_ble_eq_true rfl) ?_
  intro p e s m args below meth c A ls hx hb hr hml hts hown hlocks hmn htab hA hD hS hP hK hE hsz hl
  have hown : s.vm.findClass RL = some m.cls := hown
  have hl : lv_has ls 4 [(0, .ref x), (1, .int p0), (2, .ref oo)] := hl
  have hw_0 := hts (.methodLink RL 76 yX6_startOf) (List.mem_cons_of_mem _ (List.mem_append_left _ (List.mem_of_getElem? (i := 0) rfl)))
  have hw_1 := hts (.instanceMethod yX6_startOf) (List.mem_cons_of_mem _ (List.mem_append_left _ (List.mem_of_getElem? (i := 1) rfl)))
  have hw_2 := hts (.selects RX6 yX6_startOf yX6_startOf) (List.mem_cons_of_mem _ (List.mem_append_left _ (List.mem_of_getElem? (i := 2) rfl)))
  have hw_3 := hts (.initialized RX6) (List.mem_cons_of_mem _ (List.mem_append_left _ (List.mem_of_getElem? (i := 3) rfl)))
  have hw_4 := hts (.classLink RL 19 "java/lang/IndexOutOfBoundsException") (List.mem_cons_of_mem _ (List.mem_append_left _ (List.mem_of_getElem? (i := 4) rfl)))
  have hb_0 : ∀ w ∈ us_c_startOf, w ∈ us_c_LstartOf := fun w h => List.mem_cons_of_mem _ (List.mem_append_right _ (List.mem_append_left _ h))
  refine lv_aload_n hx hb dL_startOf_0 rfl (lv_at hl 2 rfl) ?_
  refine lv_iconst (v := 0) hx hb dL_startOf_1 (by decide) ?_
  refine lv_aload_n hx hb dL_startOf_2 rfl (lv_at hl 0 rfl) ?_
  refine lv_iload_n hx hb dL_startOf_3 rfl (lv_at hl 1 rfl) ?_
  refine mtc (wr := [(oo, .inl (coo, 1, .inr (.inl f0)))]) (vx_runV (As := [.int p0]) (rest := [.int 0, .ref oo]) ⟨hx, hb, hml, hown, hts⟩ (c_startOf l hst D x g ca co ra rl tr f9 f10 f11 f12 f13 p0 s.heap.size) (cwV 1 hts (gi_c (List.mem_cons_of_mem _ (List.mem_append_left _ (List.mem_of_getElem? (i := 0) rfl))) rfl (gi_c (List.mem_cons_of_mem _ (List.mem_append_left _ (List.mem_of_getElem? (i := 1) rfl))) rfl (gi_c (List.mem_cons_of_mem _ (List.mem_append_left _ (List.mem_of_getElem? (i := 2) rfl))) rfl (gi_c (List.mem_cons_of_mem _ (List.mem_append_left _ (List.mem_of_getElem? (i := 3) rfl))) rfl (goodIn_sub hb_0 (List.all_eq_true.mpr gw_c_startOf)))))) rfl rfl rfl (by decide +kernel) ⟨Nat.le_of_ble_eq_true rfl, Nat.le_of_ble_eq_true rfl⟩) (pr_V (As := [.int p0]) (b := x) (C := RX6) hP hD hK hS hA hE [0] [] rfl rfl rfl 0 13 rfl rfl rfl) rfl rfl hl.1 rfl (lv_room (Nat.le_of_ble_eq_true rfl)) dL_startOf_4 ⟨Nat.le_of_ble_eq_true rfl, Nat.le_of_ble_eq_true rfl⟩) hP hD hS hA [0] [1] rfl rfl (by decide) (by decide) (fun E ce q9 H locs hp hP hD hS hq1 hq2 hq3 => ?_)
  have hKx := hE.2.2.2.2.2.1
  have hP : va_P D vwCl [(oo, .inl (coo, 1, .inr (.inl f0)))] H := hP
  have hD : va_D A [(oo, .inl (coo, 1, .inr (.inl f0)))] := hD
  rcases hp with rfl
  refine vx_catch (E := "java/lang/IndexOutOfBoundsException") (name := "java/lang/IndexOutOfBoundsException") hown [] (⟨0, 9, 12, 19⟩ : ExceptionTableEntry) [(⟨0, 9, 15, 29⟩ : ExceptionTableEntry)] (htab.trans rfl) (fun z hz => nomatch hz) rfl (by decide) hw_4 (hKx.use _ (List.mem_of_getElem? (i := 4) rfl)) hq1 hq2 hq3 ?_
  refine W.eq (g2 := F0 m 12 ls [.ref q9]) rfl ?_
  refine lv_astore_n (lv' := [(3, .ref q9), (0, .ref x), (1, .int p0), (2, .ref oo)]) hx hb dL_startOf_12 rfl hl (by decide) rfl (fun ls hl => ?_)
  refine lv_iconst (v := 1) hx hb dL_startOf_13 (by decide) ?_
  exact mr_i hx hb hr f0 (⟨rfl, fun q9 => absurd (show (1 : Int32) = 0 from q9) (by decide)⟩) (hP.sub [0] rfl) (hK.sub [] rfl) (hD.sub [0] (by decide) rfl) hS (Nat.le_of_ble_eq_true rfl) (Nat.le_of_ble_eq_true rfl) hlocks dL_startOf_14

def us_c_Lstate : List Cond := .codeWith yL_state cL_state 4 (some .int) [(0, 9, 12, 19)] :: (([.methodLink RL 98 yX6_state, .instanceMethod yX6_state, .selects RX6 yX6_state yX6_state, .initialized RX6, .classLink RL 19 "java/lang/IndexOutOfBoundsException"] : List Cond) ++ (us_c_state ++ ([])))
theorem gw_c_Lstate : ∀ w ∈ us_c_Lstate, goodWord w = true := gw_cons rfl (gw_app (by decide +kernel) (gw_app gw_c_state (fun _ h => nomatch h)))
set_option maxHeartbeats 4000000 in
set_option maxRecDepth 100000 in
/-- the law calls state -/
theorem c_Lstate (l : Launch) (hst : l.stackTraces = false) (D : va_G) (x : Nat) (g : Nat) (ca : Nat) (co : Nat) (ra : Nat) (rl : Nat) (tr : Nat) (f9 : Nat) (f10 : Nat) (f11 : Nat) (f12 : Nat) (f13 : Nat) (p0 : Int32) (oo : Nat) (coo : ClassId) (f0 : Nat → Int64) (sz : Nat) : Met l yL_state us_c_Lstate { frames := 9, cells := 1, slots := 6, locals := 146 } (pw D [.ref x, .int p0, .ref oo] [(coo, .long)] [(x, .inr (13, [.ref g, .ref ca, .int 0, .ref co, .int 0, .ref ra, .int 0, .ref rl, .ref tr, .ref f9, .ref f10, .ref f11, .ref f12, .ref f13])), (oo, .inl (coo, 1, .inr (.inl f0)))] sz) (va_Qi (fun (r : Int32) (u : Nat → Int64) => r = kf_state p0 ∧ (kf_state p0 = 0 → u 0 = (rf_state p0).toInt64)) (qb D (va_A [(x, .inr (13, [.ref g, .ref ca, .int 0, .ref co, .int 0, .ref ra, .int 0, .ref rl, .ref tr, .ref f9, .ref f10, .ref f11, .ref f12, .ref f13])), (oo, .inl (coo, 1, .inr (.inl f0)))] sz) (fun u : (Nat → Int64) => [(oo, .inl (coo, 1, .inr (.inl u)))]) (fun u : (Nat → Int64) => ([] : List (ClassId × FieldType)))) (va_A [(x, .inr (13, [.ref g, .ref ca, .int 0, .ref co, .int 0, .ref ra, .int 0, .ref rl, .ref tr, .ref f9, .ref f10, .ref f11, .ref f12, .ref f13])), (oo, .inl (coo, 1, .inr (.inl f0)))] sz)) 1 6 (va_A [(x, .inr (13, [.ref g, .ref ca, .int 0, .ref co, .int 0, .ref ra, .int 0, .ref rl, .ref tr, .ref f9, .ref f10, .ref f11, .ref f12, .ref f13])), (oo, .inl (coo, 1, .inr (.inl f0)))] sz) := by
  refine op_H (Qc := fun A => (va_Qi (fun (r : Int32) (u : Nat → Int64) => r = kf_state p0 ∧ (kf_state p0 = 0 → u 0 = (rf_state p0).toInt64)) (qb D A (fun u : (Nat → Int64) => [(oo, .inl (coo, 1, .inr (.inl u)))]) (fun u : (Nat → Int64) => ([] : List (ClassId × FieldType)))) A)) (by decide +kernel) rfl (Nat.le_of_ble_eq_true rfl) ?_
  intro p e s m args below meth c A ls hx hb hr hml hts hown hlocks hmn htab hA hD hS hP hK hE hsz hl
  have hown : s.vm.findClass RL = some m.cls := hown
  have hl : lv_has ls 4 [(0, .ref x), (1, .int p0), (2, .ref oo)] := hl
  have hw_0 := hts (.methodLink RL 98 yX6_state) (List.mem_cons_of_mem _ (List.mem_append_left _ (List.mem_of_getElem? (i := 0) rfl)))
  have hw_1 := hts (.instanceMethod yX6_state) (List.mem_cons_of_mem _ (List.mem_append_left _ (List.mem_of_getElem? (i := 1) rfl)))
  have hw_2 := hts (.selects RX6 yX6_state yX6_state) (List.mem_cons_of_mem _ (List.mem_append_left _ (List.mem_of_getElem? (i := 2) rfl)))
  have hw_3 := hts (.initialized RX6) (List.mem_cons_of_mem _ (List.mem_append_left _ (List.mem_of_getElem? (i := 3) rfl)))
  have hw_4 := hts (.classLink RL 19 "java/lang/IndexOutOfBoundsException") (List.mem_cons_of_mem _ (List.mem_append_left _ (List.mem_of_getElem? (i := 4) rfl)))
  have hb_0 : ∀ w ∈ us_c_state, w ∈ us_c_Lstate := fun w h => List.mem_cons_of_mem _ (List.mem_append_right _ (List.mem_append_left _ h))
  refine lv_aload_n hx hb dL_state_0 rfl (lv_at hl 2 rfl) ?_
  refine lv_iconst (v := 0) hx hb dL_state_1 (by decide) ?_
  refine lv_aload_n hx hb dL_state_2 rfl (lv_at hl 0 rfl) ?_
  refine lv_iload_n hx hb dL_state_3 rfl (lv_at hl 1 rfl) ?_
  refine mtc (wr := [(oo, .inl (coo, 1, .inr (.inl f0)))]) (vx_runV (As := [.int p0]) (rest := [.int 0, .ref oo]) ⟨hx, hb, hml, hown, hts⟩ (c_state l hst D x g ca co ra rl tr f9 f10 f11 f12 f13 p0 s.heap.size) (cwV 1 hts (gi_c (List.mem_cons_of_mem _ (List.mem_append_left _ (List.mem_of_getElem? (i := 0) rfl))) rfl (gi_c (List.mem_cons_of_mem _ (List.mem_append_left _ (List.mem_of_getElem? (i := 1) rfl))) rfl (gi_c (List.mem_cons_of_mem _ (List.mem_append_left _ (List.mem_of_getElem? (i := 2) rfl))) rfl (gi_c (List.mem_cons_of_mem _ (List.mem_append_left _ (List.mem_of_getElem? (i := 3) rfl))) rfl (goodIn_sub hb_0 (List.all_eq_true.mpr gw_c_state)))))) rfl rfl rfl (by decide +kernel) ⟨Nat.le_of_ble_eq_true rfl, Nat.le_of_ble_eq_true rfl⟩) (pr_V (As := [.int p0]) (b := x) (C := RX6) hP hD hK hS hA hE [0] [] rfl rfl rfl 0 13 rfl rfl rfl) rfl rfl hl.1 rfl (lv_room (Nat.le_of_ble_eq_true rfl)) dL_state_4 ⟨Nat.le_of_ble_eq_true rfl, Nat.le_of_ble_eq_true rfl⟩) hP hD hS hA [0] [1] rfl rfl (by decide) (by decide) (fun E ce q9 H locs hp hP hD hS hq1 hq2 hq3 => ?_)
  have hKx := hE.2.2.2.2.2.1
  have hP : va_P D vwCl [(oo, .inl (coo, 1, .inr (.inl f0)))] H := hP
  have hD : va_D A [(oo, .inl (coo, 1, .inr (.inl f0)))] := hD
  rcases hp with rfl
  refine vx_catch (E := "java/lang/IndexOutOfBoundsException") (name := "java/lang/IndexOutOfBoundsException") hown [] (⟨0, 9, 12, 19⟩ : ExceptionTableEntry) [] (htab.trans rfl) (fun z hz => nomatch hz) rfl (by decide) hw_4 (hKx.use _ (List.mem_of_getElem? (i := 4) rfl)) hq1 hq2 hq3 ?_
  refine W.eq (g2 := F0 m 12 ls [.ref q9]) rfl ?_
  refine lv_astore_n (lv' := [(3, .ref q9), (0, .ref x), (1, .int p0), (2, .ref oo)]) hx hb dL_state_12 rfl hl (by decide) rfl (fun ls hl => ?_)
  refine lv_iconst (v := 1) hx hb dL_state_13 (by decide) ?_
  exact mr_i hx hb hr f0 (⟨rfl, fun q9 => absurd (show (1 : Int32) = 0 from q9) (by decide)⟩) (hP.sub [0] rfl) (hK.sub [] rfl) (hD.sub [0] (by decide) rfl) hS (Nat.le_of_ble_eq_true rfl) (Nat.le_of_ble_eq_true rfl) hlocks dL_state_14

def us_c_Lstolen : List Cond := .codeWith yL_stolen cL_stolen 5 (some .int) [(0, 10, 13, 19), (0, 10, 17, 13)] :: (([.methodLink RL 88 yX6_stolen, .instanceMethod yX6_stolen, .selects RX6 yX6_stolen yX6_stolen, .initialized RX6, .classLink RL 19 "java/lang/IndexOutOfBoundsException"] : List Cond) ++ (us_c_stolen ++ ([])))
theorem gw_c_Lstolen : ∀ w ∈ us_c_Lstolen, goodWord w = true := gw_cons rfl (gw_app (by decide +kernel) (gw_app gw_c_stolen (fun _ h => nomatch h)))
set_option maxHeartbeats 4000000 in
set_option maxRecDepth 100000 in
/-- the law calls stolen -/
theorem c_Lstolen (l : Launch) (hst : l.stackTraces = false) (D : va_G) (x : Nat) (g : Nat) (ca : Nat) (co : Nat) (ra : Nat) (rl : Nat) (tr : Nat) (f9 : Nat) (f10 : Nat) (f11 : Nat) (f12 : Nat) (f13 : Nat) (p0 : Int32) (p1 : Int32) (oo : Nat) (coo : ClassId) (f0 : Nat → Int64) (sz : Nat) : Met l yL_stolen us_c_Lstolen { frames := 9, cells := 1, slots := 6, locals := 148 } (pw D [.ref x, .int p0, .int p1, .ref oo] [(coo, .long)] [(x, .inr (13, [.ref g, .ref ca, .int 0, .ref co, .int 0, .ref ra, .int 0, .ref rl, .ref tr, .ref f9, .ref f10, .ref f11, .ref f12, .ref f13])), (oo, .inl (coo, 1, .inr (.inl f0)))] sz) (va_Qi (fun (r : Int32) (u : Nat → Int64) => r = kf_stolen p0 p1 ∧ (kf_stolen p0 p1 = 0 → u 0 = (rf_stolen p0 p1).toInt64)) (qb D (va_A [(x, .inr (13, [.ref g, .ref ca, .int 0, .ref co, .int 0, .ref ra, .int 0, .ref rl, .ref tr, .ref f9, .ref f10, .ref f11, .ref f12, .ref f13])), (oo, .inl (coo, 1, .inr (.inl f0)))] sz) (fun u : (Nat → Int64) => [(oo, .inl (coo, 1, .inr (.inl u)))]) (fun u : (Nat → Int64) => ([] : List (ClassId × FieldType)))) (va_A [(x, .inr (13, [.ref g, .ref ca, .int 0, .ref co, .int 0, .ref ra, .int 0, .ref rl, .ref tr, .ref f9, .ref f10, .ref f11, .ref f12, .ref f13])), (oo, .inl (coo, 1, .inr (.inl f0)))] sz)) 1 6 (va_A [(x, .inr (13, [.ref g, .ref ca, .int 0, .ref co, .int 0, .ref ra, .int 0, .ref rl, .ref tr, .ref f9, .ref f10, .ref f11, .ref f12, .ref f13])), (oo, .inl (coo, 1, .inr (.inl f0)))] sz) := by
  refine op_H (Qc := fun A => (va_Qi (fun (r : Int32) (u : Nat → Int64) => r = kf_stolen p0 p1 ∧ (kf_stolen p0 p1 = 0 → u 0 = (rf_stolen p0 p1).toInt64)) (qb D A (fun u : (Nat → Int64) => [(oo, .inl (coo, 1, .inr (.inl u)))]) (fun u : (Nat → Int64) => ([] : List (ClassId × FieldType)))) A)) (by decide +kernel) rfl (Nat.le_of_ble_eq_true rfl) ?_
  intro p e s m args below meth c A ls hx hb hr hml hts hown hlocks hmn htab hA hD hS hP hK hE hsz hl
  have hown : s.vm.findClass RL = some m.cls := hown
  have hl : lv_has ls 5 [(0, .ref x), (1, .int p0), (2, .int p1), (3, .ref oo)] := hl
  have hw_0 := hts (.methodLink RL 88 yX6_stolen) (List.mem_cons_of_mem _ (List.mem_append_left _ (List.mem_of_getElem? (i := 0) rfl)))
  have hw_1 := hts (.instanceMethod yX6_stolen) (List.mem_cons_of_mem _ (List.mem_append_left _ (List.mem_of_getElem? (i := 1) rfl)))
  have hw_2 := hts (.selects RX6 yX6_stolen yX6_stolen) (List.mem_cons_of_mem _ (List.mem_append_left _ (List.mem_of_getElem? (i := 2) rfl)))
  have hw_3 := hts (.initialized RX6) (List.mem_cons_of_mem _ (List.mem_append_left _ (List.mem_of_getElem? (i := 3) rfl)))
  have hw_4 := hts (.classLink RL 19 "java/lang/IndexOutOfBoundsException") (List.mem_cons_of_mem _ (List.mem_append_left _ (List.mem_of_getElem? (i := 4) rfl)))
  have hb_0 : ∀ w ∈ us_c_stolen, w ∈ us_c_Lstolen := fun w h => List.mem_cons_of_mem _ (List.mem_append_right _ (List.mem_append_left _ h))
  refine lv_aload_n hx hb dL_stolen_0 rfl (lv_at hl 3 rfl) ?_
  refine lv_iconst (v := 0) hx hb dL_stolen_1 (by decide) ?_
  refine lv_aload_n hx hb dL_stolen_2 rfl (lv_at hl 0 rfl) ?_
  refine lv_iload_n hx hb dL_stolen_3 rfl (lv_at hl 1 rfl) ?_
  refine lv_iload_n hx hb dL_stolen_4 rfl (lv_at hl 2 rfl) ?_
  refine mtc (wr := [(oo, .inl (coo, 1, .inr (.inl f0)))]) (vx_runV (As := [.int p0, .int p1]) (rest := [.int 0, .ref oo]) ⟨hx, hb, hml, hown, hts⟩ (c_stolen l hst D x g ca co ra rl tr f9 f10 f11 f12 f13 p0 p1 s.heap.size) (cwV 2 hts (gi_c (List.mem_cons_of_mem _ (List.mem_append_left _ (List.mem_of_getElem? (i := 0) rfl))) rfl (gi_c (List.mem_cons_of_mem _ (List.mem_append_left _ (List.mem_of_getElem? (i := 1) rfl))) rfl (gi_c (List.mem_cons_of_mem _ (List.mem_append_left _ (List.mem_of_getElem? (i := 2) rfl))) rfl (gi_c (List.mem_cons_of_mem _ (List.mem_append_left _ (List.mem_of_getElem? (i := 3) rfl))) rfl (goodIn_sub hb_0 (List.all_eq_true.mpr gw_c_stolen)))))) rfl rfl rfl (by decide +kernel) ⟨Nat.le_of_ble_eq_true rfl, Nat.le_of_ble_eq_true rfl⟩) (pr_V (As := [.int p0, .int p1]) (b := x) (C := RX6) hP hD hK hS hA hE [0] [] rfl rfl rfl 0 13 rfl rfl rfl) rfl rfl hl.1 rfl (lv_room (Nat.le_of_ble_eq_true rfl)) dL_stolen_5 ⟨Nat.le_of_ble_eq_true rfl, Nat.le_of_ble_eq_true rfl⟩) hP hD hS hA [0] [1] rfl rfl (by decide) (by decide) (fun E ce q9 H locs hp hP hD hS hq1 hq2 hq3 => ?_)
  have hKx := hE.2.2.2.2.2.1
  have hP : va_P D vwCl [(oo, .inl (coo, 1, .inr (.inl f0)))] H := hP
  have hD : va_D A [(oo, .inl (coo, 1, .inr (.inl f0)))] := hD
  rcases hp with rfl
  refine vx_catch (E := "java/lang/IndexOutOfBoundsException") (name := "java/lang/IndexOutOfBoundsException") hown [] (⟨0, 10, 13, 19⟩ : ExceptionTableEntry) [(⟨0, 10, 17, 13⟩ : ExceptionTableEntry)] (htab.trans rfl) (fun z hz => nomatch hz) rfl (by decide) hw_4 (hKx.use _ (List.mem_of_getElem? (i := 4) rfl)) hq1 hq2 hq3 ?_
  refine W.eq (g2 := F0 m 13 ls [.ref q9]) rfl ?_
  refine lv_astore (lv' := [(4, .ref q9), (0, .ref x), (1, .int p0), (2, .int p1), (3, .ref oo)]) hx hb dL_stolen_13 hl (by decide) rfl (fun ls hl => ?_)
  refine lv_iconst (v := 1) hx hb dL_stolen_15 (by decide) ?_
  exact mr_i hx hb hr f0 (⟨rfl, fun q9 => absurd (show (1 : Int32) = 0 from q9) (by decide)⟩) (hP.sub [0] rfl) (hK.sub [] rfl) (hD.sub [0] (by decide) rfl) hS (Nat.le_of_ble_eq_true rfl) (Nat.le_of_ble_eq_true rfl) hlocks dL_stolen_16

def us_c_Lteam : List Cond := .codeWith yL_team cL_team 5 (some .int) [(0, 10, 13, 19), (0, 10, 17, 13), (0, 10, 21, 40)] :: (([.methodLink RL 123 yX6_team, .instanceMethod yX6_team, .selects RX6 yX6_team yX6_team, .initialized RX6, .classLink RL 19 "java/lang/IndexOutOfBoundsException"] : List Cond) ++ (us_c_team ++ ([])))
theorem gw_c_Lteam : ∀ w ∈ us_c_Lteam, goodWord w = true := gw_cons rfl (gw_app (by decide +kernel) (gw_app gw_c_team (fun _ h => nomatch h)))
set_option maxHeartbeats 4000000 in
set_option maxRecDepth 100000 in
/-- the law calls team -/
theorem c_Lteam (l : Launch) (hst : l.stackTraces = false) (D : va_G) (x : Nat) (g : Nat) (ca : Nat) (co : Nat) (ra : Nat) (rl : Nat) (tr : Nat) (f9 : Nat) (f10 : Nat) (f11 : Nat) (f12 : Nat) (f13 : Nat) (p0 : Int32) (p1 : Int32) (oo : Nat) (coo : ClassId) (f0 : Nat → Int64) (sz : Nat) : Met l yL_team us_c_Lteam { frames := 9, cells := 1, slots := 6, locals := 147 } (pw D [.ref x, .int p0, .int p1, .ref oo] [(coo, .long)] [(x, .inr (13, [.ref g, .ref ca, .int 0, .ref co, .int 0, .ref ra, .int 0, .ref rl, .ref tr, .ref f9, .ref f10, .ref f11, .ref f12, .ref f13])), (oo, .inl (coo, 1, .inr (.inl f0)))] sz) (va_Qi (fun (r : Int32) (u : Nat → Int64) => r = kf_team p0 p1 ∧ (kf_team p0 p1 = 0 → u 0 = (rf_team p0 p1).toInt64)) (qb D (va_A [(x, .inr (13, [.ref g, .ref ca, .int 0, .ref co, .int 0, .ref ra, .int 0, .ref rl, .ref tr, .ref f9, .ref f10, .ref f11, .ref f12, .ref f13])), (oo, .inl (coo, 1, .inr (.inl f0)))] sz) (fun u : (Nat → Int64) => [(oo, .inl (coo, 1, .inr (.inl u)))]) (fun u : (Nat → Int64) => ([] : List (ClassId × FieldType)))) (va_A [(x, .inr (13, [.ref g, .ref ca, .int 0, .ref co, .int 0, .ref ra, .int 0, .ref rl, .ref tr, .ref f9, .ref f10, .ref f11, .ref f12, .ref f13])), (oo, .inl (coo, 1, .inr (.inl f0)))] sz)) 1 6 (va_A [(x, .inr (13, [.ref g, .ref ca, .int 0, .ref co, .int 0, .ref ra, .int 0, .ref rl, .ref tr, .ref f9, .ref f10, .ref f11, .ref f12, .ref f13])), (oo, .inl (coo, 1, .inr (.inl f0)))] sz) := by
  refine op_H (Qc := fun A => (va_Qi (fun (r : Int32) (u : Nat → Int64) => r = kf_team p0 p1 ∧ (kf_team p0 p1 = 0 → u 0 = (rf_team p0 p1).toInt64)) (qb D A (fun u : (Nat → Int64) => [(oo, .inl (coo, 1, .inr (.inl u)))]) (fun u : (Nat → Int64) => ([] : List (ClassId × FieldType)))) A)) (by decide +kernel) rfl (Nat.le_of_ble_eq_true rfl) ?_
  intro p e s m args below meth c A ls hx hb hr hml hts hown hlocks hmn htab hA hD hS hP hK hE hsz hl
  have hown : s.vm.findClass RL = some m.cls := hown
  have hl : lv_has ls 5 [(0, .ref x), (1, .int p0), (2, .int p1), (3, .ref oo)] := hl
  have hw_0 := hts (.methodLink RL 123 yX6_team) (List.mem_cons_of_mem _ (List.mem_append_left _ (List.mem_of_getElem? (i := 0) rfl)))
  have hw_1 := hts (.instanceMethod yX6_team) (List.mem_cons_of_mem _ (List.mem_append_left _ (List.mem_of_getElem? (i := 1) rfl)))
  have hw_2 := hts (.selects RX6 yX6_team yX6_team) (List.mem_cons_of_mem _ (List.mem_append_left _ (List.mem_of_getElem? (i := 2) rfl)))
  have hw_3 := hts (.initialized RX6) (List.mem_cons_of_mem _ (List.mem_append_left _ (List.mem_of_getElem? (i := 3) rfl)))
  have hw_4 := hts (.classLink RL 19 "java/lang/IndexOutOfBoundsException") (List.mem_cons_of_mem _ (List.mem_append_left _ (List.mem_of_getElem? (i := 4) rfl)))
  have hb_0 : ∀ w ∈ us_c_team, w ∈ us_c_Lteam := fun w h => List.mem_cons_of_mem _ (List.mem_append_right _ (List.mem_append_left _ h))
  refine lv_aload_n hx hb dL_team_0 rfl (lv_at hl 3 rfl) ?_
  refine lv_iconst (v := 0) hx hb dL_team_1 (by decide) ?_
  refine lv_aload_n hx hb dL_team_2 rfl (lv_at hl 0 rfl) ?_
  refine lv_iload_n hx hb dL_team_3 rfl (lv_at hl 1 rfl) ?_
  refine lv_iload_n hx hb dL_team_4 rfl (lv_at hl 2 rfl) ?_
  refine mtc (wr := [(oo, .inl (coo, 1, .inr (.inl f0)))]) (vx_runV (As := [.int p0, .int p1]) (rest := [.int 0, .ref oo]) ⟨hx, hb, hml, hown, hts⟩ (c_team l hst D x g ca co ra rl tr f9 f10 f11 f12 f13 p0 p1 s.heap.size) (cwV 2 hts (gi_c (List.mem_cons_of_mem _ (List.mem_append_left _ (List.mem_of_getElem? (i := 0) rfl))) rfl (gi_c (List.mem_cons_of_mem _ (List.mem_append_left _ (List.mem_of_getElem? (i := 1) rfl))) rfl (gi_c (List.mem_cons_of_mem _ (List.mem_append_left _ (List.mem_of_getElem? (i := 2) rfl))) rfl (gi_c (List.mem_cons_of_mem _ (List.mem_append_left _ (List.mem_of_getElem? (i := 3) rfl))) rfl (goodIn_sub hb_0 (List.all_eq_true.mpr gw_c_team)))))) rfl rfl rfl (by decide +kernel) ⟨Nat.le_of_ble_eq_true rfl, Nat.le_of_ble_eq_true rfl⟩) (pr_V (As := [.int p0, .int p1]) (b := x) (C := RX6) hP hD hK hS hA hE [0] [] rfl rfl rfl 0 13 rfl rfl rfl) rfl rfl hl.1 rfl (lv_room (Nat.le_of_ble_eq_true rfl)) dL_team_5 ⟨Nat.le_of_ble_eq_true rfl, Nat.le_of_ble_eq_true rfl⟩) hP hD hS hA [0] [1] rfl rfl (by decide) (by decide) (fun E ce q9 H locs hp hP hD hS hq1 hq2 hq3 => ?_)
  have hKx := hE.2.2.2.2.2.1
  have hP : va_P D vwCl [(oo, .inl (coo, 1, .inr (.inl f0)))] H := hP
  have hD : va_D A [(oo, .inl (coo, 1, .inr (.inl f0)))] := hD
  rcases hp with rfl
  refine vx_catch (E := "java/lang/IndexOutOfBoundsException") (name := "java/lang/IndexOutOfBoundsException") hown [] (⟨0, 10, 13, 19⟩ : ExceptionTableEntry) [(⟨0, 10, 17, 13⟩ : ExceptionTableEntry), (⟨0, 10, 21, 40⟩ : ExceptionTableEntry)] (htab.trans rfl) (fun z hz => nomatch hz) rfl (by decide) hw_4 (hKx.use _ (List.mem_of_getElem? (i := 4) rfl)) hq1 hq2 hq3 ?_
  refine W.eq (g2 := F0 m 13 ls [.ref q9]) rfl ?_
  refine lv_astore (lv' := [(4, .ref q9), (0, .ref x), (1, .int p0), (2, .int p1), (3, .ref oo)]) hx hb dL_team_13 hl (by decide) rfl (fun ls hl => ?_)
  refine lv_iconst (v := 1) hx hb dL_team_15 (by decide) ?_
  exact mr_i hx hb hr f0 (⟨rfl, fun q9 => absurd (show (1 : Int32) = 0 from q9) (by decide)⟩) (hP.sub [0] rfl) (hK.sub [] rfl) (hD.sub [0] (by decide) rfl) hS (Nat.le_of_ble_eq_true rfl) (Nat.le_of_ble_eq_true rfl) hlocks dL_team_16

def us_c_Ltime : List Cond := .codeWith yL_time cL_time 4 (some .int) [(0, 9, 12, 19), (0, 9, 15, 29)] :: (([.methodLink RL 102 yX6_time, .instanceMethod yX6_time, .selects RX6 yX6_time yX6_time, .initialized RX6, .classLink RL 19 "java/lang/IndexOutOfBoundsException"] : List Cond) ++ (us_c_time ++ ([])))
theorem gw_c_Ltime : ∀ w ∈ us_c_Ltime, goodWord w = true := gw_cons rfl (gw_app (by decide +kernel) (gw_app gw_c_time (fun _ h => nomatch h)))
set_option maxHeartbeats 4000000 in
set_option maxRecDepth 100000 in
/-- the law calls time -/
theorem c_Ltime (l : Launch) (hst : l.stackTraces = false) (D : va_G) (x : Nat) (g : Nat) (ca : Nat) (co : Nat) (ra : Nat) (rl : Nat) (tr : Nat) (f9 : Nat) (f10 : Nat) (f11 : Nat) (f12 : Nat) (f13 : Nat) (p0 : Int32) (oo : Nat) (coo : ClassId) (f0 : Nat → Int64) (sz : Nat) : Met l yL_time us_c_Ltime { frames := 9, cells := 1, slots := 6, locals := 145 } (pw D [.ref x, .int p0, .ref oo] [(coo, .long)] [(x, .inr (13, [.ref g, .ref ca, .int 0, .ref co, .int 0, .ref ra, .int 0, .ref rl, .ref tr, .ref f9, .ref f10, .ref f11, .ref f12, .ref f13])), (oo, .inl (coo, 1, .inr (.inl f0)))] sz) (va_Qi (fun (r : Int32) (u : Nat → Int64) => r = kf_time p0 ∧ (kf_time p0 = 0 → u 0 = (rf_time p0).toInt64)) (qb D (va_A [(x, .inr (13, [.ref g, .ref ca, .int 0, .ref co, .int 0, .ref ra, .int 0, .ref rl, .ref tr, .ref f9, .ref f10, .ref f11, .ref f12, .ref f13])), (oo, .inl (coo, 1, .inr (.inl f0)))] sz) (fun u : (Nat → Int64) => [(oo, .inl (coo, 1, .inr (.inl u)))]) (fun u : (Nat → Int64) => ([] : List (ClassId × FieldType)))) (va_A [(x, .inr (13, [.ref g, .ref ca, .int 0, .ref co, .int 0, .ref ra, .int 0, .ref rl, .ref tr, .ref f9, .ref f10, .ref f11, .ref f12, .ref f13])), (oo, .inl (coo, 1, .inr (.inl f0)))] sz)) 1 6 (va_A [(x, .inr (13, [.ref g, .ref ca, .int 0, .ref co, .int 0, .ref ra, .int 0, .ref rl, .ref tr, .ref f9, .ref f10, .ref f11, .ref f12, .ref f13])), (oo, .inl (coo, 1, .inr (.inl f0)))] sz) := by
  refine op_H (Qc := fun A => (va_Qi (fun (r : Int32) (u : Nat → Int64) => r = kf_time p0 ∧ (kf_time p0 = 0 → u 0 = (rf_time p0).toInt64)) (qb D A (fun u : (Nat → Int64) => [(oo, .inl (coo, 1, .inr (.inl u)))]) (fun u : (Nat → Int64) => ([] : List (ClassId × FieldType)))) A)) (by decide +kernel) rfl (Nat.le_of_ble_eq_true rfl) ?_
  intro p e s m args below meth c A ls hx hb hr hml hts hown hlocks hmn htab hA hD hS hP hK hE hsz hl
  have hown : s.vm.findClass RL = some m.cls := hown
  have hl : lv_has ls 4 [(0, .ref x), (1, .int p0), (2, .ref oo)] := hl
  have hw_0 := hts (.methodLink RL 102 yX6_time) (List.mem_cons_of_mem _ (List.mem_append_left _ (List.mem_of_getElem? (i := 0) rfl)))
  have hw_1 := hts (.instanceMethod yX6_time) (List.mem_cons_of_mem _ (List.mem_append_left _ (List.mem_of_getElem? (i := 1) rfl)))
  have hw_2 := hts (.selects RX6 yX6_time yX6_time) (List.mem_cons_of_mem _ (List.mem_append_left _ (List.mem_of_getElem? (i := 2) rfl)))
  have hw_3 := hts (.initialized RX6) (List.mem_cons_of_mem _ (List.mem_append_left _ (List.mem_of_getElem? (i := 3) rfl)))
  have hw_4 := hts (.classLink RL 19 "java/lang/IndexOutOfBoundsException") (List.mem_cons_of_mem _ (List.mem_append_left _ (List.mem_of_getElem? (i := 4) rfl)))
  have hb_0 : ∀ w ∈ us_c_time, w ∈ us_c_Ltime := fun w h => List.mem_cons_of_mem _ (List.mem_append_right _ (List.mem_append_left _ h))
  refine lv_aload_n hx hb dL_time_0 rfl (lv_at hl 2 rfl) ?_
  refine lv_iconst (v := 0) hx hb dL_time_1 (by decide) ?_
  refine lv_aload_n hx hb dL_time_2 rfl (lv_at hl 0 rfl) ?_
  refine lv_iload_n hx hb dL_time_3 rfl (lv_at hl 1 rfl) ?_
  refine mtc (wr := [(oo, .inl (coo, 1, .inr (.inl f0)))]) (vx_runV (As := [.int p0]) (rest := [.int 0, .ref oo]) ⟨hx, hb, hml, hown, hts⟩ (c_time l hst D x g ca co ra rl tr f9 f10 f11 f12 f13 p0 s.heap.size) (cwV 1 hts (gi_c (List.mem_cons_of_mem _ (List.mem_append_left _ (List.mem_of_getElem? (i := 0) rfl))) rfl (gi_c (List.mem_cons_of_mem _ (List.mem_append_left _ (List.mem_of_getElem? (i := 1) rfl))) rfl (gi_c (List.mem_cons_of_mem _ (List.mem_append_left _ (List.mem_of_getElem? (i := 2) rfl))) rfl (gi_c (List.mem_cons_of_mem _ (List.mem_append_left _ (List.mem_of_getElem? (i := 3) rfl))) rfl (goodIn_sub hb_0 (List.all_eq_true.mpr gw_c_time)))))) rfl rfl rfl (by decide +kernel) ⟨Nat.le_of_ble_eq_true rfl, Nat.le_of_ble_eq_true rfl⟩) (pr_V (As := [.int p0]) (b := x) (C := RX6) hP hD hK hS hA hE [0] [] rfl rfl rfl 0 13 rfl rfl rfl) rfl rfl hl.1 rfl (lv_room (Nat.le_of_ble_eq_true rfl)) dL_time_4 ⟨Nat.le_of_ble_eq_true rfl, Nat.le_of_ble_eq_true rfl⟩) hP hD hS hA [0] [1] rfl rfl (by decide) (by decide) (fun E ce q9 H locs hp hP hD hS hq1 hq2 hq3 => ?_)
  have hKx := hE.2.2.2.2.2.1
  have hP : va_P D vwCl [(oo, .inl (coo, 1, .inr (.inl f0)))] H := hP
  have hD : va_D A [(oo, .inl (coo, 1, .inr (.inl f0)))] := hD
  rcases hp with rfl
  refine vx_catch (E := "java/lang/IndexOutOfBoundsException") (name := "java/lang/IndexOutOfBoundsException") hown [] (⟨0, 9, 12, 19⟩ : ExceptionTableEntry) [(⟨0, 9, 15, 29⟩ : ExceptionTableEntry)] (htab.trans rfl) (fun z hz => nomatch hz) rfl (by decide) hw_4 (hKx.use _ (List.mem_of_getElem? (i := 4) rfl)) hq1 hq2 hq3 ?_
  refine W.eq (g2 := F0 m 12 ls [.ref q9]) rfl ?_
  refine lv_astore_n (lv' := [(3, .ref q9), (0, .ref x), (1, .int p0), (2, .ref oo)]) hx hb dL_time_12 rfl hl (by decide) rfl (fun ls hl => ?_)
  refine lv_iconst (v := 1) hx hb dL_time_13 (by decide) ?_
  exact mr_i hx hb hr f0 (⟨rfl, fun q9 => absurd (show (1 : Int32) = 0 from q9) (by decide)⟩) (hP.sub [0] rfl) (hK.sub [] rfl) (hD.sub [0] (by decide) rfl) hS (Nat.le_of_ble_eq_true rfl) (Nat.le_of_ble_eq_true rfl) hlocks dL_time_14

def us_c_Lvoided : List Cond := .codeWith yL_voided cL_voided 6 (some .int) [(0, 19, 22, 19)] :: (([.methodLink RL 91 yX6_voided, .instanceMethod yX6_voided, .selects RX6 yX6_voided yX6_voided, .initialized RX6, .classLink RL 19 "java/lang/IndexOutOfBoundsException"] : List Cond) ++ (us_c_voided ++ ([])))
theorem gw_c_Lvoided : ∀ w ∈ us_c_Lvoided, goodWord w = true := gw_cons rfl (gw_app (by decide +kernel) (gw_app gw_c_voided (fun _ h => nomatch h)))
set_option maxHeartbeats 4000000 in
set_option maxRecDepth 100000 in
/-- the law calls voided -/
theorem c_Lvoided (l : Launch) (hst : l.stackTraces = false) (D : va_G) (x : Nat) (g : Nat) (ca : Nat) (co : Nat) (ra : Nat) (rl : Nat) (tr : Nat) (f9 : Nat) (f10 : Nat) (f11 : Nat) (f12 : Nat) (f13 : Nat) (p0 : Int32) (p1 : Int32) (p2 : Int32) (oo : Nat) (coo : ClassId) (f0 : Nat → Int64) (sz : Nat) : Met l yL_voided us_c_Lvoided { frames := 9, cells := 1, slots := 6, locals := 149 } (pw D [.ref x, .int p0, .int p1, .int p2, .ref oo] [(coo, .long)] [(x, .inr (13, [.ref g, .ref ca, .int 0, .ref co, .int 0, .ref ra, .int 0, .ref rl, .ref tr, .ref f9, .ref f10, .ref f11, .ref f12, .ref f13])), (oo, .inl (coo, 1, .inr (.inl f0)))] sz) (va_Qi (fun (r : Int32) (u : Nat → Int64) => r = kf_voided p0 p1 p2 ∧ (kf_voided p0 p1 p2 = 0 → u 0 = (rf_voided p0 p1 p2).toInt64)) (qb D (va_A [(x, .inr (13, [.ref g, .ref ca, .int 0, .ref co, .int 0, .ref ra, .int 0, .ref rl, .ref tr, .ref f9, .ref f10, .ref f11, .ref f12, .ref f13])), (oo, .inl (coo, 1, .inr (.inl f0)))] sz) (fun u : (Nat → Int64) => [(oo, .inl (coo, 1, .inr (.inl u)))]) (fun u : (Nat → Int64) => ([] : List (ClassId × FieldType)))) (va_A [(x, .inr (13, [.ref g, .ref ca, .int 0, .ref co, .int 0, .ref ra, .int 0, .ref rl, .ref tr, .ref f9, .ref f10, .ref f11, .ref f12, .ref f13])), (oo, .inl (coo, 1, .inr (.inl f0)))] sz)) 1 6 (va_A [(x, .inr (13, [.ref g, .ref ca, .int 0, .ref co, .int 0, .ref ra, .int 0, .ref rl, .ref tr, .ref f9, .ref f10, .ref f11, .ref f12, .ref f13])), (oo, .inl (coo, 1, .inr (.inl f0)))] sz) := by
  refine op_H (Qc := fun A => (va_Qi (fun (r : Int32) (u : Nat → Int64) => r = kf_voided p0 p1 p2 ∧ (kf_voided p0 p1 p2 = 0 → u 0 = (rf_voided p0 p1 p2).toInt64)) (qb D A (fun u : (Nat → Int64) => [(oo, .inl (coo, 1, .inr (.inl u)))]) (fun u : (Nat → Int64) => ([] : List (ClassId × FieldType)))) A)) (by decide +kernel) rfl (Nat.le_of_ble_eq_true rfl) ?_
  intro p e s m args below meth c A ls hx hb hr hml hts hown hlocks hmn htab hA hD hS hP hK hE hsz hl
  have hown : s.vm.findClass RL = some m.cls := hown
  have hl : lv_has ls 6 [(0, .ref x), (1, .int p0), (2, .int p1), (3, .int p2), (4, .ref oo)] := hl
  have hw_0 := hts (.methodLink RL 91 yX6_voided) (List.mem_cons_of_mem _ (List.mem_append_left _ (List.mem_of_getElem? (i := 0) rfl)))
  have hw_1 := hts (.instanceMethod yX6_voided) (List.mem_cons_of_mem _ (List.mem_append_left _ (List.mem_of_getElem? (i := 1) rfl)))
  have hw_2 := hts (.selects RX6 yX6_voided yX6_voided) (List.mem_cons_of_mem _ (List.mem_append_left _ (List.mem_of_getElem? (i := 2) rfl)))
  have hw_3 := hts (.initialized RX6) (List.mem_cons_of_mem _ (List.mem_append_left _ (List.mem_of_getElem? (i := 3) rfl)))
  have hw_4 := hts (.classLink RL 19 "java/lang/IndexOutOfBoundsException") (List.mem_cons_of_mem _ (List.mem_append_left _ (List.mem_of_getElem? (i := 4) rfl)))
  have hb_0 : ∀ w ∈ us_c_voided, w ∈ us_c_Lvoided := fun w h => List.mem_cons_of_mem _ (List.mem_append_right _ (List.mem_append_left _ h))
  refine lv_aload hx hb dL_voided_0 (lv_at hl 4 rfl) ?_
  refine lv_iconst (v := 0) hx hb dL_voided_2 (by decide) ?_
  refine lv_aload_n hx hb dL_voided_3 rfl (lv_at hl 0 rfl) ?_
  refine lv_iload_n hx hb dL_voided_4 rfl (lv_at hl 1 rfl) ?_
  refine lv_iload_n hx hb dL_voided_5 rfl (lv_at hl 2 rfl) ?_
  refine lv_iload_n hx hb dL_voided_6 rfl (lv_at hl 3 rfl) ?_
  refine mtc (wr := [(oo, .inl (coo, 1, .inr (.inl f0)))]) (vx_runV (As := [.int p0, .int p1, .int p2]) (rest := [.int 0, .ref oo]) ⟨hx, hb, hml, hown, hts⟩ (c_voided l hst D x g ca co ra rl tr f9 f10 f11 f12 f13 p0 p1 p2 s.heap.size) (cwV 3 hts (gi_c (List.mem_cons_of_mem _ (List.mem_append_left _ (List.mem_of_getElem? (i := 0) rfl))) rfl (gi_c (List.mem_cons_of_mem _ (List.mem_append_left _ (List.mem_of_getElem? (i := 1) rfl))) rfl (gi_c (List.mem_cons_of_mem _ (List.mem_append_left _ (List.mem_of_getElem? (i := 2) rfl))) rfl (gi_c (List.mem_cons_of_mem _ (List.mem_append_left _ (List.mem_of_getElem? (i := 3) rfl))) rfl (goodIn_sub hb_0 (List.all_eq_true.mpr gw_c_voided)))))) rfl rfl rfl (by decide +kernel) ⟨Nat.le_of_ble_eq_true rfl, Nat.le_of_ble_eq_true rfl⟩) (pr_V (As := [.int p0, .int p1, .int p2]) (b := x) (C := RX6) hP hD hK hS hA hE [0] [] rfl rfl rfl 0 13 rfl rfl rfl) rfl rfl hl.1 rfl (lv_room (Nat.le_of_ble_eq_true rfl)) dL_voided_7 ⟨Nat.le_of_ble_eq_true rfl, Nat.le_of_ble_eq_true rfl⟩) hP hD hS hA [0] [1] rfl rfl (by decide) (by decide) (fun E ce q9 H locs hp hP hD hS hq1 hq2 hq3 => ?_)
  have hKx := hE.2.2.2.2.2.1
  have hP : va_P D vwCl [(oo, .inl (coo, 1, .inr (.inl f0)))] H := hP
  have hD : va_D A [(oo, .inl (coo, 1, .inr (.inl f0)))] := hD
  rcases hp with rfl
  refine vx_catch (E := "java/lang/IndexOutOfBoundsException") (name := "java/lang/IndexOutOfBoundsException") hown [] (⟨0, 19, 22, 19⟩ : ExceptionTableEntry) [] (htab.trans rfl) (fun z hz => nomatch hz) rfl (by decide) hw_4 (hKx.use _ (List.mem_of_getElem? (i := 4) rfl)) hq1 hq2 hq3 ?_
  refine W.eq (g2 := F0 m 22 ls [.ref q9]) rfl ?_
  refine lv_astore (lv' := [(5, .ref q9), (0, .ref x), (1, .int p0), (2, .int p1), (3, .int p2), (4, .ref oo)]) hx hb dL_voided_22 hl (by decide) rfl (fun ls hl => ?_)
  refine lv_iconst (v := 1) hx hb dL_voided_24 (by decide) ?_
  exact mr_i hx hb hr f0 (⟨rfl, fun q9 => absurd (show (1 : Int32) = 0 from q9) (by decide)⟩) (hP.sub [0] rfl) (hK.sub [] rfl) (hD.sub [0] (by decide) rfl) hS (Nat.le_of_ble_eq_true rfl) (Nat.le_of_ble_eq_true rfl) hlocks dL_voided_25
