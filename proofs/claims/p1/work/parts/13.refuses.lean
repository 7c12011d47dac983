theorem dX9_isLeg_0 : decode cX9_isLeg 0 = .ok (.aload_n 0, 1) := by decide +kernel
theorem dX9_isLeg_1 : decode cX9_isLeg 1 = .ok (.iload_n 1, 1) := by decide +kernel
theorem dX9_isLeg_2 : decode cX9_isLeg 2 = .ok (.invokevirtual 227, 3) := by decide +kernel
theorem dX9_isLeg_5 : decode cX9_isLeg 5 = .ok (.ifCond .eq 47, 3) := by decide +kernel
theorem dX9_isLeg_52 : decode cX9_isLeg 52 = .ok (.iconst 0, 1) := by decide +kernel
theorem dX9_isLeg_53 : decode cX9_isLeg 53 = .ok (.ireturn, 1) := by decide +kernel
theorem dX9_areNear_0 : decode cX9_areNear 0 = .ok (.aload_n 0, 1) := by decide +kernel
theorem dX9_areNear_1 : decode cX9_areNear 1 = .ok (.aload_n 0, 1) := by decide +kernel
theorem dX9_areNear_2 : decode cX9_areNear 2 = .ok (.iload_n 1, 1) := by decide +kernel
theorem dX9_areNear_3 : decode cX9_areNear 3 = .ok (.invokevirtual 149, 3) := by decide +kernel
theorem dX9_areNear_6 : decode cX9_areNear 6 = .ok (.ifCond .eq 15, 3) := by decide +kernel
theorem dX9_areNear_21 : decode cX9_areNear 21 = .ok (.iconst 1, 1) := by decide +kernel
theorem dX9_areNear_22 : decode cX9_areNear 22 = .ok (.putfield 16, 3) := by decide +kernel
theorem dX9_areNear_25 : decode cX9_areNear 25 = .ok (.aload_n 0, 1) := by decide +kernel
theorem dX9_areNear_26 : decode cX9_areNear 26 = .ok (.getfield 16, 3) := by decide +kernel
theorem dX9_areNear_29 : decode cX9_areNear 29 = .ok (.ifCond .ne 16, 3) := by decide +kernel
theorem dX9_areNear_45 : decode cX9_areNear 45 = .ok (.iconst 0, 1) := by decide +kernel
theorem dX9_areNear_46 : decode cX9_areNear 46 = .ok (.ireturn, 1) := by decide +kernel
theorem dX9_add_0 : decode cX9_add 0 = .ok (.aload_n 0, 1) := by decide +kernel
theorem dX9_add_1 : decode cX9_add 1 = .ok (.iload_n 1, 1) := by decide +kernel
theorem dX9_add_2 : decode cX9_add 2 = .ok (.invokevirtual 178, 3) := by decide +kernel
theorem dX9_add_5 : decode cX9_add 5 = .ok (.ifCond .eq 11, 3) := by decide +kernel
theorem dX9_add_16 : decode cX9_add 16 = .ok (.aload_n 0, 1) := by decide +kernel
theorem dX9_add_17 : decode cX9_add 17 = .ok (.iconst 1, 1) := by decide +kernel
theorem dX9_add_18 : decode cX9_add 18 = .ok (.invokevirtual 76, 3) := by decide +kernel
theorem dX9_add_21 : decode cX9_add 21 = .ok (.ireturn, 1) := by decide +kernel
theorem dX9_fork_0 : decode cX9_fork 0 = .ok (.aload_n 0, 1) := by decide +kernel
theorem dX9_fork_1 : decode cX9_fork 1 = .ok (.iload_n 1, 1) := by decide +kernel
theorem dX9_fork_2 : decode cX9_fork 2 = .ok (.invokevirtual 178, 3) := by decide +kernel
theorem dX9_fork_5 : decode cX9_fork 5 = .ok (.ifCond .eq 40, 3) := by decide +kernel
theorem dX9_fork_45 : decode cX9_fork 45 = .ok (.aload_n 0, 1) := by decide +kernel
theorem dX9_fork_46 : decode cX9_fork 46 = .ok (.iconst 1, 1) := by decide +kernel
theorem dX9_fork_47 : decode cX9_fork 47 = .ok (.invokevirtual 76, 3) := by decide +kernel
theorem dX9_fork_50 : decode cX9_fork 50 = .ok (.ireturn, 1) := by decide +kernel
theorem dX9_isLawful_0 : decode cX9_isLawful 0 = .ok (.aload_n 0, 1) := by decide +kernel
theorem dX9_isLawful_1 : decode cX9_isLawful 1 = .ok (.aload_n 0, 1) := by decide +kernel
theorem dX9_isLawful_2 : decode cX9_isLawful 2 = .ok (.iload_n 1, 1) := by decide +kernel
theorem dX9_isLawful_3 : decode cX9_isLawful 3 = .ok (.invokevirtual 178, 3) := by decide +kernel
theorem dX9_isLawful_6 : decode cX9_isLawful 6 = .ok (.ifCond .eq 7, 3) := by decide +kernel
theorem dX9_isLawful_13 : decode cX9_isLawful 13 = .ok (.iconst 1, 1) := by decide +kernel
theorem dX9_isLawful_14 : decode cX9_isLawful 14 = .ok (.putfield 16, 3) := by decide +kernel
theorem dX9_isLawful_17 : decode cX9_isLawful 17 = .ok (.aload_n 0, 1) := by decide +kernel
theorem dX9_isLawful_18 : decode cX9_isLawful 18 = .ok (.getfield 16, 3) := by decide +kernel
theorem dX9_isLawful_21 : decode cX9_isLawful 21 = .ok (.ifCond .le 5, 3) := by decide +kernel
theorem dX9_isLawful_24 : decode cX9_isLawful 24 = .ok (.iconst 0, 1) := by decide +kernel
theorem dX9_isLawful_25 : decode cX9_isLawful 25 = .ok (.ireturn, 1) := by decide +kernel
theorem dX9_lengthOf__0 : decode cX9_lengthOf_ 0 = .ok (.aload_n 0, 1) := by decide +kernel
theorem dX9_lengthOf__1 : decode cX9_lengthOf_ 1 = .ok (.iload_n 1, 1) := by decide +kernel
theorem dX9_lengthOf__2 : decode cX9_lengthOf_ 2 = .ok (.invokevirtual 178, 3) := by decide +kernel
theorem dX9_lengthOf__5 : decode cX9_lengthOf_ 5 = .ok (.ifCond .ne 9, 3) := by decide +kernel
theorem dX9_lengthOf__8 : decode cX9_lengthOf_ 8 = .ok (.aload_n 0, 1) := by decide +kernel
theorem dX9_lengthOf__9 : decode cX9_lengthOf_ 9 = .ok (.iconst 1, 1) := by decide +kernel
theorem dX9_lengthOf__10 : decode cX9_lengthOf_ 10 = .ok (.invokevirtual 76, 3) := by decide +kernel
theorem dX9_lengthOf__13 : decode cX9_lengthOf_ 13 = .ok (.ireturn, 1) := by decide +kernel
theorem dX9_branches_0 : decode cX9_branches 0 = .ok (.aload_n 0, 1) := by decide +kernel
theorem dX9_branches_1 : decode cX9_branches 1 = .ok (.iload_n 1, 1) := by decide +kernel
theorem dX9_branches_2 : decode cX9_branches 2 = .ok (.invokevirtual 227, 3) := by decide +kernel
theorem dX9_branches_5 : decode cX9_branches 5 = .ok (.ifCond .ne 9, 3) := by decide +kernel
theorem dX9_branches_8 : decode cX9_branches 8 = .ok (.aload_n 0, 1) := by decide +kernel
theorem dX9_branches_9 : decode cX9_branches 9 = .ok (.iconst 1, 1) := by decide +kernel
theorem dX9_branches_10 : decode cX9_branches 10 = .ok (.invokevirtual 76, 3) := by decide +kernel
theorem dX9_branches_13 : decode cX9_branches 13 = .ok (.ireturn, 1) := by decide +kernel
theorem dX9_start_0 : decode cX9_start 0 = .ok (.aload_n 0, 1) := by decide +kernel
theorem dX9_start_1 : decode cX9_start 1 = .ok (.iload_n 1, 1) := by decide +kernel
theorem dX9_start_2 : decode cX9_start 2 = .ok (.invokevirtual 227, 3) := by decide +kernel
theorem dX9_start_5 : decode cX9_start 5 = .ok (.ifCond .ne 9, 3) := by decide +kernel
theorem dX9_start_8 : decode cX9_start 8 = .ok (.aload_n 0, 1) := by decide +kernel
theorem dX9_start_9 : decode cX9_start 9 = .ok (.iconst 1, 1) := by decide +kernel
theorem dX9_start_10 : decode cX9_start 10 = .ok (.invokevirtual 76, 3) := by decide +kernel
theorem dX9_start_13 : decode cX9_start 13 = .ok (.ireturn, 1) := by decide +kernel
theorem dX9_draw_0 : decode cX9_draw 0 = .ok (.aload_n 0, 1) := by decide +kernel
theorem dX9_draw_1 : decode cX9_draw 1 = .ok (.iload_n 1, 1) := by decide +kernel
theorem dX9_draw_2 : decode cX9_draw 2 = .ok (.invokevirtual 178, 3) := by decide +kernel
theorem dX9_draw_5 : decode cX9_draw 5 = .ok (.ifCond .ne 9, 3) := by decide +kernel
theorem dX9_draw_8 : decode cX9_draw 8 = .ok (.aload_n 0, 1) := by decide +kernel
theorem dX9_draw_9 : decode cX9_draw 9 = .ok (.iconst 1, 1) := by decide +kernel
theorem dX9_draw_10 : decode cX9_draw 10 = .ok (.invokevirtual 76, 3) := by decide +kernel
theorem dX9_draw_13 : decode cX9_draw 13 = .ok (.ireturn, 1) := by decide +kernel
theorem dX9_startOf_0 : decode cX9_startOf 0 = .ok (.aload_n 0, 1) := by decide +kernel
theorem dX9_startOf_1 : decode cX9_startOf 1 = .ok (.iload_n 1, 1) := by decide +kernel
theorem dX9_startOf_2 : decode cX9_startOf 2 = .ok (.invokevirtual 227, 3) := by decide +kernel
theorem dX9_startOf_5 : decode cX9_startOf 5 = .ok (.ifCond .ne 9, 3) := by decide +kernel
theorem dX9_startOf_8 : decode cX9_startOf 8 = .ok (.aload_n 0, 1) := by decide +kernel
theorem dX9_startOf_9 : decode cX9_startOf 9 = .ok (.iconst 1, 1) := by decide +kernel
theorem dX9_startOf_10 : decode cX9_startOf 10 = .ok (.invokevirtual 76, 3) := by decide +kernel
theorem dX9_startOf_13 : decode cX9_startOf 13 = .ok (.ireturn, 1) := by decide +kernel
theorem dX9_punch_0 : decode cX9_punch 0 = .ok (.aload_n 0, 1) := by decide +kernel
theorem dX9_punch_1 : decode cX9_punch 1 = .ok (.iload_n 1, 1) := by decide +kernel
theorem dX9_punch_2 : decode cX9_punch 2 = .ok (.invokevirtual 227, 3) := by decide +kernel
theorem dX9_punch_5 : decode cX9_punch 5 = .ok (.ifCond .eq 11, 3) := by decide +kernel
theorem dX9_punch_16 : decode cX9_punch 16 = .ok (.aload_n 0, 1) := by decide +kernel
theorem dX9_punch_17 : decode cX9_punch 17 = .ok (.iconst 1, 1) := by decide +kernel
theorem dX9_punch_18 : decode cX9_punch 18 = .ok (.invokevirtual 76, 3) := by decide +kernel
theorem dX9_punch_21 : decode cX9_punch 21 = .ok (.ireturn, 1) := by decide +kernel
theorem dX9_finish_0 : decode cX9_finish 0 = .ok (.aload_n 0, 1) := by decide +kernel
theorem dX9_finish_1 : decode cX9_finish 1 = .ok (.iload_n 1, 1) := by decide +kernel
theorem dX9_finish_2 : decode cX9_finish 2 = .ok (.invokevirtual 227, 3) := by decide +kernel
theorem dX9_finish_5 : decode cX9_finish 5 = .ok (.ifCond .ne 9, 3) := by decide +kernel
theorem dX9_finish_8 : decode cX9_finish 8 = .ok (.aload_n 0, 1) := by decide +kernel
theorem dX9_finish_9 : decode cX9_finish 9 = .ok (.iconst 1, 1) := by decide +kernel
theorem dX9_finish_10 : decode cX9_finish 10 = .ok (.invokevirtual 76, 3) := by decide +kernel
theorem dX9_finish_13 : decode cX9_finish 13 = .ok (.ireturn, 1) := by decide +kernel
theorem dX9_dead_0 : decode cX9_dead 0 = .ok (.aload_n 0, 1) := by decide +kernel
theorem dX9_dead_1 : decode cX9_dead 1 = .ok (.iload_n 1, 1) := by decide +kernel
theorem dX9_dead_2 : decode cX9_dead 2 = .ok (.invokevirtual 149, 3) := by decide +kernel
theorem dX9_dead_5 : decode cX9_dead 5 = .ok (.ifCond .ne 9, 3) := by decide +kernel
theorem dX9_dead_8 : decode cX9_dead 8 = .ok (.aload_n 0, 1) := by decide +kernel
theorem dX9_dead_9 : decode cX9_dead 9 = .ok (.iconst 1, 1) := by decide +kernel
theorem dX9_dead_10 : decode cX9_dead 10 = .ok (.invokevirtual 76, 3) := by decide +kernel
theorem dX9_dead_13 : decode cX9_dead 13 = .ok (.ireturn, 1) := by decide +kernel
theorem dX9_stolen_0 : decode cX9_stolen 0 = .ok (.aload_n 0, 1) := by decide +kernel
theorem dX9_stolen_1 : decode cX9_stolen 1 = .ok (.iload_n 1, 1) := by decide +kernel
theorem dX9_stolen_2 : decode cX9_stolen 2 = .ok (.invokevirtual 149, 3) := by decide +kernel
theorem dX9_stolen_5 : decode cX9_stolen 5 = .ok (.ifCond .ne 9, 3) := by decide +kernel
theorem dX9_stolen_8 : decode cX9_stolen 8 = .ok (.aload_n 0, 1) := by decide +kernel
theorem dX9_stolen_9 : decode cX9_stolen 9 = .ok (.iconst 1, 1) := by decide +kernel
theorem dX9_stolen_10 : decode cX9_stolen 10 = .ok (.invokevirtual 76, 3) := by decide +kernel
theorem dX9_stolen_13 : decode cX9_stolen 13 = .ok (.ireturn, 1) := by decide +kernel
theorem dX9_voided_0 : decode cX9_voided 0 = .ok (.aload_n 0, 1) := by decide +kernel
theorem dX9_voided_1 : decode cX9_voided 1 = .ok (.aload_n 0, 1) := by decide +kernel
theorem dX9_voided_2 : decode cX9_voided 2 = .ok (.iload_n 1, 1) := by decide +kernel
theorem dX9_voided_3 : decode cX9_voided 3 = .ok (.invokevirtual 178, 3) := by decide +kernel
theorem dX9_voided_6 : decode cX9_voided 6 = .ok (.ifCond .eq 34, 3) := by decide +kernel
theorem dX9_voided_40 : decode cX9_voided 40 = .ok (.iconst 1, 1) := by decide +kernel
theorem dX9_voided_41 : decode cX9_voided 41 = .ok (.putfield 16, 3) := by decide +kernel
theorem dX9_voided_44 : decode cX9_voided 44 = .ok (.aload_n 0, 1) := by decide +kernel
theorem dX9_voided_45 : decode cX9_voided 45 = .ok (.getfield 16, 3) := by decide +kernel
theorem dX9_voided_48 : decode cX9_voided 48 = .ok (.ifCond .le 5, 3) := by decide +kernel
theorem dX9_voided_51 : decode cX9_voided 51 = .ok (.iconst 0, 1) := by decide +kernel
theorem dX9_voided_52 : decode cX9_voided 52 = .ok (.ireturn, 1) := by decide +kernel
theorem dX9_rule_0 : decode cX9_rule 0 = .ok (.aload_n 0, 1) := by decide +kernel
theorem dX9_rule_1 : decode cX9_rule 1 = .ok (.iload_n 1, 1) := by decide +kernel
theorem dX9_rule_2 : decode cX9_rule 2 = .ok (.invokevirtual 227, 3) := by decide +kernel
theorem dX9_rule_5 : decode cX9_rule 5 = .ok (.ifCond .ne 9, 3) := by decide +kernel
theorem dX9_rule_8 : decode cX9_rule 8 = .ok (.aload_n 0, 1) := by decide +kernel
theorem dX9_rule_9 : decode cX9_rule 9 = .ok (.iconst 1, 1) := by decide +kernel
theorem dX9_rule_10 : decode cX9_rule 10 = .ok (.invokevirtual 76, 3) := by decide +kernel
theorem dX9_rule_13 : decode cX9_rule 13 = .ok (.ireturn, 1) := by decide +kernel
theorem dX9_state_0 : decode cX9_state 0 = .ok (.aload_n 0, 1) := by decide +kernel
theorem dX9_state_1 : decode cX9_state 1 = .ok (.aload_n 0, 1) := by decide +kernel
theorem dX9_state_2 : decode cX9_state 2 = .ok (.iload_n 1, 1) := by decide +kernel
theorem dX9_state_3 : decode cX9_state 3 = .ok (.invokevirtual 227, 3) := by decide +kernel
theorem dX9_state_6 : decode cX9_state 6 = .ok (.ifCond .eq 7, 3) := by decide +kernel
theorem dX9_state_13 : decode cX9_state 13 = .ok (.iconst 1, 1) := by decide +kernel
theorem dX9_state_14 : decode cX9_state 14 = .ok (.putfield 16, 3) := by decide +kernel
theorem dX9_state_17 : decode cX9_state 17 = .ok (.aload_n 0, 1) := by decide +kernel
theorem dX9_state_18 : decode cX9_state 18 = .ok (.getfield 16, 3) := by decide +kernel
theorem dX9_state_21 : decode cX9_state 21 = .ok (.ifCond .le 8, 3) := by decide +kernel
theorem dX9_state_24 : decode cX9_state 24 = .ok (.bipush 32, 2) := by decide +kernel
theorem dX9_state_26 : decode cX9_state 26 = .ok (.goto 18, 3) := by decide +kernel
theorem dX9_state_44 : decode cX9_state 44 = .ok (.ireturn, 1) := by decide +kernel
theorem dX9_time_0 : decode cX9_time 0 = .ok (.aload_n 0, 1) := by decide +kernel
theorem dX9_time_1 : decode cX9_time 1 = .ok (.iload_n 1, 1) := by decide +kernel
theorem dX9_time_2 : decode cX9_time 2 = .ok (.invokevirtual 227, 3) := by decide +kernel
theorem dX9_time_5 : decode cX9_time 5 = .ok (.ifCond .ne 9, 3) := by decide +kernel
theorem dX9_time_8 : decode cX9_time 8 = .ok (.aload_n 0, 1) := by decide +kernel
theorem dX9_time_9 : decode cX9_time 9 = .ok (.iconst 1, 1) := by decide +kernel
theorem dX9_time_10 : decode cX9_time 10 = .ok (.invokevirtual 76, 3) := by decide +kernel
theorem dX9_time_13 : decode cX9_time 13 = .ok (.ireturn, 1) := by decide +kernel
theorem dX9_split_0 : decode cX9_split 0 = .ok (.aload_n 0, 1) := by decide +kernel
theorem dX9_split_1 : decode cX9_split 1 = .ok (.iload_n 1, 1) := by decide +kernel
theorem dX9_split_2 : decode cX9_split 2 = .ok (.iload_n 2, 1) := by decide +kernel
theorem dX9_split_3 : decode cX9_split 3 = .ok (.invokevirtual 295, 3) := by decide +kernel
theorem dX9_split_6 : decode cX9_split 6 = .ok (.ifCond .ne 9, 3) := by decide +kernel
theorem dX9_split_9 : decode cX9_split 9 = .ok (.aload_n 0, 1) := by decide +kernel
theorem dX9_split_10 : decode cX9_split 10 = .ok (.iconst 1, 1) := by decide +kernel
theorem dX9_split_11 : decode cX9_split 11 = .ok (.invokevirtual 76, 3) := by decide +kernel
theorem dX9_split_14 : decode cX9_split 14 = .ok (.ireturn, 1) := by decide +kernel
theorem dX9_place_0 : decode cX9_place 0 = .ok (.aload_n 0, 1) := by decide +kernel
theorem dX9_place_1 : decode cX9_place 1 = .ok (.iload_n 1, 1) := by decide +kernel
theorem dX9_place_2 : decode cX9_place 2 = .ok (.invokevirtual 227, 3) := by decide +kernel
theorem dX9_place_5 : decode cX9_place 5 = .ok (.ifCond .ne 9, 3) := by decide +kernel
theorem dX9_place_8 : decode cX9_place 8 = .ok (.aload_n 0, 1) := by decide +kernel
theorem dX9_place_9 : decode cX9_place 9 = .ok (.iconst 1, 1) := by decide +kernel
theorem dX9_place_10 : decode cX9_place 10 = .ok (.invokevirtual 76, 3) := by decide +kernel
theorem dX9_place_13 : decode cX9_place 13 = .ok (.ireturn, 1) := by decide +kernel
theorem dX9_reference_0 : decode cX9_reference 0 = .ok (.aload_n 0, 1) := by decide +kernel
theorem dX9_reference_1 : decode cX9_reference 1 = .ok (.iload_n 1, 1) := by decide +kernel
theorem dX9_reference_2 : decode cX9_reference 2 = .ok (.iload_n 2, 1) := by decide +kernel
theorem dX9_reference_3 : decode cX9_reference 3 = .ok (.invokevirtual 295, 3) := by decide +kernel
theorem dX9_reference_6 : decode cX9_reference 6 = .ok (.ifCond .ne 9, 3) := by decide +kernel
theorem dX9_reference_9 : decode cX9_reference 9 = .ok (.aload_n 0, 1) := by decide +kernel
theorem dX9_reference_10 : decode cX9_reference 10 = .ok (.iconst 1, 1) := by decide +kernel
theorem dX9_reference_11 : decode cX9_reference 11 = .ok (.invokevirtual 76, 3) := by decide +kernel
theorem dX9_reference_14 : decode cX9_reference 14 = .ok (.ireturn, 1) := by decide +kernel
theorem dX9_pace_0 : decode cX9_pace 0 = .ok (.aload_n 0, 1) := by decide +kernel
theorem dX9_pace_1 : decode cX9_pace 1 = .ok (.iload_n 1, 1) := by decide +kernel
theorem dX9_pace_2 : decode cX9_pace 2 = .ok (.invokevirtual 227, 3) := by decide +kernel
theorem dX9_pace_5 : decode cX9_pace 5 = .ok (.ifCond .ne 9, 3) := by decide +kernel
theorem dX9_pace_8 : decode cX9_pace 8 = .ok (.aload_n 0, 1) := by decide +kernel
theorem dX9_pace_9 : decode cX9_pace 9 = .ok (.iconst 1, 1) := by decide +kernel
theorem dX9_pace_10 : decode cX9_pace 10 = .ok (.invokevirtual 76, 3) := by decide +kernel
theorem dX9_pace_13 : decode cX9_pace 13 = .ok (.ireturn, 1) := by decide +kernel
theorem dX9_loss_0 : decode cX9_loss 0 = .ok (.aload_n 0, 1) := by decide +kernel
theorem dX9_loss_1 : decode cX9_loss 1 = .ok (.iload_n 1, 1) := by decide +kernel
theorem dX9_loss_2 : decode cX9_loss 2 = .ok (.iload_n 2, 1) := by decide +kernel
theorem dX9_loss_3 : decode cX9_loss 3 = .ok (.invokevirtual 295, 3) := by decide +kernel
theorem dX9_loss_6 : decode cX9_loss 6 = .ok (.ifCond .ne 9, 3) := by decide +kernel
theorem dX9_loss_9 : decode cX9_loss 9 = .ok (.aload_n 0, 1) := by decide +kernel
theorem dX9_loss_10 : decode cX9_loss 10 = .ok (.iconst 1, 1) := by decide +kernel
theorem dX9_loss_11 : decode cX9_loss 11 = .ok (.invokevirtual 76, 3) := by decide +kernel
theorem dX9_loss_14 : decode cX9_loss 14 = .ok (.ireturn, 1) := by decide +kernel
theorem dX9_points_0 : decode cX9_points 0 = .ok (.aload_n 0, 1) := by decide +kernel
theorem dX9_points_1 : decode cX9_points 1 = .ok (.iload_n 1, 1) := by decide +kernel
theorem dX9_points_2 : decode cX9_points 2 = .ok (.invokevirtual 227, 3) := by decide +kernel
theorem dX9_points_5 : decode cX9_points 5 = .ok (.ifCond .ne 9, 3) := by decide +kernel
theorem dX9_points_8 : decode cX9_points 8 = .ok (.aload_n 0, 1) := by decide +kernel
theorem dX9_points_9 : decode cX9_points 9 = .ok (.iconst 1, 1) := by decide +kernel
theorem dX9_points_10 : decode cX9_points 10 = .ok (.invokevirtual 76, 3) := by decide +kernel
theorem dX9_points_13 : decode cX9_points 13 = .ok (.ireturn, 1) := by decide +kernel
theorem dX9_team_0 : decode cX9_team 0 = .ok (.aload_n 0, 1) := by decide +kernel
theorem dX9_team_1 : decode cX9_team 1 = .ok (.iload_n 1, 1) := by decide +kernel
theorem dX9_team_2 : decode cX9_team 2 = .ok (.invokevirtual 178, 3) := by decide +kernel
theorem dX9_team_5 : decode cX9_team 5 = .ok (.ifCond .ne 9, 3) := by decide +kernel
theorem dX9_team_8 : decode cX9_team 8 = .ok (.aload_n 0, 1) := by decide +kernel
theorem dX9_team_9 : decode cX9_team 9 = .ok (.iconst 1, 1) := by decide +kernel
theorem dX9_team_10 : decode cX9_team 10 = .ok (.invokevirtual 76, 3) := by decide +kernel
theorem dX9_team_13 : decode cX9_team 13 = .ok (.ireturn, 1) := by decide +kernel
theorem dX9_runs_0 : decode cX9_runs 0 = .ok (.iload_n 1, 1) := by decide +kernel
theorem dX9_runs_1 : decode cX9_runs 1 = .ok (.i2l, 1) := by decide +kernel
theorem dX9_runs_2 : decode cX9_runs 2 = .ok (.lconst 0, 1) := by decide +kernel
theorem dX9_runs_3 : decode cX9_runs 3 = .ok (.aload_n 0, 1) := by decide +kernel
theorem dX9_runs_4 : decode cX9_runs 4 = .ok (.getfield 52, 3) := by decide +kernel
theorem dX9_runs_7 : decode cX9_runs 7 = .ok (.invokevirtual 135, 3) := by decide +kernel
theorem dX9_runs_10 : decode cX9_runs 10 = .ok (.iconst 1, 1) := by decide +kernel
theorem dX9_runs_11 : decode cX9_runs 11 = .ok (.isub, 1) := by decide +kernel
theorem dX9_runs_12 : decode cX9_runs 12 = .ok (.i2l, 1) := by decide +kernel
theorem dX9_runs_13 : decode cX9_runs 13 = .ok (.invokestatic 72, 3) := by decide +kernel
theorem dX9_runs_16 : decode cX9_runs 16 = .ok (.ifCond .eq 27, 3) := by decide +kernel
theorem dX9_runs_43 : decode cX9_runs 43 = .ok (.aload_n 0, 1) := by decide +kernel
theorem dX9_runs_44 : decode cX9_runs 44 = .ok (.iconst 1, 1) := by decide +kernel
theorem dX9_runs_45 : decode cX9_runs 45 = .ok (.invokevirtual 76, 3) := by decide +kernel
theorem dX9_runs_48 : decode cX9_runs 48 = .ok (.ireturn, 1) := by decide +kernel
theorem dX9_chase_0 : decode cX9_chase 0 = .ok (.aload_n 0, 1) := by decide +kernel
theorem dX9_chase_1 : decode cX9_chase 1 = .ok (.iload_n 1, 1) := by decide +kernel
theorem dX9_chase_2 : decode cX9_chase 2 = .ok (.invokevirtual 178, 3) := by decide +kernel
theorem dX9_chase_5 : decode cX9_chase 5 = .ok (.ifCond .eq 11, 3) := by decide +kernel
theorem dX9_chase_16 : decode cX9_chase 16 = .ok (.aload_n 0, 1) := by decide +kernel
theorem dX9_chase_17 : decode cX9_chase 17 = .ok (.iconst 1, 1) := by decide +kernel
theorem dX9_chase_18 : decode cX9_chase 18 = .ok (.invokevirtual 76, 3) := by decide +kernel
theorem dX9_chase_21 : decode cX9_chase 21 = .ok (.ireturn, 1) := by decide +kernel
theorem dX9_fix_0 : decode cX9_fix 0 = .ok (.aload_n 0, 1) := by decide +kernel
theorem dX9_fix_1 : decode cX9_fix 1 = .ok (.iload_n 1, 1) := by decide +kernel
theorem dX9_fix_2 : decode cX9_fix 2 = .ok (.invokevirtual 227, 3) := by decide +kernel
theorem dX9_fix_5 : decode cX9_fix 5 = .ok (.ifCond .eq 11, 3) := by decide +kernel
theorem dX9_fix_16 : decode cX9_fix 16 = .ok (.aload_n 0, 1) := by decide +kernel
theorem dX9_fix_17 : decode cX9_fix 17 = .ok (.iconst 1, 1) := by decide +kernel
theorem dX9_fix_18 : decode cX9_fix 18 = .ok (.invokevirtual 76, 3) := by decide +kernel
theorem dX9_fix_21 : decode cX9_fix 21 = .ok (.ireturn, 1) := by decide +kernel
theorem dX9_mayHave_0 : decode cX9_mayHave 0 = .ok (.aload_n 0, 1) := by decide +kernel
theorem dX9_mayHave_1 : decode cX9_mayHave 1 = .ok (.aload_n 0, 1) := by decide +kernel
theorem dX9_mayHave_2 : decode cX9_mayHave 2 = .ok (.iload_n 1, 1) := by decide +kernel
theorem dX9_mayHave_3 : decode cX9_mayHave 3 = .ok (.invokevirtual 227, 3) := by decide +kernel
theorem dX9_mayHave_6 : decode cX9_mayHave 6 = .ok (.ifCond .eq 15, 3) := by decide +kernel
theorem dX9_mayHave_21 : decode cX9_mayHave 21 = .ok (.iconst 1, 1) := by decide +kernel
theorem dX9_mayHave_22 : decode cX9_mayHave 22 = .ok (.putfield 16, 3) := by decide +kernel
theorem dX9_mayHave_25 : decode cX9_mayHave 25 = .ok (.aload_n 0, 1) := by decide +kernel
theorem dX9_mayHave_26 : decode cX9_mayHave 26 = .ok (.getfield 16, 3) := by decide +kernel
theorem dX9_mayHave_29 : decode cX9_mayHave 29 = .ok (.ifCond .le 5, 3) := by decide +kernel
theorem dX9_mayHave_32 : decode cX9_mayHave 32 = .ok (.iconst 0, 1) := by decide +kernel
theorem dX9_mayHave_33 : decode cX9_mayHave 33 = .ok (.ireturn, 1) := by decide +kernel
theorem dX9_okShare_0 : decode cX9_okShare 0 = .ok (.iconst 0, 1) := by decide +kernel
theorem dX9_okShare_1 : decode cX9_okShare 1 = .ok (.istore_n 2, 1) := by decide +kernel
theorem dX9_okShare_2 : decode cX9_okShare 2 = .ok (.aload_n 0, 1) := by decide +kernel
theorem dX9_okShare_3 : decode cX9_okShare 3 = .ok (.getfield 46, 3) := by decide +kernel
theorem dX9_okShare_6 : decode cX9_okShare 6 = .ok (.invokevirtual 160, 3) := by decide +kernel
theorem dX9_okShare_9 : decode cX9_okShare 9 = .ok (.astore_n 3, 1) := by decide +kernel
theorem dX9_okShare_10 : decode cX9_okShare 10 = .ok (.aload_n 3, 1) := by decide +kernel
theorem dX9_okShare_11 : decode cX9_okShare 11 = .ok (.invokeinterface 164 1, 5) := by decide +kernel
theorem dX9_okShare_16 : decode cX9_okShare 16 = .ok (.ifCond .eq 34, 3) := by decide +kernel
theorem dX9_okShare_50 : decode cX9_okShare 50 = .ok (.aload_n 0, 1) := by decide +kernel
theorem dX9_okShare_51 : decode cX9_okShare 51 = .ok (.aload_n 0, 1) := by decide +kernel
theorem dX9_okShare_52 : decode cX9_okShare 52 = .ok (.iload_n 1, 1) := by decide +kernel
theorem dX9_okShare_53 : decode cX9_okShare 53 = .ok (.invokevirtual 178, 3) := by decide +kernel
theorem dX9_okShare_56 : decode cX9_okShare 56 = .ok (.ifCond .ne 7, 3) := by decide +kernel
theorem dX9_okShare_59 : decode cX9_okShare 59 = .ok (.iconst 1, 1) := by decide +kernel
theorem dX9_okShare_60 : decode cX9_okShare 60 = .ok (.goto 12, 3) := by decide +kernel
theorem dX9_okShare_72 : decode cX9_okShare 72 = .ok (.putfield 16, 3) := by decide +kernel
theorem dX9_okShare_75 : decode cX9_okShare 75 = .ok (.aload_n 0, 1) := by decide +kernel
theorem dX9_okShare_76 : decode cX9_okShare 76 = .ok (.getfield 16, 3) := by decide +kernel
theorem dX9_okShare_79 : decode cX9_okShare 79 = .ok (.ifCond .le 7, 3) := by decide +kernel
theorem dX9_okShare_82 : decode cX9_okShare 82 = .ok (.fconst 0, 1) := by decide +kernel
theorem dX9_okShare_83 : decode cX9_okShare 83 = .ok (.goto 15, 3) := by decide +kernel
theorem dX9_okShare_98 : decode cX9_okShare 98 = .ok (.freturn, 1) := by decide +kernel
theorem dX9_meanTime_0 : decode cX9_meanTime 0 = .ok (.aload_n 0, 1) := by decide +kernel
theorem dX9_meanTime_1 : decode cX9_meanTime 1 = .ok (.aload_n 0, 1) := by decide +kernel
theorem dX9_meanTime_2 : decode cX9_meanTime 2 = .ok (.iload_n 1, 1) := by decide +kernel
theorem dX9_meanTime_3 : decode cX9_meanTime 3 = .ok (.invokevirtual 178, 3) := by decide +kernel
theorem dX9_meanTime_6 : decode cX9_meanTime 6 = .ok (.ifCond .ne 7, 3) := by decide +kernel
theorem dX9_meanTime_9 : decode cX9_meanTime 9 = .ok (.iconst 1, 1) := by decide +kernel
theorem dX9_meanTime_10 : decode cX9_meanTime 10 = .ok (.goto 19, 3) := by decide +kernel
theorem dX9_meanTime_29 : decode cX9_meanTime 29 = .ok (.putfield 16, 3) := by decide +kernel
theorem dX9_meanTime_32 : decode cX9_meanTime 32 = .ok (.aload_n 0, 1) := by decide +kernel
theorem dX9_meanTime_33 : decode cX9_meanTime 33 = .ok (.getfield 16, 3) := by decide +kernel
theorem dX9_meanTime_36 : decode cX9_meanTime 36 = .ok (.ifCond .le 5, 3) := by decide +kernel
theorem dX9_meanTime_39 : decode cX9_meanTime 39 = .ok (.dconst 0, 1) := by decide +kernel
theorem dX9_meanTime_40 : decode cX9_meanTime 40 = .ok (.dreturn, 1) := by decide +kernel
theorem dX9_runner_0 : decode cX9_runner 0 = .ok (.iload_n 1, 1) := by decide +kernel
theorem dX9_runner_1 : decode cX9_runner 1 = .ok (.i2l, 1) := by decide +kernel
theorem dX9_runner_2 : decode cX9_runner 2 = .ok (.lconst 0, 1) := by decide +kernel
theorem dX9_runner_3 : decode cX9_runner 3 = .ok (.ldc2_w 87, 3) := by decide +kernel
theorem dX9_runner_6 : decode cX9_runner 6 = .ok (.invokestatic 72, 3) := by decide +kernel
theorem dX9_runner_9 : decode cX9_runner 9 = .ok (.ifCond .ne 9, 3) := by decide +kernel
theorem dX9_runner_18 : decode cX9_runner 18 = .ok (.aload_n 0, 1) := by decide +kernel
theorem dX9_runner_19 : decode cX9_runner 19 = .ok (.iload_n 2, 1) := by decide +kernel
theorem dX9_runner_20 : decode cX9_runner 20 = .ok (.invokevirtual 178, 3) := by decide +kernel
theorem dX9_runner_23 : decode cX9_runner 23 = .ok (.ifCond .ne 9, 3) := by decide +kernel
theorem dX9_runner_26 : decode cX9_runner 26 = .ok (.aload_n 0, 1) := by decide +kernel
theorem dX9_runner_27 : decode cX9_runner 27 = .ok (.iconst 2, 1) := by decide +kernel
theorem dX9_runner_28 : decode cX9_runner 28 = .ok (.invokevirtual 76, 3) := by decide +kernel
theorem dX9_runner_31 : decode cX9_runner 31 = .ok (.ireturn, 1) := by decide +kernel
theorem dX9_runner_12 : decode cX9_runner 12 = .ok (.aload_n 0, 1) := by decide +kernel
theorem dX9_runner_13 : decode cX9_runner 13 = .ok (.iconst 1, 1) := by decide +kernel
theorem dX9_runner_14 : decode cX9_runner 14 = .ok (.invokevirtual 76, 3) := by decide +kernel
theorem dX9_runner_17 : decode cX9_runner 17 = .ok (.ireturn, 1) := by decide +kernel
theorem dX9_cell_0 : decode cX9_cell 0 = .ok (.aload_n 0, 1) := by decide +kernel
theorem dX9_cell_1 : decode cX9_cell 1 = .ok (.iload_n 1, 1) := by decide +kernel
theorem dX9_cell_2 : decode cX9_cell 2 = .ok (.invokevirtual 83, 3) := by decide +kernel
theorem dX9_cell_5 : decode cX9_cell 5 = .ok (.ifCond .ne 9, 3) := by decide +kernel
theorem dX9_cell_14 : decode cX9_cell 14 = .ok (.iload_n 2, 1) := by decide +kernel
theorem dX9_cell_15 : decode cX9_cell 15 = .ok (.i2l, 1) := by decide +kernel
theorem dX9_cell_16 : decode cX9_cell 16 = .ok (.lconst 0, 1) := by decide +kernel
theorem dX9_cell_17 : decode cX9_cell 17 = .ok (.ldc2_w 87, 3) := by decide +kernel
theorem dX9_cell_20 : decode cX9_cell 20 = .ok (.invokestatic 72, 3) := by decide +kernel
theorem dX9_cell_23 : decode cX9_cell 23 = .ok (.ifCond .eq 23, 3) := by decide +kernel
theorem dX9_cell_46 : decode cX9_cell 46 = .ok (.aload_n 0, 1) := by decide +kernel
theorem dX9_cell_47 : decode cX9_cell 47 = .ok (.iconst 2, 1) := by decide +kernel
theorem dX9_cell_48 : decode cX9_cell 48 = .ok (.invokevirtual 76, 3) := by decide +kernel
theorem dX9_cell_51 : decode cX9_cell 51 = .ok (.ireturn, 1) := by decide +kernel
theorem dX9_cell_26 : decode cX9_cell 26 = .ok (.iload_n 3, 1) := by decide +kernel
theorem dX9_cell_27 : decode cX9_cell 27 = .ok (.i2l, 1) := by decide +kernel
theorem dX9_cell_28 : decode cX9_cell 28 = .ok (.lconst 0, 1) := by decide +kernel
theorem dX9_cell_29 : decode cX9_cell 29 = .ok (.ldc2_w 87, 3) := by decide +kernel
theorem dX9_cell_32 : decode cX9_cell 32 = .ok (.invokestatic 72, 3) := by decide +kernel
theorem dX9_cell_35 : decode cX9_cell 35 = .ok (.ifCond .eq 11, 3) := by decide +kernel
theorem dX9_cell_38 : decode cX9_cell 38 = .ok (.iload 4, 2) := by decide +kernel
theorem dX9_cell_40 : decode cX9_cell 40 = .ok (.invokestatic 89, 3) := by decide +kernel
theorem dX9_cell_43 : decode cX9_cell 43 = .ok (.ifCond .ne 9, 3) := by decide +kernel
theorem dX9_cell_52 : decode cX9_cell 52 = .ok (.aload_n 0, 1) := by decide +kernel
theorem dX9_cell_53 : decode cX9_cell 53 = .ok (.getfield 19, 3) := by decide +kernel
theorem dX9_cell_56 : decode cX9_cell 56 = .ok (.iload_n 1, 1) := by decide +kernel
theorem dX9_cell_57 : decode cX9_cell 57 = .ok (.iaload, 1) := by decide +kernel
theorem dX9_cell_58 : decode cX9_cell 58 = .ok (.istore 5, 2) := by decide +kernel
theorem dX9_cell_60 : decode cX9_cell 60 = .ok (.aload_n 0, 1) := by decide +kernel
theorem dX9_cell_61 : decode cX9_cell 61 = .ok (.getfield 19, 3) := by decide +kernel
theorem dX9_cell_64 : decode cX9_cell 64 = .ok (.iload_n 1, 1) := by decide +kernel
theorem dX9_cell_65 : decode cX9_cell 65 = .ok (.iload_n 2, 1) := by decide +kernel
theorem dX9_cell_66 : decode cX9_cell 66 = .ok (.iastore, 1) := by decide +kernel
theorem dX9_cell_67 : decode cX9_cell 67 = .ok (.aload_n 0, 1) := by decide +kernel
theorem dX9_cell_68 : decode cX9_cell 68 = .ok (.getfield 23, 3) := by decide +kernel
theorem dX9_cell_71 : decode cX9_cell 71 = .ok (.iload_n 1, 1) := by decide +kernel
theorem dX9_cell_72 : decode cX9_cell 72 = .ok (.iload_n 3, 1) := by decide +kernel
theorem dX9_cell_73 : decode cX9_cell 73 = .ok (.iastore, 1) := by decide +kernel
theorem dX9_cell_74 : decode cX9_cell 74 = .ok (.aload_n 0, 1) := by decide +kernel
theorem dX9_cell_75 : decode cX9_cell 75 = .ok (.getfield 29, 3) := by decide +kernel
theorem dX9_cell_78 : decode cX9_cell 78 = .ok (.iload_n 1, 1) := by decide +kernel
theorem dX9_cell_79 : decode cX9_cell 79 = .ok (.iload 4, 2) := by decide +kernel
theorem dX9_cell_81 : decode cX9_cell 81 = .ok (.castore, 1) := by decide +kernel
theorem dX9_cell_82 : decode cX9_cell 82 = .ok (.aload_n 0, 1) := by decide +kernel
theorem dX9_cell_83 : decode cX9_cell 83 = .ok (.iload 5, 2) := by decide +kernel
theorem dX9_cell_85 : decode cX9_cell 85 = .ok (.invokevirtual 80, 3) := by decide +kernel
theorem dX9_cell_88 : decode cX9_cell 88 = .ok (.ireturn, 1) := by decide +kernel
theorem dX9_cell_8 : decode cX9_cell 8 = .ok (.aload_n 0, 1) := by decide +kernel
theorem dX9_cell_9 : decode cX9_cell 9 = .ok (.iconst 1, 1) := by decide +kernel
theorem dX9_cell_10 : decode cX9_cell 10 = .ok (.invokevirtual 76, 3) := by decide +kernel
theorem dX9_cell_13 : decode cX9_cell 13 = .ok (.ireturn, 1) := by decide +kernel
theorem dX9_late_0 : decode cX9_late 0 = .ok (.iload_n 1, 1) := by decide +kernel
theorem dX9_late_1 : decode cX9_late 1 = .ok (.i2l, 1) := by decide +kernel
theorem dX9_late_2 : decode cX9_late 2 = .ok (.lconst 0, 1) := by decide +kernel
theorem dX9_late_3 : decode cX9_late 3 = .ok (.ldc2_w 240, 3) := by decide +kernel
theorem dX9_late_6 : decode cX9_late 6 = .ok (.invokestatic 72, 3) := by decide +kernel
theorem dX9_late_9 : decode cX9_late 9 = .ok (.ifCond .eq 27, 3) := by decide +kernel
theorem dX9_late_36 : decode cX9_late 36 = .ok (.aload_n 0, 1) := by decide +kernel
theorem dX9_late_37 : decode cX9_late 37 = .ok (.iconst 1, 1) := by decide +kernel
theorem dX9_late_38 : decode cX9_late 38 = .ok (.invokevirtual 76, 3) := by decide +kernel
theorem dX9_late_41 : decode cX9_late 41 = .ok (.ireturn, 1) := by decide +kernel
theorem dX9_late_12 : decode cX9_late 12 = .ok (.iload_n 2, 1) := by decide +kernel
theorem dX9_late_13 : decode cX9_late 13 = .ok (.i2l, 1) := by decide +kernel
theorem dX9_late_14 : decode cX9_late 14 = .ok (.lconst 0, 1) := by decide +kernel
theorem dX9_late_15 : decode cX9_late 15 = .ok (.ldc2_w 240, 3) := by decide +kernel
theorem dX9_late_18 : decode cX9_late 18 = .ok (.invokestatic 72, 3) := by decide +kernel
theorem dX9_late_21 : decode cX9_late 21 = .ok (.ifCond .eq 15, 3) := by decide +kernel
theorem dX9_late_24 : decode cX9_late 24 = .ok (.iload_n 3, 1) := by decide +kernel
theorem dX9_late_25 : decode cX9_late 25 = .ok (.i2l, 1) := by decide +kernel
theorem dX9_late_26 : decode cX9_late 26 = .ok (.lconst 0, 1) := by decide +kernel
theorem dX9_late_27 : decode cX9_late 27 = .ok (.ldc2_w 139, 3) := by decide +kernel
theorem dX9_late_30 : decode cX9_late 30 = .ok (.invokestatic 72, 3) := by decide +kernel
theorem dX9_late_33 : decode cX9_late 33 = .ok (.ifCond .ne 9, 3) := by decide +kernel
theorem dX9_late_42 : decode cX9_late 42 = .ok (.aload_n 0, 1) := by decide +kernel
theorem dX9_late_43 : decode cX9_late 43 = .ok (.iconst 0, 1) := by decide +kernel
theorem dX9_late_44 : decode cX9_late 44 = .ok (.iload_n 1, 1) := by decide +kernel
theorem dX9_late_45 : decode cX9_late 45 = .ok (.iload_n 2, 1) := by decide +kernel
theorem dX9_late_46 : decode cX9_late 46 = .ok (.bipush 59, 2) := by decide +kernel
theorem dX9_late_48 : decode cX9_late 48 = .ok (.iadd, 1) := by decide +kernel
theorem dX9_late_49 : decode cX9_late 49 = .ok (.bipush 60, 2) := by decide +kernel
theorem dX9_late_51 : decode cX9_late 51 = .ok (.idiv, 1) := by decide +kernel
theorem dX9_late_52 : decode cX9_late 52 = .ok (.iload_n 3, 1) := by decide +kernel
theorem dX9_late_53 : decode cX9_late 53 = .ok (.imul, 1) := by decide +kernel
theorem dX9_late_54 : decode cX9_late 54 = .ok (.isub, 1) := by decide +kernel
theorem dX9_late_55 : decode cX9_late 55 = .ok (.invokestatic 105, 3) := by decide +kernel
theorem dX9_late_58 : decode cX9_late 58 = .ok (.invokevirtual 80, 3) := by decide +kernel
theorem dX9_late_61 : decode cX9_late 61 = .ok (.ireturn, 1) := by decide +kernel
/-! the reference on a new object: what it refuses, what it tells -/
def us_c_isLeg : List Cond := .code yX9_isLeg cX9_isLeg 3 (some .boolean) :: (([.methodLink RX9 227 yX9_isRunner, .instanceMethod yX9_isRunner, .selects RX9 yX9_isRunner yX9_isRunner, .initialized RX9] : List Cond) ++ (us_c_isRunner ++ ([])))
theorem gw_c_isLeg : ∀ w ∈ us_c_isLeg, goodWord w = true := gw_cons rfl (gw_app (by decide +kernel) (gw_app gw_c_isRunner (fun _ h => nomatch h)))
set_option maxHeartbeats 4000000 in
set_option maxRecDepth 100000 in
/-- isLeg: there is no runner -/
theorem c_isLeg (l : Launch) (hst : l.stackTraces = false) (D : va_G) (mo : Nat) (th : Int32) (m1 : Nat) (m2 : Nat) (m3 : Nat) (m4 : Nat) (m5 : Nat) (l1 : Nat) (l2 : Nat) (l3 : Nat) (l4 : Nat) (p0 : Int32) (p1 : Int32) (sz : Nat) : Met l yX9_isLeg us_c_isLeg { frames := 2, cells := 0, slots := 0, locals := 46 } (pw D [.ref mo, .int p0, .int p1] [] [(mo, .inr (16, [.int 5, .int 5, .int th, .ref m1, .ref m2, .ref m3, .ref m4, .ref m5, .ref l1, .ref l2, .ref l3, .int (-1), .ref l4])), (l3, .inr (5, [.int 1, .ref (D.1 1000), .int 0]))] sz) (va_Qi (fun (r : Int32) (_ : Unit) => r = 0) (qb D (va_A [(mo, .inr (16, [.int 5, .int 5, .int th, .ref m1, .ref m2, .ref m3, .ref m4, .ref m5, .ref l1, .ref l2, .ref l3, .int (-1), .ref l4])), (l3, .inr (5, [.int 1, .ref (D.1 1000), .int 0]))] sz) (fun _ : Unit => [(mo, .inr (16, [.int 5, .int 5, .int th, .ref m1, .ref m2, .ref m3, .ref m4, .ref m5, .ref l1, .ref l2, .ref l3, .int (-1), .ref l4])), (l3, .inr (5, [.int 1, .ref (D.1 1000), .int 0]))]) (fun _ : Unit => ([] : List (ClassId × FieldType)))) (va_A [(mo, .inr (16, [.int 5, .int 5, .int th, .ref m1, .ref m2, .ref m3, .ref m4, .ref m5, .ref l1, .ref l2, .ref l3, .int (-1), .ref l4])), (l3, .inr (5, [.int 1, .ref (D.1 1000), .int 0]))] sz)) 0 0 (va_A [(mo, .inr (16, [.int 5, .int 5, .int th, .ref m1, .ref m2, .ref m3, .ref m4, .ref m5, .ref l1, .ref l2, .ref l3, .int (-1), .ref l4])), (l3, .inr (5, [.int 1, .ref (D.1 1000), .int 0]))] sz) := by
  refine op_M (Qc := fun A => (va_Qi (fun (r : Int32) (_ : Unit) => r = 0) (qb D A (fun _ : Unit => [(mo, .inr (16, [.int 5, .int 5, .int th, .ref m1, .ref m2, .ref m3, .ref m4, .ref m5, .ref l1, .ref l2, .ref l3, .int (-1), .ref l4])), (l3, .inr (5, [.int 1, .ref (D.1 1000), .int 0]))]) (fun _ : Unit => ([] : List (ClassId × FieldType)))) A)) (by decide +kernel) rfl (Nat.le_of_ble_eq_true rfl) ?_
  intro p e s m args below meth c A ls hx hb hr hml hts hown hlocks hmn htab hA hD hS hP hK hE hsz hl
  have hown : s.vm.findClass RX9 = some m.cls := hown
  have hl : lv_has ls 3 [(0, .ref mo), (1, .int p0), (2, .int p1)] := hl
  have hw_0 := hts (.methodLink RX9 227 yX9_isRunner) (List.mem_cons_of_mem _ (List.mem_append_left _ (List.mem_of_getElem? (i := 0) rfl)))
  have hw_1 := hts (.instanceMethod yX9_isRunner) (List.mem_cons_of_mem _ (List.mem_append_left _ (List.mem_of_getElem? (i := 1) rfl)))
  have hw_2 := hts (.selects RX9 yX9_isRunner yX9_isRunner) (List.mem_cons_of_mem _ (List.mem_append_left _ (List.mem_of_getElem? (i := 2) rfl)))
  have hw_3 := hts (.initialized RX9) (List.mem_cons_of_mem _ (List.mem_append_left _ (List.mem_of_getElem? (i := 3) rfl)))
  have hb_0 : ∀ w ∈ us_c_isRunner, w ∈ us_c_isLeg := fun w h => List.mem_cons_of_mem _ (List.mem_append_right _ (List.mem_append_left _ h))
  refine lv_aload_n hx hb dX9_isLeg_0 rfl (lv_at hl 0 rfl) ?_
  refine lv_iload_n hx hb dX9_isLeg_1 rfl (lv_at hl 1 rfl) ?_
  refine mc_i (wr := []) (va_runV (As := [.int p0]) (rest := []) ⟨hx, hb, hml, hown, hts⟩ (c_isRunner l hst D mo th m1 m2 m3 m4 m5 l1 l2 l3 l4 p0 s.heap.size) (cwV 1 hts (gi_c (List.mem_cons_of_mem _ (List.mem_append_left _ (List.mem_of_getElem? (i := 0) rfl))) rfl (gi_c (List.mem_cons_of_mem _ (List.mem_append_left _ (List.mem_of_getElem? (i := 1) rfl))) rfl (gi_c (List.mem_cons_of_mem _ (List.mem_append_left _ (List.mem_of_getElem? (i := 2) rfl))) rfl (gi_c (List.mem_cons_of_mem _ (List.mem_append_left _ (List.mem_of_getElem? (i := 3) rfl))) rfl (goodIn_sub hb_0 (List.all_eq_true.mpr gw_c_isRunner)))))) rfl rfl rfl (by decide +kernel) ⟨Nat.le_of_ble_eq_true rfl, Nat.le_of_ble_eq_true rfl⟩) (pr_V (As := [.int p0]) (b := mo) (C := RX9) hP hD hK hS hA hE [0, 1] [] rfl rfl rfl 0 16 rfl rfl rfl) rfl rfl hl.1 rfl (lv_room (Nat.le_of_ble_eq_true rfl)) dX9_isLeg_2 ⟨Nat.le_of_ble_eq_true rfl, Nat.le_of_ble_eq_true rfl⟩) hP hD hK hS hA [0, 1] [] rfl rfl (by decide) (by decide) (fun r2 _ H locs w1 hP hD hK hS => ?_)
  have hP : va_P D vwCl [(mo, .inr (16, [.int 5, .int 5, .int th, .ref m1, .ref m2, .ref m3, .ref m4, .ref m5, .ref l1, .ref l2, .ref l3, .int (-1), .ref l4])), (l3, .inr (5, [.int 1, .ref (D.1 1000), .int 0]))] H := hP
  have hD : va_D A [(mo, .inr (16, [.int 5, .int 5, .int th, .ref m1, .ref m2, .ref m3, .ref m4, .ref m5, .ref l1, .ref l2, .ref l3, .int (-1), .ref l4])), (l3, .inr (5, [.int 1, .ref (D.1 1000), .int 0]))] := hD
  have hK : va_K D vwCl [] s := hK
  obtain rfl : r2 = 0 := w1
  refine lv_if_eq (tgt := 52) hx hb dX9_isLeg_5 (by decide) (fun h3 => ?_) (fun h3 => absurd (by decide) h3)
  refine lv_iconst (v := 0) hx hb dX9_isLeg_52 (by decide) ?_
  exact mr_z (rfl) hx hb hr () (rfl) (hP.sub [0, 1] rfl) (hK.sub [] rfl) (hD.sub [0, 1] (by decide) rfl) hS (Nat.le_of_ble_eq_true rfl) (Nat.le_of_ble_eq_true rfl) hlocks dX9_isLeg_53

def us_c_mareNear : List Cond := .code yX9_areNear cX9_areNear 3 (some .boolean) :: (([.methodLink RX9 149 yX9_isControl, .instanceMethod yX9_isControl, .selects RX9 yX9_isControl yX9_isControl, .initialized RX9, .fieldLink RX9 16 "ControlWoodModel" "thrown" "I"] : List Cond) ++ (us_c_isControl ++ (wsX90 ++ ([]))))
theorem gw_c_mareNear : ∀ w ∈ us_c_mareNear, goodWord w = true := gw_cons rfl (gw_app (by decide +kernel) (gw_app gw_c_isControl (gw_app gwf_X9 (fun _ h => nomatch h))))
set_option maxHeartbeats 4000000 in
set_option maxRecDepth 100000 in
/-- the reference refuses areNear -/
theorem c_mareNear (l : Launch) (hst : l.stackTraces = false) (D : va_G) (mo : Nat) (th : Int32) (m1 : Nat) (m2 : Nat) (m3 : Nat) (m4 : Nat) (m5 : Nat) (l1 : Nat) (l2 : Nat) (l3 : Nat) (l4 : Nat) (p0 : Int32) (p1 : Int32) (sz : Nat) : Met l yX9_areNear us_c_mareNear { frames := 2, cells := 0, slots := 0, locals := 46 } (pw D [.ref mo, .int p0, .int p1] [] [(mo, .inr (16, [.int 5, .int 5, .int th, .ref m1, .ref m2, .ref m3, .ref m4, .ref m5, .ref l1, .ref l2, .ref l3, .int (-1), .ref l4])), (l1, .inr (5, [.int 1, .ref (D.1 1000), .int 0]))] sz) (va_Qi (fun (_ : Int32) (u : (Int32 × (Nat → Nat) × (Nat → Int32))) => u.1 = 1) (qb D (va_A [(mo, .inr (16, [.int 5, .int 5, .int th, .ref m1, .ref m2, .ref m3, .ref m4, .ref m5, .ref l1, .ref l2, .ref l3, .int (-1), .ref l4])), (l1, .inr (5, [.int 1, .ref (D.1 1000), .int 0]))] sz) (fun u : (Int32 × (Nat → Nat) × (Nat → Int32)) => [(mo, .inr (16, [.int (u.2.2 0), .int (u.2.2 1), .int u.1, .ref (u.2.1 0), .ref (u.2.1 1), .ref (u.2.1 2), .ref (u.2.1 3), .ref (u.2.1 4), .ref (u.2.1 5), .ref (u.2.1 6), .ref (u.2.1 7), .int (u.2.2 2), .ref (u.2.1 8)]))]) (fun u : (Int32 × (Nat → Nat) × (Nat → Int32)) => ([] : List (ClassId × FieldType)))) (va_A [(mo, .inr (16, [.int 5, .int 5, .int th, .ref m1, .ref m2, .ref m3, .ref m4, .ref m5, .ref l1, .ref l2, .ref l3, .int (-1), .ref l4])), (l1, .inr (5, [.int 1, .ref (D.1 1000), .int 0]))] sz)) 0 0 (va_A [(mo, .inr (16, [.int 5, .int 5, .int th, .ref m1, .ref m2, .ref m3, .ref m4, .ref m5, .ref l1, .ref l2, .ref l3, .int (-1), .ref l4])), (l1, .inr (5, [.int 1, .ref (D.1 1000), .int 0]))] sz) := by
  refine op_M (Qc := fun A => (va_Qi (fun (_ : Int32) (u : (Int32 × (Nat → Nat) × (Nat → Int32))) => u.1 = 1) (qb D A (fun u : (Int32 × (Nat → Nat) × (Nat → Int32)) => [(mo, .inr (16, [.int (u.2.2 0), .int (u.2.2 1), .int u.1, .ref (u.2.1 0), .ref (u.2.1 1), .ref (u.2.1 2), .ref (u.2.1 3), .ref (u.2.1 4), .ref (u.2.1 5), .ref (u.2.1 6), .ref (u.2.1 7), .int (u.2.2 2), .ref (u.2.1 8)]))]) (fun u : (Int32 × (Nat → Nat) × (Nat → Int32)) => ([] : List (ClassId × FieldType)))) A)) (by decide +kernel) rfl (Nat.le_of_ble_eq_true rfl) ?_
  intro p e s m args below meth c A ls hx hb hr hml hts hown hlocks hmn htab hA hD hS hP hK hE hsz hl
  have hown : s.vm.findClass RX9 = some m.cls := hown
  have hl : lv_has ls 3 [(0, .ref mo), (1, .int p0), (2, .int p1)] := hl
  have hw_0 := hts (.methodLink RX9 149 yX9_isControl) (List.mem_cons_of_mem _ (List.mem_append_left _ (List.mem_of_getElem? (i := 0) rfl)))
  have hw_1 := hts (.instanceMethod yX9_isControl) (List.mem_cons_of_mem _ (List.mem_append_left _ (List.mem_of_getElem? (i := 1) rfl)))
  have hw_2 := hts (.selects RX9 yX9_isControl yX9_isControl) (List.mem_cons_of_mem _ (List.mem_append_left _ (List.mem_of_getElem? (i := 2) rfl)))
  have hw_3 := hts (.initialized RX9) (List.mem_cons_of_mem _ (List.mem_append_left _ (List.mem_of_getElem? (i := 3) rfl)))
  have hw_4 := hts (.fieldLink RX9 16 "ControlWoodModel" "thrown" "I") (List.mem_cons_of_mem _ (List.mem_append_left _ (List.mem_of_getElem? (i := 4) rfl)))
  have hb_0 : ∀ w ∈ us_c_isControl, w ∈ us_c_mareNear := fun w h => List.mem_cons_of_mem _ (List.mem_append_right _ (List.mem_append_left _ h))
  have hb_1 : ∀ w ∈ wsX90, w ∈ us_c_mareNear := fun w h => List.mem_cons_of_mem _ (List.mem_append_right _ (List.mem_append_right _ (List.mem_append_left _ h)))
  refine lv_aload_n hx hb dX9_areNear_0 rfl (lv_at hl 0 rfl) ?_
  refine lv_aload_n hx hb dX9_areNear_1 rfl (lv_at hl 0 rfl) ?_
  refine lv_iload_n hx hb dX9_areNear_2 rfl (lv_at hl 1 rfl) ?_
  refine mc_i (wr := []) (va_runV (As := [.int p0]) (rest := [.ref mo]) ⟨hx, hb, hml, hown, hts⟩ (c_isControl l hst D mo th m1 m2 m3 m4 m5 l1 l2 l3 l4 p0 s.heap.size) (cwV 1 hts (gi_c (List.mem_cons_of_mem _ (List.mem_append_left _ (List.mem_of_getElem? (i := 0) rfl))) rfl (gi_c (List.mem_cons_of_mem _ (List.mem_append_left _ (List.mem_of_getElem? (i := 1) rfl))) rfl (gi_c (List.mem_cons_of_mem _ (List.mem_append_left _ (List.mem_of_getElem? (i := 2) rfl))) rfl (gi_c (List.mem_cons_of_mem _ (List.mem_append_left _ (List.mem_of_getElem? (i := 3) rfl))) rfl (goodIn_sub hb_0 (List.all_eq_true.mpr gw_c_isControl)))))) rfl rfl rfl (by decide +kernel) ⟨Nat.le_of_ble_eq_true rfl, Nat.le_of_ble_eq_true rfl⟩) (pr_V (As := [.int p0]) (b := mo) (C := RX9) hP hD hK hS hA hE [0, 1] [] rfl rfl rfl 0 16 rfl rfl rfl) rfl rfl hl.1 rfl (lv_room (Nat.le_of_ble_eq_true rfl)) dX9_areNear_3 ⟨Nat.le_of_ble_eq_true rfl, Nat.le_of_ble_eq_true rfl⟩) hP hD hK hS hA [0, 1] [] rfl rfl (by decide) (by decide) (fun r2 _ H locs w1 hP hD hK hS => ?_)
  have hP : va_P D vwCl [(mo, .inr (16, [.int 5, .int 5, .int th, .ref m1, .ref m2, .ref m3, .ref m4, .ref m5, .ref l1, .ref l2, .ref l3, .int (-1), .ref l4])), (l1, .inr (5, [.int 1, .ref (D.1 1000), .int 0]))] H := hP
  have hD : va_D A [(mo, .inr (16, [.int 5, .int 5, .int th, .ref m1, .ref m2, .ref m3, .ref m4, .ref m5, .ref l1, .ref l2, .ref l3, .int (-1), .ref l4])), (l1, .inr (5, [.int 1, .ref (D.1 1000), .int 0]))] := hD
  have hK : va_K D vwCl [] s := hK
  obtain rfl : r2 = 0 := w1
  refine lv_if_eq (tgt := 21) hx hb dX9_areNear_6 (by decide) (fun h3 => ?_) (fun h3 => absurd (by decide) h3)
  refine lv_iconst (v := 1) hx hb dX9_areNear_21 (by decide) ?_
  refine va_put (D := D) (ci := 16) (v := .int 1) (ty := .int) (C := RX9) (T := TX9) (N := 13) hx hb hts hb_1 tyX9 tyX9_ok nmX9 hown hK hP hD hS 0 rfl rfl 2 (by decide) hw_4 (fun _ h9 => h9) rfl (by decide +kernel) rfl rfl (Nat.le_of_ble_eq_true rfl) dX9_areNear_22 (fun H locs hP hD hS => ?_)
  have hP : va_P D vwCl [(mo, .inr (16, [.int 5, .int 5, .int 1, .ref m1, .ref m2, .ref m3, .ref m4, .ref m5, .ref l1, .ref l2, .ref l3, .int (-1), .ref l4])), (l1, .inr (5, [.int 1, .ref (D.1 1000), .int 0]))] H := hP
  have hD : va_D A [(mo, .inr (16, [.int 5, .int 5, .int 1, .ref m1, .ref m2, .ref m3, .ref m4, .ref m5, .ref l1, .ref l2, .ref l3, .int (-1), .ref l4])), (l1, .inr (5, [.int 1, .ref (D.1 1000), .int 0]))] := hD
  refine lv_aload_n hx hb dX9_areNear_25 rfl (lv_at hl 0 rfl) ?_
  refine va_get (D := D) (ci := 16) (v := .int 1) (C := RX9) (T := TX9) (N := 13) hx hb hts hb_1 hown hK hP 0 rfl rfl 2 (by decide) hw_4 (fun _ h9 => h9) rfl dX9_areNear_26 ?_
  refine lv_if_ne (tgt := 45) hx hb dX9_areNear_29 (by decide) (fun h4 => ?_) (fun h4 => absurd h4 (by decide))
  refine lv_iconst (v := 0) hx hb dX9_areNear_45 (by decide) ?_
  exact mr_z (rfl) hx hb hr (1, fun k9 => [m1, m2, m3, m4, m5, l1, l2, l3, l4].getD k9 0, fun k9 => [5, 5, -1].getD k9 0) (rfl) (hP.sub [0] rfl) (hK.sub [] rfl) (hD.sub [0] (by decide) rfl) hS (Nat.le_of_ble_eq_true rfl) (Nat.le_of_ble_eq_true rfl) hlocks dX9_areNear_46

def us_c_madd : List Cond := .code yX9_add cX9_add 3 (some .int) :: (([.methodLink RX9 178 yX9_isCourse, .instanceMethod yX9_isCourse, .selects RX9 yX9_isCourse yX9_isCourse, .initialized RX9, .methodLink RX9 76 yX9_fails, .instanceMethod yX9_fails, .selects RX9 yX9_fails yX9_fails] : List Cond) ++ (us_c_isCourse ++ (us_c_fails ++ ([]))))
theorem gw_c_madd : ∀ w ∈ us_c_madd, goodWord w = true := gw_cons rfl (gw_app (by decide +kernel) (gw_app gw_c_isCourse (gw_app gw_c_fails (fun _ h => nomatch h))))
set_option maxHeartbeats 4000000 in
set_option maxRecDepth 100000 in
/-- the reference refuses add -/
theorem c_madd (l : Launch) (hst : l.stackTraces = false) (D : va_G) (mo : Nat) (th : Int32) (m1 : Nat) (m2 : Nat) (m3 : Nat) (m4 : Nat) (m5 : Nat) (l1 : Nat) (l2 : Nat) (l3 : Nat) (l4 : Nat) (p0 : Int32) (p1 : Int32) (sz : Nat) : Met l yX9_add us_c_madd { frames := 2, cells := 0, slots := 0, locals := 46 } (pw D [.ref mo, .int p0, .int p1] [] [(mo, .inr (16, [.int 5, .int 5, .int th, .ref m1, .ref m2, .ref m3, .ref m4, .ref m5, .ref l1, .ref l2, .ref l3, .int (-1), .ref l4])), (l2, .inr (5, [.int 1, .ref (D.1 1000), .int 0]))] sz) (va_Qi (fun (_ : Int32) (u : (Int32 × (Nat → Nat) × (Nat → Int32))) => u.1 = 1) (qb D (va_A [(mo, .inr (16, [.int 5, .int 5, .int th, .ref m1, .ref m2, .ref m3, .ref m4, .ref m5, .ref l1, .ref l2, .ref l3, .int (-1), .ref l4])), (l2, .inr (5, [.int 1, .ref (D.1 1000), .int 0]))] sz) (fun u : (Int32 × (Nat → Nat) × (Nat → Int32)) => [(mo, .inr (16, [.int (u.2.2 0), .int (u.2.2 1), .int u.1, .ref (u.2.1 0), .ref (u.2.1 1), .ref (u.2.1 2), .ref (u.2.1 3), .ref (u.2.1 4), .ref (u.2.1 5), .ref (u.2.1 6), .ref (u.2.1 7), .int (u.2.2 2), .ref (u.2.1 8)]))]) (fun u : (Int32 × (Nat → Nat) × (Nat → Int32)) => ([] : List (ClassId × FieldType)))) (va_A [(mo, .inr (16, [.int 5, .int 5, .int th, .ref m1, .ref m2, .ref m3, .ref m4, .ref m5, .ref l1, .ref l2, .ref l3, .int (-1), .ref l4])), (l2, .inr (5, [.int 1, .ref (D.1 1000), .int 0]))] sz)) 0 0 (va_A [(mo, .inr (16, [.int 5, .int 5, .int th, .ref m1, .ref m2, .ref m3, .ref m4, .ref m5, .ref l1, .ref l2, .ref l3, .int (-1), .ref l4])), (l2, .inr (5, [.int 1, .ref (D.1 1000), .int 0]))] sz) := by
  refine op_M (Qc := fun A => (va_Qi (fun (_ : Int32) (u : (Int32 × (Nat → Nat) × (Nat → Int32))) => u.1 = 1) (qb D A (fun u : (Int32 × (Nat → Nat) × (Nat → Int32)) => [(mo, .inr (16, [.int (u.2.2 0), .int (u.2.2 1), .int u.1, .ref (u.2.1 0), .ref (u.2.1 1), .ref (u.2.1 2), .ref (u.2.1 3), .ref (u.2.1 4), .ref (u.2.1 5), .ref (u.2.1 6), .ref (u.2.1 7), .int (u.2.2 2), .ref (u.2.1 8)]))]) (fun u : (Int32 × (Nat → Nat) × (Nat → Int32)) => ([] : List (ClassId × FieldType)))) A)) (by decide +kernel) rfl (Nat.le_of_ble_eq_true rfl) ?_
  intro p e s m args below meth c A ls hx hb hr hml hts hown hlocks hmn htab hA hD hS hP hK hE hsz hl
  have hown : s.vm.findClass RX9 = some m.cls := hown
  have hl : lv_has ls 3 [(0, .ref mo), (1, .int p0), (2, .int p1)] := hl
  have hw_0 := hts (.methodLink RX9 178 yX9_isCourse) (List.mem_cons_of_mem _ (List.mem_append_left _ (List.mem_of_getElem? (i := 0) rfl)))
  have hw_1 := hts (.instanceMethod yX9_isCourse) (List.mem_cons_of_mem _ (List.mem_append_left _ (List.mem_of_getElem? (i := 1) rfl)))
  have hw_2 := hts (.selects RX9 yX9_isCourse yX9_isCourse) (List.mem_cons_of_mem _ (List.mem_append_left _ (List.mem_of_getElem? (i := 2) rfl)))
  have hw_3 := hts (.initialized RX9) (List.mem_cons_of_mem _ (List.mem_append_left _ (List.mem_of_getElem? (i := 3) rfl)))
  have hw_4 := hts (.methodLink RX9 76 yX9_fails) (List.mem_cons_of_mem _ (List.mem_append_left _ (List.mem_of_getElem? (i := 4) rfl)))
  have hw_5 := hts (.instanceMethod yX9_fails) (List.mem_cons_of_mem _ (List.mem_append_left _ (List.mem_of_getElem? (i := 5) rfl)))
  have hw_6 := hts (.selects RX9 yX9_fails yX9_fails) (List.mem_cons_of_mem _ (List.mem_append_left _ (List.mem_of_getElem? (i := 6) rfl)))
  have hb_0 : ∀ w ∈ us_c_isCourse, w ∈ us_c_madd := fun w h => List.mem_cons_of_mem _ (List.mem_append_right _ (List.mem_append_left _ h))
  have hb_1 : ∀ w ∈ us_c_fails, w ∈ us_c_madd := fun w h => List.mem_cons_of_mem _ (List.mem_append_right _ (List.mem_append_right _ (List.mem_append_left _ h)))
  refine lv_aload_n hx hb dX9_add_0 rfl (lv_at hl 0 rfl) ?_
  refine lv_iload_n hx hb dX9_add_1 rfl (lv_at hl 1 rfl) ?_
  refine mc_i (wr := []) (va_runV (As := [.int p0]) (rest := []) ⟨hx, hb, hml, hown, hts⟩ (c_isCourse l hst D mo th m1 m2 m3 m4 m5 l1 l2 l3 l4 p0 s.heap.size) (cwV 1 hts (gi_c (List.mem_cons_of_mem _ (List.mem_append_left _ (List.mem_of_getElem? (i := 0) rfl))) rfl (gi_c (List.mem_cons_of_mem _ (List.mem_append_left _ (List.mem_of_getElem? (i := 1) rfl))) rfl (gi_c (List.mem_cons_of_mem _ (List.mem_append_left _ (List.mem_of_getElem? (i := 2) rfl))) rfl (gi_c (List.mem_cons_of_mem _ (List.mem_append_left _ (List.mem_of_getElem? (i := 3) rfl))) rfl (goodIn_sub hb_0 (List.all_eq_true.mpr gw_c_isCourse)))))) rfl rfl rfl (by decide +kernel) ⟨Nat.le_of_ble_eq_true rfl, Nat.le_of_ble_eq_true rfl⟩) (pr_V (As := [.int p0]) (b := mo) (C := RX9) hP hD hK hS hA hE [0, 1] [] rfl rfl rfl 0 16 rfl rfl rfl) rfl rfl hl.1 rfl (lv_room (Nat.le_of_ble_eq_true rfl)) dX9_add_2 ⟨Nat.le_of_ble_eq_true rfl, Nat.le_of_ble_eq_true rfl⟩) hP hD hK hS hA [0, 1] [] rfl rfl (by decide) (by decide) (fun r2 _ H locs w1 hP hD hK hS => ?_)
  have hP : va_P D vwCl [(mo, .inr (16, [.int 5, .int 5, .int th, .ref m1, .ref m2, .ref m3, .ref m4, .ref m5, .ref l1, .ref l2, .ref l3, .int (-1), .ref l4])), (l2, .inr (5, [.int 1, .ref (D.1 1000), .int 0]))] H := hP
  have hD : va_D A [(mo, .inr (16, [.int 5, .int 5, .int th, .ref m1, .ref m2, .ref m3, .ref m4, .ref m5, .ref l1, .ref l2, .ref l3, .int (-1), .ref l4])), (l2, .inr (5, [.int 1, .ref (D.1 1000), .int 0]))] := hD
  have hK : va_K D vwCl [] s := hK
  obtain rfl : r2 = 0 := w1
  refine lv_if_eq (tgt := 16) hx hb dX9_add_5 (by decide) (fun h3 => ?_) (fun h3 => absurd (by decide) h3)
  refine lv_aload_n hx hb dX9_add_16 rfl (lv_at hl 0 rfl) ?_
  refine lv_iconst (v := 1) hx hb dX9_add_17 (by decide) ?_
  refine mc_i (wr := [(l2, .inr (5, [.int 1, .ref (D.1 1000), .int 0]))]) (va_runV (As := [.int 1]) (rest := []) ⟨hx, hb, hml, hown, hts⟩ (c_fails l hst D mo 5 5 th m1 m2 m3 m4 m5 l1 l2 l3 (-1) l4 1 H.size) (cwV 1 hts (gi_c (List.mem_cons_of_mem _ (List.mem_append_left _ (List.mem_of_getElem? (i := 4) rfl))) rfl (gi_c (List.mem_cons_of_mem _ (List.mem_append_left _ (List.mem_of_getElem? (i := 5) rfl))) rfl (gi_c (List.mem_cons_of_mem _ (List.mem_append_left _ (List.mem_of_getElem? (i := 6) rfl))) rfl (gi_c (List.mem_cons_of_mem _ (List.mem_append_left _ (List.mem_of_getElem? (i := 3) rfl))) rfl (goodIn_sub hb_1 (List.all_eq_true.mpr gw_c_fails)))))) rfl rfl rfl (by decide +kernel) ⟨Nat.le_of_ble_eq_true rfl, Nat.le_of_ble_eq_true rfl⟩) (pr_V (As := [.int 1]) (b := mo) (C := RX9) hP hD hK hS hA hE [0] [] rfl rfl rfl 0 16 rfl rfl rfl) rfl rfl hl.1 rfl (lv_room (Nat.le_of_ble_eq_true rfl)) dX9_add_18 ⟨Nat.le_of_ble_eq_true rfl, Nat.le_of_ble_eq_true rfl⟩) hP hD hK hS hA [0] [1] rfl rfl (by decide) (by decide) (fun r5 _ H locs w4 hP hD hK hS => ?_)
  have hP : va_P D vwCl [(l2, .inr (5, [.int 1, .ref (D.1 1000), .int 0])), (mo, .inr (16, [.int 5, .int 5, .int 1, .ref m1, .ref m2, .ref m3, .ref m4, .ref m5, .ref l1, .ref l2, .ref l3, .int (-1), .ref l4]))] H := hP
  have hD : va_D A [(l2, .inr (5, [.int 1, .ref (D.1 1000), .int 0])), (mo, .inr (16, [.int 5, .int 5, .int 1, .ref m1, .ref m2, .ref m3, .ref m4, .ref m5, .ref l1, .ref l2, .ref l3, .int (-1), .ref l4]))] := hD
  have hK : va_K D vwCl [] s := hK
  obtain rfl : r5 = 0 := w4
  exact mr_i hx hb hr (1, fun k9 => [m1, m2, m3, m4, m5, l1, l2, l3, l4].getD k9 0, fun k9 => [5, 5, -1].getD k9 0) (rfl) (hP.sub [1] rfl) (hK.sub [] rfl) (hD.sub [1] (by decide) rfl) hS (Nat.le_of_ble_eq_true rfl) (Nat.le_of_ble_eq_true rfl) hlocks dX9_add_21

def us_c_mfork : List Cond := .code yX9_fork cX9_fork 4 (some .int) :: (([.methodLink RX9 178 yX9_isCourse, .instanceMethod yX9_isCourse, .selects RX9 yX9_isCourse yX9_isCourse, .initialized RX9, .methodLink RX9 76 yX9_fails, .instanceMethod yX9_fails, .selects RX9 yX9_fails yX9_fails] : List Cond) ++ (us_c_isCourse ++ (us_c_fails ++ ([]))))
theorem gw_c_mfork : ∀ w ∈ us_c_mfork, goodWord w = true := gw_cons rfl (gw_app (by decide +kernel) (gw_app gw_c_isCourse (gw_app gw_c_fails (fun _ h => nomatch h))))
set_option maxHeartbeats 4000000 in
set_option maxRecDepth 100000 in
/-- the reference refuses fork -/
theorem c_mfork (l : Launch) (hst : l.stackTraces = false) (D : va_G) (mo : Nat) (th : Int32) (m1 : Nat) (m2 : Nat) (m3 : Nat) (m4 : Nat) (m5 : Nat) (l1 : Nat) (l2 : Nat) (l3 : Nat) (l4 : Nat) (p0 : Int32) (p1 : Int32) (p2 : Int32) (sz : Nat) : Met l yX9_fork us_c_mfork { frames := 2, cells := 0, slots := 0, locals := 46 } (pw D [.ref mo, .int p0, .int p1, .int p2] [] [(mo, .inr (16, [.int 5, .int 5, .int th, .ref m1, .ref m2, .ref m3, .ref m4, .ref m5, .ref l1, .ref l2, .ref l3, .int (-1), .ref l4])), (l2, .inr (5, [.int 1, .ref (D.1 1000), .int 0]))] sz) (va_Qi (fun (_ : Int32) (u : (Int32 × (Nat → Nat) × (Nat → Int32))) => u.1 = 1) (qb D (va_A [(mo, .inr (16, [.int 5, .int 5, .int th, .ref m1, .ref m2, .ref m3, .ref m4, .ref m5, .ref l1, .ref l2, .ref l3, .int (-1), .ref l4])), (l2, .inr (5, [.int 1, .ref (D.1 1000), .int 0]))] sz) (fun u : (Int32 × (Nat → Nat) × (Nat → Int32)) => [(mo, .inr (16, [.int (u.2.2 0), .int (u.2.2 1), .int u.1, .ref (u.2.1 0), .ref (u.2.1 1), .ref (u.2.1 2), .ref (u.2.1 3), .ref (u.2.1 4), .ref (u.2.1 5), .ref (u.2.1 6), .ref (u.2.1 7), .int (u.2.2 2), .ref (u.2.1 8)]))]) (fun u : (Int32 × (Nat → Nat) × (Nat → Int32)) => ([] : List (ClassId × FieldType)))) (va_A [(mo, .inr (16, [.int 5, .int 5, .int th, .ref m1, .ref m2, .ref m3, .ref m4, .ref m5, .ref l1, .ref l2, .ref l3, .int (-1), .ref l4])), (l2, .inr (5, [.int 1, .ref (D.1 1000), .int 0]))] sz)) 0 0 (va_A [(mo, .inr (16, [.int 5, .int 5, .int th, .ref m1, .ref m2, .ref m3, .ref m4, .ref m5, .ref l1, .ref l2, .ref l3, .int (-1), .ref l4])), (l2, .inr (5, [.int 1, .ref (D.1 1000), .int 0]))] sz) := by
  refine op_M (Qc := fun A => (va_Qi (fun (_ : Int32) (u : (Int32 × (Nat → Nat) × (Nat → Int32))) => u.1 = 1) (qb D A (fun u : (Int32 × (Nat → Nat) × (Nat → Int32)) => [(mo, .inr (16, [.int (u.2.2 0), .int (u.2.2 1), .int u.1, .ref (u.2.1 0), .ref (u.2.1 1), .ref (u.2.1 2), .ref (u.2.1 3), .ref (u.2.1 4), .ref (u.2.1 5), .ref (u.2.1 6), .ref (u.2.1 7), .int (u.2.2 2), .ref (u.2.1 8)]))]) (fun u : (Int32 × (Nat → Nat) × (Nat → Int32)) => ([] : List (ClassId × FieldType)))) A)) (by decide +kernel) rfl (Nat.le_of_ble_eq_true rfl) ?_
  intro p e s m args below meth c A ls hx hb hr hml hts hown hlocks hmn htab hA hD hS hP hK hE hsz hl
  have hown : s.vm.findClass RX9 = some m.cls := hown
  have hl : lv_has ls 4 [(0, .ref mo), (1, .int p0), (2, .int p1), (3, .int p2)] := hl
  have hw_0 := hts (.methodLink RX9 178 yX9_isCourse) (List.mem_cons_of_mem _ (List.mem_append_left _ (List.mem_of_getElem? (i := 0) rfl)))
  have hw_1 := hts (.instanceMethod yX9_isCourse) (List.mem_cons_of_mem _ (List.mem_append_left _ (List.mem_of_getElem? (i := 1) rfl)))
  have hw_2 := hts (.selects RX9 yX9_isCourse yX9_isCourse) (List.mem_cons_of_mem _ (List.mem_append_left _ (List.mem_of_getElem? (i := 2) rfl)))
  have hw_3 := hts (.initialized RX9) (List.mem_cons_of_mem _ (List.mem_append_left _ (List.mem_of_getElem? (i := 3) rfl)))
  have hw_4 := hts (.methodLink RX9 76 yX9_fails) (List.mem_cons_of_mem _ (List.mem_append_left _ (List.mem_of_getElem? (i := 4) rfl)))
  have hw_5 := hts (.instanceMethod yX9_fails) (List.mem_cons_of_mem _ (List.mem_append_left _ (List.mem_of_getElem? (i := 5) rfl)))
  have hw_6 := hts (.selects RX9 yX9_fails yX9_fails) (List.mem_cons_of_mem _ (List.mem_append_left _ (List.mem_of_getElem? (i := 6) rfl)))
  have hb_0 : ∀ w ∈ us_c_isCourse, w ∈ us_c_mfork := fun w h => List.mem_cons_of_mem _ (List.mem_append_right _ (List.mem_append_left _ h))
  have hb_1 : ∀ w ∈ us_c_fails, w ∈ us_c_mfork := fun w h => List.mem_cons_of_mem _ (List.mem_append_right _ (List.mem_append_right _ (List.mem_append_left _ h)))
  refine lv_aload_n hx hb dX9_fork_0 rfl (lv_at hl 0 rfl) ?_
  refine lv_iload_n hx hb dX9_fork_1 rfl (lv_at hl 1 rfl) ?_
  refine mc_i (wr := []) (va_runV (As := [.int p0]) (rest := []) ⟨hx, hb, hml, hown, hts⟩ (c_isCourse l hst D mo th m1 m2 m3 m4 m5 l1 l2 l3 l4 p0 s.heap.size) (cwV 1 hts (gi_c (List.mem_cons_of_mem _ (List.mem_append_left _ (List.mem_of_getElem? (i := 0) rfl))) rfl (gi_c (List.mem_cons_of_mem _ (List.mem_append_left _ (List.mem_of_getElem? (i := 1) rfl))) rfl (gi_c (List.mem_cons_of_mem _ (List.mem_append_left _ (List.mem_of_getElem? (i := 2) rfl))) rfl (gi_c (List.mem_cons_of_mem _ (List.mem_append_left _ (List.mem_of_getElem? (i := 3) rfl))) rfl (goodIn_sub hb_0 (List.all_eq_true.mpr gw_c_isCourse)))))) rfl rfl rfl (by decide +kernel) ⟨Nat.le_of_ble_eq_true rfl, Nat.le_of_ble_eq_true rfl⟩) (pr_V (As := [.int p0]) (b := mo) (C := RX9) hP hD hK hS hA hE [0, 1] [] rfl rfl rfl 0 16 rfl rfl rfl) rfl rfl hl.1 rfl (lv_room (Nat.le_of_ble_eq_true rfl)) dX9_fork_2 ⟨Nat.le_of_ble_eq_true rfl, Nat.le_of_ble_eq_true rfl⟩) hP hD hK hS hA [0, 1] [] rfl rfl (by decide) (by decide) (fun r2 _ H locs w1 hP hD hK hS => ?_)
  have hP : va_P D vwCl [(mo, .inr (16, [.int 5, .int 5, .int th, .ref m1, .ref m2, .ref m3, .ref m4, .ref m5, .ref l1, .ref l2, .ref l3, .int (-1), .ref l4])), (l2, .inr (5, [.int 1, .ref (D.1 1000), .int 0]))] H := hP
  have hD : va_D A [(mo, .inr (16, [.int 5, .int 5, .int th, .ref m1, .ref m2, .ref m3, .ref m4, .ref m5, .ref l1, .ref l2, .ref l3, .int (-1), .ref l4])), (l2, .inr (5, [.int 1, .ref (D.1 1000), .int 0]))] := hD
  have hK : va_K D vwCl [] s := hK
  obtain rfl : r2 = 0 := w1
  refine lv_if_eq (tgt := 45) hx hb dX9_fork_5 (by decide) (fun h3 => ?_) (fun h3 => absurd (by decide) h3)
  refine lv_aload_n hx hb dX9_fork_45 rfl (lv_at hl 0 rfl) ?_
  refine lv_iconst (v := 1) hx hb dX9_fork_46 (by decide) ?_
  refine mc_i (wr := [(l2, .inr (5, [.int 1, .ref (D.1 1000), .int 0]))]) (va_runV (As := [.int 1]) (rest := []) ⟨hx, hb, hml, hown, hts⟩ (c_fails l hst D mo 5 5 th m1 m2 m3 m4 m5 l1 l2 l3 (-1) l4 1 H.size) (cwV 1 hts (gi_c (List.mem_cons_of_mem _ (List.mem_append_left _ (List.mem_of_getElem? (i := 4) rfl))) rfl (gi_c (List.mem_cons_of_mem _ (List.mem_append_left _ (List.mem_of_getElem? (i := 5) rfl))) rfl (gi_c (List.mem_cons_of_mem _ (List.mem_append_left _ (List.mem_of_getElem? (i := 6) rfl))) rfl (gi_c (List.mem_cons_of_mem _ (List.mem_append_left _ (List.mem_of_getElem? (i := 3) rfl))) rfl (goodIn_sub hb_1 (List.all_eq_true.mpr gw_c_fails)))))) rfl rfl rfl (by decide +kernel) ⟨Nat.le_of_ble_eq_true rfl, Nat.le_of_ble_eq_true rfl⟩) (pr_V (As := [.int 1]) (b := mo) (C := RX9) hP hD hK hS hA hE [0] [] rfl rfl rfl 0 16 rfl rfl rfl) rfl rfl hl.1 rfl (lv_room (Nat.le_of_ble_eq_true rfl)) dX9_fork_47 ⟨Nat.le_of_ble_eq_true rfl, Nat.le_of_ble_eq_true rfl⟩) hP hD hK hS hA [0] [1] rfl rfl (by decide) (by decide) (fun r5 _ H locs w4 hP hD hK hS => ?_)
  have hP : va_P D vwCl [(l2, .inr (5, [.int 1, .ref (D.1 1000), .int 0])), (mo, .inr (16, [.int 5, .int 5, .int 1, .ref m1, .ref m2, .ref m3, .ref m4, .ref m5, .ref l1, .ref l2, .ref l3, .int (-1), .ref l4]))] H := hP
  have hD : va_D A [(l2, .inr (5, [.int 1, .ref (D.1 1000), .int 0])), (mo, .inr (16, [.int 5, .int 5, .int 1, .ref m1, .ref m2, .ref m3, .ref m4, .ref m5, .ref l1, .ref l2, .ref l3, .int (-1), .ref l4]))] := hD
  have hK : va_K D vwCl [] s := hK
  obtain rfl : r5 = 0 := w4
  exact mr_i hx hb hr (1, fun k9 => [m1, m2, m3, m4, m5, l1, l2, l3, l4].getD k9 0, fun k9 => [5, 5, -1].getD k9 0) (rfl) (hP.sub [1] rfl) (hK.sub [] rfl) (hD.sub [1] (by decide) rfl) hS (Nat.le_of_ble_eq_true rfl) (Nat.le_of_ble_eq_true rfl) hlocks dX9_fork_50

def us_c_misLawful : List Cond := .code yX9_isLawful cX9_isLawful 6 (some .boolean) :: (([.methodLink RX9 178 yX9_isCourse, .instanceMethod yX9_isCourse, .selects RX9 yX9_isCourse yX9_isCourse, .initialized RX9, .fieldLink RX9 16 "ControlWoodModel" "thrown" "I"] : List Cond) ++ (us_c_isCourse ++ (wsX90 ++ ([]))))
theorem gw_c_misLawful : ∀ w ∈ us_c_misLawful, goodWord w = true := gw_cons rfl (gw_app (by decide +kernel) (gw_app gw_c_isCourse (gw_app gwf_X9 (fun _ h => nomatch h))))
set_option maxHeartbeats 4000000 in
set_option maxRecDepth 100000 in
/-- the reference refuses isLawful -/
theorem c_misLawful (l : Launch) (hst : l.stackTraces = false) (D : va_G) (mo : Nat) (th : Int32) (m1 : Nat) (m2 : Nat) (m3 : Nat) (m4 : Nat) (m5 : Nat) (l1 : Nat) (l2 : Nat) (l3 : Nat) (l4 : Nat) (p0 : Int32) (sz : Nat) : Met l yX9_isLawful us_c_misLawful { frames := 2, cells := 0, slots := 0, locals := 46 } (pw D [.ref mo, .int p0] [] [(mo, .inr (16, [.int 5, .int 5, .int th, .ref m1, .ref m2, .ref m3, .ref m4, .ref m5, .ref l1, .ref l2, .ref l3, .int (-1), .ref l4])), (l2, .inr (5, [.int 1, .ref (D.1 1000), .int 0]))] sz) (va_Qi (fun (_ : Int32) (u : (Int32 × (Nat → Nat) × (Nat → Int32))) => u.1 = 1) (qb D (va_A [(mo, .inr (16, [.int 5, .int 5, .int th, .ref m1, .ref m2, .ref m3, .ref m4, .ref m5, .ref l1, .ref l2, .ref l3, .int (-1), .ref l4])), (l2, .inr (5, [.int 1, .ref (D.1 1000), .int 0]))] sz) (fun u : (Int32 × (Nat → Nat) × (Nat → Int32)) => [(mo, .inr (16, [.int (u.2.2 0), .int (u.2.2 1), .int u.1, .ref (u.2.1 0), .ref (u.2.1 1), .ref (u.2.1 2), .ref (u.2.1 3), .ref (u.2.1 4), .ref (u.2.1 5), .ref (u.2.1 6), .ref (u.2.1 7), .int (u.2.2 2), .ref (u.2.1 8)]))]) (fun u : (Int32 × (Nat → Nat) × (Nat → Int32)) => ([] : List (ClassId × FieldType)))) (va_A [(mo, .inr (16, [.int 5, .int 5, .int th, .ref m1, .ref m2, .ref m3, .ref m4, .ref m5, .ref l1, .ref l2, .ref l3, .int (-1), .ref l4])), (l2, .inr (5, [.int 1, .ref (D.1 1000), .int 0]))] sz)) 0 0 (va_A [(mo, .inr (16, [.int 5, .int 5, .int th, .ref m1, .ref m2, .ref m3, .ref m4, .ref m5, .ref l1, .ref l2, .ref l3, .int (-1), .ref l4])), (l2, .inr (5, [.int 1, .ref (D.1 1000), .int 0]))] sz) := by
  refine op_M (Qc := fun A => (va_Qi (fun (_ : Int32) (u : (Int32 × (Nat → Nat) × (Nat → Int32))) => u.1 = 1) (qb D A (fun u : (Int32 × (Nat → Nat) × (Nat → Int32)) => [(mo, .inr (16, [.int (u.2.2 0), .int (u.2.2 1), .int u.1, .ref (u.2.1 0), .ref (u.2.1 1), .ref (u.2.1 2), .ref (u.2.1 3), .ref (u.2.1 4), .ref (u.2.1 5), .ref (u.2.1 6), .ref (u.2.1 7), .int (u.2.2 2), .ref (u.2.1 8)]))]) (fun u : (Int32 × (Nat → Nat) × (Nat → Int32)) => ([] : List (ClassId × FieldType)))) A)) (by decide +kernel) rfl (Nat.le_of_ble_eq_true rfl) ?_
  intro p e s m args below meth c A ls hx hb hr hml hts hown hlocks hmn htab hA hD hS hP hK hE hsz hl
  have hown : s.vm.findClass RX9 = some m.cls := hown
  have hl : lv_has ls 6 [(0, .ref mo), (1, .int p0)] := hl
  have hw_0 := hts (.methodLink RX9 178 yX9_isCourse) (List.mem_cons_of_mem _ (List.mem_append_left _ (List.mem_of_getElem? (i := 0) rfl)))
  have hw_1 := hts (.instanceMethod yX9_isCourse) (List.mem_cons_of_mem _ (List.mem_append_left _ (List.mem_of_getElem? (i := 1) rfl)))
  have hw_2 := hts (.selects RX9 yX9_isCourse yX9_isCourse) (List.mem_cons_of_mem _ (List.mem_append_left _ (List.mem_of_getElem? (i := 2) rfl)))
  have hw_3 := hts (.initialized RX9) (List.mem_cons_of_mem _ (List.mem_append_left _ (List.mem_of_getElem? (i := 3) rfl)))
  have hw_4 := hts (.fieldLink RX9 16 "ControlWoodModel" "thrown" "I") (List.mem_cons_of_mem _ (List.mem_append_left _ (List.mem_of_getElem? (i := 4) rfl)))
  have hb_0 : ∀ w ∈ us_c_isCourse, w ∈ us_c_misLawful := fun w h => List.mem_cons_of_mem _ (List.mem_append_right _ (List.mem_append_left _ h))
  have hb_1 : ∀ w ∈ wsX90, w ∈ us_c_misLawful := fun w h => List.mem_cons_of_mem _ (List.mem_append_right _ (List.mem_append_right _ (List.mem_append_left _ h)))
  refine lv_aload_n hx hb dX9_isLawful_0 rfl (lv_at hl 0 rfl) ?_
  refine lv_aload_n hx hb dX9_isLawful_1 rfl (lv_at hl 0 rfl) ?_
  refine lv_iload_n hx hb dX9_isLawful_2 rfl (lv_at hl 1 rfl) ?_
  refine mc_i (wr := []) (va_runV (As := [.int p0]) (rest := [.ref mo]) ⟨hx, hb, hml, hown, hts⟩ (c_isCourse l hst D mo th m1 m2 m3 m4 m5 l1 l2 l3 l4 p0 s.heap.size) (cwV 1 hts (gi_c (List.mem_cons_of_mem _ (List.mem_append_left _ (List.mem_of_getElem? (i := 0) rfl))) rfl (gi_c (List.mem_cons_of_mem _ (List.mem_append_left _ (List.mem_of_getElem? (i := 1) rfl))) rfl (gi_c (List.mem_cons_of_mem _ (List.mem_append_left _ (List.mem_of_getElem? (i := 2) rfl))) rfl (gi_c (List.mem_cons_of_mem _ (List.mem_append_left _ (List.mem_of_getElem? (i := 3) rfl))) rfl (goodIn_sub hb_0 (List.all_eq_true.mpr gw_c_isCourse)))))) rfl rfl rfl (by decide +kernel) ⟨Nat.le_of_ble_eq_true rfl, Nat.le_of_ble_eq_true rfl⟩) (pr_V (As := [.int p0]) (b := mo) (C := RX9) hP hD hK hS hA hE [0, 1] [] rfl rfl rfl 0 16 rfl rfl rfl) rfl rfl hl.1 rfl (lv_room (Nat.le_of_ble_eq_true rfl)) dX9_isLawful_3 ⟨Nat.le_of_ble_eq_true rfl, Nat.le_of_ble_eq_true rfl⟩) hP hD hK hS hA [0, 1] [] rfl rfl (by decide) (by decide) (fun r2 _ H locs w1 hP hD hK hS => ?_)
  have hP : va_P D vwCl [(mo, .inr (16, [.int 5, .int 5, .int th, .ref m1, .ref m2, .ref m3, .ref m4, .ref m5, .ref l1, .ref l2, .ref l3, .int (-1), .ref l4])), (l2, .inr (5, [.int 1, .ref (D.1 1000), .int 0]))] H := hP
  have hD : va_D A [(mo, .inr (16, [.int 5, .int 5, .int th, .ref m1, .ref m2, .ref m3, .ref m4, .ref m5, .ref l1, .ref l2, .ref l3, .int (-1), .ref l4])), (l2, .inr (5, [.int 1, .ref (D.1 1000), .int 0]))] := hD
  have hK : va_K D vwCl [] s := hK
  obtain rfl : r2 = 0 := w1
  refine lv_if_eq (tgt := 13) hx hb dX9_isLawful_6 (by decide) (fun h3 => ?_) (fun h3 => absurd (by decide) h3)
  refine lv_iconst (v := 1) hx hb dX9_isLawful_13 (by decide) ?_
  refine va_put (D := D) (ci := 16) (v := .int 1) (ty := .int) (C := RX9) (T := TX9) (N := 13) hx hb hts hb_1 tyX9 tyX9_ok nmX9 hown hK hP hD hS 0 rfl rfl 2 (by decide) hw_4 (fun _ h9 => h9) rfl (by decide +kernel) rfl rfl (Nat.le_of_ble_eq_true rfl) dX9_isLawful_14 (fun H locs hP hD hS => ?_)
  have hP : va_P D vwCl [(mo, .inr (16, [.int 5, .int 5, .int 1, .ref m1, .ref m2, .ref m3, .ref m4, .ref m5, .ref l1, .ref l2, .ref l3, .int (-1), .ref l4])), (l2, .inr (5, [.int 1, .ref (D.1 1000), .int 0]))] H := hP
  have hD : va_D A [(mo, .inr (16, [.int 5, .int 5, .int 1, .ref m1, .ref m2, .ref m3, .ref m4, .ref m5, .ref l1, .ref l2, .ref l3, .int (-1), .ref l4])), (l2, .inr (5, [.int 1, .ref (D.1 1000), .int 0]))] := hD
  refine lv_aload_n hx hb dX9_isLawful_17 rfl (lv_at hl 0 rfl) ?_
  refine va_get (D := D) (ci := 16) (v := .int 1) (C := RX9) (T := TX9) (N := 13) hx hb hts hb_1 hown hK hP 0 rfl rfl 2 (by decide) hw_4 (fun _ h9 => h9) rfl dX9_isLawful_18 ?_
  refine lv_if_le (tgt := 26) hx hb dX9_isLawful_21 (by decide) (fun h4 => absurd h4 (by decide)) (fun h4 => ?_)
  refine lv_iconst (v := 0) hx hb dX9_isLawful_24 (by decide) ?_
  exact mr_z (rfl) hx hb hr (1, fun k9 => [m1, m2, m3, m4, m5, l1, l2, l3, l4].getD k9 0, fun k9 => [5, 5, -1].getD k9 0) (rfl) (hP.sub [0] rfl) (hK.sub [] rfl) (hD.sub [0] (by decide) rfl) hS (Nat.le_of_ble_eq_true rfl) (Nat.le_of_ble_eq_true rfl) hlocks dX9_isLawful_25

def us_c_mlengthOf : List Cond := .code yX9_lengthOf_ cX9_lengthOf_ 3 (some .int) :: (([.methodLink RX9 178 yX9_isCourse, .instanceMethod yX9_isCourse, .selects RX9 yX9_isCourse yX9_isCourse, .initialized RX9, .methodLink RX9 76 yX9_fails, .instanceMethod yX9_fails, .selects RX9 yX9_fails yX9_fails] : List Cond) ++ (us_c_isCourse ++ (us_c_fails ++ ([]))))
theorem gw_c_mlengthOf : ∀ w ∈ us_c_mlengthOf, goodWord w = true := gw_cons rfl (gw_app (by decide +kernel) (gw_app gw_c_isCourse (gw_app gw_c_fails (fun _ h => nomatch h))))
set_option maxHeartbeats 4000000 in
set_option maxRecDepth 100000 in
/-- the reference refuses lengthOf -/
theorem c_mlengthOf (l : Launch) (hst : l.stackTraces = false) (D : va_G) (mo : Nat) (th : Int32) (m1 : Nat) (m2 : Nat) (m3 : Nat) (m4 : Nat) (m5 : Nat) (l1 : Nat) (l2 : Nat) (l3 : Nat) (l4 : Nat) (p0 : Int32) (sz : Nat) : Met l yX9_lengthOf_ us_c_mlengthOf { frames := 2, cells := 0, slots := 0, locals := 46 } (pw D [.ref mo, .int p0] [] [(mo, .inr (16, [.int 5, .int 5, .int th, .ref m1, .ref m2, .ref m3, .ref m4, .ref m5, .ref l1, .ref l2, .ref l3, .int (-1), .ref l4])), (l2, .inr (5, [.int 1, .ref (D.1 1000), .int 0]))] sz) (va_Qi (fun (_ : Int32) (u : (Int32 × (Nat → Nat) × (Nat → Int32))) => u.1 = 1) (qb D (va_A [(mo, .inr (16, [.int 5, .int 5, .int th, .ref m1, .ref m2, .ref m3, .ref m4, .ref m5, .ref l1, .ref l2, .ref l3, .int (-1), .ref l4])), (l2, .inr (5, [.int 1, .ref (D.1 1000), .int 0]))] sz) (fun u : (Int32 × (Nat → Nat) × (Nat → Int32)) => [(mo, .inr (16, [.int (u.2.2 0), .int (u.2.2 1), .int u.1, .ref (u.2.1 0), .ref (u.2.1 1), .ref (u.2.1 2), .ref (u.2.1 3), .ref (u.2.1 4), .ref (u.2.1 5), .ref (u.2.1 6), .ref (u.2.1 7), .int (u.2.2 2), .ref (u.2.1 8)]))]) (fun u : (Int32 × (Nat → Nat) × (Nat → Int32)) => ([] : List (ClassId × FieldType)))) (va_A [(mo, .inr (16, [.int 5, .int 5, .int th, .ref m1, .ref m2, .ref m3, .ref m4, .ref m5, .ref l1, .ref l2, .ref l3, .int (-1), .ref l4])), (l2, .inr (5, [.int 1, .ref (D.1 1000), .int 0]))] sz)) 0 0 (va_A [(mo, .inr (16, [.int 5, .int 5, .int th, .ref m1, .ref m2, .ref m3, .ref m4, .ref m5, .ref l1, .ref l2, .ref l3, .int (-1), .ref l4])), (l2, .inr (5, [.int 1, .ref (D.1 1000), .int 0]))] sz) := by
  refine op_M (Qc := fun A => (va_Qi (fun (_ : Int32) (u : (Int32 × (Nat → Nat) × (Nat → Int32))) => u.1 = 1) (qb D A (fun u : (Int32 × (Nat → Nat) × (Nat → Int32)) => [(mo, .inr (16, [.int (u.2.2 0), .int (u.2.2 1), .int u.1, .ref (u.2.1 0), .ref (u.2.1 1), .ref (u.2.1 2), .ref (u.2.1 3), .ref (u.2.1 4), .ref (u.2.1 5), .ref (u.2.1 6), .ref (u.2.1 7), .int (u.2.2 2), .ref (u.2.1 8)]))]) (fun u : (Int32 × (Nat → Nat) × (Nat → Int32)) => ([] : List (ClassId × FieldType)))) A)) (by decide +kernel) rfl (Nat.le_of_ble_eq_true rfl) ?_
  intro p e s m args below meth c A ls hx hb hr hml hts hown hlocks hmn htab hA hD hS hP hK hE hsz hl
  have hown : s.vm.findClass RX9 = some m.cls := hown
  have hl : lv_has ls 3 [(0, .ref mo), (1, .int p0)] := hl
  have hw_0 := hts (.methodLink RX9 178 yX9_isCourse) (List.mem_cons_of_mem _ (List.mem_append_left _ (List.mem_of_getElem? (i := 0) rfl)))
  have hw_1 := hts (.instanceMethod yX9_isCourse) (List.mem_cons_of_mem _ (List.mem_append_left _ (List.mem_of_getElem? (i := 1) rfl)))
  have hw_2 := hts (.selects RX9 yX9_isCourse yX9_isCourse) (List.mem_cons_of_mem _ (List.mem_append_left _ (List.mem_of_getElem? (i := 2) rfl)))
  have hw_3 := hts (.initialized RX9) (List.mem_cons_of_mem _ (List.mem_append_left _ (List.mem_of_getElem? (i := 3) rfl)))
  have hw_4 := hts (.methodLink RX9 76 yX9_fails) (List.mem_cons_of_mem _ (List.mem_append_left _ (List.mem_of_getElem? (i := 4) rfl)))
  have hw_5 := hts (.instanceMethod yX9_fails) (List.mem_cons_of_mem _ (List.mem_append_left _ (List.mem_of_getElem? (i := 5) rfl)))
  have hw_6 := hts (.selects RX9 yX9_fails yX9_fails) (List.mem_cons_of_mem _ (List.mem_append_left _ (List.mem_of_getElem? (i := 6) rfl)))
  have hb_0 : ∀ w ∈ us_c_isCourse, w ∈ us_c_mlengthOf := fun w h => List.mem_cons_of_mem _ (List.mem_append_right _ (List.mem_append_left _ h))
  have hb_1 : ∀ w ∈ us_c_fails, w ∈ us_c_mlengthOf := fun w h => List.mem_cons_of_mem _ (List.mem_append_right _ (List.mem_append_right _ (List.mem_append_left _ h)))
  refine lv_aload_n hx hb dX9_lengthOf__0 rfl (lv_at hl 0 rfl) ?_
  refine lv_iload_n hx hb dX9_lengthOf__1 rfl (lv_at hl 1 rfl) ?_
  refine mc_i (wr := []) (va_runV (As := [.int p0]) (rest := []) ⟨hx, hb, hml, hown, hts⟩ (c_isCourse l hst D mo th m1 m2 m3 m4 m5 l1 l2 l3 l4 p0 s.heap.size) (cwV 1 hts (gi_c (List.mem_cons_of_mem _ (List.mem_append_left _ (List.mem_of_getElem? (i := 0) rfl))) rfl (gi_c (List.mem_cons_of_mem _ (List.mem_append_left _ (List.mem_of_getElem? (i := 1) rfl))) rfl (gi_c (List.mem_cons_of_mem _ (List.mem_append_left _ (List.mem_of_getElem? (i := 2) rfl))) rfl (gi_c (List.mem_cons_of_mem _ (List.mem_append_left _ (List.mem_of_getElem? (i := 3) rfl))) rfl (goodIn_sub hb_0 (List.all_eq_true.mpr gw_c_isCourse)))))) rfl rfl rfl (by decide +kernel) ⟨Nat.le_of_ble_eq_true rfl, Nat.le_of_ble_eq_true rfl⟩) (pr_V (As := [.int p0]) (b := mo) (C := RX9) hP hD hK hS hA hE [0, 1] [] rfl rfl rfl 0 16 rfl rfl rfl) rfl rfl hl.1 rfl (lv_room (Nat.le_of_ble_eq_true rfl)) dX9_lengthOf__2 ⟨Nat.le_of_ble_eq_true rfl, Nat.le_of_ble_eq_true rfl⟩) hP hD hK hS hA [0, 1] [] rfl rfl (by decide) (by decide) (fun r2 _ H locs w1 hP hD hK hS => ?_)
  have hP : va_P D vwCl [(mo, .inr (16, [.int 5, .int 5, .int th, .ref m1, .ref m2, .ref m3, .ref m4, .ref m5, .ref l1, .ref l2, .ref l3, .int (-1), .ref l4])), (l2, .inr (5, [.int 1, .ref (D.1 1000), .int 0]))] H := hP
  have hD : va_D A [(mo, .inr (16, [.int 5, .int 5, .int th, .ref m1, .ref m2, .ref m3, .ref m4, .ref m5, .ref l1, .ref l2, .ref l3, .int (-1), .ref l4])), (l2, .inr (5, [.int 1, .ref (D.1 1000), .int 0]))] := hD
  have hK : va_K D vwCl [] s := hK
  obtain rfl : r2 = 0 := w1
  refine lv_if_ne (tgt := 14) hx hb dX9_lengthOf__5 (by decide) (fun h3 => absurd (by decide) h3) (fun h3 => ?_)
  refine lv_aload_n hx hb dX9_lengthOf__8 rfl (lv_at hl 0 rfl) ?_
  refine lv_iconst (v := 1) hx hb dX9_lengthOf__9 (by decide) ?_
  refine mc_i (wr := [(l2, .inr (5, [.int 1, .ref (D.1 1000), .int 0]))]) (va_runV (As := [.int 1]) (rest := []) ⟨hx, hb, hml, hown, hts⟩ (c_fails l hst D mo 5 5 th m1 m2 m3 m4 m5 l1 l2 l3 (-1) l4 1 H.size) (cwV 1 hts (gi_c (List.mem_cons_of_mem _ (List.mem_append_left _ (List.mem_of_getElem? (i := 4) rfl))) rfl (gi_c (List.mem_cons_of_mem _ (List.mem_append_left _ (List.mem_of_getElem? (i := 5) rfl))) rfl (gi_c (List.mem_cons_of_mem _ (List.mem_append_left _ (List.mem_of_getElem? (i := 6) rfl))) rfl (gi_c (List.mem_cons_of_mem _ (List.mem_append_left _ (List.mem_of_getElem? (i := 3) rfl))) rfl (goodIn_sub hb_1 (List.all_eq_true.mpr gw_c_fails)))))) rfl rfl rfl (by decide +kernel) ⟨Nat.le_of_ble_eq_true rfl, Nat.le_of_ble_eq_true rfl⟩) (pr_V (As := [.int 1]) (b := mo) (C := RX9) hP hD hK hS hA hE [0] [] rfl rfl rfl 0 16 rfl rfl rfl) rfl rfl hl.1 rfl (lv_room (Nat.le_of_ble_eq_true rfl)) dX9_lengthOf__10 ⟨Nat.le_of_ble_eq_true rfl, Nat.le_of_ble_eq_true rfl⟩) hP hD hK hS hA [0] [1] rfl rfl (by decide) (by decide) (fun r5 _ H locs w4 hP hD hK hS => ?_)
  have hP : va_P D vwCl [(l2, .inr (5, [.int 1, .ref (D.1 1000), .int 0])), (mo, .inr (16, [.int 5, .int 5, .int 1, .ref m1, .ref m2, .ref m3, .ref m4, .ref m5, .ref l1, .ref l2, .ref l3, .int (-1), .ref l4]))] H := hP
  have hD : va_D A [(l2, .inr (5, [.int 1, .ref (D.1 1000), .int 0])), (mo, .inr (16, [.int 5, .int 5, .int 1, .ref m1, .ref m2, .ref m3, .ref m4, .ref m5, .ref l1, .ref l2, .ref l3, .int (-1), .ref l4]))] := hD
  have hK : va_K D vwCl [] s := hK
  obtain rfl : r5 = 0 := w4
  exact mr_i hx hb hr (1, fun k9 => [m1, m2, m3, m4, m5, l1, l2, l3, l4].getD k9 0, fun k9 => [5, 5, -1].getD k9 0) (rfl) (hP.sub [1] rfl) (hK.sub [] rfl) (hD.sub [1] (by decide) rfl) hS (Nat.le_of_ble_eq_true rfl) (Nat.le_of_ble_eq_true rfl) hlocks dX9_lengthOf__13

def us_c_mbranches : List Cond := .code yX9_branches cX9_branches 5 (some .int) :: (([.methodLink RX9 227 yX9_isRunner, .instanceMethod yX9_isRunner, .selects RX9 yX9_isRunner yX9_isRunner, .initialized RX9, .methodLink RX9 76 yX9_fails, .instanceMethod yX9_fails, .selects RX9 yX9_fails yX9_fails] : List Cond) ++ (us_c_isRunner ++ (us_c_fails ++ ([]))))
theorem gw_c_mbranches : ∀ w ∈ us_c_mbranches, goodWord w = true := gw_cons rfl (gw_app (by decide +kernel) (gw_app gw_c_isRunner (gw_app gw_c_fails (fun _ h => nomatch h))))
set_option maxHeartbeats 4000000 in
set_option maxRecDepth 100000 in
/-- the reference refuses branches -/
theorem c_mbranches (l : Launch) (hst : l.stackTraces = false) (D : va_G) (mo : Nat) (th : Int32) (m1 : Nat) (m2 : Nat) (m3 : Nat) (m4 : Nat) (m5 : Nat) (l1 : Nat) (l2 : Nat) (l3 : Nat) (l4 : Nat) (p0 : Int32) (p1 : Int32) (sz : Nat) : Met l yX9_branches us_c_mbranches { frames := 2, cells := 0, slots := 0, locals := 46 } (pw D [.ref mo, .int p0, .int p1] [] [(mo, .inr (16, [.int 5, .int 5, .int th, .ref m1, .ref m2, .ref m3, .ref m4, .ref m5, .ref l1, .ref l2, .ref l3, .int (-1), .ref l4])), (l3, .inr (5, [.int 1, .ref (D.1 1000), .int 0]))] sz) (va_Qi (fun (_ : Int32) (u : (Int32 × (Nat → Nat) × (Nat → Int32))) => u.1 = 1) (qb D (va_A [(mo, .inr (16, [.int 5, .int 5, .int th, .ref m1, .ref m2, .ref m3, .ref m4, .ref m5, .ref l1, .ref l2, .ref l3, .int (-1), .ref l4])), (l3, .inr (5, [.int 1, .ref (D.1 1000), .int 0]))] sz) (fun u : (Int32 × (Nat → Nat) × (Nat → Int32)) => [(mo, .inr (16, [.int (u.2.2 0), .int (u.2.2 1), .int u.1, .ref (u.2.1 0), .ref (u.2.1 1), .ref (u.2.1 2), .ref (u.2.1 3), .ref (u.2.1 4), .ref (u.2.1 5), .ref (u.2.1 6), .ref (u.2.1 7), .int (u.2.2 2), .ref (u.2.1 8)]))]) (fun u : (Int32 × (Nat → Nat) × (Nat → Int32)) => ([] : List (ClassId × FieldType)))) (va_A [(mo, .inr (16, [.int 5, .int 5, .int th, .ref m1, .ref m2, .ref m3, .ref m4, .ref m5, .ref l1, .ref l2, .ref l3, .int (-1), .ref l4])), (l3, .inr (5, [.int 1, .ref (D.1 1000), .int 0]))] sz)) 0 0 (va_A [(mo, .inr (16, [.int 5, .int 5, .int th, .ref m1, .ref m2, .ref m3, .ref m4, .ref m5, .ref l1, .ref l2, .ref l3, .int (-1), .ref l4])), (l3, .inr (5, [.int 1, .ref (D.1 1000), .int 0]))] sz) := by
  refine op_M (Qc := fun A => (va_Qi (fun (_ : Int32) (u : (Int32 × (Nat → Nat) × (Nat → Int32))) => u.1 = 1) (qb D A (fun u : (Int32 × (Nat → Nat) × (Nat → Int32)) => [(mo, .inr (16, [.int (u.2.2 0), .int (u.2.2 1), .int u.1, .ref (u.2.1 0), .ref (u.2.1 1), .ref (u.2.1 2), .ref (u.2.1 3), .ref (u.2.1 4), .ref (u.2.1 5), .ref (u.2.1 6), .ref (u.2.1 7), .int (u.2.2 2), .ref (u.2.1 8)]))]) (fun u : (Int32 × (Nat → Nat) × (Nat → Int32)) => ([] : List (ClassId × FieldType)))) A)) (by decide +kernel) rfl (Nat.le_of_ble_eq_true rfl) ?_
  intro p e s m args below meth c A ls hx hb hr hml hts hown hlocks hmn htab hA hD hS hP hK hE hsz hl
  have hown : s.vm.findClass RX9 = some m.cls := hown
  have hl : lv_has ls 5 [(0, .ref mo), (1, .int p0), (2, .int p1)] := hl
  have hw_0 := hts (.methodLink RX9 227 yX9_isRunner) (List.mem_cons_of_mem _ (List.mem_append_left _ (List.mem_of_getElem? (i := 0) rfl)))
  have hw_1 := hts (.instanceMethod yX9_isRunner) (List.mem_cons_of_mem _ (List.mem_append_left _ (List.mem_of_getElem? (i := 1) rfl)))
  have hw_2 := hts (.selects RX9 yX9_isRunner yX9_isRunner) (List.mem_cons_of_mem _ (List.mem_append_left _ (List.mem_of_getElem? (i := 2) rfl)))
  have hw_3 := hts (.initialized RX9) (List.mem_cons_of_mem _ (List.mem_append_left _ (List.mem_of_getElem? (i := 3) rfl)))
  have hw_4 := hts (.methodLink RX9 76 yX9_fails) (List.mem_cons_of_mem _ (List.mem_append_left _ (List.mem_of_getElem? (i := 4) rfl)))
  have hw_5 := hts (.instanceMethod yX9_fails) (List.mem_cons_of_mem _ (List.mem_append_left _ (List.mem_of_getElem? (i := 5) rfl)))
  have hw_6 := hts (.selects RX9 yX9_fails yX9_fails) (List.mem_cons_of_mem _ (List.mem_append_left _ (List.mem_of_getElem? (i := 6) rfl)))
  have hb_0 : ∀ w ∈ us_c_isRunner, w ∈ us_c_mbranches := fun w h => List.mem_cons_of_mem _ (List.mem_append_right _ (List.mem_append_left _ h))
  have hb_1 : ∀ w ∈ us_c_fails, w ∈ us_c_mbranches := fun w h => List.mem_cons_of_mem _ (List.mem_append_right _ (List.mem_append_right _ (List.mem_append_left _ h)))
  refine lv_aload_n hx hb dX9_branches_0 rfl (lv_at hl 0 rfl) ?_
  refine lv_iload_n hx hb dX9_branches_1 rfl (lv_at hl 1 rfl) ?_
  refine mc_i (wr := []) (va_runV (As := [.int p0]) (rest := []) ⟨hx, hb, hml, hown, hts⟩ (c_isRunner l hst D mo th m1 m2 m3 m4 m5 l1 l2 l3 l4 p0 s.heap.size) (cwV 1 hts (gi_c (List.mem_cons_of_mem _ (List.mem_append_left _ (List.mem_of_getElem? (i := 0) rfl))) rfl (gi_c (List.mem_cons_of_mem _ (List.mem_append_left _ (List.mem_of_getElem? (i := 1) rfl))) rfl (gi_c (List.mem_cons_of_mem _ (List.mem_append_left _ (List.mem_of_getElem? (i := 2) rfl))) rfl (gi_c (List.mem_cons_of_mem _ (List.mem_append_left _ (List.mem_of_getElem? (i := 3) rfl))) rfl (goodIn_sub hb_0 (List.all_eq_true.mpr gw_c_isRunner)))))) rfl rfl rfl (by decide +kernel) ⟨Nat.le_of_ble_eq_true rfl, Nat.le_of_ble_eq_true rfl⟩) (pr_V (As := [.int p0]) (b := mo) (C := RX9) hP hD hK hS hA hE [0, 1] [] rfl rfl rfl 0 16 rfl rfl rfl) rfl rfl hl.1 rfl (lv_room (Nat.le_of_ble_eq_true rfl)) dX9_branches_2 ⟨Nat.le_of_ble_eq_true rfl, Nat.le_of_ble_eq_true rfl⟩) hP hD hK hS hA [0, 1] [] rfl rfl (by decide) (by decide) (fun r2 _ H locs w1 hP hD hK hS => ?_)
  have hP : va_P D vwCl [(mo, .inr (16, [.int 5, .int 5, .int th, .ref m1, .ref m2, .ref m3, .ref m4, .ref m5, .ref l1, .ref l2, .ref l3, .int (-1), .ref l4])), (l3, .inr (5, [.int 1, .ref (D.1 1000), .int 0]))] H := hP
  have hD : va_D A [(mo, .inr (16, [.int 5, .int 5, .int th, .ref m1, .ref m2, .ref m3, .ref m4, .ref m5, .ref l1, .ref l2, .ref l3, .int (-1), .ref l4])), (l3, .inr (5, [.int 1, .ref (D.1 1000), .int 0]))] := hD
  have hK : va_K D vwCl [] s := hK
  obtain rfl : r2 = 0 := w1
  refine lv_if_ne (tgt := 14) hx hb dX9_branches_5 (by decide) (fun h3 => absurd (by decide) h3) (fun h3 => ?_)
  refine lv_aload_n hx hb dX9_branches_8 rfl (lv_at hl 0 rfl) ?_
  refine lv_iconst (v := 1) hx hb dX9_branches_9 (by decide) ?_
  refine mc_i (wr := [(l3, .inr (5, [.int 1, .ref (D.1 1000), .int 0]))]) (va_runV (As := [.int 1]) (rest := []) ⟨hx, hb, hml, hown, hts⟩ (c_fails l hst D mo 5 5 th m1 m2 m3 m4 m5 l1 l2 l3 (-1) l4 1 H.size) (cwV 1 hts (gi_c (List.mem_cons_of_mem _ (List.mem_append_left _ (List.mem_of_getElem? (i := 4) rfl))) rfl (gi_c (List.mem_cons_of_mem _ (List.mem_append_left _ (List.mem_of_getElem? (i := 5) rfl))) rfl (gi_c (List.mem_cons_of_mem _ (List.mem_append_left _ (List.mem_of_getElem? (i := 6) rfl))) rfl (gi_c (List.mem_cons_of_mem _ (List.mem_append_left _ (List.mem_of_getElem? (i := 3) rfl))) rfl (goodIn_sub hb_1 (List.all_eq_true.mpr gw_c_fails)))))) rfl rfl rfl (by decide +kernel) ⟨Nat.le_of_ble_eq_true rfl, Nat.le_of_ble_eq_true rfl⟩) (pr_V (As := [.int 1]) (b := mo) (C := RX9) hP hD hK hS hA hE [0] [] rfl rfl rfl 0 16 rfl rfl rfl) rfl rfl hl.1 rfl (lv_room (Nat.le_of_ble_eq_true rfl)) dX9_branches_10 ⟨Nat.le_of_ble_eq_true rfl, Nat.le_of_ble_eq_true rfl⟩) hP hD hK hS hA [0] [1] rfl rfl (by decide) (by decide) (fun r5 _ H locs w4 hP hD hK hS => ?_)
  have hP : va_P D vwCl [(l3, .inr (5, [.int 1, .ref (D.1 1000), .int 0])), (mo, .inr (16, [.int 5, .int 5, .int 1, .ref m1, .ref m2, .ref m3, .ref m4, .ref m5, .ref l1, .ref l2, .ref l3, .int (-1), .ref l4]))] H := hP
  have hD : va_D A [(l3, .inr (5, [.int 1, .ref (D.1 1000), .int 0])), (mo, .inr (16, [.int 5, .int 5, .int 1, .ref m1, .ref m2, .ref m3, .ref m4, .ref m5, .ref l1, .ref l2, .ref l3, .int (-1), .ref l4]))] := hD
  have hK : va_K D vwCl [] s := hK
  obtain rfl : r5 = 0 := w4
  exact mr_i hx hb hr (1, fun k9 => [m1, m2, m3, m4, m5, l1, l2, l3, l4].getD k9 0, fun k9 => [5, 5, -1].getD k9 0) (rfl) (hP.sub [1] rfl) (hK.sub [] rfl) (hD.sub [1] (by decide) rfl) hS (Nat.le_of_ble_eq_true rfl) (Nat.le_of_ble_eq_true rfl) hlocks dX9_branches_13

def us_c_mstart : List Cond := .code yX9_start cX9_start 5 (some .int) :: (([.methodLink RX9 227 yX9_isRunner, .instanceMethod yX9_isRunner, .selects RX9 yX9_isRunner yX9_isRunner, .initialized RX9, .methodLink RX9 76 yX9_fails, .instanceMethod yX9_fails, .selects RX9 yX9_fails yX9_fails] : List Cond) ++ (us_c_isRunner ++ (us_c_fails ++ ([]))))
theorem gw_c_mstart : ∀ w ∈ us_c_mstart, goodWord w = true := gw_cons rfl (gw_app (by decide +kernel) (gw_app gw_c_isRunner (gw_app gw_c_fails (fun _ h => nomatch h))))
set_option maxHeartbeats 4000000 in
set_option maxRecDepth 100000 in
/-- the reference refuses start -/
theorem c_mstart (l : Launch) (hst : l.stackTraces = false) (D : va_G) (mo : Nat) (th : Int32) (m1 : Nat) (m2 : Nat) (m3 : Nat) (m4 : Nat) (m5 : Nat) (l1 : Nat) (l2 : Nat) (l3 : Nat) (l4 : Nat) (p0 : Int32) (p1 : Int32) (sz : Nat) : Met l yX9_start us_c_mstart { frames := 2, cells := 0, slots := 0, locals := 46 } (pw D [.ref mo, .int p0, .int p1] [] [(mo, .inr (16, [.int 5, .int 5, .int th, .ref m1, .ref m2, .ref m3, .ref m4, .ref m5, .ref l1, .ref l2, .ref l3, .int (-1), .ref l4])), (l3, .inr (5, [.int 1, .ref (D.1 1000), .int 0]))] sz) (va_Qi (fun (_ : Int32) (u : (Int32 × (Nat → Nat) × (Nat → Int32))) => u.1 = 1) (qb D (va_A [(mo, .inr (16, [.int 5, .int 5, .int th, .ref m1, .ref m2, .ref m3, .ref m4, .ref m5, .ref l1, .ref l2, .ref l3, .int (-1), .ref l4])), (l3, .inr (5, [.int 1, .ref (D.1 1000), .int 0]))] sz) (fun u : (Int32 × (Nat → Nat) × (Nat → Int32)) => [(mo, .inr (16, [.int (u.2.2 0), .int (u.2.2 1), .int u.1, .ref (u.2.1 0), .ref (u.2.1 1), .ref (u.2.1 2), .ref (u.2.1 3), .ref (u.2.1 4), .ref (u.2.1 5), .ref (u.2.1 6), .ref (u.2.1 7), .int (u.2.2 2), .ref (u.2.1 8)]))]) (fun u : (Int32 × (Nat → Nat) × (Nat → Int32)) => ([] : List (ClassId × FieldType)))) (va_A [(mo, .inr (16, [.int 5, .int 5, .int th, .ref m1, .ref m2, .ref m3, .ref m4, .ref m5, .ref l1, .ref l2, .ref l3, .int (-1), .ref l4])), (l3, .inr (5, [.int 1, .ref (D.1 1000), .int 0]))] sz)) 0 0 (va_A [(mo, .inr (16, [.int 5, .int 5, .int th, .ref m1, .ref m2, .ref m3, .ref m4, .ref m5, .ref l1, .ref l2, .ref l3, .int (-1), .ref l4])), (l3, .inr (5, [.int 1, .ref (D.1 1000), .int 0]))] sz) := by
  refine op_M (Qc := fun A => (va_Qi (fun (_ : Int32) (u : (Int32 × (Nat → Nat) × (Nat → Int32))) => u.1 = 1) (qb D A (fun u : (Int32 × (Nat → Nat) × (Nat → Int32)) => [(mo, .inr (16, [.int (u.2.2 0), .int (u.2.2 1), .int u.1, .ref (u.2.1 0), .ref (u.2.1 1), .ref (u.2.1 2), .ref (u.2.1 3), .ref (u.2.1 4), .ref (u.2.1 5), .ref (u.2.1 6), .ref (u.2.1 7), .int (u.2.2 2), .ref (u.2.1 8)]))]) (fun u : (Int32 × (Nat → Nat) × (Nat → Int32)) => ([] : List (ClassId × FieldType)))) A)) (by decide +kernel) rfl (Nat.le_of_ble_eq_true rfl) ?_
  intro p e s m args below meth c A ls hx hb hr hml hts hown hlocks hmn htab hA hD hS hP hK hE hsz hl
  have hown : s.vm.findClass RX9 = some m.cls := hown
  have hl : lv_has ls 5 [(0, .ref mo), (1, .int p0), (2, .int p1)] := hl
  have hw_0 := hts (.methodLink RX9 227 yX9_isRunner) (List.mem_cons_of_mem _ (List.mem_append_left _ (List.mem_of_getElem? (i := 0) rfl)))
  have hw_1 := hts (.instanceMethod yX9_isRunner) (List.mem_cons_of_mem _ (List.mem_append_left _ (List.mem_of_getElem? (i := 1) rfl)))
  have hw_2 := hts (.selects RX9 yX9_isRunner yX9_isRunner) (List.mem_cons_of_mem _ (List.mem_append_left _ (List.mem_of_getElem? (i := 2) rfl)))
  have hw_3 := hts (.initialized RX9) (List.mem_cons_of_mem _ (List.mem_append_left _ (List.mem_of_getElem? (i := 3) rfl)))
  have hw_4 := hts (.methodLink RX9 76 yX9_fails) (List.mem_cons_of_mem _ (List.mem_append_left _ (List.mem_of_getElem? (i := 4) rfl)))
  have hw_5 := hts (.instanceMethod yX9_fails) (List.mem_cons_of_mem _ (List.mem_append_left _ (List.mem_of_getElem? (i := 5) rfl)))
  have hw_6 := hts (.selects RX9 yX9_fails yX9_fails) (List.mem_cons_of_mem _ (List.mem_append_left _ (List.mem_of_getElem? (i := 6) rfl)))
  have hb_0 : ∀ w ∈ us_c_isRunner, w ∈ us_c_mstart := fun w h => List.mem_cons_of_mem _ (List.mem_append_right _ (List.mem_append_left _ h))
  have hb_1 : ∀ w ∈ us_c_fails, w ∈ us_c_mstart := fun w h => List.mem_cons_of_mem _ (List.mem_append_right _ (List.mem_append_right _ (List.mem_append_left _ h)))
  refine lv_aload_n hx hb dX9_start_0 rfl (lv_at hl 0 rfl) ?_
  refine lv_iload_n hx hb dX9_start_1 rfl (lv_at hl 1 rfl) ?_
  refine mc_i (wr := []) (va_runV (As := [.int p0]) (rest := []) ⟨hx, hb, hml, hown, hts⟩ (c_isRunner l hst D mo th m1 m2 m3 m4 m5 l1 l2 l3 l4 p0 s.heap.size) (cwV 1 hts (gi_c (List.mem_cons_of_mem _ (List.mem_append_left _ (List.mem_of_getElem? (i := 0) rfl))) rfl (gi_c (List.mem_cons_of_mem _ (List.mem_append_left _ (List.mem_of_getElem? (i := 1) rfl))) rfl (gi_c (List.mem_cons_of_mem _ (List.mem_append_left _ (List.mem_of_getElem? (i := 2) rfl))) rfl (gi_c (List.mem_cons_of_mem _ (List.mem_append_left _ (List.mem_of_getElem? (i := 3) rfl))) rfl (goodIn_sub hb_0 (List.all_eq_true.mpr gw_c_isRunner)))))) rfl rfl rfl (by decide +kernel) ⟨Nat.le_of_ble_eq_true rfl, Nat.le_of_ble_eq_true rfl⟩) (pr_V (As := [.int p0]) (b := mo) (C := RX9) hP hD hK hS hA hE [0, 1] [] rfl rfl rfl 0 16 rfl rfl rfl) rfl rfl hl.1 rfl (lv_room (Nat.le_of_ble_eq_true rfl)) dX9_start_2 ⟨Nat.le_of_ble_eq_true rfl, Nat.le_of_ble_eq_true rfl⟩) hP hD hK hS hA [0, 1] [] rfl rfl (by decide) (by decide) (fun r2 _ H locs w1 hP hD hK hS => ?_)
  have hP : va_P D vwCl [(mo, .inr (16, [.int 5, .int 5, .int th, .ref m1, .ref m2, .ref m3, .ref m4, .ref m5, .ref l1, .ref l2, .ref l3, .int (-1), .ref l4])), (l3, .inr (5, [.int 1, .ref (D.1 1000), .int 0]))] H := hP
  have hD : va_D A [(mo, .inr (16, [.int 5, .int 5, .int th, .ref m1, .ref m2, .ref m3, .ref m4, .ref m5, .ref l1, .ref l2, .ref l3, .int (-1), .ref l4])), (l3, .inr (5, [.int 1, .ref (D.1 1000), .int 0]))] := hD
  have hK : va_K D vwCl [] s := hK
  obtain rfl : r2 = 0 := w1
  refine lv_if_ne (tgt := 14) hx hb dX9_start_5 (by decide) (fun h3 => absurd (by decide) h3) (fun h3 => ?_)
  refine lv_aload_n hx hb dX9_start_8 rfl (lv_at hl 0 rfl) ?_
  refine lv_iconst (v := 1) hx hb dX9_start_9 (by decide) ?_
  refine mc_i (wr := [(l3, .inr (5, [.int 1, .ref (D.1 1000), .int 0]))]) (va_runV (As := [.int 1]) (rest := []) ⟨hx, hb, hml, hown, hts⟩ (c_fails l hst D mo 5 5 th m1 m2 m3 m4 m5 l1 l2 l3 (-1) l4 1 H.size) (cwV 1 hts (gi_c (List.mem_cons_of_mem _ (List.mem_append_left _ (List.mem_of_getElem? (i := 4) rfl))) rfl (gi_c (List.mem_cons_of_mem _ (List.mem_append_left _ (List.mem_of_getElem? (i := 5) rfl))) rfl (gi_c (List.mem_cons_of_mem _ (List.mem_append_left _ (List.mem_of_getElem? (i := 6) rfl))) rfl (gi_c (List.mem_cons_of_mem _ (List.mem_append_left _ (List.mem_of_getElem? (i := 3) rfl))) rfl (goodIn_sub hb_1 (List.all_eq_true.mpr gw_c_fails)))))) rfl rfl rfl (by decide +kernel) ⟨Nat.le_of_ble_eq_true rfl, Nat.le_of_ble_eq_true rfl⟩) (pr_V (As := [.int 1]) (b := mo) (C := RX9) hP hD hK hS hA hE [0] [] rfl rfl rfl 0 16 rfl rfl rfl) rfl rfl hl.1 rfl (lv_room (Nat.le_of_ble_eq_true rfl)) dX9_start_10 ⟨Nat.le_of_ble_eq_true rfl, Nat.le_of_ble_eq_true rfl⟩) hP hD hK hS hA [0] [1] rfl rfl (by decide) (by decide) (fun r5 _ H locs w4 hP hD hK hS => ?_)
  have hP : va_P D vwCl [(l3, .inr (5, [.int 1, .ref (D.1 1000), .int 0])), (mo, .inr (16, [.int 5, .int 5, .int 1, .ref m1, .ref m2, .ref m3, .ref m4, .ref m5, .ref l1, .ref l2, .ref l3, .int (-1), .ref l4]))] H := hP
  have hD : va_D A [(l3, .inr (5, [.int 1, .ref (D.1 1000), .int 0])), (mo, .inr (16, [.int 5, .int 5, .int 1, .ref m1, .ref m2, .ref m3, .ref m4, .ref m5, .ref l1, .ref l2, .ref l3, .int (-1), .ref l4]))] := hD
  have hK : va_K D vwCl [] s := hK
  obtain rfl : r5 = 0 := w4
  exact mr_i hx hb hr (1, fun k9 => [m1, m2, m3, m4, m5, l1, l2, l3, l4].getD k9 0, fun k9 => [5, 5, -1].getD k9 0) (rfl) (hP.sub [1] rfl) (hK.sub [] rfl) (hD.sub [1] (by decide) rfl) hS (Nat.le_of_ble_eq_true rfl) (Nat.le_of_ble_eq_true rfl) hlocks dX9_start_13

def us_c_mdraw : List Cond := .code yX9_draw cX9_draw 14 (some .int) :: (([.methodLink RX9 178 yX9_isCourse, .instanceMethod yX9_isCourse, .selects RX9 yX9_isCourse yX9_isCourse, .initialized RX9, .methodLink RX9 76 yX9_fails, .instanceMethod yX9_fails, .selects RX9 yX9_fails yX9_fails] : List Cond) ++ (us_c_isCourse ++ (us_c_fails ++ ([]))))
theorem gw_c_mdraw : ∀ w ∈ us_c_mdraw, goodWord w = true := gw_cons rfl (gw_app (by decide +kernel) (gw_app gw_c_isCourse (gw_app gw_c_fails (fun _ h => nomatch h))))
set_option maxHeartbeats 4000000 in
set_option maxRecDepth 100000 in
/-- the reference refuses draw -/
theorem c_mdraw (l : Launch) (hst : l.stackTraces = false) (D : va_G) (mo : Nat) (th : Int32) (m1 : Nat) (m2 : Nat) (m3 : Nat) (m4 : Nat) (m5 : Nat) (l1 : Nat) (l2 : Nat) (l3 : Nat) (l4 : Nat) (p0 : Int32) (p1 : Int32) (p2 : Int32) (p3 : Int32) (sz : Nat) : Met l yX9_draw us_c_mdraw { frames := 2, cells := 0, slots := 0, locals := 46 } (pw D [.ref mo, .int p0, .int p1, .int p2, .int p3] [] [(mo, .inr (16, [.int 5, .int 5, .int th, .ref m1, .ref m2, .ref m3, .ref m4, .ref m5, .ref l1, .ref l2, .ref l3, .int (-1), .ref l4])), (l2, .inr (5, [.int 1, .ref (D.1 1000), .int 0]))] sz) (va_Qi (fun (_ : Int32) (u : (Int32 × (Nat → Nat) × (Nat → Int32))) => u.1 = 1) (qb D (va_A [(mo, .inr (16, [.int 5, .int 5, .int th, .ref m1, .ref m2, .ref m3, .ref m4, .ref m5, .ref l1, .ref l2, .ref l3, .int (-1), .ref l4])), (l2, .inr (5, [.int 1, .ref (D.1 1000), .int 0]))] sz) (fun u : (Int32 × (Nat → Nat) × (Nat → Int32)) => [(mo, .inr (16, [.int (u.2.2 0), .int (u.2.2 1), .int u.1, .ref (u.2.1 0), .ref (u.2.1 1), .ref (u.2.1 2), .ref (u.2.1 3), .ref (u.2.1 4), .ref (u.2.1 5), .ref (u.2.1 6), .ref (u.2.1 7), .int (u.2.2 2), .ref (u.2.1 8)]))]) (fun u : (Int32 × (Nat → Nat) × (Nat → Int32)) => ([] : List (ClassId × FieldType)))) (va_A [(mo, .inr (16, [.int 5, .int 5, .int th, .ref m1, .ref m2, .ref m3, .ref m4, .ref m5, .ref l1, .ref l2, .ref l3, .int (-1), .ref l4])), (l2, .inr (5, [.int 1, .ref (D.1 1000), .int 0]))] sz)) 0 0 (va_A [(mo, .inr (16, [.int 5, .int 5, .int th, .ref m1, .ref m2, .ref m3, .ref m4, .ref m5, .ref l1, .ref l2, .ref l3, .int (-1), .ref l4])), (l2, .inr (5, [.int 1, .ref (D.1 1000), .int 0]))] sz) := by
  refine op_M (Qc := fun A => (va_Qi (fun (_ : Int32) (u : (Int32 × (Nat → Nat) × (Nat → Int32))) => u.1 = 1) (qb D A (fun u : (Int32 × (Nat → Nat) × (Nat → Int32)) => [(mo, .inr (16, [.int (u.2.2 0), .int (u.2.2 1), .int u.1, .ref (u.2.1 0), .ref (u.2.1 1), .ref (u.2.1 2), .ref (u.2.1 3), .ref (u.2.1 4), .ref (u.2.1 5), .ref (u.2.1 6), .ref (u.2.1 7), .int (u.2.2 2), .ref (u.2.1 8)]))]) (fun u : (Int32 × (Nat → Nat) × (Nat → Int32)) => ([] : List (ClassId × FieldType)))) A)) (by decide +kernel) rfl (Nat.le_of_ble_eq_true rfl) ?_
  intro p e s m args below meth c A ls hx hb hr hml hts hown hlocks hmn htab hA hD hS hP hK hE hsz hl
  have hown : s.vm.findClass RX9 = some m.cls := hown
  have hl : lv_has ls 14 [(0, .ref mo), (1, .int p0), (2, .int p1), (3, .int p2), (4, .int p3)] := hl
  have hw_0 := hts (.methodLink RX9 178 yX9_isCourse) (List.mem_cons_of_mem _ (List.mem_append_left _ (List.mem_of_getElem? (i := 0) rfl)))
  have hw_1 := hts (.instanceMethod yX9_isCourse) (List.mem_cons_of_mem _ (List.mem_append_left _ (List.mem_of_getElem? (i := 1) rfl)))
  have hw_2 := hts (.selects RX9 yX9_isCourse yX9_isCourse) (List.mem_cons_of_mem _ (List.mem_append_left _ (List.mem_of_getElem? (i := 2) rfl)))
  have hw_3 := hts (.initialized RX9) (List.mem_cons_of_mem _ (List.mem_append_left _ (List.mem_of_getElem? (i := 3) rfl)))
  have hw_4 := hts (.methodLink RX9 76 yX9_fails) (List.mem_cons_of_mem _ (List.mem_append_left _ (List.mem_of_getElem? (i := 4) rfl)))
  have hw_5 := hts (.instanceMethod yX9_fails) (List.mem_cons_of_mem _ (List.mem_append_left _ (List.mem_of_getElem? (i := 5) rfl)))
  have hw_6 := hts (.selects RX9 yX9_fails yX9_fails) (List.mem_cons_of_mem _ (List.mem_append_left _ (List.mem_of_getElem? (i := 6) rfl)))
  have hb_0 : ∀ w ∈ us_c_isCourse, w ∈ us_c_mdraw := fun w h => List.mem_cons_of_mem _ (List.mem_append_right _ (List.mem_append_left _ h))
  have hb_1 : ∀ w ∈ us_c_fails, w ∈ us_c_mdraw := fun w h => List.mem_cons_of_mem _ (List.mem_append_right _ (List.mem_append_right _ (List.mem_append_left _ h)))
  refine lv_aload_n hx hb dX9_draw_0 rfl (lv_at hl 0 rfl) ?_
  refine lv_iload_n hx hb dX9_draw_1 rfl (lv_at hl 1 rfl) ?_
  refine mc_i (wr := []) (va_runV (As := [.int p0]) (rest := []) ⟨hx, hb, hml, hown, hts⟩ (c_isCourse l hst D mo th m1 m2 m3 m4 m5 l1 l2 l3 l4 p0 s.heap.size) (cwV 1 hts (gi_c (List.mem_cons_of_mem _ (List.mem_append_left _ (List.mem_of_getElem? (i := 0) rfl))) rfl (gi_c (List.mem_cons_of_mem _ (List.mem_append_left _ (List.mem_of_getElem? (i := 1) rfl))) rfl (gi_c (List.mem_cons_of_mem _ (List.mem_append_left _ (List.mem_of_getElem? (i := 2) rfl))) rfl (gi_c (List.mem_cons_of_mem _ (List.mem_append_left _ (List.mem_of_getElem? (i := 3) rfl))) rfl (goodIn_sub hb_0 (List.all_eq_true.mpr gw_c_isCourse)))))) rfl rfl rfl (by decide +kernel) ⟨Nat.le_of_ble_eq_true rfl, Nat.le_of_ble_eq_true rfl⟩) (pr_V (As := [.int p0]) (b := mo) (C := RX9) hP hD hK hS hA hE [0, 1] [] rfl rfl rfl 0 16 rfl rfl rfl) rfl rfl hl.1 rfl (lv_room (Nat.le_of_ble_eq_true rfl)) dX9_draw_2 ⟨Nat.le_of_ble_eq_true rfl, Nat.le_of_ble_eq_true rfl⟩) hP hD hK hS hA [0, 1] [] rfl rfl (by decide) (by decide) (fun r2 _ H locs w1 hP hD hK hS => ?_)
  have hP : va_P D vwCl [(mo, .inr (16, [.int 5, .int 5, .int th, .ref m1, .ref m2, .ref m3, .ref m4, .ref m5, .ref l1, .ref l2, .ref l3, .int (-1), .ref l4])), (l2, .inr (5, [.int 1, .ref (D.1 1000), .int 0]))] H := hP
  have hD : va_D A [(mo, .inr (16, [.int 5, .int 5, .int th, .ref m1, .ref m2, .ref m3, .ref m4, .ref m5, .ref l1, .ref l2, .ref l3, .int (-1), .ref l4])), (l2, .inr (5, [.int 1, .ref (D.1 1000), .int 0]))] := hD
  have hK : va_K D vwCl [] s := hK
  obtain rfl : r2 = 0 := w1
  refine lv_if_ne (tgt := 14) hx hb dX9_draw_5 (by decide) (fun h3 => absurd (by decide) h3) (fun h3 => ?_)
  refine lv_aload_n hx hb dX9_draw_8 rfl (lv_at hl 0 rfl) ?_
  refine lv_iconst (v := 1) hx hb dX9_draw_9 (by decide) ?_
  refine mc_i (wr := [(l2, .inr (5, [.int 1, .ref (D.1 1000), .int 0]))]) (va_runV (As := [.int 1]) (rest := []) ⟨hx, hb, hml, hown, hts⟩ (c_fails l hst D mo 5 5 th m1 m2 m3 m4 m5 l1 l2 l3 (-1) l4 1 H.size) (cwV 1 hts (gi_c (List.mem_cons_of_mem _ (List.mem_append_left _ (List.mem_of_getElem? (i := 4) rfl))) rfl (gi_c (List.mem_cons_of_mem _ (List.mem_append_left _ (List.mem_of_getElem? (i := 5) rfl))) rfl (gi_c (List.mem_cons_of_mem _ (List.mem_append_left _ (List.mem_of_getElem? (i := 6) rfl))) rfl (gi_c (List.mem_cons_of_mem _ (List.mem_append_left _ (List.mem_of_getElem? (i := 3) rfl))) rfl (goodIn_sub hb_1 (List.all_eq_true.mpr gw_c_fails)))))) rfl rfl rfl (by decide +kernel) ⟨Nat.le_of_ble_eq_true rfl, Nat.le_of_ble_eq_true rfl⟩) (pr_V (As := [.int 1]) (b := mo) (C := RX9) hP hD hK hS hA hE [0] [] rfl rfl rfl 0 16 rfl rfl rfl) rfl rfl hl.1 rfl (lv_room (Nat.le_of_ble_eq_true rfl)) dX9_draw_10 ⟨Nat.le_of_ble_eq_true rfl, Nat.le_of_ble_eq_true rfl⟩) hP hD hK hS hA [0] [1] rfl rfl (by decide) (by decide) (fun r5 _ H locs w4 hP hD hK hS => ?_)
  have hP : va_P D vwCl [(l2, .inr (5, [.int 1, .ref (D.1 1000), .int 0])), (mo, .inr (16, [.int 5, .int 5, .int 1, .ref m1, .ref m2, .ref m3, .ref m4, .ref m5, .ref l1, .ref l2, .ref l3, .int (-1), .ref l4]))] H := hP
  have hD : va_D A [(l2, .inr (5, [.int 1, .ref (D.1 1000), .int 0])), (mo, .inr (16, [.int 5, .int 5, .int 1, .ref m1, .ref m2, .ref m3, .ref m4, .ref m5, .ref l1, .ref l2, .ref l3, .int (-1), .ref l4]))] := hD
  have hK : va_K D vwCl [] s := hK
  obtain rfl : r5 = 0 := w4
  exact mr_i hx hb hr (1, fun k9 => [m1, m2, m3, m4, m5, l1, l2, l3, l4].getD k9 0, fun k9 => [5, 5, -1].getD k9 0) (rfl) (hP.sub [1] rfl) (hK.sub [] rfl) (hD.sub [1] (by decide) rfl) hS (Nat.le_of_ble_eq_true rfl) (Nat.le_of_ble_eq_true rfl) hlocks dX9_draw_13

def us_c_mstartOf : List Cond := .code yX9_startOf cX9_startOf 2 (some .int) :: (([.methodLink RX9 227 yX9_isRunner, .instanceMethod yX9_isRunner, .selects RX9 yX9_isRunner yX9_isRunner, .initialized RX9, .methodLink RX9 76 yX9_fails, .instanceMethod yX9_fails, .selects RX9 yX9_fails yX9_fails] : List Cond) ++ (us_c_isRunner ++ (us_c_fails ++ ([]))))
theorem gw_c_mstartOf : ∀ w ∈ us_c_mstartOf, goodWord w = true := gw_cons rfl (gw_app (by decide +kernel) (gw_app gw_c_isRunner (gw_app gw_c_fails (fun _ h => nomatch h))))
set_option maxHeartbeats 4000000 in
set_option maxRecDepth 100000 in
/-- the reference refuses startOf -/
theorem c_mstartOf (l : Launch) (hst : l.stackTraces = false) (D : va_G) (mo : Nat) (th : Int32) (m1 : Nat) (m2 : Nat) (m3 : Nat) (m4 : Nat) (m5 : Nat) (l1 : Nat) (l2 : Nat) (l3 : Nat) (l4 : Nat) (p0 : Int32) (sz : Nat) : Met l yX9_startOf us_c_mstartOf { frames := 2, cells := 0, slots := 0, locals := 46 } (pw D [.ref mo, .int p0] [] [(mo, .inr (16, [.int 5, .int 5, .int th, .ref m1, .ref m2, .ref m3, .ref m4, .ref m5, .ref l1, .ref l2, .ref l3, .int (-1), .ref l4])), (l3, .inr (5, [.int 1, .ref (D.1 1000), .int 0]))] sz) (va_Qi (fun (_ : Int32) (u : (Int32 × (Nat → Nat) × (Nat → Int32))) => u.1 = 1) (qb D (va_A [(mo, .inr (16, [.int 5, .int 5, .int th, .ref m1, .ref m2, .ref m3, .ref m4, .ref m5, .ref l1, .ref l2, .ref l3, .int (-1), .ref l4])), (l3, .inr (5, [.int 1, .ref (D.1 1000), .int 0]))] sz) (fun u : (Int32 × (Nat → Nat) × (Nat → Int32)) => [(mo, .inr (16, [.int (u.2.2 0), .int (u.2.2 1), .int u.1, .ref (u.2.1 0), .ref (u.2.1 1), .ref (u.2.1 2), .ref (u.2.1 3), .ref (u.2.1 4), .ref (u.2.1 5), .ref (u.2.1 6), .ref (u.2.1 7), .int (u.2.2 2), .ref (u.2.1 8)]))]) (fun u : (Int32 × (Nat → Nat) × (Nat → Int32)) => ([] : List (ClassId × FieldType)))) (va_A [(mo, .inr (16, [.int 5, .int 5, .int th, .ref m1, .ref m2, .ref m3, .ref m4, .ref m5, .ref l1, .ref l2, .ref l3, .int (-1), .ref l4])), (l3, .inr (5, [.int 1, .ref (D.1 1000), .int 0]))] sz)) 0 0 (va_A [(mo, .inr (16, [.int 5, .int 5, .int th, .ref m1, .ref m2, .ref m3, .ref m4, .ref m5, .ref l1, .ref l2, .ref l3, .int (-1), .ref l4])), (l3, .inr (5, [.int 1, .ref (D.1 1000), .int 0]))] sz) := by
  refine op_M (Qc := fun A => (va_Qi (fun (_ : Int32) (u : (Int32 × (Nat → Nat) × (Nat → Int32))) => u.1 = 1) (qb D A (fun u : (Int32 × (Nat → Nat) × (Nat → Int32)) => [(mo, .inr (16, [.int (u.2.2 0), .int (u.2.2 1), .int u.1, .ref (u.2.1 0), .ref (u.2.1 1), .ref (u.2.1 2), .ref (u.2.1 3), .ref (u.2.1 4), .ref (u.2.1 5), .ref (u.2.1 6), .ref (u.2.1 7), .int (u.2.2 2), .ref (u.2.1 8)]))]) (fun u : (Int32 × (Nat → Nat) × (Nat → Int32)) => ([] : List (ClassId × FieldType)))) A)) (by decide +kernel) rfl (Nat.le_of_ble_eq_true rfl) ?_
  intro p e s m args below meth c A ls hx hb hr hml hts hown hlocks hmn htab hA hD hS hP hK hE hsz hl
  have hown : s.vm.findClass RX9 = some m.cls := hown
  have hl : lv_has ls 2 [(0, .ref mo), (1, .int p0)] := hl
  have hw_0 := hts (.methodLink RX9 227 yX9_isRunner) (List.mem_cons_of_mem _ (List.mem_append_left _ (List.mem_of_getElem? (i := 0) rfl)))
  have hw_1 := hts (.instanceMethod yX9_isRunner) (List.mem_cons_of_mem _ (List.mem_append_left _ (List.mem_of_getElem? (i := 1) rfl)))
  have hw_2 := hts (.selects RX9 yX9_isRunner yX9_isRunner) (List.mem_cons_of_mem _ (List.mem_append_left _ (List.mem_of_getElem? (i := 2) rfl)))
  have hw_3 := hts (.initialized RX9) (List.mem_cons_of_mem _ (List.mem_append_left _ (List.mem_of_getElem? (i := 3) rfl)))
  have hw_4 := hts (.methodLink RX9 76 yX9_fails) (List.mem_cons_of_mem _ (List.mem_append_left _ (List.mem_of_getElem? (i := 4) rfl)))
  have hw_5 := hts (.instanceMethod yX9_fails) (List.mem_cons_of_mem _ (List.mem_append_left _ (List.mem_of_getElem? (i := 5) rfl)))
  have hw_6 := hts (.selects RX9 yX9_fails yX9_fails) (List.mem_cons_of_mem _ (List.mem_append_left _ (List.mem_of_getElem? (i := 6) rfl)))
  have hb_0 : ∀ w ∈ us_c_isRunner, w ∈ us_c_mstartOf := fun w h => List.mem_cons_of_mem _ (List.mem_append_right _ (List.mem_append_left _ h))
  have hb_1 : ∀ w ∈ us_c_fails, w ∈ us_c_mstartOf := fun w h => List.mem_cons_of_mem _ (List.mem_append_right _ (List.mem_append_right _ (List.mem_append_left _ h)))
  refine lv_aload_n hx hb dX9_startOf_0 rfl (lv_at hl 0 rfl) ?_
  refine lv_iload_n hx hb dX9_startOf_1 rfl (lv_at hl 1 rfl) ?_
  refine mc_i (wr := []) (va_runV (As := [.int p0]) (rest := []) ⟨hx, hb, hml, hown, hts⟩ (c_isRunner l hst D mo th m1 m2 m3 m4 m5 l1 l2 l3 l4 p0 s.heap.size) (cwV 1 hts (gi_c (List.mem_cons_of_mem _ (List.mem_append_left _ (List.mem_of_getElem? (i := 0) rfl))) rfl (gi_c (List.mem_cons_of_mem _ (List.mem_append_left _ (List.mem_of_getElem? (i := 1) rfl))) rfl (gi_c (List.mem_cons_of_mem _ (List.mem_append_left _ (List.mem_of_getElem? (i := 2) rfl))) rfl (gi_c (List.mem_cons_of_mem _ (List.mem_append_left _ (List.mem_of_getElem? (i := 3) rfl))) rfl (goodIn_sub hb_0 (List.all_eq_true.mpr gw_c_isRunner)))))) rfl rfl rfl (by decide +kernel) ⟨Nat.le_of_ble_eq_true rfl, Nat.le_of_ble_eq_true rfl⟩) (pr_V (As := [.int p0]) (b := mo) (C := RX9) hP hD hK hS hA hE [0, 1] [] rfl rfl rfl 0 16 rfl rfl rfl) rfl rfl hl.1 rfl (lv_room (Nat.le_of_ble_eq_true rfl)) dX9_startOf_2 ⟨Nat.le_of_ble_eq_true rfl, Nat.le_of_ble_eq_true rfl⟩) hP hD hK hS hA [0, 1] [] rfl rfl (by decide) (by decide) (fun r2 _ H locs w1 hP hD hK hS => ?_)
  have hP : va_P D vwCl [(mo, .inr (16, [.int 5, .int 5, .int th, .ref m1, .ref m2, .ref m3, .ref m4, .ref m5, .ref l1, .ref l2, .ref l3, .int (-1), .ref l4])), (l3, .inr (5, [.int 1, .ref (D.1 1000), .int 0]))] H := hP
  have hD : va_D A [(mo, .inr (16, [.int 5, .int 5, .int th, .ref m1, .ref m2, .ref m3, .ref m4, .ref m5, .ref l1, .ref l2, .ref l3, .int (-1), .ref l4])), (l3, .inr (5, [.int 1, .ref (D.1 1000), .int 0]))] := hD
  have hK : va_K D vwCl [] s := hK
  obtain rfl : r2 = 0 := w1
  refine lv_if_ne (tgt := 14) hx hb dX9_startOf_5 (by decide) (fun h3 => absurd (by decide) h3) (fun h3 => ?_)
  refine lv_aload_n hx hb dX9_startOf_8 rfl (lv_at hl 0 rfl) ?_
  refine lv_iconst (v := 1) hx hb dX9_startOf_9 (by decide) ?_
  refine mc_i (wr := [(l3, .inr (5, [.int 1, .ref (D.1 1000), .int 0]))]) (va_runV (As := [.int 1]) (rest := []) ⟨hx, hb, hml, hown, hts⟩ (c_fails l hst D mo 5 5 th m1 m2 m3 m4 m5 l1 l2 l3 (-1) l4 1 H.size) (cwV 1 hts (gi_c (List.mem_cons_of_mem _ (List.mem_append_left _ (List.mem_of_getElem? (i := 4) rfl))) rfl (gi_c (List.mem_cons_of_mem _ (List.mem_append_left _ (List.mem_of_getElem? (i := 5) rfl))) rfl (gi_c (List.mem_cons_of_mem _ (List.mem_append_left _ (List.mem_of_getElem? (i := 6) rfl))) rfl (gi_c (List.mem_cons_of_mem _ (List.mem_append_left _ (List.mem_of_getElem? (i := 3) rfl))) rfl (goodIn_sub hb_1 (List.all_eq_true.mpr gw_c_fails)))))) rfl rfl rfl (by decide +kernel) ⟨Nat.le_of_ble_eq_true rfl, Nat.le_of_ble_eq_true rfl⟩) (pr_V (As := [.int 1]) (b := mo) (C := RX9) hP hD hK hS hA hE [0] [] rfl rfl rfl 0 16 rfl rfl rfl) rfl rfl hl.1 rfl (lv_room (Nat.le_of_ble_eq_true rfl)) dX9_startOf_10 ⟨Nat.le_of_ble_eq_true rfl, Nat.le_of_ble_eq_true rfl⟩) hP hD hK hS hA [0] [1] rfl rfl (by decide) (by decide) (fun r5 _ H locs w4 hP hD hK hS => ?_)
  have hP : va_P D vwCl [(l3, .inr (5, [.int 1, .ref (D.1 1000), .int 0])), (mo, .inr (16, [.int 5, .int 5, .int 1, .ref m1, .ref m2, .ref m3, .ref m4, .ref m5, .ref l1, .ref l2, .ref l3, .int (-1), .ref l4]))] H := hP
  have hD : va_D A [(l3, .inr (5, [.int 1, .ref (D.1 1000), .int 0])), (mo, .inr (16, [.int 5, .int 5, .int 1, .ref m1, .ref m2, .ref m3, .ref m4, .ref m5, .ref l1, .ref l2, .ref l3, .int (-1), .ref l4]))] := hD
  have hK : va_K D vwCl [] s := hK
  obtain rfl : r5 = 0 := w4
  exact mr_i hx hb hr (1, fun k9 => [m1, m2, m3, m4, m5, l1, l2, l3, l4].getD k9 0, fun k9 => [5, 5, -1].getD k9 0) (rfl) (hP.sub [1] rfl) (hK.sub [] rfl) (hD.sub [1] (by decide) rfl) hS (Nat.le_of_ble_eq_true rfl) (Nat.le_of_ble_eq_true rfl) hlocks dX9_startOf_13

def us_c_mpunch : List Cond := .code yX9_punch cX9_punch 7 (some .int) :: (([.methodLink RX9 227 yX9_isRunner, .instanceMethod yX9_isRunner, .selects RX9 yX9_isRunner yX9_isRunner, .initialized RX9, .methodLink RX9 76 yX9_fails, .instanceMethod yX9_fails, .selects RX9 yX9_fails yX9_fails] : List Cond) ++ (us_c_isRunner ++ (us_c_fails ++ ([]))))
theorem gw_c_mpunch : ∀ w ∈ us_c_mpunch, goodWord w = true := gw_cons rfl (gw_app (by decide +kernel) (gw_app gw_c_isRunner (gw_app gw_c_fails (fun _ h => nomatch h))))
set_option maxHeartbeats 4000000 in
set_option maxRecDepth 100000 in
/-- the reference refuses punch -/
theorem c_mpunch (l : Launch) (hst : l.stackTraces = false) (D : va_G) (mo : Nat) (th : Int32) (m1 : Nat) (m2 : Nat) (m3 : Nat) (m4 : Nat) (m5 : Nat) (l1 : Nat) (l2 : Nat) (l3 : Nat) (l4 : Nat) (p0 : Int32) (p1 : Int32) (p2 : Int32) (sz : Nat) : Met l yX9_punch us_c_mpunch { frames := 2, cells := 0, slots := 0, locals := 46 } (pw D [.ref mo, .int p0, .int p1, .int p2] [] [(mo, .inr (16, [.int 5, .int 5, .int th, .ref m1, .ref m2, .ref m3, .ref m4, .ref m5, .ref l1, .ref l2, .ref l3, .int (-1), .ref l4])), (l3, .inr (5, [.int 1, .ref (D.1 1000), .int 0]))] sz) (va_Qi (fun (_ : Int32) (u : (Int32 × (Nat → Nat) × (Nat → Int32))) => u.1 = 1) (qb D (va_A [(mo, .inr (16, [.int 5, .int 5, .int th, .ref m1, .ref m2, .ref m3, .ref m4, .ref m5, .ref l1, .ref l2, .ref l3, .int (-1), .ref l4])), (l3, .inr (5, [.int 1, .ref (D.1 1000), .int 0]))] sz) (fun u : (Int32 × (Nat → Nat) × (Nat → Int32)) => [(mo, .inr (16, [.int (u.2.2 0), .int (u.2.2 1), .int u.1, .ref (u.2.1 0), .ref (u.2.1 1), .ref (u.2.1 2), .ref (u.2.1 3), .ref (u.2.1 4), .ref (u.2.1 5), .ref (u.2.1 6), .ref (u.2.1 7), .int (u.2.2 2), .ref (u.2.1 8)]))]) (fun u : (Int32 × (Nat → Nat) × (Nat → Int32)) => ([] : List (ClassId × FieldType)))) (va_A [(mo, .inr (16, [.int 5, .int 5, .int th, .ref m1, .ref m2, .ref m3, .ref m4, .ref m5, .ref l1, .ref l2, .ref l3, .int (-1), .ref l4])), (l3, .inr (5, [.int 1, .ref (D.1 1000), .int 0]))] sz)) 0 0 (va_A [(mo, .inr (16, [.int 5, .int 5, .int th, .ref m1, .ref m2, .ref m3, .ref m4, .ref m5, .ref l1, .ref l2, .ref l3, .int (-1), .ref l4])), (l3, .inr (5, [.int 1, .ref (D.1 1000), .int 0]))] sz) := by
  refine op_M (Qc := fun A => (va_Qi (fun (_ : Int32) (u : (Int32 × (Nat → Nat) × (Nat → Int32))) => u.1 = 1) (qb D A (fun u : (Int32 × (Nat → Nat) × (Nat → Int32)) => [(mo, .inr (16, [.int (u.2.2 0), .int (u.2.2 1), .int u.1, .ref (u.2.1 0), .ref (u.2.1 1), .ref (u.2.1 2), .ref (u.2.1 3), .ref (u.2.1 4), .ref (u.2.1 5), .ref (u.2.1 6), .ref (u.2.1 7), .int (u.2.2 2), .ref (u.2.1 8)]))]) (fun u : (Int32 × (Nat → Nat) × (Nat → Int32)) => ([] : List (ClassId × FieldType)))) A)) (by decide +kernel) rfl (Nat.le_of_ble_eq_true rfl) ?_
  intro p e s m args below meth c A ls hx hb hr hml hts hown hlocks hmn htab hA hD hS hP hK hE hsz hl
  have hown : s.vm.findClass RX9 = some m.cls := hown
  have hl : lv_has ls 7 [(0, .ref mo), (1, .int p0), (2, .int p1), (3, .int p2)] := hl
  have hw_0 := hts (.methodLink RX9 227 yX9_isRunner) (List.mem_cons_of_mem _ (List.mem_append_left _ (List.mem_of_getElem? (i := 0) rfl)))
  have hw_1 := hts (.instanceMethod yX9_isRunner) (List.mem_cons_of_mem _ (List.mem_append_left _ (List.mem_of_getElem? (i := 1) rfl)))
  have hw_2 := hts (.selects RX9 yX9_isRunner yX9_isRunner) (List.mem_cons_of_mem _ (List.mem_append_left _ (List.mem_of_getElem? (i := 2) rfl)))
  have hw_3 := hts (.initialized RX9) (List.mem_cons_of_mem _ (List.mem_append_left _ (List.mem_of_getElem? (i := 3) rfl)))
  have hw_4 := hts (.methodLink RX9 76 yX9_fails) (List.mem_cons_of_mem _ (List.mem_append_left _ (List.mem_of_getElem? (i := 4) rfl)))
  have hw_5 := hts (.instanceMethod yX9_fails) (List.mem_cons_of_mem _ (List.mem_append_left _ (List.mem_of_getElem? (i := 5) rfl)))
  have hw_6 := hts (.selects RX9 yX9_fails yX9_fails) (List.mem_cons_of_mem _ (List.mem_append_left _ (List.mem_of_getElem? (i := 6) rfl)))
  have hb_0 : ∀ w ∈ us_c_isRunner, w ∈ us_c_mpunch := fun w h => List.mem_cons_of_mem _ (List.mem_append_right _ (List.mem_append_left _ h))
  have hb_1 : ∀ w ∈ us_c_fails, w ∈ us_c_mpunch := fun w h => List.mem_cons_of_mem _ (List.mem_append_right _ (List.mem_append_right _ (List.mem_append_left _ h)))
  refine lv_aload_n hx hb dX9_punch_0 rfl (lv_at hl 0 rfl) ?_
  refine lv_iload_n hx hb dX9_punch_1 rfl (lv_at hl 1 rfl) ?_
  refine mc_i (wr := []) (va_runV (As := [.int p0]) (rest := []) ⟨hx, hb, hml, hown, hts⟩ (c_isRunner l hst D mo th m1 m2 m3 m4 m5 l1 l2 l3 l4 p0 s.heap.size) (cwV 1 hts (gi_c (List.mem_cons_of_mem _ (List.mem_append_left _ (List.mem_of_getElem? (i := 0) rfl))) rfl (gi_c (List.mem_cons_of_mem _ (List.mem_append_left _ (List.mem_of_getElem? (i := 1) rfl))) rfl (gi_c (List.mem_cons_of_mem _ (List.mem_append_left _ (List.mem_of_getElem? (i := 2) rfl))) rfl (gi_c (List.mem_cons_of_mem _ (List.mem_append_left _ (List.mem_of_getElem? (i := 3) rfl))) rfl (goodIn_sub hb_0 (List.all_eq_true.mpr gw_c_isRunner)))))) rfl rfl rfl (by decide +kernel) ⟨Nat.le_of_ble_eq_true rfl, Nat.le_of_ble_eq_true rfl⟩) (pr_V (As := [.int p0]) (b := mo) (C := RX9) hP hD hK hS hA hE [0, 1] [] rfl rfl rfl 0 16 rfl rfl rfl) rfl rfl hl.1 rfl (lv_room (Nat.le_of_ble_eq_true rfl)) dX9_punch_2 ⟨Nat.le_of_ble_eq_true rfl, Nat.le_of_ble_eq_true rfl⟩) hP hD hK hS hA [0, 1] [] rfl rfl (by decide) (by decide) (fun r2 _ H locs w1 hP hD hK hS => ?_)
  have hP : va_P D vwCl [(mo, .inr (16, [.int 5, .int 5, .int th, .ref m1, .ref m2, .ref m3, .ref m4, .ref m5, .ref l1, .ref l2, .ref l3, .int (-1), .ref l4])), (l3, .inr (5, [.int 1, .ref (D.1 1000), .int 0]))] H := hP
  have hD : va_D A [(mo, .inr (16, [.int 5, .int 5, .int th, .ref m1, .ref m2, .ref m3, .ref m4, .ref m5, .ref l1, .ref l2, .ref l3, .int (-1), .ref l4])), (l3, .inr (5, [.int 1, .ref (D.1 1000), .int 0]))] := hD
  have hK : va_K D vwCl [] s := hK
  obtain rfl : r2 = 0 := w1
  refine lv_if_eq (tgt := 16) hx hb dX9_punch_5 (by decide) (fun h3 => ?_) (fun h3 => absurd (by decide) h3)
  refine lv_aload_n hx hb dX9_punch_16 rfl (lv_at hl 0 rfl) ?_
  refine lv_iconst (v := 1) hx hb dX9_punch_17 (by decide) ?_
  refine mc_i (wr := [(l3, .inr (5, [.int 1, .ref (D.1 1000), .int 0]))]) (va_runV (As := [.int 1]) (rest := []) ⟨hx, hb, hml, hown, hts⟩ (c_fails l hst D mo 5 5 th m1 m2 m3 m4 m5 l1 l2 l3 (-1) l4 1 H.size) (cwV 1 hts (gi_c (List.mem_cons_of_mem _ (List.mem_append_left _ (List.mem_of_getElem? (i := 4) rfl))) rfl (gi_c (List.mem_cons_of_mem _ (List.mem_append_left _ (List.mem_of_getElem? (i := 5) rfl))) rfl (gi_c (List.mem_cons_of_mem _ (List.mem_append_left _ (List.mem_of_getElem? (i := 6) rfl))) rfl (gi_c (List.mem_cons_of_mem _ (List.mem_append_left _ (List.mem_of_getElem? (i := 3) rfl))) rfl (goodIn_sub hb_1 (List.all_eq_true.mpr gw_c_fails)))))) rfl rfl rfl (by decide +kernel) ⟨Nat.le_of_ble_eq_true rfl, Nat.le_of_ble_eq_true rfl⟩) (pr_V (As := [.int 1]) (b := mo) (C := RX9) hP hD hK hS hA hE [0] [] rfl rfl rfl 0 16 rfl rfl rfl) rfl rfl hl.1 rfl (lv_room (Nat.le_of_ble_eq_true rfl)) dX9_punch_18 ⟨Nat.le_of_ble_eq_true rfl, Nat.le_of_ble_eq_true rfl⟩) hP hD hK hS hA [0] [1] rfl rfl (by decide) (by decide) (fun r5 _ H locs w4 hP hD hK hS => ?_)
  have hP : va_P D vwCl [(l3, .inr (5, [.int 1, .ref (D.1 1000), .int 0])), (mo, .inr (16, [.int 5, .int 5, .int 1, .ref m1, .ref m2, .ref m3, .ref m4, .ref m5, .ref l1, .ref l2, .ref l3, .int (-1), .ref l4]))] H := hP
  have hD : va_D A [(l3, .inr (5, [.int 1, .ref (D.1 1000), .int 0])), (mo, .inr (16, [.int 5, .int 5, .int 1, .ref m1, .ref m2, .ref m3, .ref m4, .ref m5, .ref l1, .ref l2, .ref l3, .int (-1), .ref l4]))] := hD
  have hK : va_K D vwCl [] s := hK
  obtain rfl : r5 = 0 := w4
  exact mr_i hx hb hr (1, fun k9 => [m1, m2, m3, m4, m5, l1, l2, l3, l4].getD k9 0, fun k9 => [5, 5, -1].getD k9 0) (rfl) (hP.sub [1] rfl) (hK.sub [] rfl) (hD.sub [1] (by decide) rfl) hS (Nat.le_of_ble_eq_true rfl) (Nat.le_of_ble_eq_true rfl) hlocks dX9_punch_21

def us_c_mfinish : List Cond := .code yX9_finish cX9_finish 4 (some .int) :: (([.methodLink RX9 227 yX9_isRunner, .instanceMethod yX9_isRunner, .selects RX9 yX9_isRunner yX9_isRunner, .initialized RX9, .methodLink RX9 76 yX9_fails, .instanceMethod yX9_fails, .selects RX9 yX9_fails yX9_fails] : List Cond) ++ (us_c_isRunner ++ (us_c_fails ++ ([]))))
theorem gw_c_mfinish : ∀ w ∈ us_c_mfinish, goodWord w = true := gw_cons rfl (gw_app (by decide +kernel) (gw_app gw_c_isRunner (gw_app gw_c_fails (fun _ h => nomatch h))))
set_option maxHeartbeats 4000000 in
set_option maxRecDepth 100000 in
/-- the reference refuses finish -/
theorem c_mfinish (l : Launch) (hst : l.stackTraces = false) (D : va_G) (mo : Nat) (th : Int32) (m1 : Nat) (m2 : Nat) (m3 : Nat) (m4 : Nat) (m5 : Nat) (l1 : Nat) (l2 : Nat) (l3 : Nat) (l4 : Nat) (p0 : Int32) (p1 : Int32) (sz : Nat) : Met l yX9_finish us_c_mfinish { frames := 2, cells := 0, slots := 0, locals := 46 } (pw D [.ref mo, .int p0, .int p1] [] [(mo, .inr (16, [.int 5, .int 5, .int th, .ref m1, .ref m2, .ref m3, .ref m4, .ref m5, .ref l1, .ref l2, .ref l3, .int (-1), .ref l4])), (l3, .inr (5, [.int 1, .ref (D.1 1000), .int 0]))] sz) (va_Qi (fun (_ : Int32) (u : (Int32 × (Nat → Nat) × (Nat → Int32))) => u.1 = 1) (qb D (va_A [(mo, .inr (16, [.int 5, .int 5, .int th, .ref m1, .ref m2, .ref m3, .ref m4, .ref m5, .ref l1, .ref l2, .ref l3, .int (-1), .ref l4])), (l3, .inr (5, [.int 1, .ref (D.1 1000), .int 0]))] sz) (fun u : (Int32 × (Nat → Nat) × (Nat → Int32)) => [(mo, .inr (16, [.int (u.2.2 0), .int (u.2.2 1), .int u.1, .ref (u.2.1 0), .ref (u.2.1 1), .ref (u.2.1 2), .ref (u.2.1 3), .ref (u.2.1 4), .ref (u.2.1 5), .ref (u.2.1 6), .ref (u.2.1 7), .int (u.2.2 2), .ref (u.2.1 8)]))]) (fun u : (Int32 × (Nat → Nat) × (Nat → Int32)) => ([] : List (ClassId × FieldType)))) (va_A [(mo, .inr (16, [.int 5, .int 5, .int th, .ref m1, .ref m2, .ref m3, .ref m4, .ref m5, .ref l1, .ref l2, .ref l3, .int (-1), .ref l4])), (l3, .inr (5, [.int 1, .ref (D.1 1000), .int 0]))] sz)) 0 0 (va_A [(mo, .inr (16, [.int 5, .int 5, .int th, .ref m1, .ref m2, .ref m3, .ref m4, .ref m5, .ref l1, .ref l2, .ref l3, .int (-1), .ref l4])), (l3, .inr (5, [.int 1, .ref (D.1 1000), .int 0]))] sz) := by
  refine op_M (Qc := fun A => (va_Qi (fun (_ : Int32) (u : (Int32 × (Nat → Nat) × (Nat → Int32))) => u.1 = 1) (qb D A (fun u : (Int32 × (Nat → Nat) × (Nat → Int32)) => [(mo, .inr (16, [.int (u.2.2 0), .int (u.2.2 1), .int u.1, .ref (u.2.1 0), .ref (u.2.1 1), .ref (u.2.1 2), .ref (u.2.1 3), .ref (u.2.1 4), .ref (u.2.1 5), .ref (u.2.1 6), .ref (u.2.1 7), .int (u.2.2 2), .ref (u.2.1 8)]))]) (fun u : (Int32 × (Nat → Nat) × (Nat → Int32)) => ([] : List (ClassId × FieldType)))) A)) (by decide +kernel) rfl (Nat.le_of_ble_eq_true rfl) ?_
  intro p e s m args below meth c A ls hx hb hr hml hts hown hlocks hmn htab hA hD hS hP hK hE hsz hl
  have hown : s.vm.findClass RX9 = some m.cls := hown
  have hl : lv_has ls 4 [(0, .ref mo), (1, .int p0), (2, .int p1)] := hl
  have hw_0 := hts (.methodLink RX9 227 yX9_isRunner) (List.mem_cons_of_mem _ (List.mem_append_left _ (List.mem_of_getElem? (i := 0) rfl)))
  have hw_1 := hts (.instanceMethod yX9_isRunner) (List.mem_cons_of_mem _ (List.mem_append_left _ (List.mem_of_getElem? (i := 1) rfl)))
  have hw_2 := hts (.selects RX9 yX9_isRunner yX9_isRunner) (List.mem_cons_of_mem _ (List.mem_append_left _ (List.mem_of_getElem? (i := 2) rfl)))
  have hw_3 := hts (.initialized RX9) (List.mem_cons_of_mem _ (List.mem_append_left _ (List.mem_of_getElem? (i := 3) rfl)))
  have hw_4 := hts (.methodLink RX9 76 yX9_fails) (List.mem_cons_of_mem _ (List.mem_append_left _ (List.mem_of_getElem? (i := 4) rfl)))
  have hw_5 := hts (.instanceMethod yX9_fails) (List.mem_cons_of_mem _ (List.mem_append_left _ (List.mem_of_getElem? (i := 5) rfl)))
  have hw_6 := hts (.selects RX9 yX9_fails yX9_fails) (List.mem_cons_of_mem _ (List.mem_append_left _ (List.mem_of_getElem? (i := 6) rfl)))
  have hb_0 : ∀ w ∈ us_c_isRunner, w ∈ us_c_mfinish := fun w h => List.mem_cons_of_mem _ (List.mem_append_right _ (List.mem_append_left _ h))
  have hb_1 : ∀ w ∈ us_c_fails, w ∈ us_c_mfinish := fun w h => List.mem_cons_of_mem _ (List.mem_append_right _ (List.mem_append_right _ (List.mem_append_left _ h)))
  refine lv_aload_n hx hb dX9_finish_0 rfl (lv_at hl 0 rfl) ?_
  refine lv_iload_n hx hb dX9_finish_1 rfl (lv_at hl 1 rfl) ?_
  refine mc_i (wr := []) (va_runV (As := [.int p0]) (rest := []) ⟨hx, hb, hml, hown, hts⟩ (c_isRunner l hst D mo th m1 m2 m3 m4 m5 l1 l2 l3 l4 p0 s.heap.size) (cwV 1 hts (gi_c (List.mem_cons_of_mem _ (List.mem_append_left _ (List.mem_of_getElem? (i := 0) rfl))) rfl (gi_c (List.mem_cons_of_mem _ (List.mem_append_left _ (List.mem_of_getElem? (i := 1) rfl))) rfl (gi_c (List.mem_cons_of_mem _ (List.mem_append_left _ (List.mem_of_getElem? (i := 2) rfl))) rfl (gi_c (List.mem_cons_of_mem _ (List.mem_append_left _ (List.mem_of_getElem? (i := 3) rfl))) rfl (goodIn_sub hb_0 (List.all_eq_true.mpr gw_c_isRunner)))))) rfl rfl rfl (by decide +kernel) ⟨Nat.le_of_ble_eq_true rfl, Nat.le_of_ble_eq_true rfl⟩) (pr_V (As := [.int p0]) (b := mo) (C := RX9) hP hD hK hS hA hE [0, 1] [] rfl rfl rfl 0 16 rfl rfl rfl) rfl rfl hl.1 rfl (lv_room (Nat.le_of_ble_eq_true rfl)) dX9_finish_2 ⟨Nat.le_of_ble_eq_true rfl, Nat.le_of_ble_eq_true rfl⟩) hP hD hK hS hA [0, 1] [] rfl rfl (by decide) (by decide) (fun r2 _ H locs w1 hP hD hK hS => ?_)
  have hP : va_P D vwCl [(mo, .inr (16, [.int 5, .int 5, .int th, .ref m1, .ref m2, .ref m3, .ref m4, .ref m5, .ref l1, .ref l2, .ref l3, .int (-1), .ref l4])), (l3, .inr (5, [.int 1, .ref (D.1 1000), .int 0]))] H := hP
  have hD : va_D A [(mo, .inr (16, [.int 5, .int 5, .int th, .ref m1, .ref m2, .ref m3, .ref m4, .ref m5, .ref l1, .ref l2, .ref l3, .int (-1), .ref l4])), (l3, .inr (5, [.int 1, .ref (D.1 1000), .int 0]))] := hD
  have hK : va_K D vwCl [] s := hK
  obtain rfl : r2 = 0 := w1
  refine lv_if_ne (tgt := 14) hx hb dX9_finish_5 (by decide) (fun h3 => absurd (by decide) h3) (fun h3 => ?_)
  refine lv_aload_n hx hb dX9_finish_8 rfl (lv_at hl 0 rfl) ?_
  refine lv_iconst (v := 1) hx hb dX9_finish_9 (by decide) ?_
  refine mc_i (wr := [(l3, .inr (5, [.int 1, .ref (D.1 1000), .int 0]))]) (va_runV (As := [.int 1]) (rest := []) ⟨hx, hb, hml, hown, hts⟩ (c_fails l hst D mo 5 5 th m1 m2 m3 m4 m5 l1 l2 l3 (-1) l4 1 H.size) (cwV 1 hts (gi_c (List.mem_cons_of_mem _ (List.mem_append_left _ (List.mem_of_getElem? (i := 4) rfl))) rfl (gi_c (List.mem_cons_of_mem _ (List.mem_append_left _ (List.mem_of_getElem? (i := 5) rfl))) rfl (gi_c (List.mem_cons_of_mem _ (List.mem_append_left _ (List.mem_of_getElem? (i := 6) rfl))) rfl (gi_c (List.mem_cons_of_mem _ (List.mem_append_left _ (List.mem_of_getElem? (i := 3) rfl))) rfl (goodIn_sub hb_1 (List.all_eq_true.mpr gw_c_fails)))))) rfl rfl rfl (by decide +kernel) ⟨Nat.le_of_ble_eq_true rfl, Nat.le_of_ble_eq_true rfl⟩) (pr_V (As := [.int 1]) (b := mo) (C := RX9) hP hD hK hS hA hE [0] [] rfl rfl rfl 0 16 rfl rfl rfl) rfl rfl hl.1 rfl (lv_room (Nat.le_of_ble_eq_true rfl)) dX9_finish_10 ⟨Nat.le_of_ble_eq_true rfl, Nat.le_of_ble_eq_true rfl⟩) hP hD hK hS hA [0] [1] rfl rfl (by decide) (by decide) (fun r5 _ H locs w4 hP hD hK hS => ?_)
  have hP : va_P D vwCl [(l3, .inr (5, [.int 1, .ref (D.1 1000), .int 0])), (mo, .inr (16, [.int 5, .int 5, .int 1, .ref m1, .ref m2, .ref m3, .ref m4, .ref m5, .ref l1, .ref l2, .ref l3, .int (-1), .ref l4]))] H := hP
  have hD : va_D A [(l3, .inr (5, [.int 1, .ref (D.1 1000), .int 0])), (mo, .inr (16, [.int 5, .int 5, .int 1, .ref m1, .ref m2, .ref m3, .ref m4, .ref m5, .ref l1, .ref l2, .ref l3, .int (-1), .ref l4]))] := hD
  have hK : va_K D vwCl [] s := hK
  obtain rfl : r5 = 0 := w4
  exact mr_i hx hb hr (1, fun k9 => [m1, m2, m3, m4, m5, l1, l2, l3, l4].getD k9 0, fun k9 => [5, 5, -1].getD k9 0) (rfl) (hP.sub [1] rfl) (hK.sub [] rfl) (hD.sub [1] (by decide) rfl) hS (Nat.le_of_ble_eq_true rfl) (Nat.le_of_ble_eq_true rfl) hlocks dX9_finish_13

def us_c_mdead : List Cond := .code yX9_dead cX9_dead 9 (some .int) :: (([.methodLink RX9 149 yX9_isControl, .instanceMethod yX9_isControl, .selects RX9 yX9_isControl yX9_isControl, .initialized RX9, .methodLink RX9 76 yX9_fails, .instanceMethod yX9_fails, .selects RX9 yX9_fails yX9_fails] : List Cond) ++ (us_c_isControl ++ (us_c_fails ++ ([]))))
theorem gw_c_mdead : ∀ w ∈ us_c_mdead, goodWord w = true := gw_cons rfl (gw_app (by decide +kernel) (gw_app gw_c_isControl (gw_app gw_c_fails (fun _ h => nomatch h))))
set_option maxHeartbeats 4000000 in
set_option maxRecDepth 100000 in
/-- the reference refuses dead -/
theorem c_mdead (l : Launch) (hst : l.stackTraces = false) (D : va_G) (mo : Nat) (th : Int32) (m1 : Nat) (m2 : Nat) (m3 : Nat) (m4 : Nat) (m5 : Nat) (l1 : Nat) (l2 : Nat) (l3 : Nat) (l4 : Nat) (p0 : Int32) (p1 : Int32) (p2 : Int32) (sz : Nat) : Met l yX9_dead us_c_mdead { frames := 2, cells := 0, slots := 0, locals := 46 } (pw D [.ref mo, .int p0, .int p1, .int p2] [] [(mo, .inr (16, [.int 5, .int 5, .int th, .ref m1, .ref m2, .ref m3, .ref m4, .ref m5, .ref l1, .ref l2, .ref l3, .int (-1), .ref l4])), (l1, .inr (5, [.int 1, .ref (D.1 1000), .int 0]))] sz) (va_Qi (fun (_ : Int32) (u : (Int32 × (Nat → Nat) × (Nat → Int32))) => u.1 = 1) (qb D (va_A [(mo, .inr (16, [.int 5, .int 5, .int th, .ref m1, .ref m2, .ref m3, .ref m4, .ref m5, .ref l1, .ref l2, .ref l3, .int (-1), .ref l4])), (l1, .inr (5, [.int 1, .ref (D.1 1000), .int 0]))] sz) (fun u : (Int32 × (Nat → Nat) × (Nat → Int32)) => [(mo, .inr (16, [.int (u.2.2 0), .int (u.2.2 1), .int u.1, .ref (u.2.1 0), .ref (u.2.1 1), .ref (u.2.1 2), .ref (u.2.1 3), .ref (u.2.1 4), .ref (u.2.1 5), .ref (u.2.1 6), .ref (u.2.1 7), .int (u.2.2 2), .ref (u.2.1 8)]))]) (fun u : (Int32 × (Nat → Nat) × (Nat → Int32)) => ([] : List (ClassId × FieldType)))) (va_A [(mo, .inr (16, [.int 5, .int 5, .int th, .ref m1, .ref m2, .ref m3, .ref m4, .ref m5, .ref l1, .ref l2, .ref l3, .int (-1), .ref l4])), (l1, .inr (5, [.int 1, .ref (D.1 1000), .int 0]))] sz)) 0 0 (va_A [(mo, .inr (16, [.int 5, .int 5, .int th, .ref m1, .ref m2, .ref m3, .ref m4, .ref m5, .ref l1, .ref l2, .ref l3, .int (-1), .ref l4])), (l1, .inr (5, [.int 1, .ref (D.1 1000), .int 0]))] sz) := by
  refine op_M (Qc := fun A => (va_Qi (fun (_ : Int32) (u : (Int32 × (Nat → Nat) × (Nat → Int32))) => u.1 = 1) (qb D A (fun u : (Int32 × (Nat → Nat) × (Nat → Int32)) => [(mo, .inr (16, [.int (u.2.2 0), .int (u.2.2 1), .int u.1, .ref (u.2.1 0), .ref (u.2.1 1), .ref (u.2.1 2), .ref (u.2.1 3), .ref (u.2.1 4), .ref (u.2.1 5), .ref (u.2.1 6), .ref (u.2.1 7), .int (u.2.2 2), .ref (u.2.1 8)]))]) (fun u : (Int32 × (Nat → Nat) × (Nat → Int32)) => ([] : List (ClassId × FieldType)))) A)) (by decide +kernel) rfl (Nat.le_of_ble_eq_true rfl) ?_
  intro p e s m args below meth c A ls hx hb hr hml hts hown hlocks hmn htab hA hD hS hP hK hE hsz hl
  have hown : s.vm.findClass RX9 = some m.cls := hown
  have hl : lv_has ls 9 [(0, .ref mo), (1, .int p0), (2, .int p1), (3, .int p2)] := hl
  have hw_0 := hts (.methodLink RX9 149 yX9_isControl) (List.mem_cons_of_mem _ (List.mem_append_left _ (List.mem_of_getElem? (i := 0) rfl)))
  have hw_1 := hts (.instanceMethod yX9_isControl) (List.mem_cons_of_mem _ (List.mem_append_left _ (List.mem_of_getElem? (i := 1) rfl)))
  have hw_2 := hts (.selects RX9 yX9_isControl yX9_isControl) (List.mem_cons_of_mem _ (List.mem_append_left _ (List.mem_of_getElem? (i := 2) rfl)))
  have hw_3 := hts (.initialized RX9) (List.mem_cons_of_mem _ (List.mem_append_left _ (List.mem_of_getElem? (i := 3) rfl)))
  have hw_4 := hts (.methodLink RX9 76 yX9_fails) (List.mem_cons_of_mem _ (List.mem_append_left _ (List.mem_of_getElem? (i := 4) rfl)))
  have hw_5 := hts (.instanceMethod yX9_fails) (List.mem_cons_of_mem _ (List.mem_append_left _ (List.mem_of_getElem? (i := 5) rfl)))
  have hw_6 := hts (.selects RX9 yX9_fails yX9_fails) (List.mem_cons_of_mem _ (List.mem_append_left _ (List.mem_of_getElem? (i := 6) rfl)))
  have hb_0 : ∀ w ∈ us_c_isControl, w ∈ us_c_mdead := fun w h => List.mem_cons_of_mem _ (List.mem_append_right _ (List.mem_append_left _ h))
  have hb_1 : ∀ w ∈ us_c_fails, w ∈ us_c_mdead := fun w h => List.mem_cons_of_mem _ (List.mem_append_right _ (List.mem_append_right _ (List.mem_append_left _ h)))
  refine lv_aload_n hx hb dX9_dead_0 rfl (lv_at hl 0 rfl) ?_
  refine lv_iload_n hx hb dX9_dead_1 rfl (lv_at hl 1 rfl) ?_
  refine mc_i (wr := []) (va_runV (As := [.int p0]) (rest := []) ⟨hx, hb, hml, hown, hts⟩ (c_isControl l hst D mo th m1 m2 m3 m4 m5 l1 l2 l3 l4 p0 s.heap.size) (cwV 1 hts (gi_c (List.mem_cons_of_mem _ (List.mem_append_left _ (List.mem_of_getElem? (i := 0) rfl))) rfl (gi_c (List.mem_cons_of_mem _ (List.mem_append_left _ (List.mem_of_getElem? (i := 1) rfl))) rfl (gi_c (List.mem_cons_of_mem _ (List.mem_append_left _ (List.mem_of_getElem? (i := 2) rfl))) rfl (gi_c (List.mem_cons_of_mem _ (List.mem_append_left _ (List.mem_of_getElem? (i := 3) rfl))) rfl (goodIn_sub hb_0 (List.all_eq_true.mpr gw_c_isControl)))))) rfl rfl rfl (by decide +kernel) ⟨Nat.le_of_ble_eq_true rfl, Nat.le_of_ble_eq_true rfl⟩) (pr_V (As := [.int p0]) (b := mo) (C := RX9) hP hD hK hS hA hE [0, 1] [] rfl rfl rfl 0 16 rfl rfl rfl) rfl rfl hl.1 rfl (lv_room (Nat.le_of_ble_eq_true rfl)) dX9_dead_2 ⟨Nat.le_of_ble_eq_true rfl, Nat.le_of_ble_eq_true rfl⟩) hP hD hK hS hA [0, 1] [] rfl rfl (by decide) (by decide) (fun r2 _ H locs w1 hP hD hK hS => ?_)
  have hP : va_P D vwCl [(mo, .inr (16, [.int 5, .int 5, .int th, .ref m1, .ref m2, .ref m3, .ref m4, .ref m5, .ref l1, .ref l2, .ref l3, .int (-1), .ref l4])), (l1, .inr (5, [.int 1, .ref (D.1 1000), .int 0]))] H := hP
  have hD : va_D A [(mo, .inr (16, [.int 5, .int 5, .int th, .ref m1, .ref m2, .ref m3, .ref m4, .ref m5, .ref l1, .ref l2, .ref l3, .int (-1), .ref l4])), (l1, .inr (5, [.int 1, .ref (D.1 1000), .int 0]))] := hD
  have hK : va_K D vwCl [] s := hK
  obtain rfl : r2 = 0 := w1
  refine lv_if_ne (tgt := 14) hx hb dX9_dead_5 (by decide) (fun h3 => absurd (by decide) h3) (fun h3 => ?_)
  refine lv_aload_n hx hb dX9_dead_8 rfl (lv_at hl 0 rfl) ?_
  refine lv_iconst (v := 1) hx hb dX9_dead_9 (by decide) ?_
  refine mc_i (wr := [(l1, .inr (5, [.int 1, .ref (D.1 1000), .int 0]))]) (va_runV (As := [.int 1]) (rest := []) ⟨hx, hb, hml, hown, hts⟩ (c_fails l hst D mo 5 5 th m1 m2 m3 m4 m5 l1 l2 l3 (-1) l4 1 H.size) (cwV 1 hts (gi_c (List.mem_cons_of_mem _ (List.mem_append_left _ (List.mem_of_getElem? (i := 4) rfl))) rfl (gi_c (List.mem_cons_of_mem _ (List.mem_append_left _ (List.mem_of_getElem? (i := 5) rfl))) rfl (gi_c (List.mem_cons_of_mem _ (List.mem_append_left _ (List.mem_of_getElem? (i := 6) rfl))) rfl (gi_c (List.mem_cons_of_mem _ (List.mem_append_left _ (List.mem_of_getElem? (i := 3) rfl))) rfl (goodIn_sub hb_1 (List.all_eq_true.mpr gw_c_fails)))))) rfl rfl rfl (by decide +kernel) ⟨Nat.le_of_ble_eq_true rfl, Nat.le_of_ble_eq_true rfl⟩) (pr_V (As := [.int 1]) (b := mo) (C := RX9) hP hD hK hS hA hE [0] [] rfl rfl rfl 0 16 rfl rfl rfl) rfl rfl hl.1 rfl (lv_room (Nat.le_of_ble_eq_true rfl)) dX9_dead_10 ⟨Nat.le_of_ble_eq_true rfl, Nat.le_of_ble_eq_true rfl⟩) hP hD hK hS hA [0] [1] rfl rfl (by decide) (by decide) (fun r5 _ H locs w4 hP hD hK hS => ?_)
  have hP : va_P D vwCl [(l1, .inr (5, [.int 1, .ref (D.1 1000), .int 0])), (mo, .inr (16, [.int 5, .int 5, .int 1, .ref m1, .ref m2, .ref m3, .ref m4, .ref m5, .ref l1, .ref l2, .ref l3, .int (-1), .ref l4]))] H := hP
  have hD : va_D A [(l1, .inr (5, [.int 1, .ref (D.1 1000), .int 0])), (mo, .inr (16, [.int 5, .int 5, .int 1, .ref m1, .ref m2, .ref m3, .ref m4, .ref m5, .ref l1, .ref l2, .ref l3, .int (-1), .ref l4]))] := hD
  have hK : va_K D vwCl [] s := hK
  obtain rfl : r5 = 0 := w4
  exact mr_i hx hb hr (1, fun k9 => [m1, m2, m3, m4, m5, l1, l2, l3, l4].getD k9 0, fun k9 => [5, 5, -1].getD k9 0) (rfl) (hP.sub [1] rfl) (hK.sub [] rfl) (hD.sub [1] (by decide) rfl) hS (Nat.le_of_ble_eq_true rfl) (Nat.le_of_ble_eq_true rfl) hlocks dX9_dead_13

def us_c_mstolen : List Cond := .code yX9_stolen cX9_stolen 4 (some .int) :: (([.methodLink RX9 149 yX9_isControl, .instanceMethod yX9_isControl, .selects RX9 yX9_isControl yX9_isControl, .initialized RX9, .methodLink RX9 76 yX9_fails, .instanceMethod yX9_fails, .selects RX9 yX9_fails yX9_fails] : List Cond) ++ (us_c_isControl ++ (us_c_fails ++ ([]))))
theorem gw_c_mstolen : ∀ w ∈ us_c_mstolen, goodWord w = true := gw_cons rfl (gw_app (by decide +kernel) (gw_app gw_c_isControl (gw_app gw_c_fails (fun _ h => nomatch h))))
set_option maxHeartbeats 4000000 in
set_option maxRecDepth 100000 in
/-- the reference refuses stolen -/
theorem c_mstolen (l : Launch) (hst : l.stackTraces = false) (D : va_G) (mo : Nat) (th : Int32) (m1 : Nat) (m2 : Nat) (m3 : Nat) (m4 : Nat) (m5 : Nat) (l1 : Nat) (l2 : Nat) (l3 : Nat) (l4 : Nat) (p0 : Int32) (p1 : Int32) (sz : Nat) : Met l yX9_stolen us_c_mstolen { frames := 2, cells := 0, slots := 0, locals := 46 } (pw D [.ref mo, .int p0, .int p1] [] [(mo, .inr (16, [.int 5, .int 5, .int th, .ref m1, .ref m2, .ref m3, .ref m4, .ref m5, .ref l1, .ref l2, .ref l3, .int (-1), .ref l4])), (l1, .inr (5, [.int 1, .ref (D.1 1000), .int 0]))] sz) (va_Qi (fun (_ : Int32) (u : (Int32 × (Nat → Nat) × (Nat → Int32))) => u.1 = 1) (qb D (va_A [(mo, .inr (16, [.int 5, .int 5, .int th, .ref m1, .ref m2, .ref m3, .ref m4, .ref m5, .ref l1, .ref l2, .ref l3, .int (-1), .ref l4])), (l1, .inr (5, [.int 1, .ref (D.1 1000), .int 0]))] sz) (fun u : (Int32 × (Nat → Nat) × (Nat → Int32)) => [(mo, .inr (16, [.int (u.2.2 0), .int (u.2.2 1), .int u.1, .ref (u.2.1 0), .ref (u.2.1 1), .ref (u.2.1 2), .ref (u.2.1 3), .ref (u.2.1 4), .ref (u.2.1 5), .ref (u.2.1 6), .ref (u.2.1 7), .int (u.2.2 2), .ref (u.2.1 8)]))]) (fun u : (Int32 × (Nat → Nat) × (Nat → Int32)) => ([] : List (ClassId × FieldType)))) (va_A [(mo, .inr (16, [.int 5, .int 5, .int th, .ref m1, .ref m2, .ref m3, .ref m4, .ref m5, .ref l1, .ref l2, .ref l3, .int (-1), .ref l4])), (l1, .inr (5, [.int 1, .ref (D.1 1000), .int 0]))] sz)) 0 0 (va_A [(mo, .inr (16, [.int 5, .int 5, .int th, .ref m1, .ref m2, .ref m3, .ref m4, .ref m5, .ref l1, .ref l2, .ref l3, .int (-1), .ref l4])), (l1, .inr (5, [.int 1, .ref (D.1 1000), .int 0]))] sz) := by
  refine op_M (Qc := fun A => (va_Qi (fun (_ : Int32) (u : (Int32 × (Nat → Nat) × (Nat → Int32))) => u.1 = 1) (qb D A (fun u : (Int32 × (Nat → Nat) × (Nat → Int32)) => [(mo, .inr (16, [.int (u.2.2 0), .int (u.2.2 1), .int u.1, .ref (u.2.1 0), .ref (u.2.1 1), .ref (u.2.1 2), .ref (u.2.1 3), .ref (u.2.1 4), .ref (u.2.1 5), .ref (u.2.1 6), .ref (u.2.1 7), .int (u.2.2 2), .ref (u.2.1 8)]))]) (fun u : (Int32 × (Nat → Nat) × (Nat → Int32)) => ([] : List (ClassId × FieldType)))) A)) (by decide +kernel) rfl (Nat.le_of_ble_eq_true rfl) ?_
  intro p e s m args below meth c A ls hx hb hr hml hts hown hlocks hmn htab hA hD hS hP hK hE hsz hl
  have hown : s.vm.findClass RX9 = some m.cls := hown
  have hl : lv_has ls 4 [(0, .ref mo), (1, .int p0), (2, .int p1)] := hl
  have hw_0 := hts (.methodLink RX9 149 yX9_isControl) (List.mem_cons_of_mem _ (List.mem_append_left _ (List.mem_of_getElem? (i := 0) rfl)))
  have hw_1 := hts (.instanceMethod yX9_isControl) (List.mem_cons_of_mem _ (List.mem_append_left _ (List.mem_of_getElem? (i := 1) rfl)))
  have hw_2 := hts (.selects RX9 yX9_isControl yX9_isControl) (List.mem_cons_of_mem _ (List.mem_append_left _ (List.mem_of_getElem? (i := 2) rfl)))
  have hw_3 := hts (.initialized RX9) (List.mem_cons_of_mem _ (List.mem_append_left _ (List.mem_of_getElem? (i := 3) rfl)))
  have hw_4 := hts (.methodLink RX9 76 yX9_fails) (List.mem_cons_of_mem _ (List.mem_append_left _ (List.mem_of_getElem? (i := 4) rfl)))
  have hw_5 := hts (.instanceMethod yX9_fails) (List.mem_cons_of_mem _ (List.mem_append_left _ (List.mem_of_getElem? (i := 5) rfl)))
  have hw_6 := hts (.selects RX9 yX9_fails yX9_fails) (List.mem_cons_of_mem _ (List.mem_append_left _ (List.mem_of_getElem? (i := 6) rfl)))
  have hb_0 : ∀ w ∈ us_c_isControl, w ∈ us_c_mstolen := fun w h => List.mem_cons_of_mem _ (List.mem_append_right _ (List.mem_append_left _ h))
  have hb_1 : ∀ w ∈ us_c_fails, w ∈ us_c_mstolen := fun w h => List.mem_cons_of_mem _ (List.mem_append_right _ (List.mem_append_right _ (List.mem_append_left _ h)))
  refine lv_aload_n hx hb dX9_stolen_0 rfl (lv_at hl 0 rfl) ?_
  refine lv_iload_n hx hb dX9_stolen_1 rfl (lv_at hl 1 rfl) ?_
  refine mc_i (wr := []) (va_runV (As := [.int p0]) (rest := []) ⟨hx, hb, hml, hown, hts⟩ (c_isControl l hst D mo th m1 m2 m3 m4 m5 l1 l2 l3 l4 p0 s.heap.size) (cwV 1 hts (gi_c (List.mem_cons_of_mem _ (List.mem_append_left _ (List.mem_of_getElem? (i := 0) rfl))) rfl (gi_c (List.mem_cons_of_mem _ (List.mem_append_left _ (List.mem_of_getElem? (i := 1) rfl))) rfl (gi_c (List.mem_cons_of_mem _ (List.mem_append_left _ (List.mem_of_getElem? (i := 2) rfl))) rfl (gi_c (List.mem_cons_of_mem _ (List.mem_append_left _ (List.mem_of_getElem? (i := 3) rfl))) rfl (goodIn_sub hb_0 (List.all_eq_true.mpr gw_c_isControl)))))) rfl rfl rfl (by decide +kernel) ⟨Nat.le_of_ble_eq_true rfl, Nat.le_of_ble_eq_true rfl⟩) (pr_V (As := [.int p0]) (b := mo) (C := RX9) hP hD hK hS hA hE [0, 1] [] rfl rfl rfl 0 16 rfl rfl rfl) rfl rfl hl.1 rfl (lv_room (Nat.le_of_ble_eq_true rfl)) dX9_stolen_2 ⟨Nat.le_of_ble_eq_true rfl, Nat.le_of_ble_eq_true rfl⟩) hP hD hK hS hA [0, 1] [] rfl rfl (by decide) (by decide) (fun r2 _ H locs w1 hP hD hK hS => ?_)
  have hP : va_P D vwCl [(mo, .inr (16, [.int 5, .int 5, .int th, .ref m1, .ref m2, .ref m3, .ref m4, .ref m5, .ref l1, .ref l2, .ref l3, .int (-1), .ref l4])), (l1, .inr (5, [.int 1, .ref (D.1 1000), .int 0]))] H := hP
  have hD : va_D A [(mo, .inr (16, [.int 5, .int 5, .int th, .ref m1, .ref m2, .ref m3, .ref m4, .ref m5, .ref l1, .ref l2, .ref l3, .int (-1), .ref l4])), (l1, .inr (5, [.int 1, .ref (D.1 1000), .int 0]))] := hD
  have hK : va_K D vwCl [] s := hK
  obtain rfl : r2 = 0 := w1
  refine lv_if_ne (tgt := 14) hx hb dX9_stolen_5 (by decide) (fun h3 => absurd (by decide) h3) (fun h3 => ?_)
  refine lv_aload_n hx hb dX9_stolen_8 rfl (lv_at hl 0 rfl) ?_
  refine lv_iconst (v := 1) hx hb dX9_stolen_9 (by decide) ?_
  refine mc_i (wr := [(l1, .inr (5, [.int 1, .ref (D.1 1000), .int 0]))]) (va_runV (As := [.int 1]) (rest := []) ⟨hx, hb, hml, hown, hts⟩ (c_fails l hst D mo 5 5 th m1 m2 m3 m4 m5 l1 l2 l3 (-1) l4 1 H.size) (cwV 1 hts (gi_c (List.mem_cons_of_mem _ (List.mem_append_left _ (List.mem_of_getElem? (i := 4) rfl))) rfl (gi_c (List.mem_cons_of_mem _ (List.mem_append_left _ (List.mem_of_getElem? (i := 5) rfl))) rfl (gi_c (List.mem_cons_of_mem _ (List.mem_append_left _ (List.mem_of_getElem? (i := 6) rfl))) rfl (gi_c (List.mem_cons_of_mem _ (List.mem_append_left _ (List.mem_of_getElem? (i := 3) rfl))) rfl (goodIn_sub hb_1 (List.all_eq_true.mpr gw_c_fails)))))) rfl rfl rfl (by decide +kernel) ⟨Nat.le_of_ble_eq_true rfl, Nat.le_of_ble_eq_true rfl⟩) (pr_V (As := [.int 1]) (b := mo) (C := RX9) hP hD hK hS hA hE [0] [] rfl rfl rfl 0 16 rfl rfl rfl) rfl rfl hl.1 rfl (lv_room (Nat.le_of_ble_eq_true rfl)) dX9_stolen_10 ⟨Nat.le_of_ble_eq_true rfl, Nat.le_of_ble_eq_true rfl⟩) hP hD hK hS hA [0] [1] rfl rfl (by decide) (by decide) (fun r5 _ H locs w4 hP hD hK hS => ?_)
  have hP : va_P D vwCl [(l1, .inr (5, [.int 1, .ref (D.1 1000), .int 0])), (mo, .inr (16, [.int 5, .int 5, .int 1, .ref m1, .ref m2, .ref m3, .ref m4, .ref m5, .ref l1, .ref l2, .ref l3, .int (-1), .ref l4]))] H := hP
  have hD : va_D A [(l1, .inr (5, [.int 1, .ref (D.1 1000), .int 0])), (mo, .inr (16, [.int 5, .int 5, .int 1, .ref m1, .ref m2, .ref m3, .ref m4, .ref m5, .ref l1, .ref l2, .ref l3, .int (-1), .ref l4]))] := hD
  have hK : va_K D vwCl [] s := hK
  obtain rfl : r5 = 0 := w4
  exact mr_i hx hb hr (1, fun k9 => [m1, m2, m3, m4, m5, l1, l2, l3, l4].getD k9 0, fun k9 => [5, 5, -1].getD k9 0) (rfl) (hP.sub [1] rfl) (hK.sub [] rfl) (hD.sub [1] (by decide) rfl) hS (Nat.le_of_ble_eq_true rfl) (Nat.le_of_ble_eq_true rfl) hlocks dX9_stolen_13

def us_c_mvoided : List Cond := .code yX9_voided cX9_voided 5 (some .boolean) :: (([.methodLink RX9 178 yX9_isCourse, .instanceMethod yX9_isCourse, .selects RX9 yX9_isCourse yX9_isCourse, .initialized RX9, .fieldLink RX9 16 "ControlWoodModel" "thrown" "I"] : List Cond) ++ (us_c_isCourse ++ (wsX90 ++ ([]))))
theorem gw_c_mvoided : ∀ w ∈ us_c_mvoided, goodWord w = true := gw_cons rfl (gw_app (by decide +kernel) (gw_app gw_c_isCourse (gw_app gwf_X9 (fun _ h => nomatch h))))
set_option maxHeartbeats 4000000 in
set_option maxRecDepth 100000 in
/-- the reference refuses voided -/
theorem c_mvoided (l : Launch) (hst : l.stackTraces = false) (D : va_G) (mo : Nat) (th : Int32) (m1 : Nat) (m2 : Nat) (m3 : Nat) (m4 : Nat) (m5 : Nat) (l1 : Nat) (l2 : Nat) (l3 : Nat) (l4 : Nat) (p0 : Int32) (p1 : Int32) (p2 : Int32) (sz : Nat) : Met l yX9_voided us_c_mvoided { frames := 2, cells := 0, slots := 0, locals := 46 } (pw D [.ref mo, .int p0, .int p1, .int p2] [] [(mo, .inr (16, [.int 5, .int 5, .int th, .ref m1, .ref m2, .ref m3, .ref m4, .ref m5, .ref l1, .ref l2, .ref l3, .int (-1), .ref l4])), (l2, .inr (5, [.int 1, .ref (D.1 1000), .int 0]))] sz) (va_Qi (fun (_ : Int32) (u : (Int32 × (Nat → Nat) × (Nat → Int32))) => u.1 = 1) (qb D (va_A [(mo, .inr (16, [.int 5, .int 5, .int th, .ref m1, .ref m2, .ref m3, .ref m4, .ref m5, .ref l1, .ref l2, .ref l3, .int (-1), .ref l4])), (l2, .inr (5, [.int 1, .ref (D.1 1000), .int 0]))] sz) (fun u : (Int32 × (Nat → Nat) × (Nat → Int32)) => [(mo, .inr (16, [.int (u.2.2 0), .int (u.2.2 1), .int u.1, .ref (u.2.1 0), .ref (u.2.1 1), .ref (u.2.1 2), .ref (u.2.1 3), .ref (u.2.1 4), .ref (u.2.1 5), .ref (u.2.1 6), .ref (u.2.1 7), .int (u.2.2 2), .ref (u.2.1 8)]))]) (fun u : (Int32 × (Nat → Nat) × (Nat → Int32)) => ([] : List (ClassId × FieldType)))) (va_A [(mo, .inr (16, [.int 5, .int 5, .int th, .ref m1, .ref m2, .ref m3, .ref m4, .ref m5, .ref l1, .ref l2, .ref l3, .int (-1), .ref l4])), (l2, .inr (5, [.int 1, .ref (D.1 1000), .int 0]))] sz)) 0 0 (va_A [(mo, .inr (16, [.int 5, .int 5, .int th, .ref m1, .ref m2, .ref m3, .ref m4, .ref m5, .ref l1, .ref l2, .ref l3, .int (-1), .ref l4])), (l2, .inr (5, [.int 1, .ref (D.1 1000), .int 0]))] sz) := by
  refine op_M (Qc := fun A => (va_Qi (fun (_ : Int32) (u : (Int32 × (Nat → Nat) × (Nat → Int32))) => u.1 = 1) (qb D A (fun u : (Int32 × (Nat → Nat) × (Nat → Int32)) => [(mo, .inr (16, [.int (u.2.2 0), .int (u.2.2 1), .int u.1, .ref (u.2.1 0), .ref (u.2.1 1), .ref (u.2.1 2), .ref (u.2.1 3), .ref (u.2.1 4), .ref (u.2.1 5), .ref (u.2.1 6), .ref (u.2.1 7), .int (u.2.2 2), .ref (u.2.1 8)]))]) (fun u : (Int32 × (Nat → Nat) × (Nat → Int32)) => ([] : List (ClassId × FieldType)))) A)) (by decide +kernel) rfl (Nat.le_of_ble_eq_true rfl) ?_
  intro p e s m args below meth c A ls hx hb hr hml hts hown hlocks hmn htab hA hD hS hP hK hE hsz hl
  have hown : s.vm.findClass RX9 = some m.cls := hown
  have hl : lv_has ls 5 [(0, .ref mo), (1, .int p0), (2, .int p1), (3, .int p2)] := hl
  have hw_0 := hts (.methodLink RX9 178 yX9_isCourse) (List.mem_cons_of_mem _ (List.mem_append_left _ (List.mem_of_getElem? (i := 0) rfl)))
  have hw_1 := hts (.instanceMethod yX9_isCourse) (List.mem_cons_of_mem _ (List.mem_append_left _ (List.mem_of_getElem? (i := 1) rfl)))
  have hw_2 := hts (.selects RX9 yX9_isCourse yX9_isCourse) (List.mem_cons_of_mem _ (List.mem_append_left _ (List.mem_of_getElem? (i := 2) rfl)))
  have hw_3 := hts (.initialized RX9) (List.mem_cons_of_mem _ (List.mem_append_left _ (List.mem_of_getElem? (i := 3) rfl)))
  have hw_4 := hts (.fieldLink RX9 16 "ControlWoodModel" "thrown" "I") (List.mem_cons_of_mem _ (List.mem_append_left _ (List.mem_of_getElem? (i := 4) rfl)))
  have hb_0 : ∀ w ∈ us_c_isCourse, w ∈ us_c_mvoided := fun w h => List.mem_cons_of_mem _ (List.mem_append_right _ (List.mem_append_left _ h))
  have hb_1 : ∀ w ∈ wsX90, w ∈ us_c_mvoided := fun w h => List.mem_cons_of_mem _ (List.mem_append_right _ (List.mem_append_right _ (List.mem_append_left _ h)))
  refine lv_aload_n hx hb dX9_voided_0 rfl (lv_at hl 0 rfl) ?_
  refine lv_aload_n hx hb dX9_voided_1 rfl (lv_at hl 0 rfl) ?_
  refine lv_iload_n hx hb dX9_voided_2 rfl (lv_at hl 1 rfl) ?_
  refine mc_i (wr := []) (va_runV (As := [.int p0]) (rest := [.ref mo]) ⟨hx, hb, hml, hown, hts⟩ (c_isCourse l hst D mo th m1 m2 m3 m4 m5 l1 l2 l3 l4 p0 s.heap.size) (cwV 1 hts (gi_c (List.mem_cons_of_mem _ (List.mem_append_left _ (List.mem_of_getElem? (i := 0) rfl))) rfl (gi_c (List.mem_cons_of_mem _ (List.mem_append_left _ (List.mem_of_getElem? (i := 1) rfl))) rfl (gi_c (List.mem_cons_of_mem _ (List.mem_append_left _ (List.mem_of_getElem? (i := 2) rfl))) rfl (gi_c (List.mem_cons_of_mem _ (List.mem_append_left _ (List.mem_of_getElem? (i := 3) rfl))) rfl (goodIn_sub hb_0 (List.all_eq_true.mpr gw_c_isCourse)))))) rfl rfl rfl (by decide +kernel) ⟨Nat.le_of_ble_eq_true rfl, Nat.le_of_ble_eq_true rfl⟩) (pr_V (As := [.int p0]) (b := mo) (C := RX9) hP hD hK hS hA hE [0, 1] [] rfl rfl rfl 0 16 rfl rfl rfl) rfl rfl hl.1 rfl (lv_room (Nat.le_of_ble_eq_true rfl)) dX9_voided_3 ⟨Nat.le_of_ble_eq_true rfl, Nat.le_of_ble_eq_true rfl⟩) hP hD hK hS hA [0, 1] [] rfl rfl (by decide) (by decide) (fun r2 _ H locs w1 hP hD hK hS => ?_)
  have hP : va_P D vwCl [(mo, .inr (16, [.int 5, .int 5, .int th, .ref m1, .ref m2, .ref m3, .ref m4, .ref m5, .ref l1, .ref l2, .ref l3, .int (-1), .ref l4])), (l2, .inr (5, [.int 1, .ref (D.1 1000), .int 0]))] H := hP
  have hD : va_D A [(mo, .inr (16, [.int 5, .int 5, .int th, .ref m1, .ref m2, .ref m3, .ref m4, .ref m5, .ref l1, .ref l2, .ref l3, .int (-1), .ref l4])), (l2, .inr (5, [.int 1, .ref (D.1 1000), .int 0]))] := hD
  have hK : va_K D vwCl [] s := hK
  obtain rfl : r2 = 0 := w1
  refine lv_if_eq (tgt := 40) hx hb dX9_voided_6 (by decide) (fun h3 => ?_) (fun h3 => absurd (by decide) h3)
  refine lv_iconst (v := 1) hx hb dX9_voided_40 (by decide) ?_
  refine va_put (D := D) (ci := 16) (v := .int 1) (ty := .int) (C := RX9) (T := TX9) (N := 13) hx hb hts hb_1 tyX9 tyX9_ok nmX9 hown hK hP hD hS 0 rfl rfl 2 (by decide) hw_4 (fun _ h9 => h9) rfl (by decide +kernel) rfl rfl (Nat.le_of_ble_eq_true rfl) dX9_voided_41 (fun H locs hP hD hS => ?_)
  have hP : va_P D vwCl [(mo, .inr (16, [.int 5, .int 5, .int 1, .ref m1, .ref m2, .ref m3, .ref m4, .ref m5, .ref l1, .ref l2, .ref l3, .int (-1), .ref l4])), (l2, .inr (5, [.int 1, .ref (D.1 1000), .int 0]))] H := hP
  have hD : va_D A [(mo, .inr (16, [.int 5, .int 5, .int 1, .ref m1, .ref m2, .ref m3, .ref m4, .ref m5, .ref l1, .ref l2, .ref l3, .int (-1), .ref l4])), (l2, .inr (5, [.int 1, .ref (D.1 1000), .int 0]))] := hD
  refine lv_aload_n hx hb dX9_voided_44 rfl (lv_at hl 0 rfl) ?_
  refine va_get (D := D) (ci := 16) (v := .int 1) (C := RX9) (T := TX9) (N := 13) hx hb hts hb_1 hown hK hP 0 rfl rfl 2 (by decide) hw_4 (fun _ h9 => h9) rfl dX9_voided_45 ?_
  refine lv_if_le (tgt := 53) hx hb dX9_voided_48 (by decide) (fun h4 => absurd h4 (by decide)) (fun h4 => ?_)
  refine lv_iconst (v := 0) hx hb dX9_voided_51 (by decide) ?_
  exact mr_z (rfl) hx hb hr (1, fun k9 => [m1, m2, m3, m4, m5, l1, l2, l3, l4].getD k9 0, fun k9 => [5, 5, -1].getD k9 0) (rfl) (hP.sub [0] rfl) (hK.sub [] rfl) (hD.sub [0] (by decide) rfl) hS (Nat.le_of_ble_eq_true rfl) (Nat.le_of_ble_eq_true rfl) hlocks dX9_voided_52

def us_c_mrule : List Cond := .code yX9_rule cX9_rule 5 (some .int) :: (([.methodLink RX9 227 yX9_isRunner, .instanceMethod yX9_isRunner, .selects RX9 yX9_isRunner yX9_isRunner, .initialized RX9, .methodLink RX9 76 yX9_fails, .instanceMethod yX9_fails, .selects RX9 yX9_fails yX9_fails] : List Cond) ++ (us_c_isRunner ++ (us_c_fails ++ ([]))))
theorem gw_c_mrule : ∀ w ∈ us_c_mrule, goodWord w = true := gw_cons rfl (gw_app (by decide +kernel) (gw_app gw_c_isRunner (gw_app gw_c_fails (fun _ h => nomatch h))))
set_option maxHeartbeats 4000000 in
set_option maxRecDepth 100000 in
/-- the reference refuses rule -/
theorem c_mrule (l : Launch) (hst : l.stackTraces = false) (D : va_G) (mo : Nat) (th : Int32) (m1 : Nat) (m2 : Nat) (m3 : Nat) (m4 : Nat) (m5 : Nat) (l1 : Nat) (l2 : Nat) (l3 : Nat) (l4 : Nat) (p0 : Int32) (p1 : Int32) (sz : Nat) : Met l yX9_rule us_c_mrule { frames := 2, cells := 0, slots := 0, locals := 46 } (pw D [.ref mo, .int p0, .int p1] [] [(mo, .inr (16, [.int 5, .int 5, .int th, .ref m1, .ref m2, .ref m3, .ref m4, .ref m5, .ref l1, .ref l2, .ref l3, .int (-1), .ref l4])), (l3, .inr (5, [.int 1, .ref (D.1 1000), .int 0]))] sz) (va_Qi (fun (_ : Int32) (u : (Int32 × (Nat → Nat) × (Nat → Int32))) => u.1 = 1) (qb D (va_A [(mo, .inr (16, [.int 5, .int 5, .int th, .ref m1, .ref m2, .ref m3, .ref m4, .ref m5, .ref l1, .ref l2, .ref l3, .int (-1), .ref l4])), (l3, .inr (5, [.int 1, .ref (D.1 1000), .int 0]))] sz) (fun u : (Int32 × (Nat → Nat) × (Nat → Int32)) => [(mo, .inr (16, [.int (u.2.2 0), .int (u.2.2 1), .int u.1, .ref (u.2.1 0), .ref (u.2.1 1), .ref (u.2.1 2), .ref (u.2.1 3), .ref (u.2.1 4), .ref (u.2.1 5), .ref (u.2.1 6), .ref (u.2.1 7), .int (u.2.2 2), .ref (u.2.1 8)]))]) (fun u : (Int32 × (Nat → Nat) × (Nat → Int32)) => ([] : List (ClassId × FieldType)))) (va_A [(mo, .inr (16, [.int 5, .int 5, .int th, .ref m1, .ref m2, .ref m3, .ref m4, .ref m5, .ref l1, .ref l2, .ref l3, .int (-1), .ref l4])), (l3, .inr (5, [.int 1, .ref (D.1 1000), .int 0]))] sz)) 0 0 (va_A [(mo, .inr (16, [.int 5, .int 5, .int th, .ref m1, .ref m2, .ref m3, .ref m4, .ref m5, .ref l1, .ref l2, .ref l3, .int (-1), .ref l4])), (l3, .inr (5, [.int 1, .ref (D.1 1000), .int 0]))] sz) := by
  refine op_M (Qc := fun A => (va_Qi (fun (_ : Int32) (u : (Int32 × (Nat → Nat) × (Nat → Int32))) => u.1 = 1) (qb D A (fun u : (Int32 × (Nat → Nat) × (Nat → Int32)) => [(mo, .inr (16, [.int (u.2.2 0), .int (u.2.2 1), .int u.1, .ref (u.2.1 0), .ref (u.2.1 1), .ref (u.2.1 2), .ref (u.2.1 3), .ref (u.2.1 4), .ref (u.2.1 5), .ref (u.2.1 6), .ref (u.2.1 7), .int (u.2.2 2), .ref (u.2.1 8)]))]) (fun u : (Int32 × (Nat → Nat) × (Nat → Int32)) => ([] : List (ClassId × FieldType)))) A)) (by decide +kernel) rfl (Nat.le_of_ble_eq_true rfl) ?_
  intro p e s m args below meth c A ls hx hb hr hml hts hown hlocks hmn htab hA hD hS hP hK hE hsz hl
  have hown : s.vm.findClass RX9 = some m.cls := hown
  have hl : lv_has ls 5 [(0, .ref mo), (1, .int p0), (2, .int p1)] := hl
  have hw_0 := hts (.methodLink RX9 227 yX9_isRunner) (List.mem_cons_of_mem _ (List.mem_append_left _ (List.mem_of_getElem? (i := 0) rfl)))
  have hw_1 := hts (.instanceMethod yX9_isRunner) (List.mem_cons_of_mem _ (List.mem_append_left _ (List.mem_of_getElem? (i := 1) rfl)))
  have hw_2 := hts (.selects RX9 yX9_isRunner yX9_isRunner) (List.mem_cons_of_mem _ (List.mem_append_left _ (List.mem_of_getElem? (i := 2) rfl)))
  have hw_3 := hts (.initialized RX9) (List.mem_cons_of_mem _ (List.mem_append_left _ (List.mem_of_getElem? (i := 3) rfl)))
  have hw_4 := hts (.methodLink RX9 76 yX9_fails) (List.mem_cons_of_mem _ (List.mem_append_left _ (List.mem_of_getElem? (i := 4) rfl)))
  have hw_5 := hts (.instanceMethod yX9_fails) (List.mem_cons_of_mem _ (List.mem_append_left _ (List.mem_of_getElem? (i := 5) rfl)))
  have hw_6 := hts (.selects RX9 yX9_fails yX9_fails) (List.mem_cons_of_mem _ (List.mem_append_left _ (List.mem_of_getElem? (i := 6) rfl)))
  have hb_0 : ∀ w ∈ us_c_isRunner, w ∈ us_c_mrule := fun w h => List.mem_cons_of_mem _ (List.mem_append_right _ (List.mem_append_left _ h))
  have hb_1 : ∀ w ∈ us_c_fails, w ∈ us_c_mrule := fun w h => List.mem_cons_of_mem _ (List.mem_append_right _ (List.mem_append_right _ (List.mem_append_left _ h)))
  refine lv_aload_n hx hb dX9_rule_0 rfl (lv_at hl 0 rfl) ?_
  refine lv_iload_n hx hb dX9_rule_1 rfl (lv_at hl 1 rfl) ?_
  refine mc_i (wr := []) (va_runV (As := [.int p0]) (rest := []) ⟨hx, hb, hml, hown, hts⟩ (c_isRunner l hst D mo th m1 m2 m3 m4 m5 l1 l2 l3 l4 p0 s.heap.size) (cwV 1 hts (gi_c (List.mem_cons_of_mem _ (List.mem_append_left _ (List.mem_of_getElem? (i := 0) rfl))) rfl (gi_c (List.mem_cons_of_mem _ (List.mem_append_left _ (List.mem_of_getElem? (i := 1) rfl))) rfl (gi_c (List.mem_cons_of_mem _ (List.mem_append_left _ (List.mem_of_getElem? (i := 2) rfl))) rfl (gi_c (List.mem_cons_of_mem _ (List.mem_append_left _ (List.mem_of_getElem? (i := 3) rfl))) rfl (goodIn_sub hb_0 (List.all_eq_true.mpr gw_c_isRunner)))))) rfl rfl rfl (by decide +kernel) ⟨Nat.le_of_ble_eq_true rfl, Nat.le_of_ble_eq_true rfl⟩) (pr_V (As := [.int p0]) (b := mo) (C := RX9) hP hD hK hS hA hE [0, 1] [] rfl rfl rfl 0 16 rfl rfl rfl) rfl rfl hl.1 rfl (lv_room (Nat.le_of_ble_eq_true rfl)) dX9_rule_2 ⟨Nat.le_of_ble_eq_true rfl, Nat.le_of_ble_eq_true rfl⟩) hP hD hK hS hA [0, 1] [] rfl rfl (by decide) (by decide) (fun r2 _ H locs w1 hP hD hK hS => ?_)
  have hP : va_P D vwCl [(mo, .inr (16, [.int 5, .int 5, .int th, .ref m1, .ref m2, .ref m3, .ref m4, .ref m5, .ref l1, .ref l2, .ref l3, .int (-1), .ref l4])), (l3, .inr (5, [.int 1, .ref (D.1 1000), .int 0]))] H := hP
  have hD : va_D A [(mo, .inr (16, [.int 5, .int 5, .int th, .ref m1, .ref m2, .ref m3, .ref m4, .ref m5, .ref l1, .ref l2, .ref l3, .int (-1), .ref l4])), (l3, .inr (5, [.int 1, .ref (D.1 1000), .int 0]))] := hD
  have hK : va_K D vwCl [] s := hK
  obtain rfl : r2 = 0 := w1
  refine lv_if_ne (tgt := 14) hx hb dX9_rule_5 (by decide) (fun h3 => absurd (by decide) h3) (fun h3 => ?_)
  refine lv_aload_n hx hb dX9_rule_8 rfl (lv_at hl 0 rfl) ?_
  refine lv_iconst (v := 1) hx hb dX9_rule_9 (by decide) ?_
  refine mc_i (wr := [(l3, .inr (5, [.int 1, .ref (D.1 1000), .int 0]))]) (va_runV (As := [.int 1]) (rest := []) ⟨hx, hb, hml, hown, hts⟩ (c_fails l hst D mo 5 5 th m1 m2 m3 m4 m5 l1 l2 l3 (-1) l4 1 H.size) (cwV 1 hts (gi_c (List.mem_cons_of_mem _ (List.mem_append_left _ (List.mem_of_getElem? (i := 4) rfl))) rfl (gi_c (List.mem_cons_of_mem _ (List.mem_append_left _ (List.mem_of_getElem? (i := 5) rfl))) rfl (gi_c (List.mem_cons_of_mem _ (List.mem_append_left _ (List.mem_of_getElem? (i := 6) rfl))) rfl (gi_c (List.mem_cons_of_mem _ (List.mem_append_left _ (List.mem_of_getElem? (i := 3) rfl))) rfl (goodIn_sub hb_1 (List.all_eq_true.mpr gw_c_fails)))))) rfl rfl rfl (by decide +kernel) ⟨Nat.le_of_ble_eq_true rfl, Nat.le_of_ble_eq_true rfl⟩) (pr_V (As := [.int 1]) (b := mo) (C := RX9) hP hD hK hS hA hE [0] [] rfl rfl rfl 0 16 rfl rfl rfl) rfl rfl hl.1 rfl (lv_room (Nat.le_of_ble_eq_true rfl)) dX9_rule_10 ⟨Nat.le_of_ble_eq_true rfl, Nat.le_of_ble_eq_true rfl⟩) hP hD hK hS hA [0] [1] rfl rfl (by decide) (by decide) (fun r5 _ H locs w4 hP hD hK hS => ?_)
  have hP : va_P D vwCl [(l3, .inr (5, [.int 1, .ref (D.1 1000), .int 0])), (mo, .inr (16, [.int 5, .int 5, .int 1, .ref m1, .ref m2, .ref m3, .ref m4, .ref m5, .ref l1, .ref l2, .ref l3, .int (-1), .ref l4]))] H := hP
  have hD : va_D A [(l3, .inr (5, [.int 1, .ref (D.1 1000), .int 0])), (mo, .inr (16, [.int 5, .int 5, .int 1, .ref m1, .ref m2, .ref m3, .ref m4, .ref m5, .ref l1, .ref l2, .ref l3, .int (-1), .ref l4]))] := hD
  have hK : va_K D vwCl [] s := hK
  obtain rfl : r5 = 0 := w4
  exact mr_i hx hb hr (1, fun k9 => [m1, m2, m3, m4, m5, l1, l2, l3, l4].getD k9 0, fun k9 => [5, 5, -1].getD k9 0) (rfl) (hP.sub [1] rfl) (hK.sub [] rfl) (hD.sub [1] (by decide) rfl) hS (Nat.le_of_ble_eq_true rfl) (Nat.le_of_ble_eq_true rfl) hlocks dX9_rule_13

def us_c_mstate : List Cond := .code yX9_state cX9_state 2 (some .char) :: (([.methodLink RX9 227 yX9_isRunner, .instanceMethod yX9_isRunner, .selects RX9 yX9_isRunner yX9_isRunner, .initialized RX9, .fieldLink RX9 16 "ControlWoodModel" "thrown" "I"] : List Cond) ++ (us_c_isRunner ++ (wsX90 ++ ([]))))
theorem gw_c_mstate : ∀ w ∈ us_c_mstate, goodWord w = true := gw_cons rfl (gw_app (by decide +kernel) (gw_app gw_c_isRunner (gw_app gwf_X9 (fun _ h => nomatch h))))
set_option maxHeartbeats 4000000 in
set_option maxRecDepth 100000 in
/-- the reference refuses state -/
theorem c_mstate (l : Launch) (hst : l.stackTraces = false) (D : va_G) (mo : Nat) (th : Int32) (m1 : Nat) (m2 : Nat) (m3 : Nat) (m4 : Nat) (m5 : Nat) (l1 : Nat) (l2 : Nat) (l3 : Nat) (l4 : Nat) (p0 : Int32) (sz : Nat) : Met l yX9_state us_c_mstate { frames := 2, cells := 0, slots := 0, locals := 46 } (pw D [.ref mo, .int p0] [] [(mo, .inr (16, [.int 5, .int 5, .int th, .ref m1, .ref m2, .ref m3, .ref m4, .ref m5, .ref l1, .ref l2, .ref l3, .int (-1), .ref l4])), (l3, .inr (5, [.int 1, .ref (D.1 1000), .int 0]))] sz) (va_Qi (fun (_ : Int32) (u : (Int32 × (Nat → Nat) × (Nat → Int32))) => u.1 = 1) (qb D (va_A [(mo, .inr (16, [.int 5, .int 5, .int th, .ref m1, .ref m2, .ref m3, .ref m4, .ref m5, .ref l1, .ref l2, .ref l3, .int (-1), .ref l4])), (l3, .inr (5, [.int 1, .ref (D.1 1000), .int 0]))] sz) (fun u : (Int32 × (Nat → Nat) × (Nat → Int32)) => [(mo, .inr (16, [.int (u.2.2 0), .int (u.2.2 1), .int u.1, .ref (u.2.1 0), .ref (u.2.1 1), .ref (u.2.1 2), .ref (u.2.1 3), .ref (u.2.1 4), .ref (u.2.1 5), .ref (u.2.1 6), .ref (u.2.1 7), .int (u.2.2 2), .ref (u.2.1 8)]))]) (fun u : (Int32 × (Nat → Nat) × (Nat → Int32)) => ([] : List (ClassId × FieldType)))) (va_A [(mo, .inr (16, [.int 5, .int 5, .int th, .ref m1, .ref m2, .ref m3, .ref m4, .ref m5, .ref l1, .ref l2, .ref l3, .int (-1), .ref l4])), (l3, .inr (5, [.int 1, .ref (D.1 1000), .int 0]))] sz)) 0 0 (va_A [(mo, .inr (16, [.int 5, .int 5, .int th, .ref m1, .ref m2, .ref m3, .ref m4, .ref m5, .ref l1, .ref l2, .ref l3, .int (-1), .ref l4])), (l3, .inr (5, [.int 1, .ref (D.1 1000), .int 0]))] sz) := by
  refine op_M (Qc := fun A => (va_Qi (fun (_ : Int32) (u : (Int32 × (Nat → Nat) × (Nat → Int32))) => u.1 = 1) (qb D A (fun u : (Int32 × (Nat → Nat) × (Nat → Int32)) => [(mo, .inr (16, [.int (u.2.2 0), .int (u.2.2 1), .int u.1, .ref (u.2.1 0), .ref (u.2.1 1), .ref (u.2.1 2), .ref (u.2.1 3), .ref (u.2.1 4), .ref (u.2.1 5), .ref (u.2.1 6), .ref (u.2.1 7), .int (u.2.2 2), .ref (u.2.1 8)]))]) (fun u : (Int32 × (Nat → Nat) × (Nat → Int32)) => ([] : List (ClassId × FieldType)))) A)) (by decide +kernel) rfl (Nat.le_of_ble_eq_true rfl) ?_
  intro p e s m args below meth c A ls hx hb hr hml hts hown hlocks hmn htab hA hD hS hP hK hE hsz hl
  have hown : s.vm.findClass RX9 = some m.cls := hown
  have hl : lv_has ls 2 [(0, .ref mo), (1, .int p0)] := hl
  have hw_0 := hts (.methodLink RX9 227 yX9_isRunner) (List.mem_cons_of_mem _ (List.mem_append_left _ (List.mem_of_getElem? (i := 0) rfl)))
  have hw_1 := hts (.instanceMethod yX9_isRunner) (List.mem_cons_of_mem _ (List.mem_append_left _ (List.mem_of_getElem? (i := 1) rfl)))
  have hw_2 := hts (.selects RX9 yX9_isRunner yX9_isRunner) (List.mem_cons_of_mem _ (List.mem_append_left _ (List.mem_of_getElem? (i := 2) rfl)))
  have hw_3 := hts (.initialized RX9) (List.mem_cons_of_mem _ (List.mem_append_left _ (List.mem_of_getElem? (i := 3) rfl)))
  have hw_4 := hts (.fieldLink RX9 16 "ControlWoodModel" "thrown" "I") (List.mem_cons_of_mem _ (List.mem_append_left _ (List.mem_of_getElem? (i := 4) rfl)))
  have hb_0 : ∀ w ∈ us_c_isRunner, w ∈ us_c_mstate := fun w h => List.mem_cons_of_mem _ (List.mem_append_right _ (List.mem_append_left _ h))
  have hb_1 : ∀ w ∈ wsX90, w ∈ us_c_mstate := fun w h => List.mem_cons_of_mem _ (List.mem_append_right _ (List.mem_append_right _ (List.mem_append_left _ h)))
  refine lv_aload_n hx hb dX9_state_0 rfl (lv_at hl 0 rfl) ?_
  refine lv_aload_n hx hb dX9_state_1 rfl (lv_at hl 0 rfl) ?_
  refine lv_iload_n hx hb dX9_state_2 rfl (lv_at hl 1 rfl) ?_
  refine mc_i (wr := []) (va_runV (As := [.int p0]) (rest := [.ref mo]) ⟨hx, hb, hml, hown, hts⟩ (c_isRunner l hst D mo th m1 m2 m3 m4 m5 l1 l2 l3 l4 p0 s.heap.size) (cwV 1 hts (gi_c (List.mem_cons_of_mem _ (List.mem_append_left _ (List.mem_of_getElem? (i := 0) rfl))) rfl (gi_c (List.mem_cons_of_mem _ (List.mem_append_left _ (List.mem_of_getElem? (i := 1) rfl))) rfl (gi_c (List.mem_cons_of_mem _ (List.mem_append_left _ (List.mem_of_getElem? (i := 2) rfl))) rfl (gi_c (List.mem_cons_of_mem _ (List.mem_append_left _ (List.mem_of_getElem? (i := 3) rfl))) rfl (goodIn_sub hb_0 (List.all_eq_true.mpr gw_c_isRunner)))))) rfl rfl rfl (by decide +kernel) ⟨Nat.le_of_ble_eq_true rfl, Nat.le_of_ble_eq_true rfl⟩) (pr_V (As := [.int p0]) (b := mo) (C := RX9) hP hD hK hS hA hE [0, 1] [] rfl rfl rfl 0 16 rfl rfl rfl) rfl rfl hl.1 rfl (lv_room (Nat.le_of_ble_eq_true rfl)) dX9_state_3 ⟨Nat.le_of_ble_eq_true rfl, Nat.le_of_ble_eq_true rfl⟩) hP hD hK hS hA [0, 1] [] rfl rfl (by decide) (by decide) (fun r2 _ H locs w1 hP hD hK hS => ?_)
  have hP : va_P D vwCl [(mo, .inr (16, [.int 5, .int 5, .int th, .ref m1, .ref m2, .ref m3, .ref m4, .ref m5, .ref l1, .ref l2, .ref l3, .int (-1), .ref l4])), (l3, .inr (5, [.int 1, .ref (D.1 1000), .int 0]))] H := hP
  have hD : va_D A [(mo, .inr (16, [.int 5, .int 5, .int th, .ref m1, .ref m2, .ref m3, .ref m4, .ref m5, .ref l1, .ref l2, .ref l3, .int (-1), .ref l4])), (l3, .inr (5, [.int 1, .ref (D.1 1000), .int 0]))] := hD
  have hK : va_K D vwCl [] s := hK
  obtain rfl : r2 = 0 := w1
  refine lv_if_eq (tgt := 13) hx hb dX9_state_6 (by decide) (fun h3 => ?_) (fun h3 => absurd (by decide) h3)
  refine lv_iconst (v := 1) hx hb dX9_state_13 (by decide) ?_
  refine va_put (D := D) (ci := 16) (v := .int 1) (ty := .int) (C := RX9) (T := TX9) (N := 13) hx hb hts hb_1 tyX9 tyX9_ok nmX9 hown hK hP hD hS 0 rfl rfl 2 (by decide) hw_4 (fun _ h9 => h9) rfl (by decide +kernel) rfl rfl (Nat.le_of_ble_eq_true rfl) dX9_state_14 (fun H locs hP hD hS => ?_)
  have hP : va_P D vwCl [(mo, .inr (16, [.int 5, .int 5, .int 1, .ref m1, .ref m2, .ref m3, .ref m4, .ref m5, .ref l1, .ref l2, .ref l3, .int (-1), .ref l4])), (l3, .inr (5, [.int 1, .ref (D.1 1000), .int 0]))] H := hP
  have hD : va_D A [(mo, .inr (16, [.int 5, .int 5, .int 1, .ref m1, .ref m2, .ref m3, .ref m4, .ref m5, .ref l1, .ref l2, .ref l3, .int (-1), .ref l4])), (l3, .inr (5, [.int 1, .ref (D.1 1000), .int 0]))] := hD
  refine lv_aload_n hx hb dX9_state_17 rfl (lv_at hl 0 rfl) ?_
  refine va_get (D := D) (ci := 16) (v := .int 1) (C := RX9) (T := TX9) (N := 13) hx hb hts hb_1 hown hK hP 0 rfl rfl 2 (by decide) hw_4 (fun _ h9 => h9) rfl dX9_state_18 ?_
  refine lv_if_le (tgt := 29) hx hb dX9_state_21 (by decide) (fun h4 => absurd h4 (by decide)) (fun h4 => ?_)
  refine lv_bipush (v := 32) hx hb dX9_state_24 (by decide) ?_
  refine lv_goto (tgt := 44) hx hb dX9_state_26 (by decide) ?_
  exact mr_z (rfl) hx hb hr (1, fun k9 => [m1, m2, m3, m4, m5, l1, l2, l3, l4].getD k9 0, fun k9 => [5, 5, -1].getD k9 0) (rfl) (hP.sub [0] rfl) (hK.sub [] rfl) (hD.sub [0] (by decide) rfl) hS (Nat.le_of_ble_eq_true rfl) (Nat.le_of_ble_eq_true rfl) hlocks dX9_state_44

def us_c_mtime : List Cond := .code yX9_time cX9_time 2 (some .int) :: (([.methodLink RX9 227 yX9_isRunner, .instanceMethod yX9_isRunner, .selects RX9 yX9_isRunner yX9_isRunner, .initialized RX9, .methodLink RX9 76 yX9_fails, .instanceMethod yX9_fails, .selects RX9 yX9_fails yX9_fails] : List Cond) ++ (us_c_isRunner ++ (us_c_fails ++ ([]))))
theorem gw_c_mtime : ∀ w ∈ us_c_mtime, goodWord w = true := gw_cons rfl (gw_app (by decide +kernel) (gw_app gw_c_isRunner (gw_app gw_c_fails (fun _ h => nomatch h))))
set_option maxHeartbeats 4000000 in
set_option maxRecDepth 100000 in
/-- the reference refuses time -/
theorem c_mtime (l : Launch) (hst : l.stackTraces = false) (D : va_G) (mo : Nat) (th : Int32) (m1 : Nat) (m2 : Nat) (m3 : Nat) (m4 : Nat) (m5 : Nat) (l1 : Nat) (l2 : Nat) (l3 : Nat) (l4 : Nat) (p0 : Int32) (sz : Nat) : Met l yX9_time us_c_mtime { frames := 2, cells := 0, slots := 0, locals := 46 } (pw D [.ref mo, .int p0] [] [(mo, .inr (16, [.int 5, .int 5, .int th, .ref m1, .ref m2, .ref m3, .ref m4, .ref m5, .ref l1, .ref l2, .ref l3, .int (-1), .ref l4])), (l3, .inr (5, [.int 1, .ref (D.1 1000), .int 0]))] sz) (va_Qi (fun (_ : Int32) (u : (Int32 × (Nat → Nat) × (Nat → Int32))) => u.1 = 1) (qb D (va_A [(mo, .inr (16, [.int 5, .int 5, .int th, .ref m1, .ref m2, .ref m3, .ref m4, .ref m5, .ref l1, .ref l2, .ref l3, .int (-1), .ref l4])), (l3, .inr (5, [.int 1, .ref (D.1 1000), .int 0]))] sz) (fun u : (Int32 × (Nat → Nat) × (Nat → Int32)) => [(mo, .inr (16, [.int (u.2.2 0), .int (u.2.2 1), .int u.1, .ref (u.2.1 0), .ref (u.2.1 1), .ref (u.2.1 2), .ref (u.2.1 3), .ref (u.2.1 4), .ref (u.2.1 5), .ref (u.2.1 6), .ref (u.2.1 7), .int (u.2.2 2), .ref (u.2.1 8)]))]) (fun u : (Int32 × (Nat → Nat) × (Nat → Int32)) => ([] : List (ClassId × FieldType)))) (va_A [(mo, .inr (16, [.int 5, .int 5, .int th, .ref m1, .ref m2, .ref m3, .ref m4, .ref m5, .ref l1, .ref l2, .ref l3, .int (-1), .ref l4])), (l3, .inr (5, [.int 1, .ref (D.1 1000), .int 0]))] sz)) 0 0 (va_A [(mo, .inr (16, [.int 5, .int 5, .int th, .ref m1, .ref m2, .ref m3, .ref m4, .ref m5, .ref l1, .ref l2, .ref l3, .int (-1), .ref l4])), (l3, .inr (5, [.int 1, .ref (D.1 1000), .int 0]))] sz) := by
  refine op_M (Qc := fun A => (va_Qi (fun (_ : Int32) (u : (Int32 × (Nat → Nat) × (Nat → Int32))) => u.1 = 1) (qb D A (fun u : (Int32 × (Nat → Nat) × (Nat → Int32)) => [(mo, .inr (16, [.int (u.2.2 0), .int (u.2.2 1), .int u.1, .ref (u.2.1 0), .ref (u.2.1 1), .ref (u.2.1 2), .ref (u.2.1 3), .ref (u.2.1 4), .ref (u.2.1 5), .ref (u.2.1 6), .ref (u.2.1 7), .int (u.2.2 2), .ref (u.2.1 8)]))]) (fun u : (Int32 × (Nat → Nat) × (Nat → Int32)) => ([] : List (ClassId × FieldType)))) A)) (by decide +kernel) rfl (Nat.le_of_ble_eq_true rfl) ?_
  intro p e s m args below meth c A ls hx hb hr hml hts hown hlocks hmn htab hA hD hS hP hK hE hsz hl
  have hown : s.vm.findClass RX9 = some m.cls := hown
  have hl : lv_has ls 2 [(0, .ref mo), (1, .int p0)] := hl
  have hw_0 := hts (.methodLink RX9 227 yX9_isRunner) (List.mem_cons_of_mem _ (List.mem_append_left _ (List.mem_of_getElem? (i := 0) rfl)))
  have hw_1 := hts (.instanceMethod yX9_isRunner) (List.mem_cons_of_mem _ (List.mem_append_left _ (List.mem_of_getElem? (i := 1) rfl)))
  have hw_2 := hts (.selects RX9 yX9_isRunner yX9_isRunner) (List.mem_cons_of_mem _ (List.mem_append_left _ (List.mem_of_getElem? (i := 2) rfl)))
  have hw_3 := hts (.initialized RX9) (List.mem_cons_of_mem _ (List.mem_append_left _ (List.mem_of_getElem? (i := 3) rfl)))
  have hw_4 := hts (.methodLink RX9 76 yX9_fails) (List.mem_cons_of_mem _ (List.mem_append_left _ (List.mem_of_getElem? (i := 4) rfl)))
  have hw_5 := hts (.instanceMethod yX9_fails) (List.mem_cons_of_mem _ (List.mem_append_left _ (List.mem_of_getElem? (i := 5) rfl)))
  have hw_6 := hts (.selects RX9 yX9_fails yX9_fails) (List.mem_cons_of_mem _ (List.mem_append_left _ (List.mem_of_getElem? (i := 6) rfl)))
  have hb_0 : ∀ w ∈ us_c_isRunner, w ∈ us_c_mtime := fun w h => List.mem_cons_of_mem _ (List.mem_append_right _ (List.mem_append_left _ h))
  have hb_1 : ∀ w ∈ us_c_fails, w ∈ us_c_mtime := fun w h => List.mem_cons_of_mem _ (List.mem_append_right _ (List.mem_append_right _ (List.mem_append_left _ h)))
  refine lv_aload_n hx hb dX9_time_0 rfl (lv_at hl 0 rfl) ?_
  refine lv_iload_n hx hb dX9_time_1 rfl (lv_at hl 1 rfl) ?_
  refine mc_i (wr := []) (va_runV (As := [.int p0]) (rest := []) ⟨hx, hb, hml, hown, hts⟩ (c_isRunner l hst D mo th m1 m2 m3 m4 m5 l1 l2 l3 l4 p0 s.heap.size) (cwV 1 hts (gi_c (List.mem_cons_of_mem _ (List.mem_append_left _ (List.mem_of_getElem? (i := 0) rfl))) rfl (gi_c (List.mem_cons_of_mem _ (List.mem_append_left _ (List.mem_of_getElem? (i := 1) rfl))) rfl (gi_c (List.mem_cons_of_mem _ (List.mem_append_left _ (List.mem_of_getElem? (i := 2) rfl))) rfl (gi_c (List.mem_cons_of_mem _ (List.mem_append_left _ (List.mem_of_getElem? (i := 3) rfl))) rfl (goodIn_sub hb_0 (List.all_eq_true.mpr gw_c_isRunner)))))) rfl rfl rfl (by decide +kernel) ⟨Nat.le_of_ble_eq_true rfl, Nat.le_of_ble_eq_true rfl⟩) (pr_V (As := [.int p0]) (b := mo) (C := RX9) hP hD hK hS hA hE [0, 1] [] rfl rfl rfl 0 16 rfl rfl rfl) rfl rfl hl.1 rfl (lv_room (Nat.le_of_ble_eq_true rfl)) dX9_time_2 ⟨Nat.le_of_ble_eq_true rfl, Nat.le_of_ble_eq_true rfl⟩) hP hD hK hS hA [0, 1] [] rfl rfl (by decide) (by decide) (fun r2 _ H locs w1 hP hD hK hS => ?_)
  have hP : va_P D vwCl [(mo, .inr (16, [.int 5, .int 5, .int th, .ref m1, .ref m2, .ref m3, .ref m4, .ref m5, .ref l1, .ref l2, .ref l3, .int (-1), .ref l4])), (l3, .inr (5, [.int 1, .ref (D.1 1000), .int 0]))] H := hP
  have hD : va_D A [(mo, .inr (16, [.int 5, .int 5, .int th, .ref m1, .ref m2, .ref m3, .ref m4, .ref m5, .ref l1, .ref l2, .ref l3, .int (-1), .ref l4])), (l3, .inr (5, [.int 1, .ref (D.1 1000), .int 0]))] := hD
  have hK : va_K D vwCl [] s := hK
  obtain rfl : r2 = 0 := w1
  refine lv_if_ne (tgt := 14) hx hb dX9_time_5 (by decide) (fun h3 => absurd (by decide) h3) (fun h3 => ?_)
  refine lv_aload_n hx hb dX9_time_8 rfl (lv_at hl 0 rfl) ?_
  refine lv_iconst (v := 1) hx hb dX9_time_9 (by decide) ?_
  refine mc_i (wr := [(l3, .inr (5, [.int 1, .ref (D.1 1000), .int 0]))]) (va_runV (As := [.int 1]) (rest := []) ⟨hx, hb, hml, hown, hts⟩ (c_fails l hst D mo 5 5 th m1 m2 m3 m4 m5 l1 l2 l3 (-1) l4 1 H.size) (cwV 1 hts (gi_c (List.mem_cons_of_mem _ (List.mem_append_left _ (List.mem_of_getElem? (i := 4) rfl))) rfl (gi_c (List.mem_cons_of_mem _ (List.mem_append_left _ (List.mem_of_getElem? (i := 5) rfl))) rfl (gi_c (List.mem_cons_of_mem _ (List.mem_append_left _ (List.mem_of_getElem? (i := 6) rfl))) rfl (gi_c (List.mem_cons_of_mem _ (List.mem_append_left _ (List.mem_of_getElem? (i := 3) rfl))) rfl (goodIn_sub hb_1 (List.all_eq_true.mpr gw_c_fails)))))) rfl rfl rfl (by decide +kernel) ⟨Nat.le_of_ble_eq_true rfl, Nat.le_of_ble_eq_true rfl⟩) (pr_V (As := [.int 1]) (b := mo) (C := RX9) hP hD hK hS hA hE [0] [] rfl rfl rfl 0 16 rfl rfl rfl) rfl rfl hl.1 rfl (lv_room (Nat.le_of_ble_eq_true rfl)) dX9_time_10 ⟨Nat.le_of_ble_eq_true rfl, Nat.le_of_ble_eq_true rfl⟩) hP hD hK hS hA [0] [1] rfl rfl (by decide) (by decide) (fun r5 _ H locs w4 hP hD hK hS => ?_)
  have hP : va_P D vwCl [(l3, .inr (5, [.int 1, .ref (D.1 1000), .int 0])), (mo, .inr (16, [.int 5, .int 5, .int 1, .ref m1, .ref m2, .ref m3, .ref m4, .ref m5, .ref l1, .ref l2, .ref l3, .int (-1), .ref l4]))] H := hP
  have hD : va_D A [(l3, .inr (5, [.int 1, .ref (D.1 1000), .int 0])), (mo, .inr (16, [.int 5, .int 5, .int 1, .ref m1, .ref m2, .ref m3, .ref m4, .ref m5, .ref l1, .ref l2, .ref l3, .int (-1), .ref l4]))] := hD
  have hK : va_K D vwCl [] s := hK
  obtain rfl : r5 = 0 := w4
  exact mr_i hx hb hr (1, fun k9 => [m1, m2, m3, m4, m5, l1, l2, l3, l4].getD k9 0, fun k9 => [5, 5, -1].getD k9 0) (rfl) (hP.sub [1] rfl) (hK.sub [] rfl) (hD.sub [1] (by decide) rfl) hS (Nat.le_of_ble_eq_true rfl) (Nat.le_of_ble_eq_true rfl) hlocks dX9_time_13

def us_c_msplit : List Cond := .code yX9_split cX9_split 4 (some .int) :: (([.methodLink RX9 295 yX9_isLeg, .instanceMethod yX9_isLeg, .selects RX9 yX9_isLeg yX9_isLeg, .initialized RX9, .methodLink RX9 76 yX9_fails, .instanceMethod yX9_fails, .selects RX9 yX9_fails yX9_fails] : List Cond) ++ (us_c_isLeg ++ (us_c_fails ++ ([]))))
theorem gw_c_msplit : ∀ w ∈ us_c_msplit, goodWord w = true := gw_cons rfl (gw_app (by decide +kernel) (gw_app gw_c_isLeg (gw_app gw_c_fails (fun _ h => nomatch h))))
set_option maxHeartbeats 4000000 in
set_option maxRecDepth 100000 in
/-- the reference refuses split -/
theorem c_msplit (l : Launch) (hst : l.stackTraces = false) (D : va_G) (mo : Nat) (th : Int32) (m1 : Nat) (m2 : Nat) (m3 : Nat) (m4 : Nat) (m5 : Nat) (l1 : Nat) (l2 : Nat) (l3 : Nat) (l4 : Nat) (p0 : Int32) (p1 : Int32) (sz : Nat) : Met l yX9_split us_c_msplit { frames := 3, cells := 0, slots := 0, locals := 68 } (pw D [.ref mo, .int p0, .int p1] [] [(mo, .inr (16, [.int 5, .int 5, .int th, .ref m1, .ref m2, .ref m3, .ref m4, .ref m5, .ref l1, .ref l2, .ref l3, .int (-1), .ref l4])), (l3, .inr (5, [.int 1, .ref (D.1 1000), .int 0]))] sz) (va_Qi (fun (_ : Int32) (u : (Int32 × (Nat → Nat) × (Nat → Int32))) => u.1 = 1) (qb D (va_A [(mo, .inr (16, [.int 5, .int 5, .int th, .ref m1, .ref m2, .ref m3, .ref m4, .ref m5, .ref l1, .ref l2, .ref l3, .int (-1), .ref l4])), (l3, .inr (5, [.int 1, .ref (D.1 1000), .int 0]))] sz) (fun u : (Int32 × (Nat → Nat) × (Nat → Int32)) => [(mo, .inr (16, [.int (u.2.2 0), .int (u.2.2 1), .int u.1, .ref (u.2.1 0), .ref (u.2.1 1), .ref (u.2.1 2), .ref (u.2.1 3), .ref (u.2.1 4), .ref (u.2.1 5), .ref (u.2.1 6), .ref (u.2.1 7), .int (u.2.2 2), .ref (u.2.1 8)]))]) (fun u : (Int32 × (Nat → Nat) × (Nat → Int32)) => ([] : List (ClassId × FieldType)))) (va_A [(mo, .inr (16, [.int 5, .int 5, .int th, .ref m1, .ref m2, .ref m3, .ref m4, .ref m5, .ref l1, .ref l2, .ref l3, .int (-1), .ref l4])), (l3, .inr (5, [.int 1, .ref (D.1 1000), .int 0]))] sz)) 0 0 (va_A [(mo, .inr (16, [.int 5, .int 5, .int th, .ref m1, .ref m2, .ref m3, .ref m4, .ref m5, .ref l1, .ref l2, .ref l3, .int (-1), .ref l4])), (l3, .inr (5, [.int 1, .ref (D.1 1000), .int 0]))] sz) := by
  refine op_M (Qc := fun A => (va_Qi (fun (_ : Int32) (u : (Int32 × (Nat → Nat) × (Nat → Int32))) => u.1 = 1) (qb D A (fun u : (Int32 × (Nat → Nat) × (Nat → Int32)) => [(mo, .inr (16, [.int (u.2.2 0), .int (u.2.2 1), .int u.1, .ref (u.2.1 0), .ref (u.2.1 1), .ref (u.2.1 2), .ref (u.2.1 3), .ref (u.2.1 4), .ref (u.2.1 5), .ref (u.2.1 6), .ref (u.2.1 7), .int (u.2.2 2), .ref (u.2.1 8)]))]) (fun u : (Int32 × (Nat → Nat) × (Nat → Int32)) => ([] : List (ClassId × FieldType)))) A)) (by decide +kernel) rfl (Nat.le_of_ble_eq_true rfl) ?_
  intro p e s m args below meth c A ls hx hb hr hml hts hown hlocks hmn htab hA hD hS hP hK hE hsz hl
  have hown : s.vm.findClass RX9 = some m.cls := hown
  have hl : lv_has ls 4 [(0, .ref mo), (1, .int p0), (2, .int p1)] := hl
  have hw_0 := hts (.methodLink RX9 295 yX9_isLeg) (List.mem_cons_of_mem _ (List.mem_append_left _ (List.mem_of_getElem? (i := 0) rfl)))
  have hw_1 := hts (.instanceMethod yX9_isLeg) (List.mem_cons_of_mem _ (List.mem_append_left _ (List.mem_of_getElem? (i := 1) rfl)))
  have hw_2 := hts (.selects RX9 yX9_isLeg yX9_isLeg) (List.mem_cons_of_mem _ (List.mem_append_left _ (List.mem_of_getElem? (i := 2) rfl)))
  have hw_3 := hts (.initialized RX9) (List.mem_cons_of_mem _ (List.mem_append_left _ (List.mem_of_getElem? (i := 3) rfl)))
  have hw_4 := hts (.methodLink RX9 76 yX9_fails) (List.mem_cons_of_mem _ (List.mem_append_left _ (List.mem_of_getElem? (i := 4) rfl)))
  have hw_5 := hts (.instanceMethod yX9_fails) (List.mem_cons_of_mem _ (List.mem_append_left _ (List.mem_of_getElem? (i := 5) rfl)))
  have hw_6 := hts (.selects RX9 yX9_fails yX9_fails) (List.mem_cons_of_mem _ (List.mem_append_left _ (List.mem_of_getElem? (i := 6) rfl)))
  have hb_0 : ∀ w ∈ us_c_isLeg, w ∈ us_c_msplit := fun w h => List.mem_cons_of_mem _ (List.mem_append_right _ (List.mem_append_left _ h))
  have hb_1 : ∀ w ∈ us_c_fails, w ∈ us_c_msplit := fun w h => List.mem_cons_of_mem _ (List.mem_append_right _ (List.mem_append_right _ (List.mem_append_left _ h)))
  refine lv_aload_n hx hb dX9_split_0 rfl (lv_at hl 0 rfl) ?_
  refine lv_iload_n hx hb dX9_split_1 rfl (lv_at hl 1 rfl) ?_
  refine lv_iload_n hx hb dX9_split_2 rfl (lv_at hl 2 rfl) ?_
  refine mc_i (wr := []) (va_runV (As := [.int p0, .int p1]) (rest := []) ⟨hx, hb, hml, hown, hts⟩ (c_isLeg l hst D mo th m1 m2 m3 m4 m5 l1 l2 l3 l4 p0 p1 s.heap.size) (cwV 2 hts (gi_c (List.mem_cons_of_mem _ (List.mem_append_left _ (List.mem_of_getElem? (i := 0) rfl))) rfl (gi_c (List.mem_cons_of_mem _ (List.mem_append_left _ (List.mem_of_getElem? (i := 1) rfl))) rfl (gi_c (List.mem_cons_of_mem _ (List.mem_append_left _ (List.mem_of_getElem? (i := 2) rfl))) rfl (gi_c (List.mem_cons_of_mem _ (List.mem_append_left _ (List.mem_of_getElem? (i := 3) rfl))) rfl (goodIn_sub hb_0 (List.all_eq_true.mpr gw_c_isLeg)))))) rfl rfl rfl (by decide +kernel) ⟨Nat.le_of_ble_eq_true rfl, Nat.le_of_ble_eq_true rfl⟩) (pr_V (As := [.int p0, .int p1]) (b := mo) (C := RX9) hP hD hK hS hA hE [0, 1] [] rfl rfl rfl 0 16 rfl rfl rfl) rfl rfl hl.1 rfl (lv_room (Nat.le_of_ble_eq_true rfl)) dX9_split_3 ⟨Nat.le_of_ble_eq_true rfl, Nat.le_of_ble_eq_true rfl⟩) hP hD hK hS hA [0, 1] [] rfl rfl (by decide) (by decide) (fun r2 _ H locs w1 hP hD hK hS => ?_)
  have hP : va_P D vwCl [(mo, .inr (16, [.int 5, .int 5, .int th, .ref m1, .ref m2, .ref m3, .ref m4, .ref m5, .ref l1, .ref l2, .ref l3, .int (-1), .ref l4])), (l3, .inr (5, [.int 1, .ref (D.1 1000), .int 0]))] H := hP
  have hD : va_D A [(mo, .inr (16, [.int 5, .int 5, .int th, .ref m1, .ref m2, .ref m3, .ref m4, .ref m5, .ref l1, .ref l2, .ref l3, .int (-1), .ref l4])), (l3, .inr (5, [.int 1, .ref (D.1 1000), .int 0]))] := hD
  have hK : va_K D vwCl [] s := hK
  obtain rfl : r2 = 0 := w1
  refine lv_if_ne (tgt := 15) hx hb dX9_split_6 (by decide) (fun h3 => absurd (by decide) h3) (fun h3 => ?_)
  refine lv_aload_n hx hb dX9_split_9 rfl (lv_at hl 0 rfl) ?_
  refine lv_iconst (v := 1) hx hb dX9_split_10 (by decide) ?_
  refine mc_i (wr := [(l3, .inr (5, [.int 1, .ref (D.1 1000), .int 0]))]) (va_runV (As := [.int 1]) (rest := []) ⟨hx, hb, hml, hown, hts⟩ (c_fails l hst D mo 5 5 th m1 m2 m3 m4 m5 l1 l2 l3 (-1) l4 1 H.size) (cwV 1 hts (gi_c (List.mem_cons_of_mem _ (List.mem_append_left _ (List.mem_of_getElem? (i := 4) rfl))) rfl (gi_c (List.mem_cons_of_mem _ (List.mem_append_left _ (List.mem_of_getElem? (i := 5) rfl))) rfl (gi_c (List.mem_cons_of_mem _ (List.mem_append_left _ (List.mem_of_getElem? (i := 6) rfl))) rfl (gi_c (List.mem_cons_of_mem _ (List.mem_append_left _ (List.mem_of_getElem? (i := 3) rfl))) rfl (goodIn_sub hb_1 (List.all_eq_true.mpr gw_c_fails)))))) rfl rfl rfl (by decide +kernel) ⟨Nat.le_of_ble_eq_true rfl, Nat.le_of_ble_eq_true rfl⟩) (pr_V (As := [.int 1]) (b := mo) (C := RX9) hP hD hK hS hA hE [0] [] rfl rfl rfl 0 16 rfl rfl rfl) rfl rfl hl.1 rfl (lv_room (Nat.le_of_ble_eq_true rfl)) dX9_split_11 ⟨Nat.le_of_ble_eq_true rfl, Nat.le_of_ble_eq_true rfl⟩) hP hD hK hS hA [0] [1] rfl rfl (by decide) (by decide) (fun r5 _ H locs w4 hP hD hK hS => ?_)
  have hP : va_P D vwCl [(l3, .inr (5, [.int 1, .ref (D.1 1000), .int 0])), (mo, .inr (16, [.int 5, .int 5, .int 1, .ref m1, .ref m2, .ref m3, .ref m4, .ref m5, .ref l1, .ref l2, .ref l3, .int (-1), .ref l4]))] H := hP
  have hD : va_D A [(l3, .inr (5, [.int 1, .ref (D.1 1000), .int 0])), (mo, .inr (16, [.int 5, .int 5, .int 1, .ref m1, .ref m2, .ref m3, .ref m4, .ref m5, .ref l1, .ref l2, .ref l3, .int (-1), .ref l4]))] := hD
  have hK : va_K D vwCl [] s := hK
  obtain rfl : r5 = 0 := w4
  exact mr_i hx hb hr (1, fun k9 => [m1, m2, m3, m4, m5, l1, l2, l3, l4].getD k9 0, fun k9 => [5, 5, -1].getD k9 0) (rfl) (hP.sub [1] rfl) (hK.sub [] rfl) (hD.sub [1] (by decide) rfl) hS (Nat.le_of_ble_eq_true rfl) (Nat.le_of_ble_eq_true rfl) hlocks dX9_split_14

def us_c_mplace : List Cond := .code yX9_place cX9_place 6 (some .int) :: (([.methodLink RX9 227 yX9_isRunner, .instanceMethod yX9_isRunner, .selects RX9 yX9_isRunner yX9_isRunner, .initialized RX9, .methodLink RX9 76 yX9_fails, .instanceMethod yX9_fails, .selects RX9 yX9_fails yX9_fails] : List Cond) ++ (us_c_isRunner ++ (us_c_fails ++ ([]))))
theorem gw_c_mplace : ∀ w ∈ us_c_mplace, goodWord w = true := gw_cons rfl (gw_app (by decide +kernel) (gw_app gw_c_isRunner (gw_app gw_c_fails (fun _ h => nomatch h))))
set_option maxHeartbeats 4000000 in
set_option maxRecDepth 100000 in
/-- the reference refuses place -/
theorem c_mplace (l : Launch) (hst : l.stackTraces = false) (D : va_G) (mo : Nat) (th : Int32) (m1 : Nat) (m2 : Nat) (m3 : Nat) (m4 : Nat) (m5 : Nat) (l1 : Nat) (l2 : Nat) (l3 : Nat) (l4 : Nat) (p0 : Int32) (sz : Nat) : Met l yX9_place us_c_mplace { frames := 2, cells := 0, slots := 0, locals := 46 } (pw D [.ref mo, .int p0] [] [(mo, .inr (16, [.int 5, .int 5, .int th, .ref m1, .ref m2, .ref m3, .ref m4, .ref m5, .ref l1, .ref l2, .ref l3, .int (-1), .ref l4])), (l3, .inr (5, [.int 1, .ref (D.1 1000), .int 0]))] sz) (va_Qi (fun (_ : Int32) (u : (Int32 × (Nat → Nat) × (Nat → Int32))) => u.1 = 1) (qb D (va_A [(mo, .inr (16, [.int 5, .int 5, .int th, .ref m1, .ref m2, .ref m3, .ref m4, .ref m5, .ref l1, .ref l2, .ref l3, .int (-1), .ref l4])), (l3, .inr (5, [.int 1, .ref (D.1 1000), .int 0]))] sz) (fun u : (Int32 × (Nat → Nat) × (Nat → Int32)) => [(mo, .inr (16, [.int (u.2.2 0), .int (u.2.2 1), .int u.1, .ref (u.2.1 0), .ref (u.2.1 1), .ref (u.2.1 2), .ref (u.2.1 3), .ref (u.2.1 4), .ref (u.2.1 5), .ref (u.2.1 6), .ref (u.2.1 7), .int (u.2.2 2), .ref (u.2.1 8)]))]) (fun u : (Int32 × (Nat → Nat) × (Nat → Int32)) => ([] : List (ClassId × FieldType)))) (va_A [(mo, .inr (16, [.int 5, .int 5, .int th, .ref m1, .ref m2, .ref m3, .ref m4, .ref m5, .ref l1, .ref l2, .ref l3, .int (-1), .ref l4])), (l3, .inr (5, [.int 1, .ref (D.1 1000), .int 0]))] sz)) 0 0 (va_A [(mo, .inr (16, [.int 5, .int 5, .int th, .ref m1, .ref m2, .ref m3, .ref m4, .ref m5, .ref l1, .ref l2, .ref l3, .int (-1), .ref l4])), (l3, .inr (5, [.int 1, .ref (D.1 1000), .int 0]))] sz) := by
  refine op_M (Qc := fun A => (va_Qi (fun (_ : Int32) (u : (Int32 × (Nat → Nat) × (Nat → Int32))) => u.1 = 1) (qb D A (fun u : (Int32 × (Nat → Nat) × (Nat → Int32)) => [(mo, .inr (16, [.int (u.2.2 0), .int (u.2.2 1), .int u.1, .ref (u.2.1 0), .ref (u.2.1 1), .ref (u.2.1 2), .ref (u.2.1 3), .ref (u.2.1 4), .ref (u.2.1 5), .ref (u.2.1 6), .ref (u.2.1 7), .int (u.2.2 2), .ref (u.2.1 8)]))]) (fun u : (Int32 × (Nat → Nat) × (Nat → Int32)) => ([] : List (ClassId × FieldType)))) A)) (by decide +kernel) rfl (Nat.le_of_ble_eq_true rfl) ?_
  intro p e s m args below meth c A ls hx hb hr hml hts hown hlocks hmn htab hA hD hS hP hK hE hsz hl
  have hown : s.vm.findClass RX9 = some m.cls := hown
  have hl : lv_has ls 6 [(0, .ref mo), (1, .int p0)] := hl
  have hw_0 := hts (.methodLink RX9 227 yX9_isRunner) (List.mem_cons_of_mem _ (List.mem_append_left _ (List.mem_of_getElem? (i := 0) rfl)))
  have hw_1 := hts (.instanceMethod yX9_isRunner) (List.mem_cons_of_mem _ (List.mem_append_left _ (List.mem_of_getElem? (i := 1) rfl)))
  have hw_2 := hts (.selects RX9 yX9_isRunner yX9_isRunner) (List.mem_cons_of_mem _ (List.mem_append_left _ (List.mem_of_getElem? (i := 2) rfl)))
  have hw_3 := hts (.initialized RX9) (List.mem_cons_of_mem _ (List.mem_append_left _ (List.mem_of_getElem? (i := 3) rfl)))
  have hw_4 := hts (.methodLink RX9 76 yX9_fails) (List.mem_cons_of_mem _ (List.mem_append_left _ (List.mem_of_getElem? (i := 4) rfl)))
  have hw_5 := hts (.instanceMethod yX9_fails) (List.mem_cons_of_mem _ (List.mem_append_left _ (List.mem_of_getElem? (i := 5) rfl)))
  have hw_6 := hts (.selects RX9 yX9_fails yX9_fails) (List.mem_cons_of_mem _ (List.mem_append_left _ (List.mem_of_getElem? (i := 6) rfl)))
  have hb_0 : ∀ w ∈ us_c_isRunner, w ∈ us_c_mplace := fun w h => List.mem_cons_of_mem _ (List.mem_append_right _ (List.mem_append_left _ h))
  have hb_1 : ∀ w ∈ us_c_fails, w ∈ us_c_mplace := fun w h => List.mem_cons_of_mem _ (List.mem_append_right _ (List.mem_append_right _ (List.mem_append_left _ h)))
  refine lv_aload_n hx hb dX9_place_0 rfl (lv_at hl 0 rfl) ?_
  refine lv_iload_n hx hb dX9_place_1 rfl (lv_at hl 1 rfl) ?_
  refine mc_i (wr := []) (va_runV (As := [.int p0]) (rest := []) ⟨hx, hb, hml, hown, hts⟩ (c_isRunner l hst D mo th m1 m2 m3 m4 m5 l1 l2 l3 l4 p0 s.heap.size) (cwV 1 hts (gi_c (List.mem_cons_of_mem _ (List.mem_append_left _ (List.mem_of_getElem? (i := 0) rfl))) rfl (gi_c (List.mem_cons_of_mem _ (List.mem_append_left _ (List.mem_of_getElem? (i := 1) rfl))) rfl (gi_c (List.mem_cons_of_mem _ (List.mem_append_left _ (List.mem_of_getElem? (i := 2) rfl))) rfl (gi_c (List.mem_cons_of_mem _ (List.mem_append_left _ (List.mem_of_getElem? (i := 3) rfl))) rfl (goodIn_sub hb_0 (List.all_eq_true.mpr gw_c_isRunner)))))) rfl rfl rfl (by decide +kernel) ⟨Nat.le_of_ble_eq_true rfl, Nat.le_of_ble_eq_true rfl⟩) (pr_V (As := [.int p0]) (b := mo) (C := RX9) hP hD hK hS hA hE [0, 1] [] rfl rfl rfl 0 16 rfl rfl rfl) rfl rfl hl.1 rfl (lv_room (Nat.le_of_ble_eq_true rfl)) dX9_place_2 ⟨Nat.le_of_ble_eq_true rfl, Nat.le_of_ble_eq_true rfl⟩) hP hD hK hS hA [0, 1] [] rfl rfl (by decide) (by decide) (fun r2 _ H locs w1 hP hD hK hS => ?_)
  have hP : va_P D vwCl [(mo, .inr (16, [.int 5, .int 5, .int th, .ref m1, .ref m2, .ref m3, .ref m4, .ref m5, .ref l1, .ref l2, .ref l3, .int (-1), .ref l4])), (l3, .inr (5, [.int 1, .ref (D.1 1000), .int 0]))] H := hP
  have hD : va_D A [(mo, .inr (16, [.int 5, .int 5, .int th, .ref m1, .ref m2, .ref m3, .ref m4, .ref m5, .ref l1, .ref l2, .ref l3, .int (-1), .ref l4])), (l3, .inr (5, [.int 1, .ref (D.1 1000), .int 0]))] := hD
  have hK : va_K D vwCl [] s := hK
  obtain rfl : r2 = 0 := w1
  refine lv_if_ne (tgt := 14) hx hb dX9_place_5 (by decide) (fun h3 => absurd (by decide) h3) (fun h3 => ?_)
  refine lv_aload_n hx hb dX9_place_8 rfl (lv_at hl 0 rfl) ?_
  refine lv_iconst (v := 1) hx hb dX9_place_9 (by decide) ?_
  refine mc_i (wr := [(l3, .inr (5, [.int 1, .ref (D.1 1000), .int 0]))]) (va_runV (As := [.int 1]) (rest := []) ⟨hx, hb, hml, hown, hts⟩ (c_fails l hst D mo 5 5 th m1 m2 m3 m4 m5 l1 l2 l3 (-1) l4 1 H.size) (cwV 1 hts (gi_c (List.mem_cons_of_mem _ (List.mem_append_left _ (List.mem_of_getElem? (i := 4) rfl))) rfl (gi_c (List.mem_cons_of_mem _ (List.mem_append_left _ (List.mem_of_getElem? (i := 5) rfl))) rfl (gi_c (List.mem_cons_of_mem _ (List.mem_append_left _ (List.mem_of_getElem? (i := 6) rfl))) rfl (gi_c (List.mem_cons_of_mem _ (List.mem_append_left _ (List.mem_of_getElem? (i := 3) rfl))) rfl (goodIn_sub hb_1 (List.all_eq_true.mpr gw_c_fails)))))) rfl rfl rfl (by decide +kernel) ⟨Nat.le_of_ble_eq_true rfl, Nat.le_of_ble_eq_true rfl⟩) (pr_V (As := [.int 1]) (b := mo) (C := RX9) hP hD hK hS hA hE [0] [] rfl rfl rfl 0 16 rfl rfl rfl) rfl rfl hl.1 rfl (lv_room (Nat.le_of_ble_eq_true rfl)) dX9_place_10 ⟨Nat.le_of_ble_eq_true rfl, Nat.le_of_ble_eq_true rfl⟩) hP hD hK hS hA [0] [1] rfl rfl (by decide) (by decide) (fun r5 _ H locs w4 hP hD hK hS => ?_)
  have hP : va_P D vwCl [(l3, .inr (5, [.int 1, .ref (D.1 1000), .int 0])), (mo, .inr (16, [.int 5, .int 5, .int 1, .ref m1, .ref m2, .ref m3, .ref m4, .ref m5, .ref l1, .ref l2, .ref l3, .int (-1), .ref l4]))] H := hP
  have hD : va_D A [(l3, .inr (5, [.int 1, .ref (D.1 1000), .int 0])), (mo, .inr (16, [.int 5, .int 5, .int 1, .ref m1, .ref m2, .ref m3, .ref m4, .ref m5, .ref l1, .ref l2, .ref l3, .int (-1), .ref l4]))] := hD
  have hK : va_K D vwCl [] s := hK
  obtain rfl : r5 = 0 := w4
  exact mr_i hx hb hr (1, fun k9 => [m1, m2, m3, m4, m5, l1, l2, l3, l4].getD k9 0, fun k9 => [5, 5, -1].getD k9 0) (rfl) (hP.sub [1] rfl) (hK.sub [] rfl) (hD.sub [1] (by decide) rfl) hS (Nat.le_of_ble_eq_true rfl) (Nat.le_of_ble_eq_true rfl) hlocks dX9_place_13

def us_c_mreference : List Cond := .code yX9_reference cX9_reference 4 (some .int) :: (([.methodLink RX9 295 yX9_isLeg, .instanceMethod yX9_isLeg, .selects RX9 yX9_isLeg yX9_isLeg, .initialized RX9, .methodLink RX9 76 yX9_fails, .instanceMethod yX9_fails, .selects RX9 yX9_fails yX9_fails] : List Cond) ++ (us_c_isLeg ++ (us_c_fails ++ ([]))))
theorem gw_c_mreference : ∀ w ∈ us_c_mreference, goodWord w = true := gw_cons rfl (gw_app (by decide +kernel) (gw_app gw_c_isLeg (gw_app gw_c_fails (fun _ h => nomatch h))))
set_option maxHeartbeats 4000000 in
set_option maxRecDepth 100000 in
/-- the reference refuses reference -/
theorem c_mreference (l : Launch) (hst : l.stackTraces = false) (D : va_G) (mo : Nat) (th : Int32) (m1 : Nat) (m2 : Nat) (m3 : Nat) (m4 : Nat) (m5 : Nat) (l1 : Nat) (l2 : Nat) (l3 : Nat) (l4 : Nat) (p0 : Int32) (p1 : Int32) (sz : Nat) : Met l yX9_reference us_c_mreference { frames := 3, cells := 0, slots := 0, locals := 68 } (pw D [.ref mo, .int p0, .int p1] [] [(mo, .inr (16, [.int 5, .int 5, .int th, .ref m1, .ref m2, .ref m3, .ref m4, .ref m5, .ref l1, .ref l2, .ref l3, .int (-1), .ref l4])), (l3, .inr (5, [.int 1, .ref (D.1 1000), .int 0]))] sz) (va_Qi (fun (_ : Int32) (u : (Int32 × (Nat → Nat) × (Nat → Int32))) => u.1 = 1) (qb D (va_A [(mo, .inr (16, [.int 5, .int 5, .int th, .ref m1, .ref m2, .ref m3, .ref m4, .ref m5, .ref l1, .ref l2, .ref l3, .int (-1), .ref l4])), (l3, .inr (5, [.int 1, .ref (D.1 1000), .int 0]))] sz) (fun u : (Int32 × (Nat → Nat) × (Nat → Int32)) => [(mo, .inr (16, [.int (u.2.2 0), .int (u.2.2 1), .int u.1, .ref (u.2.1 0), .ref (u.2.1 1), .ref (u.2.1 2), .ref (u.2.1 3), .ref (u.2.1 4), .ref (u.2.1 5), .ref (u.2.1 6), .ref (u.2.1 7), .int (u.2.2 2), .ref (u.2.1 8)]))]) (fun u : (Int32 × (Nat → Nat) × (Nat → Int32)) => ([] : List (ClassId × FieldType)))) (va_A [(mo, .inr (16, [.int 5, .int 5, .int th, .ref m1, .ref m2, .ref m3, .ref m4, .ref m5, .ref l1, .ref l2, .ref l3, .int (-1), .ref l4])), (l3, .inr (5, [.int 1, .ref (D.1 1000), .int 0]))] sz)) 0 0 (va_A [(mo, .inr (16, [.int 5, .int 5, .int th, .ref m1, .ref m2, .ref m3, .ref m4, .ref m5, .ref l1, .ref l2, .ref l3, .int (-1), .ref l4])), (l3, .inr (5, [.int 1, .ref (D.1 1000), .int 0]))] sz) := by
  refine op_M (Qc := fun A => (va_Qi (fun (_ : Int32) (u : (Int32 × (Nat → Nat) × (Nat → Int32))) => u.1 = 1) (qb D A (fun u : (Int32 × (Nat → Nat) × (Nat → Int32)) => [(mo, .inr (16, [.int (u.2.2 0), .int (u.2.2 1), .int u.1, .ref (u.2.1 0), .ref (u.2.1 1), .ref (u.2.1 2), .ref (u.2.1 3), .ref (u.2.1 4), .ref (u.2.1 5), .ref (u.2.1 6), .ref (u.2.1 7), .int (u.2.2 2), .ref (u.2.1 8)]))]) (fun u : (Int32 × (Nat → Nat) × (Nat → Int32)) => ([] : List (ClassId × FieldType)))) A)) (by decide +kernel) rfl (Nat.le_of_ble_eq_true rfl) ?_
  intro p e s m args below meth c A ls hx hb hr hml hts hown hlocks hmn htab hA hD hS hP hK hE hsz hl
  have hown : s.vm.findClass RX9 = some m.cls := hown
  have hl : lv_has ls 4 [(0, .ref mo), (1, .int p0), (2, .int p1)] := hl
  have hw_0 := hts (.methodLink RX9 295 yX9_isLeg) (List.mem_cons_of_mem _ (List.mem_append_left _ (List.mem_of_getElem? (i := 0) rfl)))
  have hw_1 := hts (.instanceMethod yX9_isLeg) (List.mem_cons_of_mem _ (List.mem_append_left _ (List.mem_of_getElem? (i := 1) rfl)))
  have hw_2 := hts (.selects RX9 yX9_isLeg yX9_isLeg) (List.mem_cons_of_mem _ (List.mem_append_left _ (List.mem_of_getElem? (i := 2) rfl)))
  have hw_3 := hts (.initialized RX9) (List.mem_cons_of_mem _ (List.mem_append_left _ (List.mem_of_getElem? (i := 3) rfl)))
  have hw_4 := hts (.methodLink RX9 76 yX9_fails) (List.mem_cons_of_mem _ (List.mem_append_left _ (List.mem_of_getElem? (i := 4) rfl)))
  have hw_5 := hts (.instanceMethod yX9_fails) (List.mem_cons_of_mem _ (List.mem_append_left _ (List.mem_of_getElem? (i := 5) rfl)))
  have hw_6 := hts (.selects RX9 yX9_fails yX9_fails) (List.mem_cons_of_mem _ (List.mem_append_left _ (List.mem_of_getElem? (i := 6) rfl)))
  have hb_0 : ∀ w ∈ us_c_isLeg, w ∈ us_c_mreference := fun w h => List.mem_cons_of_mem _ (List.mem_append_right _ (List.mem_append_left _ h))
  have hb_1 : ∀ w ∈ us_c_fails, w ∈ us_c_mreference := fun w h => List.mem_cons_of_mem _ (List.mem_append_right _ (List.mem_append_right _ (List.mem_append_left _ h)))
  refine lv_aload_n hx hb dX9_reference_0 rfl (lv_at hl 0 rfl) ?_
  refine lv_iload_n hx hb dX9_reference_1 rfl (lv_at hl 1 rfl) ?_
  refine lv_iload_n hx hb dX9_reference_2 rfl (lv_at hl 2 rfl) ?_
  refine mc_i (wr := []) (va_runV (As := [.int p0, .int p1]) (rest := []) ⟨hx, hb, hml, hown, hts⟩ (c_isLeg l hst D mo th m1 m2 m3 m4 m5 l1 l2 l3 l4 p0 p1 s.heap.size) (cwV 2 hts (gi_c (List.mem_cons_of_mem _ (List.mem_append_left _ (List.mem_of_getElem? (i := 0) rfl))) rfl (gi_c (List.mem_cons_of_mem _ (List.mem_append_left _ (List.mem_of_getElem? (i := 1) rfl))) rfl (gi_c (List.mem_cons_of_mem _ (List.mem_append_left _ (List.mem_of_getElem? (i := 2) rfl))) rfl (gi_c (List.mem_cons_of_mem _ (List.mem_append_left _ (List.mem_of_getElem? (i := 3) rfl))) rfl (goodIn_sub hb_0 (List.all_eq_true.mpr gw_c_isLeg)))))) rfl rfl rfl (by decide +kernel) ⟨Nat.le_of_ble_eq_true rfl, Nat.le_of_ble_eq_true rfl⟩) (pr_V (As := [.int p0, .int p1]) (b := mo) (C := RX9) hP hD hK hS hA hE [0, 1] [] rfl rfl rfl 0 16 rfl rfl rfl) rfl rfl hl.1 rfl (lv_room (Nat.le_of_ble_eq_true rfl)) dX9_reference_3 ⟨Nat.le_of_ble_eq_true rfl, Nat.le_of_ble_eq_true rfl⟩) hP hD hK hS hA [0, 1] [] rfl rfl (by decide) (by decide) (fun r2 _ H locs w1 hP hD hK hS => ?_)
  have hP : va_P D vwCl [(mo, .inr (16, [.int 5, .int 5, .int th, .ref m1, .ref m2, .ref m3, .ref m4, .ref m5, .ref l1, .ref l2, .ref l3, .int (-1), .ref l4])), (l3, .inr (5, [.int 1, .ref (D.1 1000), .int 0]))] H := hP
  have hD : va_D A [(mo, .inr (16, [.int 5, .int 5, .int th, .ref m1, .ref m2, .ref m3, .ref m4, .ref m5, .ref l1, .ref l2, .ref l3, .int (-1), .ref l4])), (l3, .inr (5, [.int 1, .ref (D.1 1000), .int 0]))] := hD
  have hK : va_K D vwCl [] s := hK
  obtain rfl : r2 = 0 := w1
  refine lv_if_ne (tgt := 15) hx hb dX9_reference_6 (by decide) (fun h3 => absurd (by decide) h3) (fun h3 => ?_)
  refine lv_aload_n hx hb dX9_reference_9 rfl (lv_at hl 0 rfl) ?_
  refine lv_iconst (v := 1) hx hb dX9_reference_10 (by decide) ?_
  refine mc_i (wr := [(l3, .inr (5, [.int 1, .ref (D.1 1000), .int 0]))]) (va_runV (As := [.int 1]) (rest := []) ⟨hx, hb, hml, hown, hts⟩ (c_fails l hst D mo 5 5 th m1 m2 m3 m4 m5 l1 l2 l3 (-1) l4 1 H.size) (cwV 1 hts (gi_c (List.mem_cons_of_mem _ (List.mem_append_left _ (List.mem_of_getElem? (i := 4) rfl))) rfl (gi_c (List.mem_cons_of_mem _ (List.mem_append_left _ (List.mem_of_getElem? (i := 5) rfl))) rfl (gi_c (List.mem_cons_of_mem _ (List.mem_append_left _ (List.mem_of_getElem? (i := 6) rfl))) rfl (gi_c (List.mem_cons_of_mem _ (List.mem_append_left _ (List.mem_of_getElem? (i := 3) rfl))) rfl (goodIn_sub hb_1 (List.all_eq_true.mpr gw_c_fails)))))) rfl rfl rfl (by decide +kernel) ⟨Nat.le_of_ble_eq_true rfl, Nat.le_of_ble_eq_true rfl⟩) (pr_V (As := [.int 1]) (b := mo) (C := RX9) hP hD hK hS hA hE [0] [] rfl rfl rfl 0 16 rfl rfl rfl) rfl rfl hl.1 rfl (lv_room (Nat.le_of_ble_eq_true rfl)) dX9_reference_11 ⟨Nat.le_of_ble_eq_true rfl, Nat.le_of_ble_eq_true rfl⟩) hP hD hK hS hA [0] [1] rfl rfl (by decide) (by decide) (fun r5 _ H locs w4 hP hD hK hS => ?_)
  have hP : va_P D vwCl [(l3, .inr (5, [.int 1, .ref (D.1 1000), .int 0])), (mo, .inr (16, [.int 5, .int 5, .int 1, .ref m1, .ref m2, .ref m3, .ref m4, .ref m5, .ref l1, .ref l2, .ref l3, .int (-1), .ref l4]))] H := hP
  have hD : va_D A [(l3, .inr (5, [.int 1, .ref (D.1 1000), .int 0])), (mo, .inr (16, [.int 5, .int 5, .int 1, .ref m1, .ref m2, .ref m3, .ref m4, .ref m5, .ref l1, .ref l2, .ref l3, .int (-1), .ref l4]))] := hD
  have hK : va_K D vwCl [] s := hK
  obtain rfl : r5 = 0 := w4
  exact mr_i hx hb hr (1, fun k9 => [m1, m2, m3, m4, m5, l1, l2, l3, l4].getD k9 0, fun k9 => [5, 5, -1].getD k9 0) (rfl) (hP.sub [1] rfl) (hK.sub [] rfl) (hD.sub [1] (by decide) rfl) hS (Nat.le_of_ble_eq_true rfl) (Nat.le_of_ble_eq_true rfl) hlocks dX9_reference_14

def us_c_mpace : List Cond := .code yX9_pace cX9_pace 3 (some .int) :: (([.methodLink RX9 227 yX9_isRunner, .instanceMethod yX9_isRunner, .selects RX9 yX9_isRunner yX9_isRunner, .initialized RX9, .methodLink RX9 76 yX9_fails, .instanceMethod yX9_fails, .selects RX9 yX9_fails yX9_fails] : List Cond) ++ (us_c_isRunner ++ (us_c_fails ++ ([]))))
theorem gw_c_mpace : ∀ w ∈ us_c_mpace, goodWord w = true := gw_cons rfl (gw_app (by decide +kernel) (gw_app gw_c_isRunner (gw_app gw_c_fails (fun _ h => nomatch h))))
set_option maxHeartbeats 4000000 in
set_option maxRecDepth 100000 in
/-- the reference refuses pace -/
theorem c_mpace (l : Launch) (hst : l.stackTraces = false) (D : va_G) (mo : Nat) (th : Int32) (m1 : Nat) (m2 : Nat) (m3 : Nat) (m4 : Nat) (m5 : Nat) (l1 : Nat) (l2 : Nat) (l3 : Nat) (l4 : Nat) (p0 : Int32) (sz : Nat) : Met l yX9_pace us_c_mpace { frames := 2, cells := 0, slots := 0, locals := 46 } (pw D [.ref mo, .int p0] [] [(mo, .inr (16, [.int 5, .int 5, .int th, .ref m1, .ref m2, .ref m3, .ref m4, .ref m5, .ref l1, .ref l2, .ref l3, .int (-1), .ref l4])), (l3, .inr (5, [.int 1, .ref (D.1 1000), .int 0]))] sz) (va_Qi (fun (_ : Int32) (u : (Int32 × (Nat → Nat) × (Nat → Int32))) => u.1 = 1) (qb D (va_A [(mo, .inr (16, [.int 5, .int 5, .int th, .ref m1, .ref m2, .ref m3, .ref m4, .ref m5, .ref l1, .ref l2, .ref l3, .int (-1), .ref l4])), (l3, .inr (5, [.int 1, .ref (D.1 1000), .int 0]))] sz) (fun u : (Int32 × (Nat → Nat) × (Nat → Int32)) => [(mo, .inr (16, [.int (u.2.2 0), .int (u.2.2 1), .int u.1, .ref (u.2.1 0), .ref (u.2.1 1), .ref (u.2.1 2), .ref (u.2.1 3), .ref (u.2.1 4), .ref (u.2.1 5), .ref (u.2.1 6), .ref (u.2.1 7), .int (u.2.2 2), .ref (u.2.1 8)]))]) (fun u : (Int32 × (Nat → Nat) × (Nat → Int32)) => ([] : List (ClassId × FieldType)))) (va_A [(mo, .inr (16, [.int 5, .int 5, .int th, .ref m1, .ref m2, .ref m3, .ref m4, .ref m5, .ref l1, .ref l2, .ref l3, .int (-1), .ref l4])), (l3, .inr (5, [.int 1, .ref (D.1 1000), .int 0]))] sz)) 0 0 (va_A [(mo, .inr (16, [.int 5, .int 5, .int th, .ref m1, .ref m2, .ref m3, .ref m4, .ref m5, .ref l1, .ref l2, .ref l3, .int (-1), .ref l4])), (l3, .inr (5, [.int 1, .ref (D.1 1000), .int 0]))] sz) := by
  refine op_M (Qc := fun A => (va_Qi (fun (_ : Int32) (u : (Int32 × (Nat → Nat) × (Nat → Int32))) => u.1 = 1) (qb D A (fun u : (Int32 × (Nat → Nat) × (Nat → Int32)) => [(mo, .inr (16, [.int (u.2.2 0), .int (u.2.2 1), .int u.1, .ref (u.2.1 0), .ref (u.2.1 1), .ref (u.2.1 2), .ref (u.2.1 3), .ref (u.2.1 4), .ref (u.2.1 5), .ref (u.2.1 6), .ref (u.2.1 7), .int (u.2.2 2), .ref (u.2.1 8)]))]) (fun u : (Int32 × (Nat → Nat) × (Nat → Int32)) => ([] : List (ClassId × FieldType)))) A)) (by decide +kernel) rfl (Nat.le_of_ble_eq_true rfl) ?_
  intro p e s m args below meth c A ls hx hb hr hml hts hown hlocks hmn htab hA hD hS hP hK hE hsz hl
  have hown : s.vm.findClass RX9 = some m.cls := hown
  have hl : lv_has ls 3 [(0, .ref mo), (1, .int p0)] := hl
  have hw_0 := hts (.methodLink RX9 227 yX9_isRunner) (List.mem_cons_of_mem _ (List.mem_append_left _ (List.mem_of_getElem? (i := 0) rfl)))
  have hw_1 := hts (.instanceMethod yX9_isRunner) (List.mem_cons_of_mem _ (List.mem_append_left _ (List.mem_of_getElem? (i := 1) rfl)))
  have hw_2 := hts (.selects RX9 yX9_isRunner yX9_isRunner) (List.mem_cons_of_mem _ (List.mem_append_left _ (List.mem_of_getElem? (i := 2) rfl)))
  have hw_3 := hts (.initialized RX9) (List.mem_cons_of_mem _ (List.mem_append_left _ (List.mem_of_getElem? (i := 3) rfl)))
  have hw_4 := hts (.methodLink RX9 76 yX9_fails) (List.mem_cons_of_mem _ (List.mem_append_left _ (List.mem_of_getElem? (i := 4) rfl)))
  have hw_5 := hts (.instanceMethod yX9_fails) (List.mem_cons_of_mem _ (List.mem_append_left _ (List.mem_of_getElem? (i := 5) rfl)))
  have hw_6 := hts (.selects RX9 yX9_fails yX9_fails) (List.mem_cons_of_mem _ (List.mem_append_left _ (List.mem_of_getElem? (i := 6) rfl)))
  have hb_0 : ∀ w ∈ us_c_isRunner, w ∈ us_c_mpace := fun w h => List.mem_cons_of_mem _ (List.mem_append_right _ (List.mem_append_left _ h))
  have hb_1 : ∀ w ∈ us_c_fails, w ∈ us_c_mpace := fun w h => List.mem_cons_of_mem _ (List.mem_append_right _ (List.mem_append_right _ (List.mem_append_left _ h)))
  refine lv_aload_n hx hb dX9_pace_0 rfl (lv_at hl 0 rfl) ?_
  refine lv_iload_n hx hb dX9_pace_1 rfl (lv_at hl 1 rfl) ?_
  refine mc_i (wr := []) (va_runV (As := [.int p0]) (rest := []) ⟨hx, hb, hml, hown, hts⟩ (c_isRunner l hst D mo th m1 m2 m3 m4 m5 l1 l2 l3 l4 p0 s.heap.size) (cwV 1 hts (gi_c (List.mem_cons_of_mem _ (List.mem_append_left _ (List.mem_of_getElem? (i := 0) rfl))) rfl (gi_c (List.mem_cons_of_mem _ (List.mem_append_left _ (List.mem_of_getElem? (i := 1) rfl))) rfl (gi_c (List.mem_cons_of_mem _ (List.mem_append_left _ (List.mem_of_getElem? (i := 2) rfl))) rfl (gi_c (List.mem_cons_of_mem _ (List.mem_append_left _ (List.mem_of_getElem? (i := 3) rfl))) rfl (goodIn_sub hb_0 (List.all_eq_true.mpr gw_c_isRunner)))))) rfl rfl rfl (by decide +kernel) ⟨Nat.le_of_ble_eq_true rfl, Nat.le_of_ble_eq_true rfl⟩) (pr_V (As := [.int p0]) (b := mo) (C := RX9) hP hD hK hS hA hE [0, 1] [] rfl rfl rfl 0 16 rfl rfl rfl) rfl rfl hl.1 rfl (lv_room (Nat.le_of_ble_eq_true rfl)) dX9_pace_2 ⟨Nat.le_of_ble_eq_true rfl, Nat.le_of_ble_eq_true rfl⟩) hP hD hK hS hA [0, 1] [] rfl rfl (by decide) (by decide) (fun r2 _ H locs w1 hP hD hK hS => ?_)
  have hP : va_P D vwCl [(mo, .inr (16, [.int 5, .int 5, .int th, .ref m1, .ref m2, .ref m3, .ref m4, .ref m5, .ref l1, .ref l2, .ref l3, .int (-1), .ref l4])), (l3, .inr (5, [.int 1, .ref (D.1 1000), .int 0]))] H := hP
  have hD : va_D A [(mo, .inr (16, [.int 5, .int 5, .int th, .ref m1, .ref m2, .ref m3, .ref m4, .ref m5, .ref l1, .ref l2, .ref l3, .int (-1), .ref l4])), (l3, .inr (5, [.int 1, .ref (D.1 1000), .int 0]))] := hD
  have hK : va_K D vwCl [] s := hK
  obtain rfl : r2 = 0 := w1
  refine lv_if_ne (tgt := 14) hx hb dX9_pace_5 (by decide) (fun h3 => absurd (by decide) h3) (fun h3 => ?_)
  refine lv_aload_n hx hb dX9_pace_8 rfl (lv_at hl 0 rfl) ?_
  refine lv_iconst (v := 1) hx hb dX9_pace_9 (by decide) ?_
  refine mc_i (wr := [(l3, .inr (5, [.int 1, .ref (D.1 1000), .int 0]))]) (va_runV (As := [.int 1]) (rest := []) ⟨hx, hb, hml, hown, hts⟩ (c_fails l hst D mo 5 5 th m1 m2 m3 m4 m5 l1 l2 l3 (-1) l4 1 H.size) (cwV 1 hts (gi_c (List.mem_cons_of_mem _ (List.mem_append_left _ (List.mem_of_getElem? (i := 4) rfl))) rfl (gi_c (List.mem_cons_of_mem _ (List.mem_append_left _ (List.mem_of_getElem? (i := 5) rfl))) rfl (gi_c (List.mem_cons_of_mem _ (List.mem_append_left _ (List.mem_of_getElem? (i := 6) rfl))) rfl (gi_c (List.mem_cons_of_mem _ (List.mem_append_left _ (List.mem_of_getElem? (i := 3) rfl))) rfl (goodIn_sub hb_1 (List.all_eq_true.mpr gw_c_fails)))))) rfl rfl rfl (by decide +kernel) ⟨Nat.le_of_ble_eq_true rfl, Nat.le_of_ble_eq_true rfl⟩) (pr_V (As := [.int 1]) (b := mo) (C := RX9) hP hD hK hS hA hE [0] [] rfl rfl rfl 0 16 rfl rfl rfl) rfl rfl hl.1 rfl (lv_room (Nat.le_of_ble_eq_true rfl)) dX9_pace_10 ⟨Nat.le_of_ble_eq_true rfl, Nat.le_of_ble_eq_true rfl⟩) hP hD hK hS hA [0] [1] rfl rfl (by decide) (by decide) (fun r5 _ H locs w4 hP hD hK hS => ?_)
  have hP : va_P D vwCl [(l3, .inr (5, [.int 1, .ref (D.1 1000), .int 0])), (mo, .inr (16, [.int 5, .int 5, .int 1, .ref m1, .ref m2, .ref m3, .ref m4, .ref m5, .ref l1, .ref l2, .ref l3, .int (-1), .ref l4]))] H := hP
  have hD : va_D A [(l3, .inr (5, [.int 1, .ref (D.1 1000), .int 0])), (mo, .inr (16, [.int 5, .int 5, .int 1, .ref m1, .ref m2, .ref m3, .ref m4, .ref m5, .ref l1, .ref l2, .ref l3, .int (-1), .ref l4]))] := hD
  have hK : va_K D vwCl [] s := hK
  obtain rfl : r5 = 0 := w4
  exact mr_i hx hb hr (1, fun k9 => [m1, m2, m3, m4, m5, l1, l2, l3, l4].getD k9 0, fun k9 => [5, 5, -1].getD k9 0) (rfl) (hP.sub [1] rfl) (hK.sub [] rfl) (hD.sub [1] (by decide) rfl) hS (Nat.le_of_ble_eq_true rfl) (Nat.le_of_ble_eq_true rfl) hlocks dX9_pace_13

def us_c_mloss : List Cond := .code yX9_loss cX9_loss 6 (some .int) :: (([.methodLink RX9 295 yX9_isLeg, .instanceMethod yX9_isLeg, .selects RX9 yX9_isLeg yX9_isLeg, .initialized RX9, .methodLink RX9 76 yX9_fails, .instanceMethod yX9_fails, .selects RX9 yX9_fails yX9_fails] : List Cond) ++ (us_c_isLeg ++ (us_c_fails ++ ([]))))
theorem gw_c_mloss : ∀ w ∈ us_c_mloss, goodWord w = true := gw_cons rfl (gw_app (by decide +kernel) (gw_app gw_c_isLeg (gw_app gw_c_fails (fun _ h => nomatch h))))
set_option maxHeartbeats 4000000 in
set_option maxRecDepth 100000 in
/-- the reference refuses loss -/
theorem c_mloss (l : Launch) (hst : l.stackTraces = false) (D : va_G) (mo : Nat) (th : Int32) (m1 : Nat) (m2 : Nat) (m3 : Nat) (m4 : Nat) (m5 : Nat) (l1 : Nat) (l2 : Nat) (l3 : Nat) (l4 : Nat) (p0 : Int32) (p1 : Int32) (sz : Nat) : Met l yX9_loss us_c_mloss { frames := 3, cells := 0, slots := 0, locals := 68 } (pw D [.ref mo, .int p0, .int p1] [] [(mo, .inr (16, [.int 5, .int 5, .int th, .ref m1, .ref m2, .ref m3, .ref m4, .ref m5, .ref l1, .ref l2, .ref l3, .int (-1), .ref l4])), (l3, .inr (5, [.int 1, .ref (D.1 1000), .int 0]))] sz) (va_Qi (fun (_ : Int32) (u : (Int32 × (Nat → Nat) × (Nat → Int32))) => u.1 = 1) (qb D (va_A [(mo, .inr (16, [.int 5, .int 5, .int th, .ref m1, .ref m2, .ref m3, .ref m4, .ref m5, .ref l1, .ref l2, .ref l3, .int (-1), .ref l4])), (l3, .inr (5, [.int 1, .ref (D.1 1000), .int 0]))] sz) (fun u : (Int32 × (Nat → Nat) × (Nat → Int32)) => [(mo, .inr (16, [.int (u.2.2 0), .int (u.2.2 1), .int u.1, .ref (u.2.1 0), .ref (u.2.1 1), .ref (u.2.1 2), .ref (u.2.1 3), .ref (u.2.1 4), .ref (u.2.1 5), .ref (u.2.1 6), .ref (u.2.1 7), .int (u.2.2 2), .ref (u.2.1 8)]))]) (fun u : (Int32 × (Nat → Nat) × (Nat → Int32)) => ([] : List (ClassId × FieldType)))) (va_A [(mo, .inr (16, [.int 5, .int 5, .int th, .ref m1, .ref m2, .ref m3, .ref m4, .ref m5, .ref l1, .ref l2, .ref l3, .int (-1), .ref l4])), (l3, .inr (5, [.int 1, .ref (D.1 1000), .int 0]))] sz)) 0 0 (va_A [(mo, .inr (16, [.int 5, .int 5, .int th, .ref m1, .ref m2, .ref m3, .ref m4, .ref m5, .ref l1, .ref l2, .ref l3, .int (-1), .ref l4])), (l3, .inr (5, [.int 1, .ref (D.1 1000), .int 0]))] sz) := by
  refine op_M (Qc := fun A => (va_Qi (fun (_ : Int32) (u : (Int32 × (Nat → Nat) × (Nat → Int32))) => u.1 = 1) (qb D A (fun u : (Int32 × (Nat → Nat) × (Nat → Int32)) => [(mo, .inr (16, [.int (u.2.2 0), .int (u.2.2 1), .int u.1, .ref (u.2.1 0), .ref (u.2.1 1), .ref (u.2.1 2), .ref (u.2.1 3), .ref (u.2.1 4), .ref (u.2.1 5), .ref (u.2.1 6), .ref (u.2.1 7), .int (u.2.2 2), .ref (u.2.1 8)]))]) (fun u : (Int32 × (Nat → Nat) × (Nat → Int32)) => ([] : List (ClassId × FieldType)))) A)) (by decide +kernel) rfl (Nat.le_of_ble_eq_true rfl) ?_
  intro p e s m args below meth c A ls hx hb hr hml hts hown hlocks hmn htab hA hD hS hP hK hE hsz hl
  have hown : s.vm.findClass RX9 = some m.cls := hown
  have hl : lv_has ls 6 [(0, .ref mo), (1, .int p0), (2, .int p1)] := hl
  have hw_0 := hts (.methodLink RX9 295 yX9_isLeg) (List.mem_cons_of_mem _ (List.mem_append_left _ (List.mem_of_getElem? (i := 0) rfl)))
  have hw_1 := hts (.instanceMethod yX9_isLeg) (List.mem_cons_of_mem _ (List.mem_append_left _ (List.mem_of_getElem? (i := 1) rfl)))
  have hw_2 := hts (.selects RX9 yX9_isLeg yX9_isLeg) (List.mem_cons_of_mem _ (List.mem_append_left _ (List.mem_of_getElem? (i := 2) rfl)))
  have hw_3 := hts (.initialized RX9) (List.mem_cons_of_mem _ (List.mem_append_left _ (List.mem_of_getElem? (i := 3) rfl)))
  have hw_4 := hts (.methodLink RX9 76 yX9_fails) (List.mem_cons_of_mem _ (List.mem_append_left _ (List.mem_of_getElem? (i := 4) rfl)))
  have hw_5 := hts (.instanceMethod yX9_fails) (List.mem_cons_of_mem _ (List.mem_append_left _ (List.mem_of_getElem? (i := 5) rfl)))
  have hw_6 := hts (.selects RX9 yX9_fails yX9_fails) (List.mem_cons_of_mem _ (List.mem_append_left _ (List.mem_of_getElem? (i := 6) rfl)))
  have hb_0 : ∀ w ∈ us_c_isLeg, w ∈ us_c_mloss := fun w h => List.mem_cons_of_mem _ (List.mem_append_right _ (List.mem_append_left _ h))
  have hb_1 : ∀ w ∈ us_c_fails, w ∈ us_c_mloss := fun w h => List.mem_cons_of_mem _ (List.mem_append_right _ (List.mem_append_right _ (List.mem_append_left _ h)))
  refine lv_aload_n hx hb dX9_loss_0 rfl (lv_at hl 0 rfl) ?_
  refine lv_iload_n hx hb dX9_loss_1 rfl (lv_at hl 1 rfl) ?_
  refine lv_iload_n hx hb dX9_loss_2 rfl (lv_at hl 2 rfl) ?_
  refine mc_i (wr := []) (va_runV (As := [.int p0, .int p1]) (rest := []) ⟨hx, hb, hml, hown, hts⟩ (c_isLeg l hst D mo th m1 m2 m3 m4 m5 l1 l2 l3 l4 p0 p1 s.heap.size) (cwV 2 hts (gi_c (List.mem_cons_of_mem _ (List.mem_append_left _ (List.mem_of_getElem? (i := 0) rfl))) rfl (gi_c (List.mem_cons_of_mem _ (List.mem_append_left _ (List.mem_of_getElem? (i := 1) rfl))) rfl (gi_c (List.mem_cons_of_mem _ (List.mem_append_left _ (List.mem_of_getElem? (i := 2) rfl))) rfl (gi_c (List.mem_cons_of_mem _ (List.mem_append_left _ (List.mem_of_getElem? (i := 3) rfl))) rfl (goodIn_sub hb_0 (List.all_eq_true.mpr gw_c_isLeg)))))) rfl rfl rfl (by decide +kernel) ⟨Nat.le_of_ble_eq_true rfl, Nat.le_of_ble_eq_true rfl⟩) (pr_V (As := [.int p0, .int p1]) (b := mo) (C := RX9) hP hD hK hS hA hE [0, 1] [] rfl rfl rfl 0 16 rfl rfl rfl) rfl rfl hl.1 rfl (lv_room (Nat.le_of_ble_eq_true rfl)) dX9_loss_3 ⟨Nat.le_of_ble_eq_true rfl, Nat.le_of_ble_eq_true rfl⟩) hP hD hK hS hA [0, 1] [] rfl rfl (by decide) (by decide) (fun r2 _ H locs w1 hP hD hK hS => ?_)
  have hP : va_P D vwCl [(mo, .inr (16, [.int 5, .int 5, .int th, .ref m1, .ref m2, .ref m3, .ref m4, .ref m5, .ref l1, .ref l2, .ref l3, .int (-1), .ref l4])), (l3, .inr (5, [.int 1, .ref (D.1 1000), .int 0]))] H := hP
  have hD : va_D A [(mo, .inr (16, [.int 5, .int 5, .int th, .ref m1, .ref m2, .ref m3, .ref m4, .ref m5, .ref l1, .ref l2, .ref l3, .int (-1), .ref l4])), (l3, .inr (5, [.int 1, .ref (D.1 1000), .int 0]))] := hD
  have hK : va_K D vwCl [] s := hK
  obtain rfl : r2 = 0 := w1
  refine lv_if_ne (tgt := 15) hx hb dX9_loss_6 (by decide) (fun h3 => absurd (by decide) h3) (fun h3 => ?_)
  refine lv_aload_n hx hb dX9_loss_9 rfl (lv_at hl 0 rfl) ?_
  refine lv_iconst (v := 1) hx hb dX9_loss_10 (by decide) ?_
  refine mc_i (wr := [(l3, .inr (5, [.int 1, .ref (D.1 1000), .int 0]))]) (va_runV (As := [.int 1]) (rest := []) ⟨hx, hb, hml, hown, hts⟩ (c_fails l hst D mo 5 5 th m1 m2 m3 m4 m5 l1 l2 l3 (-1) l4 1 H.size) (cwV 1 hts (gi_c (List.mem_cons_of_mem _ (List.mem_append_left _ (List.mem_of_getElem? (i := 4) rfl))) rfl (gi_c (List.mem_cons_of_mem _ (List.mem_append_left _ (List.mem_of_getElem? (i := 5) rfl))) rfl (gi_c (List.mem_cons_of_mem _ (List.mem_append_left _ (List.mem_of_getElem? (i := 6) rfl))) rfl (gi_c (List.mem_cons_of_mem _ (List.mem_append_left _ (List.mem_of_getElem? (i := 3) rfl))) rfl (goodIn_sub hb_1 (List.all_eq_true.mpr gw_c_fails)))))) rfl rfl rfl (by decide +kernel) ⟨Nat.le_of_ble_eq_true rfl, Nat.le_of_ble_eq_true rfl⟩) (pr_V (As := [.int 1]) (b := mo) (C := RX9) hP hD hK hS hA hE [0] [] rfl rfl rfl 0 16 rfl rfl rfl) rfl rfl hl.1 rfl (lv_room (Nat.le_of_ble_eq_true rfl)) dX9_loss_11 ⟨Nat.le_of_ble_eq_true rfl, Nat.le_of_ble_eq_true rfl⟩) hP hD hK hS hA [0] [1] rfl rfl (by decide) (by decide) (fun r5 _ H locs w4 hP hD hK hS => ?_)
  have hP : va_P D vwCl [(l3, .inr (5, [.int 1, .ref (D.1 1000), .int 0])), (mo, .inr (16, [.int 5, .int 5, .int 1, .ref m1, .ref m2, .ref m3, .ref m4, .ref m5, .ref l1, .ref l2, .ref l3, .int (-1), .ref l4]))] H := hP
  have hD : va_D A [(l3, .inr (5, [.int 1, .ref (D.1 1000), .int 0])), (mo, .inr (16, [.int 5, .int 5, .int 1, .ref m1, .ref m2, .ref m3, .ref m4, .ref m5, .ref l1, .ref l2, .ref l3, .int (-1), .ref l4]))] := hD
  have hK : va_K D vwCl [] s := hK
  obtain rfl : r5 = 0 := w4
  exact mr_i hx hb hr (1, fun k9 => [m1, m2, m3, m4, m5, l1, l2, l3, l4].getD k9 0, fun k9 => [5, 5, -1].getD k9 0) (rfl) (hP.sub [1] rfl) (hK.sub [] rfl) (hD.sub [1] (by decide) rfl) hS (Nat.le_of_ble_eq_true rfl) (Nat.le_of_ble_eq_true rfl) hlocks dX9_loss_14

def us_c_mpoints : List Cond := .code yX9_points cX9_points 7 (some .int) :: (([.methodLink RX9 227 yX9_isRunner, .instanceMethod yX9_isRunner, .selects RX9 yX9_isRunner yX9_isRunner, .initialized RX9, .methodLink RX9 76 yX9_fails, .instanceMethod yX9_fails, .selects RX9 yX9_fails yX9_fails] : List Cond) ++ (us_c_isRunner ++ (us_c_fails ++ ([]))))
theorem gw_c_mpoints : ∀ w ∈ us_c_mpoints, goodWord w = true := gw_cons rfl (gw_app (by decide +kernel) (gw_app gw_c_isRunner (gw_app gw_c_fails (fun _ h => nomatch h))))
set_option maxHeartbeats 4000000 in
set_option maxRecDepth 100000 in
/-- the reference refuses points -/
theorem c_mpoints (l : Launch) (hst : l.stackTraces = false) (D : va_G) (mo : Nat) (th : Int32) (m1 : Nat) (m2 : Nat) (m3 : Nat) (m4 : Nat) (m5 : Nat) (l1 : Nat) (l2 : Nat) (l3 : Nat) (l4 : Nat) (p0 : Int32) (sz : Nat) : Met l yX9_points us_c_mpoints { frames := 2, cells := 0, slots := 0, locals := 46 } (pw D [.ref mo, .int p0] [] [(mo, .inr (16, [.int 5, .int 5, .int th, .ref m1, .ref m2, .ref m3, .ref m4, .ref m5, .ref l1, .ref l2, .ref l3, .int (-1), .ref l4])), (l3, .inr (5, [.int 1, .ref (D.1 1000), .int 0]))] sz) (va_Qi (fun (_ : Int32) (u : (Int32 × (Nat → Nat) × (Nat → Int32))) => u.1 = 1) (qb D (va_A [(mo, .inr (16, [.int 5, .int 5, .int th, .ref m1, .ref m2, .ref m3, .ref m4, .ref m5, .ref l1, .ref l2, .ref l3, .int (-1), .ref l4])), (l3, .inr (5, [.int 1, .ref (D.1 1000), .int 0]))] sz) (fun u : (Int32 × (Nat → Nat) × (Nat → Int32)) => [(mo, .inr (16, [.int (u.2.2 0), .int (u.2.2 1), .int u.1, .ref (u.2.1 0), .ref (u.2.1 1), .ref (u.2.1 2), .ref (u.2.1 3), .ref (u.2.1 4), .ref (u.2.1 5), .ref (u.2.1 6), .ref (u.2.1 7), .int (u.2.2 2), .ref (u.2.1 8)]))]) (fun u : (Int32 × (Nat → Nat) × (Nat → Int32)) => ([] : List (ClassId × FieldType)))) (va_A [(mo, .inr (16, [.int 5, .int 5, .int th, .ref m1, .ref m2, .ref m3, .ref m4, .ref m5, .ref l1, .ref l2, .ref l3, .int (-1), .ref l4])), (l3, .inr (5, [.int 1, .ref (D.1 1000), .int 0]))] sz)) 0 0 (va_A [(mo, .inr (16, [.int 5, .int 5, .int th, .ref m1, .ref m2, .ref m3, .ref m4, .ref m5, .ref l1, .ref l2, .ref l3, .int (-1), .ref l4])), (l3, .inr (5, [.int 1, .ref (D.1 1000), .int 0]))] sz) := by
  refine op_M (Qc := fun A => (va_Qi (fun (_ : Int32) (u : (Int32 × (Nat → Nat) × (Nat → Int32))) => u.1 = 1) (qb D A (fun u : (Int32 × (Nat → Nat) × (Nat → Int32)) => [(mo, .inr (16, [.int (u.2.2 0), .int (u.2.2 1), .int u.1, .ref (u.2.1 0), .ref (u.2.1 1), .ref (u.2.1 2), .ref (u.2.1 3), .ref (u.2.1 4), .ref (u.2.1 5), .ref (u.2.1 6), .ref (u.2.1 7), .int (u.2.2 2), .ref (u.2.1 8)]))]) (fun u : (Int32 × (Nat → Nat) × (Nat → Int32)) => ([] : List (ClassId × FieldType)))) A)) (by decide +kernel) rfl (Nat.le_of_ble_eq_true rfl) ?_
  intro p e s m args below meth c A ls hx hb hr hml hts hown hlocks hmn htab hA hD hS hP hK hE hsz hl
  have hown : s.vm.findClass RX9 = some m.cls := hown
  have hl : lv_has ls 7 [(0, .ref mo), (1, .int p0)] := hl
  have hw_0 := hts (.methodLink RX9 227 yX9_isRunner) (List.mem_cons_of_mem _ (List.mem_append_left _ (List.mem_of_getElem? (i := 0) rfl)))
  have hw_1 := hts (.instanceMethod yX9_isRunner) (List.mem_cons_of_mem _ (List.mem_append_left _ (List.mem_of_getElem? (i := 1) rfl)))
  have hw_2 := hts (.selects RX9 yX9_isRunner yX9_isRunner) (List.mem_cons_of_mem _ (List.mem_append_left _ (List.mem_of_getElem? (i := 2) rfl)))
  have hw_3 := hts (.initialized RX9) (List.mem_cons_of_mem _ (List.mem_append_left _ (List.mem_of_getElem? (i := 3) rfl)))
  have hw_4 := hts (.methodLink RX9 76 yX9_fails) (List.mem_cons_of_mem _ (List.mem_append_left _ (List.mem_of_getElem? (i := 4) rfl)))
  have hw_5 := hts (.instanceMethod yX9_fails) (List.mem_cons_of_mem _ (List.mem_append_left _ (List.mem_of_getElem? (i := 5) rfl)))
  have hw_6 := hts (.selects RX9 yX9_fails yX9_fails) (List.mem_cons_of_mem _ (List.mem_append_left _ (List.mem_of_getElem? (i := 6) rfl)))
  have hb_0 : ∀ w ∈ us_c_isRunner, w ∈ us_c_mpoints := fun w h => List.mem_cons_of_mem _ (List.mem_append_right _ (List.mem_append_left _ h))
  have hb_1 : ∀ w ∈ us_c_fails, w ∈ us_c_mpoints := fun w h => List.mem_cons_of_mem _ (List.mem_append_right _ (List.mem_append_right _ (List.mem_append_left _ h)))
  refine lv_aload_n hx hb dX9_points_0 rfl (lv_at hl 0 rfl) ?_
  refine lv_iload_n hx hb dX9_points_1 rfl (lv_at hl 1 rfl) ?_
  refine mc_i (wr := []) (va_runV (As := [.int p0]) (rest := []) ⟨hx, hb, hml, hown, hts⟩ (c_isRunner l hst D mo th m1 m2 m3 m4 m5 l1 l2 l3 l4 p0 s.heap.size) (cwV 1 hts (gi_c (List.mem_cons_of_mem _ (List.mem_append_left _ (List.mem_of_getElem? (i := 0) rfl))) rfl (gi_c (List.mem_cons_of_mem _ (List.mem_append_left _ (List.mem_of_getElem? (i := 1) rfl))) rfl (gi_c (List.mem_cons_of_mem _ (List.mem_append_left _ (List.mem_of_getElem? (i := 2) rfl))) rfl (gi_c (List.mem_cons_of_mem _ (List.mem_append_left _ (List.mem_of_getElem? (i := 3) rfl))) rfl (goodIn_sub hb_0 (List.all_eq_true.mpr gw_c_isRunner)))))) rfl rfl rfl (by decide +kernel) ⟨Nat.le_of_ble_eq_true rfl, Nat.le_of_ble_eq_true rfl⟩) (pr_V (As := [.int p0]) (b := mo) (C := RX9) hP hD hK hS hA hE [0, 1] [] rfl rfl rfl 0 16 rfl rfl rfl) rfl rfl hl.1 rfl (lv_room (Nat.le_of_ble_eq_true rfl)) dX9_points_2 ⟨Nat.le_of_ble_eq_true rfl, Nat.le_of_ble_eq_true rfl⟩) hP hD hK hS hA [0, 1] [] rfl rfl (by decide) (by decide) (fun r2 _ H locs w1 hP hD hK hS => ?_)
  have hP : va_P D vwCl [(mo, .inr (16, [.int 5, .int 5, .int th, .ref m1, .ref m2, .ref m3, .ref m4, .ref m5, .ref l1, .ref l2, .ref l3, .int (-1), .ref l4])), (l3, .inr (5, [.int 1, .ref (D.1 1000), .int 0]))] H := hP
  have hD : va_D A [(mo, .inr (16, [.int 5, .int 5, .int th, .ref m1, .ref m2, .ref m3, .ref m4, .ref m5, .ref l1, .ref l2, .ref l3, .int (-1), .ref l4])), (l3, .inr (5, [.int 1, .ref (D.1 1000), .int 0]))] := hD
  have hK : va_K D vwCl [] s := hK
  obtain rfl : r2 = 0 := w1
  refine lv_if_ne (tgt := 14) hx hb dX9_points_5 (by decide) (fun h3 => absurd (by decide) h3) (fun h3 => ?_)
  refine lv_aload_n hx hb dX9_points_8 rfl (lv_at hl 0 rfl) ?_
  refine lv_iconst (v := 1) hx hb dX9_points_9 (by decide) ?_
  refine mc_i (wr := [(l3, .inr (5, [.int 1, .ref (D.1 1000), .int 0]))]) (va_runV (As := [.int 1]) (rest := []) ⟨hx, hb, hml, hown, hts⟩ (c_fails l hst D mo 5 5 th m1 m2 m3 m4 m5 l1 l2 l3 (-1) l4 1 H.size) (cwV 1 hts (gi_c (List.mem_cons_of_mem _ (List.mem_append_left _ (List.mem_of_getElem? (i := 4) rfl))) rfl (gi_c (List.mem_cons_of_mem _ (List.mem_append_left _ (List.mem_of_getElem? (i := 5) rfl))) rfl (gi_c (List.mem_cons_of_mem _ (List.mem_append_left _ (List.mem_of_getElem? (i := 6) rfl))) rfl (gi_c (List.mem_cons_of_mem _ (List.mem_append_left _ (List.mem_of_getElem? (i := 3) rfl))) rfl (goodIn_sub hb_1 (List.all_eq_true.mpr gw_c_fails)))))) rfl rfl rfl (by decide +kernel) ⟨Nat.le_of_ble_eq_true rfl, Nat.le_of_ble_eq_true rfl⟩) (pr_V (As := [.int 1]) (b := mo) (C := RX9) hP hD hK hS hA hE [0] [] rfl rfl rfl 0 16 rfl rfl rfl) rfl rfl hl.1 rfl (lv_room (Nat.le_of_ble_eq_true rfl)) dX9_points_10 ⟨Nat.le_of_ble_eq_true rfl, Nat.le_of_ble_eq_true rfl⟩) hP hD hK hS hA [0] [1] rfl rfl (by decide) (by decide) (fun r5 _ H locs w4 hP hD hK hS => ?_)
  have hP : va_P D vwCl [(l3, .inr (5, [.int 1, .ref (D.1 1000), .int 0])), (mo, .inr (16, [.int 5, .int 5, .int 1, .ref m1, .ref m2, .ref m3, .ref m4, .ref m5, .ref l1, .ref l2, .ref l3, .int (-1), .ref l4]))] H := hP
  have hD : va_D A [(l3, .inr (5, [.int 1, .ref (D.1 1000), .int 0])), (mo, .inr (16, [.int 5, .int 5, .int 1, .ref m1, .ref m2, .ref m3, .ref m4, .ref m5, .ref l1, .ref l2, .ref l3, .int (-1), .ref l4]))] := hD
  have hK : va_K D vwCl [] s := hK
  obtain rfl : r5 = 0 := w4
  exact mr_i hx hb hr (1, fun k9 => [m1, m2, m3, m4, m5, l1, l2, l3, l4].getD k9 0, fun k9 => [5, 5, -1].getD k9 0) (rfl) (hP.sub [1] rfl) (hK.sub [] rfl) (hD.sub [1] (by decide) rfl) hS (Nat.le_of_ble_eq_true rfl) (Nat.le_of_ble_eq_true rfl) hlocks dX9_points_13

def us_c_mteam : List Cond := .code yX9_team cX9_team 3 (some .int) :: (([.methodLink RX9 178 yX9_isCourse, .instanceMethod yX9_isCourse, .selects RX9 yX9_isCourse yX9_isCourse, .initialized RX9, .methodLink RX9 76 yX9_fails, .instanceMethod yX9_fails, .selects RX9 yX9_fails yX9_fails] : List Cond) ++ (us_c_isCourse ++ (us_c_fails ++ ([]))))
theorem gw_c_mteam : ∀ w ∈ us_c_mteam, goodWord w = true := gw_cons rfl (gw_app (by decide +kernel) (gw_app gw_c_isCourse (gw_app gw_c_fails (fun _ h => nomatch h))))
set_option maxHeartbeats 4000000 in
set_option maxRecDepth 100000 in
/-- the reference refuses team -/
theorem c_mteam (l : Launch) (hst : l.stackTraces = false) (D : va_G) (mo : Nat) (th : Int32) (m1 : Nat) (m2 : Nat) (m3 : Nat) (m4 : Nat) (m5 : Nat) (l1 : Nat) (l2 : Nat) (l3 : Nat) (l4 : Nat) (p0 : Int32) (p1 : Int32) (sz : Nat) : Met l yX9_team us_c_mteam { frames := 2, cells := 0, slots := 0, locals := 46 } (pw D [.ref mo, .int p0, .int p1] [] [(mo, .inr (16, [.int 5, .int 5, .int th, .ref m1, .ref m2, .ref m3, .ref m4, .ref m5, .ref l1, .ref l2, .ref l3, .int (-1), .ref l4])), (l2, .inr (5, [.int 1, .ref (D.1 1000), .int 0]))] sz) (va_Qi (fun (_ : Int32) (u : (Int32 × (Nat → Nat) × (Nat → Int32))) => u.1 = 1) (qb D (va_A [(mo, .inr (16, [.int 5, .int 5, .int th, .ref m1, .ref m2, .ref m3, .ref m4, .ref m5, .ref l1, .ref l2, .ref l3, .int (-1), .ref l4])), (l2, .inr (5, [.int 1, .ref (D.1 1000), .int 0]))] sz) (fun u : (Int32 × (Nat → Nat) × (Nat → Int32)) => [(mo, .inr (16, [.int (u.2.2 0), .int (u.2.2 1), .int u.1, .ref (u.2.1 0), .ref (u.2.1 1), .ref (u.2.1 2), .ref (u.2.1 3), .ref (u.2.1 4), .ref (u.2.1 5), .ref (u.2.1 6), .ref (u.2.1 7), .int (u.2.2 2), .ref (u.2.1 8)]))]) (fun u : (Int32 × (Nat → Nat) × (Nat → Int32)) => ([] : List (ClassId × FieldType)))) (va_A [(mo, .inr (16, [.int 5, .int 5, .int th, .ref m1, .ref m2, .ref m3, .ref m4, .ref m5, .ref l1, .ref l2, .ref l3, .int (-1), .ref l4])), (l2, .inr (5, [.int 1, .ref (D.1 1000), .int 0]))] sz)) 0 0 (va_A [(mo, .inr (16, [.int 5, .int 5, .int th, .ref m1, .ref m2, .ref m3, .ref m4, .ref m5, .ref l1, .ref l2, .ref l3, .int (-1), .ref l4])), (l2, .inr (5, [.int 1, .ref (D.1 1000), .int 0]))] sz) := by
  refine op_M (Qc := fun A => (va_Qi (fun (_ : Int32) (u : (Int32 × (Nat → Nat) × (Nat → Int32))) => u.1 = 1) (qb D A (fun u : (Int32 × (Nat → Nat) × (Nat → Int32)) => [(mo, .inr (16, [.int (u.2.2 0), .int (u.2.2 1), .int u.1, .ref (u.2.1 0), .ref (u.2.1 1), .ref (u.2.1 2), .ref (u.2.1 3), .ref (u.2.1 4), .ref (u.2.1 5), .ref (u.2.1 6), .ref (u.2.1 7), .int (u.2.2 2), .ref (u.2.1 8)]))]) (fun u : (Int32 × (Nat → Nat) × (Nat → Int32)) => ([] : List (ClassId × FieldType)))) A)) (by decide +kernel) rfl (Nat.le_of_ble_eq_true rfl) ?_
  intro p e s m args below meth c A ls hx hb hr hml hts hown hlocks hmn htab hA hD hS hP hK hE hsz hl
  have hown : s.vm.findClass RX9 = some m.cls := hown
  have hl : lv_has ls 3 [(0, .ref mo), (1, .int p0), (2, .int p1)] := hl
  have hw_0 := hts (.methodLink RX9 178 yX9_isCourse) (List.mem_cons_of_mem _ (List.mem_append_left _ (List.mem_of_getElem? (i := 0) rfl)))
  have hw_1 := hts (.instanceMethod yX9_isCourse) (List.mem_cons_of_mem _ (List.mem_append_left _ (List.mem_of_getElem? (i := 1) rfl)))
  have hw_2 := hts (.selects RX9 yX9_isCourse yX9_isCourse) (List.mem_cons_of_mem _ (List.mem_append_left _ (List.mem_of_getElem? (i := 2) rfl)))
  have hw_3 := hts (.initialized RX9) (List.mem_cons_of_mem _ (List.mem_append_left _ (List.mem_of_getElem? (i := 3) rfl)))
  have hw_4 := hts (.methodLink RX9 76 yX9_fails) (List.mem_cons_of_mem _ (List.mem_append_left _ (List.mem_of_getElem? (i := 4) rfl)))
  have hw_5 := hts (.instanceMethod yX9_fails) (List.mem_cons_of_mem _ (List.mem_append_left _ (List.mem_of_getElem? (i := 5) rfl)))
  have hw_6 := hts (.selects RX9 yX9_fails yX9_fails) (List.mem_cons_of_mem _ (List.mem_append_left _ (List.mem_of_getElem? (i := 6) rfl)))
  have hb_0 : ∀ w ∈ us_c_isCourse, w ∈ us_c_mteam := fun w h => List.mem_cons_of_mem _ (List.mem_append_right _ (List.mem_append_left _ h))
  have hb_1 : ∀ w ∈ us_c_fails, w ∈ us_c_mteam := fun w h => List.mem_cons_of_mem _ (List.mem_append_right _ (List.mem_append_right _ (List.mem_append_left _ h)))
  refine lv_aload_n hx hb dX9_team_0 rfl (lv_at hl 0 rfl) ?_
  refine lv_iload_n hx hb dX9_team_1 rfl (lv_at hl 1 rfl) ?_
  refine mc_i (wr := []) (va_runV (As := [.int p0]) (rest := []) ⟨hx, hb, hml, hown, hts⟩ (c_isCourse l hst D mo th m1 m2 m3 m4 m5 l1 l2 l3 l4 p0 s.heap.size) (cwV 1 hts (gi_c (List.mem_cons_of_mem _ (List.mem_append_left _ (List.mem_of_getElem? (i := 0) rfl))) rfl (gi_c (List.mem_cons_of_mem _ (List.mem_append_left _ (List.mem_of_getElem? (i := 1) rfl))) rfl (gi_c (List.mem_cons_of_mem _ (List.mem_append_left _ (List.mem_of_getElem? (i := 2) rfl))) rfl (gi_c (List.mem_cons_of_mem _ (List.mem_append_left _ (List.mem_of_getElem? (i := 3) rfl))) rfl (goodIn_sub hb_0 (List.all_eq_true.mpr gw_c_isCourse)))))) rfl rfl rfl (by decide +kernel) ⟨Nat.le_of_ble_eq_true rfl, Nat.le_of_ble_eq_true rfl⟩) (pr_V (As := [.int p0]) (b := mo) (C := RX9) hP hD hK hS hA hE [0, 1] [] rfl rfl rfl 0 16 rfl rfl rfl) rfl rfl hl.1 rfl (lv_room (Nat.le_of_ble_eq_true rfl)) dX9_team_2 ⟨Nat.le_of_ble_eq_true rfl, Nat.le_of_ble_eq_true rfl⟩) hP hD hK hS hA [0, 1] [] rfl rfl (by decide) (by decide) (fun r2 _ H locs w1 hP hD hK hS => ?_)
  have hP : va_P D vwCl [(mo, .inr (16, [.int 5, .int 5, .int th, .ref m1, .ref m2, .ref m3, .ref m4, .ref m5, .ref l1, .ref l2, .ref l3, .int (-1), .ref l4])), (l2, .inr (5, [.int 1, .ref (D.1 1000), .int 0]))] H := hP
  have hD : va_D A [(mo, .inr (16, [.int 5, .int 5, .int th, .ref m1, .ref m2, .ref m3, .ref m4, .ref m5, .ref l1, .ref l2, .ref l3, .int (-1), .ref l4])), (l2, .inr (5, [.int 1, .ref (D.1 1000), .int 0]))] := hD
  have hK : va_K D vwCl [] s := hK
  obtain rfl : r2 = 0 := w1
  refine lv_if_ne (tgt := 14) hx hb dX9_team_5 (by decide) (fun h3 => absurd (by decide) h3) (fun h3 => ?_)
  refine lv_aload_n hx hb dX9_team_8 rfl (lv_at hl 0 rfl) ?_
  refine lv_iconst (v := 1) hx hb dX9_team_9 (by decide) ?_
  refine mc_i (wr := [(l2, .inr (5, [.int 1, .ref (D.1 1000), .int 0]))]) (va_runV (As := [.int 1]) (rest := []) ⟨hx, hb, hml, hown, hts⟩ (c_fails l hst D mo 5 5 th m1 m2 m3 m4 m5 l1 l2 l3 (-1) l4 1 H.size) (cwV 1 hts (gi_c (List.mem_cons_of_mem _ (List.mem_append_left _ (List.mem_of_getElem? (i := 4) rfl))) rfl (gi_c (List.mem_cons_of_mem _ (List.mem_append_left _ (List.mem_of_getElem? (i := 5) rfl))) rfl (gi_c (List.mem_cons_of_mem _ (List.mem_append_left _ (List.mem_of_getElem? (i := 6) rfl))) rfl (gi_c (List.mem_cons_of_mem _ (List.mem_append_left _ (List.mem_of_getElem? (i := 3) rfl))) rfl (goodIn_sub hb_1 (List.all_eq_true.mpr gw_c_fails)))))) rfl rfl rfl (by decide +kernel) ⟨Nat.le_of_ble_eq_true rfl, Nat.le_of_ble_eq_true rfl⟩) (pr_V (As := [.int 1]) (b := mo) (C := RX9) hP hD hK hS hA hE [0] [] rfl rfl rfl 0 16 rfl rfl rfl) rfl rfl hl.1 rfl (lv_room (Nat.le_of_ble_eq_true rfl)) dX9_team_10 ⟨Nat.le_of_ble_eq_true rfl, Nat.le_of_ble_eq_true rfl⟩) hP hD hK hS hA [0] [1] rfl rfl (by decide) (by decide) (fun r5 _ H locs w4 hP hD hK hS => ?_)
  have hP : va_P D vwCl [(l2, .inr (5, [.int 1, .ref (D.1 1000), .int 0])), (mo, .inr (16, [.int 5, .int 5, .int 1, .ref m1, .ref m2, .ref m3, .ref m4, .ref m5, .ref l1, .ref l2, .ref l3, .int (-1), .ref l4]))] H := hP
  have hD : va_D A [(l2, .inr (5, [.int 1, .ref (D.1 1000), .int 0])), (mo, .inr (16, [.int 5, .int 5, .int 1, .ref m1, .ref m2, .ref m3, .ref m4, .ref m5, .ref l1, .ref l2, .ref l3, .int (-1), .ref l4]))] := hD
  have hK : va_K D vwCl [] s := hK
  obtain rfl : r5 = 0 := w4
  exact mr_i hx hb hr (1, fun k9 => [m1, m2, m3, m4, m5, l1, l2, l3, l4].getD k9 0, fun k9 => [5, 5, -1].getD k9 0) (rfl) (hP.sub [1] rfl) (hK.sub [] rfl) (hD.sub [1] (by decide) rfl) hS (Nat.le_of_ble_eq_true rfl) (Nat.le_of_ble_eq_true rfl) hlocks dX9_team_13

def us_c_mruns : List Cond := .code yX9_runs cX9_runs 5 (some .int) :: (([.fieldLink RX9 52 "ControlWoodModel" "teams" "Ljava/util/ArrayList;", .methodLink RX9 135 yJx4a65c_size_8abf5, .instanceMethod yJx4a65c_size_8abf5, .selects RJx4a65c yJx4a65c_size_8abf5 yJx4a65c_size_8abf5, .initialized RJx4a65c, .methodLink RX9 72 yX9_in, .static yX9_in, .initialized RX9, .methodLink RX9 76 yX9_fails, .instanceMethod yX9_fails, .selects RX9 yX9_fails yX9_fails] : List Cond) ++ (wsX90 ++ (us_c_alSize ++ (us_c_in ++ (us_c_fails ++ ([]))))))
theorem gw_c_mruns : ∀ w ∈ us_c_mruns, goodWord w = true := gw_cons rfl (gw_app (by decide +kernel) (gw_app gwf_X9 (gw_app gw_c_alSize (gw_app gw_c_in (gw_app gw_c_fails (fun _ h => nomatch h))))))
set_option maxHeartbeats 4000000 in
set_option maxRecDepth 100000 in
/-- the reference refuses runs -/
theorem c_mruns (l : Launch) (hst : l.stackTraces = false) (D : va_G) (mo : Nat) (th : Int32) (m1 : Nat) (m2 : Nat) (m3 : Nat) (m4 : Nat) (m5 : Nat) (l1 : Nat) (l2 : Nat) (l3 : Nat) (l4 : Nat) (p0 : Int32) (p1 : Int32) (p2 : Int32) (sz : Nat) : Met l yX9_runs us_c_mruns { frames := 1, cells := 0, slots := 0, locals := 25 } (pw D [.ref mo, .int p0, .int p1, .int p2] [] [(mo, .inr (16, [.int 5, .int 5, .int th, .ref m1, .ref m2, .ref m3, .ref m4, .ref m5, .ref l1, .ref l2, .ref l3, .int (-1), .ref l4])), (l4, .inr (5, [.int 1, .ref (D.1 1000), .int 0]))] sz) (va_Qi (fun (_ : Int32) (u : (Int32 × (Nat → Nat) × (Nat → Int32))) => u.1 = 1) (qb D (va_A [(mo, .inr (16, [.int 5, .int 5, .int th, .ref m1, .ref m2, .ref m3, .ref m4, .ref m5, .ref l1, .ref l2, .ref l3, .int (-1), .ref l4])), (l4, .inr (5, [.int 1, .ref (D.1 1000), .int 0]))] sz) (fun u : (Int32 × (Nat → Nat) × (Nat → Int32)) => [(mo, .inr (16, [.int (u.2.2 0), .int (u.2.2 1), .int u.1, .ref (u.2.1 0), .ref (u.2.1 1), .ref (u.2.1 2), .ref (u.2.1 3), .ref (u.2.1 4), .ref (u.2.1 5), .ref (u.2.1 6), .ref (u.2.1 7), .int (u.2.2 2), .ref (u.2.1 8)]))]) (fun u : (Int32 × (Nat → Nat) × (Nat → Int32)) => ([] : List (ClassId × FieldType)))) (va_A [(mo, .inr (16, [.int 5, .int 5, .int th, .ref m1, .ref m2, .ref m3, .ref m4, .ref m5, .ref l1, .ref l2, .ref l3, .int (-1), .ref l4])), (l4, .inr (5, [.int 1, .ref (D.1 1000), .int 0]))] sz)) 0 0 (va_A [(mo, .inr (16, [.int 5, .int 5, .int th, .ref m1, .ref m2, .ref m3, .ref m4, .ref m5, .ref l1, .ref l2, .ref l3, .int (-1), .ref l4])), (l4, .inr (5, [.int 1, .ref (D.1 1000), .int 0]))] sz) := by
  refine op_M (Qc := fun A => (va_Qi (fun (_ : Int32) (u : (Int32 × (Nat → Nat) × (Nat → Int32))) => u.1 = 1) (qb D A (fun u : (Int32 × (Nat → Nat) × (Nat → Int32)) => [(mo, .inr (16, [.int (u.2.2 0), .int (u.2.2 1), .int u.1, .ref (u.2.1 0), .ref (u.2.1 1), .ref (u.2.1 2), .ref (u.2.1 3), .ref (u.2.1 4), .ref (u.2.1 5), .ref (u.2.1 6), .ref (u.2.1 7), .int (u.2.2 2), .ref (u.2.1 8)]))]) (fun u : (Int32 × (Nat → Nat) × (Nat → Int32)) => ([] : List (ClassId × FieldType)))) A)) (by decide +kernel) rfl (Nat.le_of_ble_eq_true rfl) ?_
  intro p e s m args below meth c A ls hx hb hr hml hts hown hlocks hmn htab hA hD hS hP hK hE hsz hl
  have hown : s.vm.findClass RX9 = some m.cls := hown
  have hl : lv_has ls 5 [(0, .ref mo), (1, .int p0), (2, .int p1), (3, .int p2)] := hl
  have hw_0 := hts (.fieldLink RX9 52 "ControlWoodModel" "teams" "Ljava/util/ArrayList;") (List.mem_cons_of_mem _ (List.mem_append_left _ (List.mem_of_getElem? (i := 0) rfl)))
  have hw_1 := hts (.methodLink RX9 135 yJx4a65c_size_8abf5) (List.mem_cons_of_mem _ (List.mem_append_left _ (List.mem_of_getElem? (i := 1) rfl)))
  have hw_2 := hts (.instanceMethod yJx4a65c_size_8abf5) (List.mem_cons_of_mem _ (List.mem_append_left _ (List.mem_of_getElem? (i := 2) rfl)))
  have hw_3 := hts (.selects RJx4a65c yJx4a65c_size_8abf5 yJx4a65c_size_8abf5) (List.mem_cons_of_mem _ (List.mem_append_left _ (List.mem_of_getElem? (i := 3) rfl)))
  have hw_4 := hts (.initialized RJx4a65c) (List.mem_cons_of_mem _ (List.mem_append_left _ (List.mem_of_getElem? (i := 4) rfl)))
  have hw_5 := hts (.methodLink RX9 72 yX9_in) (List.mem_cons_of_mem _ (List.mem_append_left _ (List.mem_of_getElem? (i := 5) rfl)))
  have hw_6 := hts (.static yX9_in) (List.mem_cons_of_mem _ (List.mem_append_left _ (List.mem_of_getElem? (i := 6) rfl)))
  have hw_7 := hts (.initialized RX9) (List.mem_cons_of_mem _ (List.mem_append_left _ (List.mem_of_getElem? (i := 7) rfl)))
  have hw_8 := hts (.methodLink RX9 76 yX9_fails) (List.mem_cons_of_mem _ (List.mem_append_left _ (List.mem_of_getElem? (i := 8) rfl)))
  have hw_9 := hts (.instanceMethod yX9_fails) (List.mem_cons_of_mem _ (List.mem_append_left _ (List.mem_of_getElem? (i := 9) rfl)))
  have hw_10 := hts (.selects RX9 yX9_fails yX9_fails) (List.mem_cons_of_mem _ (List.mem_append_left _ (List.mem_of_getElem? (i := 10) rfl)))
  have hb_0 : ∀ w ∈ wsX90, w ∈ us_c_mruns := fun w h => List.mem_cons_of_mem _ (List.mem_append_right _ (List.mem_append_left _ h))
  have hb_1 : ∀ w ∈ us_c_alSize, w ∈ us_c_mruns := fun w h => List.mem_cons_of_mem _ (List.mem_append_right _ (List.mem_append_right _ (List.mem_append_left _ h)))
  have hb_2 : ∀ w ∈ us_c_in, w ∈ us_c_mruns := fun w h => List.mem_cons_of_mem _ (List.mem_append_right _ (List.mem_append_right _ (List.mem_append_right _ (List.mem_append_left _ h))))
  have hb_3 : ∀ w ∈ us_c_fails, w ∈ us_c_mruns := fun w h => List.mem_cons_of_mem _ (List.mem_append_right _ (List.mem_append_right _ (List.mem_append_right _ (List.mem_append_right _ (List.mem_append_left _ h)))))
  refine lv_iload_n hx hb dX9_runs_0 rfl (lv_at hl 1 rfl) ?_
  refine lv_i2l hx hb dX9_runs_1 rfl ?_
  refine lv_topl (fun x1 e1 => ?_)
  obtain rfl : x1 = p0.toInt64 := e1
  refine lv_lconst (v := 0) hx hb dX9_runs_2 (by decide) ?_
  refine lv_aload_n hx hb dX9_runs_3 rfl (lv_at hl 0 rfl) ?_
  refine va_get (D := D) (ci := 16) (v := .ref l4) (C := RX9) (T := TX9) (N := 13) hx hb hts hb_0 hown hK hP 0 rfl rfl 12 (by decide) hw_0 (fun _ h9 => h9) rfl dX9_runs_4 ?_
  refine mc_i (wr := [(mo, .inr (16, [.int 5, .int 5, .int th, .ref m1, .ref m2, .ref m3, .ref m4, .ref m5, .ref l1, .ref l2, .ref l3, .int (-1), .ref l4]))]) (va_runV (As := []) (rest := [.long 0, .long p0.toInt64]) ⟨hx, hb, hml, hown, hts⟩ (c_alSize l hst D l4 1 (D.1 1000) 0 s.heap.size) (cwV 0 hts (gi_c (List.mem_cons_of_mem _ (List.mem_append_left _ (List.mem_of_getElem? (i := 1) rfl))) rfl (gi_c (List.mem_cons_of_mem _ (List.mem_append_left _ (List.mem_of_getElem? (i := 2) rfl))) rfl (gi_c (List.mem_cons_of_mem _ (List.mem_append_left _ (List.mem_of_getElem? (i := 3) rfl))) rfl (gi_c (List.mem_cons_of_mem _ (List.mem_append_left _ (List.mem_of_getElem? (i := 4) rfl))) rfl (goodIn_sub hb_1 (List.all_eq_true.mpr gw_c_alSize)))))) rfl rfl rfl (by decide +kernel) ⟨Nat.le_of_ble_eq_true rfl, Nat.le_of_ble_eq_true rfl⟩) (pr_V (As := []) (b := l4) (C := RJx4a65c) hP hD hK hS hA hE [1] [] rfl rfl rfl 1 5 rfl rfl rfl) rfl rfl hl.1 rfl (lv_room (Nat.le_of_ble_eq_true rfl)) dX9_runs_7 ⟨Nat.le_of_ble_eq_true rfl, Nat.le_of_ble_eq_true rfl⟩) hP hD hK hS hA [1] [0] rfl rfl (by decide) (by decide) (fun r3 _ H locs w2 hP hD hK hS => ?_)
  have hP : va_P D vwCl [(mo, .inr (16, [.int 5, .int 5, .int th, .ref m1, .ref m2, .ref m3, .ref m4, .ref m5, .ref l1, .ref l2, .ref l3, .int (-1), .ref l4])), (l4, .inr (5, [.int 1, .ref (D.1 1000), .int 0]))] H := hP
  have hD : va_D A [(mo, .inr (16, [.int 5, .int 5, .int th, .ref m1, .ref m2, .ref m3, .ref m4, .ref m5, .ref l1, .ref l2, .ref l3, .int (-1), .ref l4])), (l4, .inr (5, [.int 1, .ref (D.1 1000), .int 0]))] := hD
  have hK : va_K D vwCl [] s := hK
  obtain rfl : r3 = 0 := w2
  refine lv_iconst (v := 1) hx hb dX9_runs_10 (by decide) ?_
  refine lv_isub hx hb dX9_runs_11 ?_
  refine lv_topi (fun x4 e4 => ?_)
  obtain rfl : x4 = (-1) := e4.trans (by decide)
  refine lv_i2l hx hb dX9_runs_12 rfl ?_
  refine lv_topl (fun x5 e5 => ?_)
  obtain rfl : x5 = (-1) := e5.trans (by decide)
  refine mc_i (wr := [(mo, .inr (16, [.int 5, .int 5, .int th, .ref m1, .ref m2, .ref m3, .ref m4, .ref m5, .ref l1, .ref l2, .ref l3, .int (-1), .ref l4])), (l4, .inr (5, [.int 1, .ref (D.1 1000), .int 0]))]) (va_runS (As := [.long p0.toInt64, .long 0, .long (-1)]) (rest := []) ⟨hx, hb, hml, hown, hts⟩ (c_in l hst D p0 0 (-1) 0 (-1) H.size (by decide) (by decide)) (va_cwS 3 hts (gi_c (List.mem_cons_of_mem _ (List.mem_append_left _ (List.mem_of_getElem? (i := 5) rfl))) rfl (gi_c (List.mem_cons_of_mem _ (List.mem_append_left _ (List.mem_of_getElem? (i := 6) rfl))) rfl (gi_c (List.mem_cons_of_mem _ (List.mem_append_left _ (List.mem_of_getElem? (i := 7) rfl))) rfl (goodIn_sub hb_2 (List.all_eq_true.mpr gw_c_in))))) rfl rfl rfl (by decide +kernel) ⟨Nat.le_of_ble_eq_true rfl, Nat.le_of_ble_eq_true rfl⟩) (pr_S (As := [.long p0.toInt64, .long 0, .long (-1)]) hP hD hK hS hA hE [] [] rfl rfl rfl) rfl rfl hl.1 rfl (lv_room (Nat.le_of_ble_eq_true rfl)) dX9_runs_13 ⟨Nat.le_of_ble_eq_true rfl, Nat.le_of_ble_eq_true rfl⟩) hP hD hK hS hA [] [0, 1] rfl rfl (by decide) (by decide) (fun r7 _ H locs w6 hP hD hK hS => ?_)
  have hP : va_P D vwCl [(mo, .inr (16, [.int 5, .int 5, .int th, .ref m1, .ref m2, .ref m3, .ref m4, .ref m5, .ref l1, .ref l2, .ref l3, .int (-1), .ref l4])), (l4, .inr (5, [.int 1, .ref (D.1 1000), .int 0]))] H := hP
  have hD : va_D A [(mo, .inr (16, [.int 5, .int 5, .int th, .ref m1, .ref m2, .ref m3, .ref m4, .ref m5, .ref l1, .ref l2, .ref l3, .int (-1), .ref l4])), (l4, .inr (5, [.int 1, .ref (D.1 1000), .int 0]))] := hD
  have hK : va_K D vwCl [] s := hK
  obtain rfl : r7 = (if inR p0 0 (-1) then 1 else 0) := w6
  rw [show ((if inR p0 0 (-1) then 1 else 0) : Int32) = 0 from in_none p0]
  refine lv_if_eq (tgt := 43) hx hb dX9_runs_16 (by decide) (fun h8 => ?_) (fun h8 => absurd (by decide) h8)
  refine lv_aload_n hx hb dX9_runs_43 rfl (lv_at hl 0 rfl) ?_
  refine lv_iconst (v := 1) hx hb dX9_runs_44 (by decide) ?_
  refine mc_i (wr := [(l4, .inr (5, [.int 1, .ref (D.1 1000), .int 0]))]) (va_runV (As := [.int 1]) (rest := []) ⟨hx, hb, hml, hown, hts⟩ (c_fails l hst D mo 5 5 th m1 m2 m3 m4 m5 l1 l2 l3 (-1) l4 1 H.size) (cwV 1 hts (gi_c (List.mem_cons_of_mem _ (List.mem_append_left _ (List.mem_of_getElem? (i := 8) rfl))) rfl (gi_c (List.mem_cons_of_mem _ (List.mem_append_left _ (List.mem_of_getElem? (i := 9) rfl))) rfl (gi_c (List.mem_cons_of_mem _ (List.mem_append_left _ (List.mem_of_getElem? (i := 10) rfl))) rfl (gi_c (List.mem_cons_of_mem _ (List.mem_append_left _ (List.mem_of_getElem? (i := 7) rfl))) rfl (goodIn_sub hb_3 (List.all_eq_true.mpr gw_c_fails)))))) rfl rfl rfl (by decide +kernel) ⟨Nat.le_of_ble_eq_true rfl, Nat.le_of_ble_eq_true rfl⟩) (pr_V (As := [.int 1]) (b := mo) (C := RX9) hP hD hK hS hA hE [0] [] rfl rfl rfl 0 16 rfl rfl rfl) rfl rfl hl.1 rfl (lv_room (Nat.le_of_ble_eq_true rfl)) dX9_runs_45 ⟨Nat.le_of_ble_eq_true rfl, Nat.le_of_ble_eq_true rfl⟩) hP hD hK hS hA [0] [1] rfl rfl (by decide) (by decide) (fun r10 _ H locs w9 hP hD hK hS => ?_)
  have hP : va_P D vwCl [(l4, .inr (5, [.int 1, .ref (D.1 1000), .int 0])), (mo, .inr (16, [.int 5, .int 5, .int 1, .ref m1, .ref m2, .ref m3, .ref m4, .ref m5, .ref l1, .ref l2, .ref l3, .int (-1), .ref l4]))] H := hP
  have hD : va_D A [(l4, .inr (5, [.int 1, .ref (D.1 1000), .int 0])), (mo, .inr (16, [.int 5, .int 5, .int 1, .ref m1, .ref m2, .ref m3, .ref m4, .ref m5, .ref l1, .ref l2, .ref l3, .int (-1), .ref l4]))] := hD
  have hK : va_K D vwCl [] s := hK
  obtain rfl : r10 = 0 := w9
  exact mr_i hx hb hr (1, fun k9 => [m1, m2, m3, m4, m5, l1, l2, l3, l4].getD k9 0, fun k9 => [5, 5, -1].getD k9 0) (rfl) (hP.sub [1] rfl) (hK.sub [] rfl) (hD.sub [1] (by decide) rfl) hS (Nat.le_of_ble_eq_true rfl) (Nat.le_of_ble_eq_true rfl) hlocks dX9_runs_48

def us_c_mchase : List Cond := .code yX9_chase cX9_chase 10 (some .int) :: (([.methodLink RX9 178 yX9_isCourse, .instanceMethod yX9_isCourse, .selects RX9 yX9_isCourse yX9_isCourse, .initialized RX9, .methodLink RX9 76 yX9_fails, .instanceMethod yX9_fails, .selects RX9 yX9_fails yX9_fails] : List Cond) ++ (us_c_isCourse ++ (us_c_fails ++ ([]))))
theorem gw_c_mchase : ∀ w ∈ us_c_mchase, goodWord w = true := gw_cons rfl (gw_app (by decide +kernel) (gw_app gw_c_isCourse (gw_app gw_c_fails (fun _ h => nomatch h))))
set_option maxHeartbeats 4000000 in
set_option maxRecDepth 100000 in
/-- the reference refuses chase -/
theorem c_mchase (l : Launch) (hst : l.stackTraces = false) (D : va_G) (mo : Nat) (th : Int32) (m1 : Nat) (m2 : Nat) (m3 : Nat) (m4 : Nat) (m5 : Nat) (l1 : Nat) (l2 : Nat) (l3 : Nat) (l4 : Nat) (p0 : Int32) (p1 : Int32) (p2 : Int32) (sz : Nat) : Met l yX9_chase us_c_mchase { frames := 2, cells := 0, slots := 0, locals := 46 } (pw D [.ref mo, .int p0, .int p1, .int p2] [] [(mo, .inr (16, [.int 5, .int 5, .int th, .ref m1, .ref m2, .ref m3, .ref m4, .ref m5, .ref l1, .ref l2, .ref l3, .int (-1), .ref l4])), (l2, .inr (5, [.int 1, .ref (D.1 1000), .int 0]))] sz) (va_Qi (fun (_ : Int32) (u : (Int32 × (Nat → Nat) × (Nat → Int32))) => u.1 = 1) (qb D (va_A [(mo, .inr (16, [.int 5, .int 5, .int th, .ref m1, .ref m2, .ref m3, .ref m4, .ref m5, .ref l1, .ref l2, .ref l3, .int (-1), .ref l4])), (l2, .inr (5, [.int 1, .ref (D.1 1000), .int 0]))] sz) (fun u : (Int32 × (Nat → Nat) × (Nat → Int32)) => [(mo, .inr (16, [.int (u.2.2 0), .int (u.2.2 1), .int u.1, .ref (u.2.1 0), .ref (u.2.1 1), .ref (u.2.1 2), .ref (u.2.1 3), .ref (u.2.1 4), .ref (u.2.1 5), .ref (u.2.1 6), .ref (u.2.1 7), .int (u.2.2 2), .ref (u.2.1 8)]))]) (fun u : (Int32 × (Nat → Nat) × (Nat → Int32)) => ([] : List (ClassId × FieldType)))) (va_A [(mo, .inr (16, [.int 5, .int 5, .int th, .ref m1, .ref m2, .ref m3, .ref m4, .ref m5, .ref l1, .ref l2, .ref l3, .int (-1), .ref l4])), (l2, .inr (5, [.int 1, .ref (D.1 1000), .int 0]))] sz)) 0 0 (va_A [(mo, .inr (16, [.int 5, .int 5, .int th, .ref m1, .ref m2, .ref m3, .ref m4, .ref m5, .ref l1, .ref l2, .ref l3, .int (-1), .ref l4])), (l2, .inr (5, [.int 1, .ref (D.1 1000), .int 0]))] sz) := by
  refine op_M (Qc := fun A => (va_Qi (fun (_ : Int32) (u : (Int32 × (Nat → Nat) × (Nat → Int32))) => u.1 = 1) (qb D A (fun u : (Int32 × (Nat → Nat) × (Nat → Int32)) => [(mo, .inr (16, [.int (u.2.2 0), .int (u.2.2 1), .int u.1, .ref (u.2.1 0), .ref (u.2.1 1), .ref (u.2.1 2), .ref (u.2.1 3), .ref (u.2.1 4), .ref (u.2.1 5), .ref (u.2.1 6), .ref (u.2.1 7), .int (u.2.2 2), .ref (u.2.1 8)]))]) (fun u : (Int32 × (Nat → Nat) × (Nat → Int32)) => ([] : List (ClassId × FieldType)))) A)) (by decide +kernel) rfl (Nat.le_of_ble_eq_true rfl) ?_
  intro p e s m args below meth c A ls hx hb hr hml hts hown hlocks hmn htab hA hD hS hP hK hE hsz hl
  have hown : s.vm.findClass RX9 = some m.cls := hown
  have hl : lv_has ls 10 [(0, .ref mo), (1, .int p0), (2, .int p1), (3, .int p2)] := hl
  have hw_0 := hts (.methodLink RX9 178 yX9_isCourse) (List.mem_cons_of_mem _ (List.mem_append_left _ (List.mem_of_getElem? (i := 0) rfl)))
  have hw_1 := hts (.instanceMethod yX9_isCourse) (List.mem_cons_of_mem _ (List.mem_append_left _ (List.mem_of_getElem? (i := 1) rfl)))
  have hw_2 := hts (.selects RX9 yX9_isCourse yX9_isCourse) (List.mem_cons_of_mem _ (List.mem_append_left _ (List.mem_of_getElem? (i := 2) rfl)))
  have hw_3 := hts (.initialized RX9) (List.mem_cons_of_mem _ (List.mem_append_left _ (List.mem_of_getElem? (i := 3) rfl)))
  have hw_4 := hts (.methodLink RX9 76 yX9_fails) (List.mem_cons_of_mem _ (List.mem_append_left _ (List.mem_of_getElem? (i := 4) rfl)))
  have hw_5 := hts (.instanceMethod yX9_fails) (List.mem_cons_of_mem _ (List.mem_append_left _ (List.mem_of_getElem? (i := 5) rfl)))
  have hw_6 := hts (.selects RX9 yX9_fails yX9_fails) (List.mem_cons_of_mem _ (List.mem_append_left _ (List.mem_of_getElem? (i := 6) rfl)))
  have hb_0 : ∀ w ∈ us_c_isCourse, w ∈ us_c_mchase := fun w h => List.mem_cons_of_mem _ (List.mem_append_right _ (List.mem_append_left _ h))
  have hb_1 : ∀ w ∈ us_c_fails, w ∈ us_c_mchase := fun w h => List.mem_cons_of_mem _ (List.mem_append_right _ (List.mem_append_right _ (List.mem_append_left _ h)))
  refine lv_aload_n hx hb dX9_chase_0 rfl (lv_at hl 0 rfl) ?_
  refine lv_iload_n hx hb dX9_chase_1 rfl (lv_at hl 1 rfl) ?_
  refine mc_i (wr := []) (va_runV (As := [.int p0]) (rest := []) ⟨hx, hb, hml, hown, hts⟩ (c_isCourse l hst D mo th m1 m2 m3 m4 m5 l1 l2 l3 l4 p0 s.heap.size) (cwV 1 hts (gi_c (List.mem_cons_of_mem _ (List.mem_append_left _ (List.mem_of_getElem? (i := 0) rfl))) rfl (gi_c (List.mem_cons_of_mem _ (List.mem_append_left _ (List.mem_of_getElem? (i := 1) rfl))) rfl (gi_c (List.mem_cons_of_mem _ (List.mem_append_left _ (List.mem_of_getElem? (i := 2) rfl))) rfl (gi_c (List.mem_cons_of_mem _ (List.mem_append_left _ (List.mem_of_getElem? (i := 3) rfl))) rfl (goodIn_sub hb_0 (List.all_eq_true.mpr gw_c_isCourse)))))) rfl rfl rfl (by decide +kernel) ⟨Nat.le_of_ble_eq_true rfl, Nat.le_of_ble_eq_true rfl⟩) (pr_V (As := [.int p0]) (b := mo) (C := RX9) hP hD hK hS hA hE [0, 1] [] rfl rfl rfl 0 16 rfl rfl rfl) rfl rfl hl.1 rfl (lv_room (Nat.le_of_ble_eq_true rfl)) dX9_chase_2 ⟨Nat.le_of_ble_eq_true rfl, Nat.le_of_ble_eq_true rfl⟩) hP hD hK hS hA [0, 1] [] rfl rfl (by decide) (by decide) (fun r2 _ H locs w1 hP hD hK hS => ?_)
  have hP : va_P D vwCl [(mo, .inr (16, [.int 5, .int 5, .int th, .ref m1, .ref m2, .ref m3, .ref m4, .ref m5, .ref l1, .ref l2, .ref l3, .int (-1), .ref l4])), (l2, .inr (5, [.int 1, .ref (D.1 1000), .int 0]))] H := hP
  have hD : va_D A [(mo, .inr (16, [.int 5, .int 5, .int th, .ref m1, .ref m2, .ref m3, .ref m4, .ref m5, .ref l1, .ref l2, .ref l3, .int (-1), .ref l4])), (l2, .inr (5, [.int 1, .ref (D.1 1000), .int 0]))] := hD
  have hK : va_K D vwCl [] s := hK
  obtain rfl : r2 = 0 := w1
  refine lv_if_eq (tgt := 16) hx hb dX9_chase_5 (by decide) (fun h3 => ?_) (fun h3 => absurd (by decide) h3)
  refine lv_aload_n hx hb dX9_chase_16 rfl (lv_at hl 0 rfl) ?_
  refine lv_iconst (v := 1) hx hb dX9_chase_17 (by decide) ?_
  refine mc_i (wr := [(l2, .inr (5, [.int 1, .ref (D.1 1000), .int 0]))]) (va_runV (As := [.int 1]) (rest := []) ⟨hx, hb, hml, hown, hts⟩ (c_fails l hst D mo 5 5 th m1 m2 m3 m4 m5 l1 l2 l3 (-1) l4 1 H.size) (cwV 1 hts (gi_c (List.mem_cons_of_mem _ (List.mem_append_left _ (List.mem_of_getElem? (i := 4) rfl))) rfl (gi_c (List.mem_cons_of_mem _ (List.mem_append_left _ (List.mem_of_getElem? (i := 5) rfl))) rfl (gi_c (List.mem_cons_of_mem _ (List.mem_append_left _ (List.mem_of_getElem? (i := 6) rfl))) rfl (gi_c (List.mem_cons_of_mem _ (List.mem_append_left _ (List.mem_of_getElem? (i := 3) rfl))) rfl (goodIn_sub hb_1 (List.all_eq_true.mpr gw_c_fails)))))) rfl rfl rfl (by decide +kernel) ⟨Nat.le_of_ble_eq_true rfl, Nat.le_of_ble_eq_true rfl⟩) (pr_V (As := [.int 1]) (b := mo) (C := RX9) hP hD hK hS hA hE [0] [] rfl rfl rfl 0 16 rfl rfl rfl) rfl rfl hl.1 rfl (lv_room (Nat.le_of_ble_eq_true rfl)) dX9_chase_18 ⟨Nat.le_of_ble_eq_true rfl, Nat.le_of_ble_eq_true rfl⟩) hP hD hK hS hA [0] [1] rfl rfl (by decide) (by decide) (fun r5 _ H locs w4 hP hD hK hS => ?_)
  have hP : va_P D vwCl [(l2, .inr (5, [.int 1, .ref (D.1 1000), .int 0])), (mo, .inr (16, [.int 5, .int 5, .int 1, .ref m1, .ref m2, .ref m3, .ref m4, .ref m5, .ref l1, .ref l2, .ref l3, .int (-1), .ref l4]))] H := hP
  have hD : va_D A [(l2, .inr (5, [.int 1, .ref (D.1 1000), .int 0])), (mo, .inr (16, [.int 5, .int 5, .int 1, .ref m1, .ref m2, .ref m3, .ref m4, .ref m5, .ref l1, .ref l2, .ref l3, .int (-1), .ref l4]))] := hD
  have hK : va_K D vwCl [] s := hK
  obtain rfl : r5 = 0 := w4
  exact mr_i hx hb hr (1, fun k9 => [m1, m2, m3, m4, m5, l1, l2, l3, l4].getD k9 0, fun k9 => [5, 5, -1].getD k9 0) (rfl) (hP.sub [1] rfl) (hK.sub [] rfl) (hD.sub [1] (by decide) rfl) hS (Nat.le_of_ble_eq_true rfl) (Nat.le_of_ble_eq_true rfl) hlocks dX9_chase_21

def us_c_mfix : List Cond := .code yX9_fix cX9_fix 5 (some .int) :: (([.methodLink RX9 227 yX9_isRunner, .instanceMethod yX9_isRunner, .selects RX9 yX9_isRunner yX9_isRunner, .initialized RX9, .methodLink RX9 76 yX9_fails, .instanceMethod yX9_fails, .selects RX9 yX9_fails yX9_fails] : List Cond) ++ (us_c_isRunner ++ (us_c_fails ++ ([]))))
theorem gw_c_mfix : ∀ w ∈ us_c_mfix, goodWord w = true := gw_cons rfl (gw_app (by decide +kernel) (gw_app gw_c_isRunner (gw_app gw_c_fails (fun _ h => nomatch h))))
set_option maxHeartbeats 4000000 in
set_option maxRecDepth 100000 in
/-- the reference refuses fix -/
theorem c_mfix (l : Launch) (hst : l.stackTraces = false) (D : va_G) (mo : Nat) (th : Int32) (m1 : Nat) (m2 : Nat) (m3 : Nat) (m4 : Nat) (m5 : Nat) (l1 : Nat) (l2 : Nat) (l3 : Nat) (l4 : Nat) (p0 : Int32) (p1 : Int32) (p2 : Int32) (sz : Nat) : Met l yX9_fix us_c_mfix { frames := 2, cells := 0, slots := 0, locals := 46 } (pw D [.ref mo, .int p0, .int p1, .int p2] [] [(mo, .inr (16, [.int 5, .int 5, .int th, .ref m1, .ref m2, .ref m3, .ref m4, .ref m5, .ref l1, .ref l2, .ref l3, .int (-1), .ref l4])), (l3, .inr (5, [.int 1, .ref (D.1 1000), .int 0]))] sz) (va_Qi (fun (_ : Int32) (u : (Int32 × (Nat → Nat) × (Nat → Int32))) => u.1 = 1) (qb D (va_A [(mo, .inr (16, [.int 5, .int 5, .int th, .ref m1, .ref m2, .ref m3, .ref m4, .ref m5, .ref l1, .ref l2, .ref l3, .int (-1), .ref l4])), (l3, .inr (5, [.int 1, .ref (D.1 1000), .int 0]))] sz) (fun u : (Int32 × (Nat → Nat) × (Nat → Int32)) => [(mo, .inr (16, [.int (u.2.2 0), .int (u.2.2 1), .int u.1, .ref (u.2.1 0), .ref (u.2.1 1), .ref (u.2.1 2), .ref (u.2.1 3), .ref (u.2.1 4), .ref (u.2.1 5), .ref (u.2.1 6), .ref (u.2.1 7), .int (u.2.2 2), .ref (u.2.1 8)]))]) (fun u : (Int32 × (Nat → Nat) × (Nat → Int32)) => ([] : List (ClassId × FieldType)))) (va_A [(mo, .inr (16, [.int 5, .int 5, .int th, .ref m1, .ref m2, .ref m3, .ref m4, .ref m5, .ref l1, .ref l2, .ref l3, .int (-1), .ref l4])), (l3, .inr (5, [.int 1, .ref (D.1 1000), .int 0]))] sz)) 0 0 (va_A [(mo, .inr (16, [.int 5, .int 5, .int th, .ref m1, .ref m2, .ref m3, .ref m4, .ref m5, .ref l1, .ref l2, .ref l3, .int (-1), .ref l4])), (l3, .inr (5, [.int 1, .ref (D.1 1000), .int 0]))] sz) := by
  refine op_M (Qc := fun A => (va_Qi (fun (_ : Int32) (u : (Int32 × (Nat → Nat) × (Nat → Int32))) => u.1 = 1) (qb D A (fun u : (Int32 × (Nat → Nat) × (Nat → Int32)) => [(mo, .inr (16, [.int (u.2.2 0), .int (u.2.2 1), .int u.1, .ref (u.2.1 0), .ref (u.2.1 1), .ref (u.2.1 2), .ref (u.2.1 3), .ref (u.2.1 4), .ref (u.2.1 5), .ref (u.2.1 6), .ref (u.2.1 7), .int (u.2.2 2), .ref (u.2.1 8)]))]) (fun u : (Int32 × (Nat → Nat) × (Nat → Int32)) => ([] : List (ClassId × FieldType)))) A)) (by decide +kernel) rfl (Nat.le_of_ble_eq_true rfl) ?_
  intro p e s m args below meth c A ls hx hb hr hml hts hown hlocks hmn htab hA hD hS hP hK hE hsz hl
  have hown : s.vm.findClass RX9 = some m.cls := hown
  have hl : lv_has ls 5 [(0, .ref mo), (1, .int p0), (2, .int p1), (3, .int p2)] := hl
  have hw_0 := hts (.methodLink RX9 227 yX9_isRunner) (List.mem_cons_of_mem _ (List.mem_append_left _ (List.mem_of_getElem? (i := 0) rfl)))
  have hw_1 := hts (.instanceMethod yX9_isRunner) (List.mem_cons_of_mem _ (List.mem_append_left _ (List.mem_of_getElem? (i := 1) rfl)))
  have hw_2 := hts (.selects RX9 yX9_isRunner yX9_isRunner) (List.mem_cons_of_mem _ (List.mem_append_left _ (List.mem_of_getElem? (i := 2) rfl)))
  have hw_3 := hts (.initialized RX9) (List.mem_cons_of_mem _ (List.mem_append_left _ (List.mem_of_getElem? (i := 3) rfl)))
  have hw_4 := hts (.methodLink RX9 76 yX9_fails) (List.mem_cons_of_mem _ (List.mem_append_left _ (List.mem_of_getElem? (i := 4) rfl)))
  have hw_5 := hts (.instanceMethod yX9_fails) (List.mem_cons_of_mem _ (List.mem_append_left _ (List.mem_of_getElem? (i := 5) rfl)))
  have hw_6 := hts (.selects RX9 yX9_fails yX9_fails) (List.mem_cons_of_mem _ (List.mem_append_left _ (List.mem_of_getElem? (i := 6) rfl)))
  have hb_0 : ∀ w ∈ us_c_isRunner, w ∈ us_c_mfix := fun w h => List.mem_cons_of_mem _ (List.mem_append_right _ (List.mem_append_left _ h))
  have hb_1 : ∀ w ∈ us_c_fails, w ∈ us_c_mfix := fun w h => List.mem_cons_of_mem _ (List.mem_append_right _ (List.mem_append_right _ (List.mem_append_left _ h)))
  refine lv_aload_n hx hb dX9_fix_0 rfl (lv_at hl 0 rfl) ?_
  refine lv_iload_n hx hb dX9_fix_1 rfl (lv_at hl 1 rfl) ?_
  refine mc_i (wr := []) (va_runV (As := [.int p0]) (rest := []) ⟨hx, hb, hml, hown, hts⟩ (c_isRunner l hst D mo th m1 m2 m3 m4 m5 l1 l2 l3 l4 p0 s.heap.size) (cwV 1 hts (gi_c (List.mem_cons_of_mem _ (List.mem_append_left _ (List.mem_of_getElem? (i := 0) rfl))) rfl (gi_c (List.mem_cons_of_mem _ (List.mem_append_left _ (List.mem_of_getElem? (i := 1) rfl))) rfl (gi_c (List.mem_cons_of_mem _ (List.mem_append_left _ (List.mem_of_getElem? (i := 2) rfl))) rfl (gi_c (List.mem_cons_of_mem _ (List.mem_append_left _ (List.mem_of_getElem? (i := 3) rfl))) rfl (goodIn_sub hb_0 (List.all_eq_true.mpr gw_c_isRunner)))))) rfl rfl rfl (by decide +kernel) ⟨Nat.le_of_ble_eq_true rfl, Nat.le_of_ble_eq_true rfl⟩) (pr_V (As := [.int p0]) (b := mo) (C := RX9) hP hD hK hS hA hE [0, 1] [] rfl rfl rfl 0 16 rfl rfl rfl) rfl rfl hl.1 rfl (lv_room (Nat.le_of_ble_eq_true rfl)) dX9_fix_2 ⟨Nat.le_of_ble_eq_true rfl, Nat.le_of_ble_eq_true rfl⟩) hP hD hK hS hA [0, 1] [] rfl rfl (by decide) (by decide) (fun r2 _ H locs w1 hP hD hK hS => ?_)
  have hP : va_P D vwCl [(mo, .inr (16, [.int 5, .int 5, .int th, .ref m1, .ref m2, .ref m3, .ref m4, .ref m5, .ref l1, .ref l2, .ref l3, .int (-1), .ref l4])), (l3, .inr (5, [.int 1, .ref (D.1 1000), .int 0]))] H := hP
  have hD : va_D A [(mo, .inr (16, [.int 5, .int 5, .int th, .ref m1, .ref m2, .ref m3, .ref m4, .ref m5, .ref l1, .ref l2, .ref l3, .int (-1), .ref l4])), (l3, .inr (5, [.int 1, .ref (D.1 1000), .int 0]))] := hD
  have hK : va_K D vwCl [] s := hK
  obtain rfl : r2 = 0 := w1
  refine lv_if_eq (tgt := 16) hx hb dX9_fix_5 (by decide) (fun h3 => ?_) (fun h3 => absurd (by decide) h3)
  refine lv_aload_n hx hb dX9_fix_16 rfl (lv_at hl 0 rfl) ?_
  refine lv_iconst (v := 1) hx hb dX9_fix_17 (by decide) ?_
  refine mc_i (wr := [(l3, .inr (5, [.int 1, .ref (D.1 1000), .int 0]))]) (va_runV (As := [.int 1]) (rest := []) ⟨hx, hb, hml, hown, hts⟩ (c_fails l hst D mo 5 5 th m1 m2 m3 m4 m5 l1 l2 l3 (-1) l4 1 H.size) (cwV 1 hts (gi_c (List.mem_cons_of_mem _ (List.mem_append_left _ (List.mem_of_getElem? (i := 4) rfl))) rfl (gi_c (List.mem_cons_of_mem _ (List.mem_append_left _ (List.mem_of_getElem? (i := 5) rfl))) rfl (gi_c (List.mem_cons_of_mem _ (List.mem_append_left _ (List.mem_of_getElem? (i := 6) rfl))) rfl (gi_c (List.mem_cons_of_mem _ (List.mem_append_left _ (List.mem_of_getElem? (i := 3) rfl))) rfl (goodIn_sub hb_1 (List.all_eq_true.mpr gw_c_fails)))))) rfl rfl rfl (by decide +kernel) ⟨Nat.le_of_ble_eq_true rfl, Nat.le_of_ble_eq_true rfl⟩) (pr_V (As := [.int 1]) (b := mo) (C := RX9) hP hD hK hS hA hE [0] [] rfl rfl rfl 0 16 rfl rfl rfl) rfl rfl hl.1 rfl (lv_room (Nat.le_of_ble_eq_true rfl)) dX9_fix_18 ⟨Nat.le_of_ble_eq_true rfl, Nat.le_of_ble_eq_true rfl⟩) hP hD hK hS hA [0] [1] rfl rfl (by decide) (by decide) (fun r5 _ H locs w4 hP hD hK hS => ?_)
  have hP : va_P D vwCl [(l3, .inr (5, [.int 1, .ref (D.1 1000), .int 0])), (mo, .inr (16, [.int 5, .int 5, .int 1, .ref m1, .ref m2, .ref m3, .ref m4, .ref m5, .ref l1, .ref l2, .ref l3, .int (-1), .ref l4]))] H := hP
  have hD : va_D A [(l3, .inr (5, [.int 1, .ref (D.1 1000), .int 0])), (mo, .inr (16, [.int 5, .int 5, .int 1, .ref m1, .ref m2, .ref m3, .ref m4, .ref m5, .ref l1, .ref l2, .ref l3, .int (-1), .ref l4]))] := hD
  have hK : va_K D vwCl [] s := hK
  obtain rfl : r5 = 0 := w4
  exact mr_i hx hb hr (1, fun k9 => [m1, m2, m3, m4, m5, l1, l2, l3, l4].getD k9 0, fun k9 => [5, 5, -1].getD k9 0) (rfl) (hP.sub [1] rfl) (hK.sub [] rfl) (hD.sub [1] (by decide) rfl) hS (Nat.le_of_ble_eq_true rfl) (Nat.le_of_ble_eq_true rfl) hlocks dX9_fix_21

def us_c_mmayHave : List Cond := .code yX9_mayHave cX9_mayHave 9 (some .boolean) :: (([.methodLink RX9 227 yX9_isRunner, .instanceMethod yX9_isRunner, .selects RX9 yX9_isRunner yX9_isRunner, .initialized RX9, .fieldLink RX9 16 "ControlWoodModel" "thrown" "I"] : List Cond) ++ (us_c_isRunner ++ (wsX90 ++ ([]))))
theorem gw_c_mmayHave : ∀ w ∈ us_c_mmayHave, goodWord w = true := gw_cons rfl (gw_app (by decide +kernel) (gw_app gw_c_isRunner (gw_app gwf_X9 (fun _ h => nomatch h))))
set_option maxHeartbeats 4000000 in
set_option maxRecDepth 100000 in
/-- the reference refuses mayHave -/
theorem c_mmayHave (l : Launch) (hst : l.stackTraces = false) (D : va_G) (mo : Nat) (th : Int32) (m1 : Nat) (m2 : Nat) (m3 : Nat) (m4 : Nat) (m5 : Nat) (l1 : Nat) (l2 : Nat) (l3 : Nat) (l4 : Nat) (p0 : Int32) (p1 : Int32) (sz : Nat) : Met l yX9_mayHave us_c_mmayHave { frames := 2, cells := 0, slots := 0, locals := 46 } (pw D [.ref mo, .int p0, .int p1] [] [(mo, .inr (16, [.int 5, .int 5, .int th, .ref m1, .ref m2, .ref m3, .ref m4, .ref m5, .ref l1, .ref l2, .ref l3, .int (-1), .ref l4])), (l3, .inr (5, [.int 1, .ref (D.1 1000), .int 0]))] sz) (va_Qi (fun (_ : Int32) (u : (Int32 × (Nat → Nat) × (Nat → Int32))) => u.1 = 1) (qb D (va_A [(mo, .inr (16, [.int 5, .int 5, .int th, .ref m1, .ref m2, .ref m3, .ref m4, .ref m5, .ref l1, .ref l2, .ref l3, .int (-1), .ref l4])), (l3, .inr (5, [.int 1, .ref (D.1 1000), .int 0]))] sz) (fun u : (Int32 × (Nat → Nat) × (Nat → Int32)) => [(mo, .inr (16, [.int (u.2.2 0), .int (u.2.2 1), .int u.1, .ref (u.2.1 0), .ref (u.2.1 1), .ref (u.2.1 2), .ref (u.2.1 3), .ref (u.2.1 4), .ref (u.2.1 5), .ref (u.2.1 6), .ref (u.2.1 7), .int (u.2.2 2), .ref (u.2.1 8)]))]) (fun u : (Int32 × (Nat → Nat) × (Nat → Int32)) => ([] : List (ClassId × FieldType)))) (va_A [(mo, .inr (16, [.int 5, .int 5, .int th, .ref m1, .ref m2, .ref m3, .ref m4, .ref m5, .ref l1, .ref l2, .ref l3, .int (-1), .ref l4])), (l3, .inr (5, [.int 1, .ref (D.1 1000), .int 0]))] sz)) 0 0 (va_A [(mo, .inr (16, [.int 5, .int 5, .int th, .ref m1, .ref m2, .ref m3, .ref m4, .ref m5, .ref l1, .ref l2, .ref l3, .int (-1), .ref l4])), (l3, .inr (5, [.int 1, .ref (D.1 1000), .int 0]))] sz) := by
  refine op_M (Qc := fun A => (va_Qi (fun (_ : Int32) (u : (Int32 × (Nat → Nat) × (Nat → Int32))) => u.1 = 1) (qb D A (fun u : (Int32 × (Nat → Nat) × (Nat → Int32)) => [(mo, .inr (16, [.int (u.2.2 0), .int (u.2.2 1), .int u.1, .ref (u.2.1 0), .ref (u.2.1 1), .ref (u.2.1 2), .ref (u.2.1 3), .ref (u.2.1 4), .ref (u.2.1 5), .ref (u.2.1 6), .ref (u.2.1 7), .int (u.2.2 2), .ref (u.2.1 8)]))]) (fun u : (Int32 × (Nat → Nat) × (Nat → Int32)) => ([] : List (ClassId × FieldType)))) A)) (by decide +kernel) rfl (Nat.le_of_ble_eq_true rfl) ?_
  intro p e s m args below meth c A ls hx hb hr hml hts hown hlocks hmn htab hA hD hS hP hK hE hsz hl
  have hown : s.vm.findClass RX9 = some m.cls := hown
  have hl : lv_has ls 9 [(0, .ref mo), (1, .int p0), (2, .int p1)] := hl
  have hw_0 := hts (.methodLink RX9 227 yX9_isRunner) (List.mem_cons_of_mem _ (List.mem_append_left _ (List.mem_of_getElem? (i := 0) rfl)))
  have hw_1 := hts (.instanceMethod yX9_isRunner) (List.mem_cons_of_mem _ (List.mem_append_left _ (List.mem_of_getElem? (i := 1) rfl)))
  have hw_2 := hts (.selects RX9 yX9_isRunner yX9_isRunner) (List.mem_cons_of_mem _ (List.mem_append_left _ (List.mem_of_getElem? (i := 2) rfl)))
  have hw_3 := hts (.initialized RX9) (List.mem_cons_of_mem _ (List.mem_append_left _ (List.mem_of_getElem? (i := 3) rfl)))
  have hw_4 := hts (.fieldLink RX9 16 "ControlWoodModel" "thrown" "I") (List.mem_cons_of_mem _ (List.mem_append_left _ (List.mem_of_getElem? (i := 4) rfl)))
  have hb_0 : ∀ w ∈ us_c_isRunner, w ∈ us_c_mmayHave := fun w h => List.mem_cons_of_mem _ (List.mem_append_right _ (List.mem_append_left _ h))
  have hb_1 : ∀ w ∈ wsX90, w ∈ us_c_mmayHave := fun w h => List.mem_cons_of_mem _ (List.mem_append_right _ (List.mem_append_right _ (List.mem_append_left _ h)))
  refine lv_aload_n hx hb dX9_mayHave_0 rfl (lv_at hl 0 rfl) ?_
  refine lv_aload_n hx hb dX9_mayHave_1 rfl (lv_at hl 0 rfl) ?_
  refine lv_iload_n hx hb dX9_mayHave_2 rfl (lv_at hl 1 rfl) ?_
  refine mc_i (wr := []) (va_runV (As := [.int p0]) (rest := [.ref mo]) ⟨hx, hb, hml, hown, hts⟩ (c_isRunner l hst D mo th m1 m2 m3 m4 m5 l1 l2 l3 l4 p0 s.heap.size) (cwV 1 hts (gi_c (List.mem_cons_of_mem _ (List.mem_append_left _ (List.mem_of_getElem? (i := 0) rfl))) rfl (gi_c (List.mem_cons_of_mem _ (List.mem_append_left _ (List.mem_of_getElem? (i := 1) rfl))) rfl (gi_c (List.mem_cons_of_mem _ (List.mem_append_left _ (List.mem_of_getElem? (i := 2) rfl))) rfl (gi_c (List.mem_cons_of_mem _ (List.mem_append_left _ (List.mem_of_getElem? (i := 3) rfl))) rfl (goodIn_sub hb_0 (List.all_eq_true.mpr gw_c_isRunner)))))) rfl rfl rfl (by decide +kernel) ⟨Nat.le_of_ble_eq_true rfl, Nat.le_of_ble_eq_true rfl⟩) (pr_V (As := [.int p0]) (b := mo) (C := RX9) hP hD hK hS hA hE [0, 1] [] rfl rfl rfl 0 16 rfl rfl rfl) rfl rfl hl.1 rfl (lv_room (Nat.le_of_ble_eq_true rfl)) dX9_mayHave_3 ⟨Nat.le_of_ble_eq_true rfl, Nat.le_of_ble_eq_true rfl⟩) hP hD hK hS hA [0, 1] [] rfl rfl (by decide) (by decide) (fun r2 _ H locs w1 hP hD hK hS => ?_)
  have hP : va_P D vwCl [(mo, .inr (16, [.int 5, .int 5, .int th, .ref m1, .ref m2, .ref m3, .ref m4, .ref m5, .ref l1, .ref l2, .ref l3, .int (-1), .ref l4])), (l3, .inr (5, [.int 1, .ref (D.1 1000), .int 0]))] H := hP
  have hD : va_D A [(mo, .inr (16, [.int 5, .int 5, .int th, .ref m1, .ref m2, .ref m3, .ref m4, .ref m5, .ref l1, .ref l2, .ref l3, .int (-1), .ref l4])), (l3, .inr (5, [.int 1, .ref (D.1 1000), .int 0]))] := hD
  have hK : va_K D vwCl [] s := hK
  obtain rfl : r2 = 0 := w1
  refine lv_if_eq (tgt := 21) hx hb dX9_mayHave_6 (by decide) (fun h3 => ?_) (fun h3 => absurd (by decide) h3)
  refine lv_iconst (v := 1) hx hb dX9_mayHave_21 (by decide) ?_
  refine va_put (D := D) (ci := 16) (v := .int 1) (ty := .int) (C := RX9) (T := TX9) (N := 13) hx hb hts hb_1 tyX9 tyX9_ok nmX9 hown hK hP hD hS 0 rfl rfl 2 (by decide) hw_4 (fun _ h9 => h9) rfl (by decide +kernel) rfl rfl (Nat.le_of_ble_eq_true rfl) dX9_mayHave_22 (fun H locs hP hD hS => ?_)
  have hP : va_P D vwCl [(mo, .inr (16, [.int 5, .int 5, .int 1, .ref m1, .ref m2, .ref m3, .ref m4, .ref m5, .ref l1, .ref l2, .ref l3, .int (-1), .ref l4])), (l3, .inr (5, [.int 1, .ref (D.1 1000), .int 0]))] H := hP
  have hD : va_D A [(mo, .inr (16, [.int 5, .int 5, .int 1, .ref m1, .ref m2, .ref m3, .ref m4, .ref m5, .ref l1, .ref l2, .ref l3, .int (-1), .ref l4])), (l3, .inr (5, [.int 1, .ref (D.1 1000), .int 0]))] := hD
  refine lv_aload_n hx hb dX9_mayHave_25 rfl (lv_at hl 0 rfl) ?_
  refine va_get (D := D) (ci := 16) (v := .int 1) (C := RX9) (T := TX9) (N := 13) hx hb hts hb_1 hown hK hP 0 rfl rfl 2 (by decide) hw_4 (fun _ h9 => h9) rfl dX9_mayHave_26 ?_
  refine lv_if_le (tgt := 34) hx hb dX9_mayHave_29 (by decide) (fun h4 => absurd h4 (by decide)) (fun h4 => ?_)
  refine lv_iconst (v := 0) hx hb dX9_mayHave_32 (by decide) ?_
  exact mr_z (rfl) hx hb hr (1, fun k9 => [m1, m2, m3, m4, m5, l1, l2, l3, l4].getD k9 0, fun k9 => [5, 5, -1].getD k9 0) (rfl) (hP.sub [0] rfl) (hK.sub [] rfl) (hD.sub [0] (by decide) rfl) hS (Nat.le_of_ble_eq_true rfl) (Nat.le_of_ble_eq_true rfl) hlocks dX9_mayHave_33

def us_c_mokShare : List Cond := .code yX9_okShare cX9_okShare 5 (some .float) :: (([.fieldLink RX9 46 "ControlWoodModel" "runners" "Ljava/util/ArrayList;", .methodLink RX9 160 yJx4a65c_iterator_32c93, .instanceMethod yJx4a65c_iterator_32c93, .selects RJx4a65c yJx4a65c_iterator_32c93 yJx4a65c_iterator_32c93, .initialized RJx4a65c, .methodLink RX9 164 ⟨"java/util/Iterator", "hasNext", "()Z"⟩, .selects RJx35411 ⟨"java/util/Iterator", "hasNext", "()Z"⟩ yJx35411_hasNext_aae02, .instanceMethod yJx35411_hasNext_aae02, .initialized RJx35411, .methodLink RX9 178 yX9_isCourse, .instanceMethod yX9_isCourse, .selects RX9 yX9_isCourse yX9_isCourse, .initialized RX9, .fieldLink RX9 16 "ControlWoodModel" "thrown" "I"] : List Cond) ++ (wsX90 ++ (us_c_alIter ++ (us_c_itHas ++ (us_c_isCourse ++ ([]))))))
theorem gw_c_mokShare : ∀ w ∈ us_c_mokShare, goodWord w = true := gw_cons rfl (gw_app (by decide +kernel) (gw_app gwf_X9 (gw_app gw_c_alIter (gw_app gw_c_itHas (gw_app gw_c_isCourse (fun _ h => nomatch h))))))
set_option maxHeartbeats 4000000 in
set_option maxRecDepth 100000 in
/-- the reference refuses okShare -/
theorem c_mokShare (l : Launch) (hst : l.stackTraces = false) (D : va_G) (mo : Nat) (th : Int32) (m1 : Nat) (m2 : Nat) (m3 : Nat) (m4 : Nat) (m5 : Nat) (l1 : Nat) (l2 : Nat) (l3 : Nat) (l4 : Nat) (p0 : Int32) (sz : Nat) : Met l yX9_okShare us_c_mokShare { frames := 3, cells := 1, slots := 4, locals := 56 } (pw D [.ref mo, .int p0] [] [(mo, .inr (16, [.int 5, .int 5, .int th, .ref m1, .ref m2, .ref m3, .ref m4, .ref m5, .ref l1, .ref l2, .ref l3, .int (-1), .ref l4])), (l2, .inr (5, [.int 1, .ref (D.1 1000), .int 0])), (l3, .inr (5, [.int 1, .ref (D.1 1000), .int 0]))] sz) (va_Qf (fun (_ : UInt32) (u : (Int32 × (Nat → Nat) × (Nat → Int32))) => u.1 = 1) (qb D (va_A [(mo, .inr (16, [.int 5, .int 5, .int th, .ref m1, .ref m2, .ref m3, .ref m4, .ref m5, .ref l1, .ref l2, .ref l3, .int (-1), .ref l4])), (l2, .inr (5, [.int 1, .ref (D.1 1000), .int 0])), (l3, .inr (5, [.int 1, .ref (D.1 1000), .int 0]))] sz) (fun u : (Int32 × (Nat → Nat) × (Nat → Int32)) => [(mo, .inr (16, [.int (u.2.2 0), .int (u.2.2 1), .int u.1, .ref (u.2.1 0), .ref (u.2.1 1), .ref (u.2.1 2), .ref (u.2.1 3), .ref (u.2.1 4), .ref (u.2.1 5), .ref (u.2.1 6), .ref (u.2.1 7), .int (u.2.2 2), .ref (u.2.1 8)]))]) (fun u : (Int32 × (Nat → Nat) × (Nat → Int32)) => ([] : List (ClassId × FieldType)))) (va_A [(mo, .inr (16, [.int 5, .int 5, .int th, .ref m1, .ref m2, .ref m3, .ref m4, .ref m5, .ref l1, .ref l2, .ref l3, .int (-1), .ref l4])), (l2, .inr (5, [.int 1, .ref (D.1 1000), .int 0])), (l3, .inr (5, [.int 1, .ref (D.1 1000), .int 0]))] sz)) 1 4 (va_A [(mo, .inr (16, [.int 5, .int 5, .int th, .ref m1, .ref m2, .ref m3, .ref m4, .ref m5, .ref l1, .ref l2, .ref l3, .int (-1), .ref l4])), (l2, .inr (5, [.int 1, .ref (D.1 1000), .int 0])), (l3, .inr (5, [.int 1, .ref (D.1 1000), .int 0]))] sz) := by
  refine op_M (Qc := fun A => (va_Qf (fun (_ : UInt32) (u : (Int32 × (Nat → Nat) × (Nat → Int32))) => u.1 = 1) (qb D A (fun u : (Int32 × (Nat → Nat) × (Nat → Int32)) => [(mo, .inr (16, [.int (u.2.2 0), .int (u.2.2 1), .int u.1, .ref (u.2.1 0), .ref (u.2.1 1), .ref (u.2.1 2), .ref (u.2.1 3), .ref (u.2.1 4), .ref (u.2.1 5), .ref (u.2.1 6), .ref (u.2.1 7), .int (u.2.2 2), .ref (u.2.1 8)]))]) (fun u : (Int32 × (Nat → Nat) × (Nat → Int32)) => ([] : List (ClassId × FieldType)))) A)) (by decide +kernel) rfl (Nat.le_of_ble_eq_true rfl) ?_
  intro p e s m args below meth c A ls hx hb hr hml hts hown hlocks hmn htab hA hD hS hP hK hE hsz hl
  have hown : s.vm.findClass RX9 = some m.cls := hown
  have hl : lv_has ls 5 [(0, .ref mo), (1, .int p0)] := hl
  have hw_0 := hts (.fieldLink RX9 46 "ControlWoodModel" "runners" "Ljava/util/ArrayList;") (List.mem_cons_of_mem _ (List.mem_append_left _ (List.mem_of_getElem? (i := 0) rfl)))
  have hw_1 := hts (.methodLink RX9 160 yJx4a65c_iterator_32c93) (List.mem_cons_of_mem _ (List.mem_append_left _ (List.mem_of_getElem? (i := 1) rfl)))
  have hw_2 := hts (.instanceMethod yJx4a65c_iterator_32c93) (List.mem_cons_of_mem _ (List.mem_append_left _ (List.mem_of_getElem? (i := 2) rfl)))
  have hw_3 := hts (.selects RJx4a65c yJx4a65c_iterator_32c93 yJx4a65c_iterator_32c93) (List.mem_cons_of_mem _ (List.mem_append_left _ (List.mem_of_getElem? (i := 3) rfl)))
  have hw_4 := hts (.initialized RJx4a65c) (List.mem_cons_of_mem _ (List.mem_append_left _ (List.mem_of_getElem? (i := 4) rfl)))
  have hw_5 := hts (.methodLink RX9 164 ⟨"java/util/Iterator", "hasNext", "()Z"⟩) (List.mem_cons_of_mem _ (List.mem_append_left _ (List.mem_of_getElem? (i := 5) rfl)))
  have hw_6 := hts (.selects RJx35411 ⟨"java/util/Iterator", "hasNext", "()Z"⟩ yJx35411_hasNext_aae02) (List.mem_cons_of_mem _ (List.mem_append_left _ (List.mem_of_getElem? (i := 6) rfl)))
  have hw_7 := hts (.instanceMethod yJx35411_hasNext_aae02) (List.mem_cons_of_mem _ (List.mem_append_left _ (List.mem_of_getElem? (i := 7) rfl)))
  have hw_8 := hts (.initialized RJx35411) (List.mem_cons_of_mem _ (List.mem_append_left _ (List.mem_of_getElem? (i := 8) rfl)))
  have hw_9 := hts (.methodLink RX9 178 yX9_isCourse) (List.mem_cons_of_mem _ (List.mem_append_left _ (List.mem_of_getElem? (i := 9) rfl)))
  have hw_10 := hts (.instanceMethod yX9_isCourse) (List.mem_cons_of_mem _ (List.mem_append_left _ (List.mem_of_getElem? (i := 10) rfl)))
  have hw_11 := hts (.selects RX9 yX9_isCourse yX9_isCourse) (List.mem_cons_of_mem _ (List.mem_append_left _ (List.mem_of_getElem? (i := 11) rfl)))
  have hw_12 := hts (.initialized RX9) (List.mem_cons_of_mem _ (List.mem_append_left _ (List.mem_of_getElem? (i := 12) rfl)))
  have hw_13 := hts (.fieldLink RX9 16 "ControlWoodModel" "thrown" "I") (List.mem_cons_of_mem _ (List.mem_append_left _ (List.mem_of_getElem? (i := 13) rfl)))
  have hb_0 : ∀ w ∈ wsX90, w ∈ us_c_mokShare := fun w h => List.mem_cons_of_mem _ (List.mem_append_right _ (List.mem_append_left _ h))
  have hb_1 : ∀ w ∈ us_c_alIter, w ∈ us_c_mokShare := fun w h => List.mem_cons_of_mem _ (List.mem_append_right _ (List.mem_append_right _ (List.mem_append_left _ h)))
  have hb_2 : ∀ w ∈ us_c_itHas, w ∈ us_c_mokShare := fun w h => List.mem_cons_of_mem _ (List.mem_append_right _ (List.mem_append_right _ (List.mem_append_right _ (List.mem_append_left _ h))))
  have hb_3 : ∀ w ∈ us_c_isCourse, w ∈ us_c_mokShare := fun w h => List.mem_cons_of_mem _ (List.mem_append_right _ (List.mem_append_right _ (List.mem_append_right _ (List.mem_append_right _ (List.mem_append_left _ h)))))
  refine lv_iconst (v := 0) hx hb dX9_okShare_0 (by decide) ?_
  refine lv_istore_n (lv' := [(2, .int 0), (0, .ref mo), (1, .int p0)]) hx hb dX9_okShare_1 rfl hl (by decide) rfl (fun ls hl => ?_)
  refine lv_aload_n hx hb dX9_okShare_2 rfl (lv_at hl 1 rfl) ?_
  refine va_get (D := D) (ci := 16) (v := .ref l3) (C := RX9) (T := TX9) (N := 13) hx hb hts hb_0 hown hK hP 0 rfl rfl 10 (by decide) hw_0 (fun _ h9 => h9) rfl dX9_okShare_3 ?_
  refine mc_q (wr := [(mo, .inr (16, [.int 5, .int 5, .int th, .ref m1, .ref m2, .ref m3, .ref m4, .ref m5, .ref l1, .ref l2, .ref l3, .int (-1), .ref l4])), (l2, .inr (5, [.int 1, .ref (D.1 1000), .int 0]))]) (va_runV (As := []) (rest := []) ⟨hx, hb, hml, hown, hts⟩ (c_alIter l hst D l3 1 (D.1 1000) 0 s.heap.size) (cwV 0 hts (gi_c (List.mem_cons_of_mem _ (List.mem_append_left _ (List.mem_of_getElem? (i := 1) rfl))) rfl (gi_c (List.mem_cons_of_mem _ (List.mem_append_left _ (List.mem_of_getElem? (i := 2) rfl))) rfl (gi_c (List.mem_cons_of_mem _ (List.mem_append_left _ (List.mem_of_getElem? (i := 3) rfl))) rfl (gi_c (List.mem_cons_of_mem _ (List.mem_append_left _ (List.mem_of_getElem? (i := 4) rfl))) rfl (goodIn_sub hb_1 (List.all_eq_true.mpr gw_c_alIter)))))) rfl rfl rfl (by decide +kernel) ⟨Nat.le_of_ble_eq_true rfl, Nat.le_of_ble_eq_true rfl⟩) (pr_V (As := []) (b := l3) (C := RJx4a65c) hP hD hK hS hA hE [2] [] rfl rfl rfl 2 5 rfl rfl rfl) rfl rfl hl.1 rfl (lv_room (Nat.le_of_ble_eq_true rfl)) dX9_okShare_6 ⟨Nat.le_of_ble_eq_true rfl, Nat.le_of_ble_eq_true rfl⟩) hP hD hK hS hA [2] [0, 1] rfl rfl (by decide) (by decide) (fun r3 u1 H locs w2 hP hD hK hS => ?_)
  have hP : va_P D vwCl [(mo, .inr (16, [.int 5, .int 5, .int th, .ref m1, .ref m2, .ref m3, .ref m4, .ref m5, .ref l1, .ref l2, .ref l3, .int (-1), .ref l4])), (l2, .inr (5, [.int 1, .ref (D.1 1000), .int 0])), (u1, .inr (4, [.int 0, .int (-1), .int 1, .ref l3])), (l3, .inr (5, [.int 1, .ref (D.1 1000), .int 0]))] H := hP
  have hD : va_D A [(mo, .inr (16, [.int 5, .int 5, .int th, .ref m1, .ref m2, .ref m3, .ref m4, .ref m5, .ref l1, .ref l2, .ref l3, .int (-1), .ref l4])), (l2, .inr (5, [.int 1, .ref (D.1 1000), .int 0])), (u1, .inr (4, [.int 0, .int (-1), .int 1, .ref l3])), (l3, .inr (5, [.int 1, .ref (D.1 1000), .int 0]))] := hD
  have hK : va_K D vwCl [] s := hK
  obtain rfl := w2
  refine lv_astore_n (lv' := [(3, .ref u1), (2, .int 0), (0, .ref mo), (1, .int p0)]) hx hb dX9_okShare_9 rfl hl (by decide) rfl (fun ls hl => ?_)
  refine lv_aload_n hx hb dX9_okShare_10 rfl (lv_at hl 0 rfl) ?_
  refine mc5_i (wr := [(mo, .inr (16, [.int 5, .int 5, .int th, .ref m1, .ref m2, .ref m3, .ref m4, .ref m5, .ref l1, .ref l2, .ref l3, .int (-1), .ref l4])), (l2, .inr (5, [.int 1, .ref (D.1 1000), .int 0]))]) (va_runF (As := []) (rest := []) (hK.1 4 _ rfl).2 ⟨hx, hb, hml, hown, hts⟩ (c_itHas l hst D u1 l3 1 1 (D.1 1000) H.size) (va_cwF 0 hts (gi_c (List.mem_cons_of_mem _ (List.mem_append_left _ (List.mem_of_getElem? (i := 5) rfl))) rfl (gi_c (List.mem_cons_of_mem _ (List.mem_append_left _ (List.mem_of_getElem? (i := 6) rfl))) rfl (gi_c (List.mem_cons_of_mem _ (List.mem_append_left _ (List.mem_of_getElem? (i := 7) rfl))) rfl (gi_c (List.mem_cons_of_mem _ (List.mem_append_left _ (List.mem_of_getElem? (i := 8) rfl))) rfl (goodIn_sub hb_2 (List.all_eq_true.mpr gw_c_itHas)))))) rfl rfl rfl hE.2.2.2.2.2.2.2.2.2.2.2.2.1 (by decide +kernel) ⟨Nat.le_of_ble_eq_true rfl, Nat.le_of_ble_eq_true rfl⟩) (pr_V (As := []) (b := u1) (C := RJx35411) hP hD hK hS hA hE [2, 3] [] rfl rfl rfl 2 4 rfl rfl rfl) rfl rfl hl.1 rfl (lv_room (Nat.le_of_ble_eq_true rfl)) dX9_okShare_11 ⟨Nat.le_of_ble_eq_true rfl, Nat.le_of_ble_eq_true rfl⟩) hP hD hK hS hA [2, 3] [0, 1] rfl rfl (by decide) (by decide) (fun r5 _ H locs w4 hP hD hK hS => ?_)
  have hP : va_P D vwCl [(mo, .inr (16, [.int 5, .int 5, .int th, .ref m1, .ref m2, .ref m3, .ref m4, .ref m5, .ref l1, .ref l2, .ref l3, .int (-1), .ref l4])), (l2, .inr (5, [.int 1, .ref (D.1 1000), .int 0])), (u1, .inr (4, [.int 0, .int (-1), .int 1, .ref l3])), (l3, .inr (5, [.int 1, .ref (D.1 1000), .int 0]))] H := hP
  have hD : va_D A [(mo, .inr (16, [.int 5, .int 5, .int th, .ref m1, .ref m2, .ref m3, .ref m4, .ref m5, .ref l1, .ref l2, .ref l3, .int (-1), .ref l4])), (l2, .inr (5, [.int 1, .ref (D.1 1000), .int 0])), (u1, .inr (4, [.int 0, .int (-1), .int 1, .ref l3])), (l3, .inr (5, [.int 1, .ref (D.1 1000), .int 0]))] := hD
  have hK : va_K D vwCl [] s := hK
  obtain rfl : r5 = 0 := w4
  refine lv_if_eq (tgt := 50) hx hb dX9_okShare_16 (by decide) (fun h6 => ?_) (fun h6 => absurd (by decide) h6)
  refine lv_aload_n hx hb dX9_okShare_50 rfl (lv_at hl 2 rfl) ?_
  refine lv_aload_n hx hb dX9_okShare_51 rfl (lv_at hl 2 rfl) ?_
  refine lv_iload_n hx hb dX9_okShare_52 rfl (lv_at hl 3 rfl) ?_
  refine mc_i (wr := [(u1, .inr (4, [.int 0, .int (-1), .int 1, .ref l3])), (l3, .inr (5, [.int 1, .ref (D.1 1000), .int 0]))]) (va_runV (As := [.int p0]) (rest := [.ref mo]) ⟨hx, hb, hml, hown, hts⟩ (c_isCourse l hst D mo th m1 m2 m3 m4 m5 l1 l2 l3 l4 p0 H.size) (cwV 1 hts (gi_c (List.mem_cons_of_mem _ (List.mem_append_left _ (List.mem_of_getElem? (i := 9) rfl))) rfl (gi_c (List.mem_cons_of_mem _ (List.mem_append_left _ (List.mem_of_getElem? (i := 10) rfl))) rfl (gi_c (List.mem_cons_of_mem _ (List.mem_append_left _ (List.mem_of_getElem? (i := 11) rfl))) rfl (gi_c (List.mem_cons_of_mem _ (List.mem_append_left _ (List.mem_of_getElem? (i := 12) rfl))) rfl (goodIn_sub hb_3 (List.all_eq_true.mpr gw_c_isCourse)))))) rfl rfl rfl (by decide +kernel) ⟨Nat.le_of_ble_eq_true rfl, Nat.le_of_ble_eq_true rfl⟩) (pr_V (As := [.int p0]) (b := mo) (C := RX9) hP hD hK hS hA hE [0, 1] [] rfl rfl rfl 0 16 rfl rfl rfl) rfl rfl hl.1 rfl (lv_room (Nat.le_of_ble_eq_true rfl)) dX9_okShare_53 ⟨Nat.le_of_ble_eq_true rfl, Nat.le_of_ble_eq_true rfl⟩) hP hD hK hS hA [0, 1] [2, 3] rfl rfl (by decide) (by decide) (fun r8 _ H locs w7 hP hD hK hS => ?_)
  have hP : va_P D vwCl [(u1, .inr (4, [.int 0, .int (-1), .int 1, .ref l3])), (l3, .inr (5, [.int 1, .ref (D.1 1000), .int 0])), (mo, .inr (16, [.int 5, .int 5, .int th, .ref m1, .ref m2, .ref m3, .ref m4, .ref m5, .ref l1, .ref l2, .ref l3, .int (-1), .ref l4])), (l2, .inr (5, [.int 1, .ref (D.1 1000), .int 0]))] H := hP
  have hD : va_D A [(u1, .inr (4, [.int 0, .int (-1), .int 1, .ref l3])), (l3, .inr (5, [.int 1, .ref (D.1 1000), .int 0])), (mo, .inr (16, [.int 5, .int 5, .int th, .ref m1, .ref m2, .ref m3, .ref m4, .ref m5, .ref l1, .ref l2, .ref l3, .int (-1), .ref l4])), (l2, .inr (5, [.int 1, .ref (D.1 1000), .int 0]))] := hD
  have hK : va_K D vwCl [] s := hK
  obtain rfl : r8 = 0 := w7
  refine lv_if_ne (tgt := 63) hx hb dX9_okShare_56 (by decide) (fun h9 => absurd (by decide) h9) (fun h9 => ?_)
  refine lv_iconst (v := 1) hx hb dX9_okShare_59 (by decide) ?_
  refine lv_goto (tgt := 72) hx hb dX9_okShare_60 (by decide) ?_
  refine va_put (D := D) (ci := 16) (v := .int 1) (ty := .int) (C := RX9) (T := TX9) (N := 13) hx hb hts hb_0 tyX9 tyX9_ok nmX9 hown hK hP hD hS 2 rfl rfl 2 (by decide) hw_13 (fun _ h9 => h9) rfl (by decide +kernel) rfl rfl (Nat.le_of_ble_eq_true rfl) dX9_okShare_72 (fun H locs hP hD hS => ?_)
  have hP : va_P D vwCl [(u1, .inr (4, [.int 0, .int (-1), .int 1, .ref l3])), (l3, .inr (5, [.int 1, .ref (D.1 1000), .int 0])), (mo, .inr (16, [.int 5, .int 5, .int 1, .ref m1, .ref m2, .ref m3, .ref m4, .ref m5, .ref l1, .ref l2, .ref l3, .int (-1), .ref l4])), (l2, .inr (5, [.int 1, .ref (D.1 1000), .int 0]))] H := hP
  have hD : va_D A [(u1, .inr (4, [.int 0, .int (-1), .int 1, .ref l3])), (l3, .inr (5, [.int 1, .ref (D.1 1000), .int 0])), (mo, .inr (16, [.int 5, .int 5, .int 1, .ref m1, .ref m2, .ref m3, .ref m4, .ref m5, .ref l1, .ref l2, .ref l3, .int (-1), .ref l4])), (l2, .inr (5, [.int 1, .ref (D.1 1000), .int 0]))] := hD
  refine lv_aload_n hx hb dX9_okShare_75 rfl (lv_at hl 2 rfl) ?_
  refine va_get (D := D) (ci := 16) (v := .int 1) (C := RX9) (T := TX9) (N := 13) hx hb hts hb_0 hown hK hP 2 rfl rfl 2 (by decide) hw_13 (fun _ h9 => h9) rfl dX9_okShare_76 ?_
  refine lv_if_le (tgt := 86) hx hb dX9_okShare_79 (by decide) (fun h10 => absurd h10 (by decide)) (fun h10 => ?_)
  refine lv_fconst0 hx hb dX9_okShare_82 ?_
  refine lv_goto (tgt := 98) hx hb dX9_okShare_83 (by decide) ?_
  exact mr_f hx hb hr (1, fun k9 => [m1, m2, m3, m4, m5, l1, l2, l3, l4].getD k9 0, fun k9 => [5, 5, -1].getD k9 0) (rfl) (hP.sub [2] rfl) (hK.sub [] rfl) (hD.sub [2] (by decide) rfl) hS (Nat.le_of_ble_eq_true rfl) (Nat.le_of_ble_eq_true rfl) hlocks dX9_okShare_98

def us_c_mmeanTime : List Cond := .code yX9_meanTime cX9_meanTime 5 (some .double) :: (([.methodLink RX9 178 yX9_isCourse, .instanceMethod yX9_isCourse, .selects RX9 yX9_isCourse yX9_isCourse, .initialized RX9, .fieldLink RX9 16 "ControlWoodModel" "thrown" "I"] : List Cond) ++ (us_c_isCourse ++ (wsX90 ++ ([]))))
theorem gw_c_mmeanTime : ∀ w ∈ us_c_mmeanTime, goodWord w = true := gw_cons rfl (gw_app (by decide +kernel) (gw_app gw_c_isCourse (gw_app gwf_X9 (fun _ h => nomatch h))))
set_option maxHeartbeats 4000000 in
set_option maxRecDepth 100000 in
/-- the reference refuses meanTime -/
theorem c_mmeanTime (l : Launch) (hst : l.stackTraces = false) (D : va_G) (mo : Nat) (th : Int32) (m1 : Nat) (m2 : Nat) (m3 : Nat) (m4 : Nat) (m5 : Nat) (l1 : Nat) (l2 : Nat) (l3 : Nat) (l4 : Nat) (p0 : Int32) (sz : Nat) : Met l yX9_meanTime us_c_mmeanTime { frames := 2, cells := 0, slots := 0, locals := 46 } (pw D [.ref mo, .int p0] [] [(mo, .inr (16, [.int 5, .int 5, .int th, .ref m1, .ref m2, .ref m3, .ref m4, .ref m5, .ref l1, .ref l2, .ref l3, .int (-1), .ref l4])), (l2, .inr (5, [.int 1, .ref (D.1 1000), .int 0])), (l3, .inr (5, [.int 1, .ref (D.1 1000), .int 0]))] sz) (va_Qd (fun (_ : UInt64) (u : (Int32 × (Nat → Nat) × (Nat → Int32))) => u.1 = 1) (qb D (va_A [(mo, .inr (16, [.int 5, .int 5, .int th, .ref m1, .ref m2, .ref m3, .ref m4, .ref m5, .ref l1, .ref l2, .ref l3, .int (-1), .ref l4])), (l2, .inr (5, [.int 1, .ref (D.1 1000), .int 0])), (l3, .inr (5, [.int 1, .ref (D.1 1000), .int 0]))] sz) (fun u : (Int32 × (Nat → Nat) × (Nat → Int32)) => [(mo, .inr (16, [.int (u.2.2 0), .int (u.2.2 1), .int u.1, .ref (u.2.1 0), .ref (u.2.1 1), .ref (u.2.1 2), .ref (u.2.1 3), .ref (u.2.1 4), .ref (u.2.1 5), .ref (u.2.1 6), .ref (u.2.1 7), .int (u.2.2 2), .ref (u.2.1 8)]))]) (fun u : (Int32 × (Nat → Nat) × (Nat → Int32)) => ([] : List (ClassId × FieldType)))) (va_A [(mo, .inr (16, [.int 5, .int 5, .int th, .ref m1, .ref m2, .ref m3, .ref m4, .ref m5, .ref l1, .ref l2, .ref l3, .int (-1), .ref l4])), (l2, .inr (5, [.int 1, .ref (D.1 1000), .int 0])), (l3, .inr (5, [.int 1, .ref (D.1 1000), .int 0]))] sz)) 0 0 (va_A [(mo, .inr (16, [.int 5, .int 5, .int th, .ref m1, .ref m2, .ref m3, .ref m4, .ref m5, .ref l1, .ref l2, .ref l3, .int (-1), .ref l4])), (l2, .inr (5, [.int 1, .ref (D.1 1000), .int 0])), (l3, .inr (5, [.int 1, .ref (D.1 1000), .int 0]))] sz) := by
  refine op_M (Qc := fun A => (va_Qd (fun (_ : UInt64) (u : (Int32 × (Nat → Nat) × (Nat → Int32))) => u.1 = 1) (qb D A (fun u : (Int32 × (Nat → Nat) × (Nat → Int32)) => [(mo, .inr (16, [.int (u.2.2 0), .int (u.2.2 1), .int u.1, .ref (u.2.1 0), .ref (u.2.1 1), .ref (u.2.1 2), .ref (u.2.1 3), .ref (u.2.1 4), .ref (u.2.1 5), .ref (u.2.1 6), .ref (u.2.1 7), .int (u.2.2 2), .ref (u.2.1 8)]))]) (fun u : (Int32 × (Nat → Nat) × (Nat → Int32)) => ([] : List (ClassId × FieldType)))) A)) (by decide +kernel) rfl (Nat.le_of_ble_eq_true rfl) ?_
  intro p e s m args below meth c A ls hx hb hr hml hts hown hlocks hmn htab hA hD hS hP hK hE hsz hl
  have hown : s.vm.findClass RX9 = some m.cls := hown
  have hl : lv_has ls 5 [(0, .ref mo), (1, .int p0)] := hl
  have hw_0 := hts (.methodLink RX9 178 yX9_isCourse) (List.mem_cons_of_mem _ (List.mem_append_left _ (List.mem_of_getElem? (i := 0) rfl)))
  have hw_1 := hts (.instanceMethod yX9_isCourse) (List.mem_cons_of_mem _ (List.mem_append_left _ (List.mem_of_getElem? (i := 1) rfl)))
  have hw_2 := hts (.selects RX9 yX9_isCourse yX9_isCourse) (List.mem_cons_of_mem _ (List.mem_append_left _ (List.mem_of_getElem? (i := 2) rfl)))
  have hw_3 := hts (.initialized RX9) (List.mem_cons_of_mem _ (List.mem_append_left _ (List.mem_of_getElem? (i := 3) rfl)))
  have hw_4 := hts (.fieldLink RX9 16 "ControlWoodModel" "thrown" "I") (List.mem_cons_of_mem _ (List.mem_append_left _ (List.mem_of_getElem? (i := 4) rfl)))
  have hb_0 : ∀ w ∈ us_c_isCourse, w ∈ us_c_mmeanTime := fun w h => List.mem_cons_of_mem _ (List.mem_append_right _ (List.mem_append_left _ h))
  have hb_1 : ∀ w ∈ wsX90, w ∈ us_c_mmeanTime := fun w h => List.mem_cons_of_mem _ (List.mem_append_right _ (List.mem_append_right _ (List.mem_append_left _ h)))
  refine lv_aload_n hx hb dX9_meanTime_0 rfl (lv_at hl 0 rfl) ?_
  refine lv_aload_n hx hb dX9_meanTime_1 rfl (lv_at hl 0 rfl) ?_
  refine lv_iload_n hx hb dX9_meanTime_2 rfl (lv_at hl 1 rfl) ?_
  refine mc_i (wr := [(l3, .inr (5, [.int 1, .ref (D.1 1000), .int 0]))]) (va_runV (As := [.int p0]) (rest := [.ref mo]) ⟨hx, hb, hml, hown, hts⟩ (c_isCourse l hst D mo th m1 m2 m3 m4 m5 l1 l2 l3 l4 p0 s.heap.size) (cwV 1 hts (gi_c (List.mem_cons_of_mem _ (List.mem_append_left _ (List.mem_of_getElem? (i := 0) rfl))) rfl (gi_c (List.mem_cons_of_mem _ (List.mem_append_left _ (List.mem_of_getElem? (i := 1) rfl))) rfl (gi_c (List.mem_cons_of_mem _ (List.mem_append_left _ (List.mem_of_getElem? (i := 2) rfl))) rfl (gi_c (List.mem_cons_of_mem _ (List.mem_append_left _ (List.mem_of_getElem? (i := 3) rfl))) rfl (goodIn_sub hb_0 (List.all_eq_true.mpr gw_c_isCourse)))))) rfl rfl rfl (by decide +kernel) ⟨Nat.le_of_ble_eq_true rfl, Nat.le_of_ble_eq_true rfl⟩) (pr_V (As := [.int p0]) (b := mo) (C := RX9) hP hD hK hS hA hE [0, 1] [] rfl rfl rfl 0 16 rfl rfl rfl) rfl rfl hl.1 rfl (lv_room (Nat.le_of_ble_eq_true rfl)) dX9_meanTime_3 ⟨Nat.le_of_ble_eq_true rfl, Nat.le_of_ble_eq_true rfl⟩) hP hD hK hS hA [0, 1] [2] rfl rfl (by decide) (by decide) (fun r2 _ H locs w1 hP hD hK hS => ?_)
  have hP : va_P D vwCl [(l3, .inr (5, [.int 1, .ref (D.1 1000), .int 0])), (mo, .inr (16, [.int 5, .int 5, .int th, .ref m1, .ref m2, .ref m3, .ref m4, .ref m5, .ref l1, .ref l2, .ref l3, .int (-1), .ref l4])), (l2, .inr (5, [.int 1, .ref (D.1 1000), .int 0]))] H := hP
  have hD : va_D A [(l3, .inr (5, [.int 1, .ref (D.1 1000), .int 0])), (mo, .inr (16, [.int 5, .int 5, .int th, .ref m1, .ref m2, .ref m3, .ref m4, .ref m5, .ref l1, .ref l2, .ref l3, .int (-1), .ref l4])), (l2, .inr (5, [.int 1, .ref (D.1 1000), .int 0]))] := hD
  have hK : va_K D vwCl [] s := hK
  obtain rfl : r2 = 0 := w1
  refine lv_if_ne (tgt := 13) hx hb dX9_meanTime_6 (by decide) (fun h3 => absurd (by decide) h3) (fun h3 => ?_)
  refine lv_iconst (v := 1) hx hb dX9_meanTime_9 (by decide) ?_
  refine lv_goto (tgt := 29) hx hb dX9_meanTime_10 (by decide) ?_
  refine va_put (D := D) (ci := 16) (v := .int 1) (ty := .int) (C := RX9) (T := TX9) (N := 13) hx hb hts hb_1 tyX9 tyX9_ok nmX9 hown hK hP hD hS 1 rfl rfl 2 (by decide) hw_4 (fun _ h9 => h9) rfl (by decide +kernel) rfl rfl (Nat.le_of_ble_eq_true rfl) dX9_meanTime_29 (fun H locs hP hD hS => ?_)
  have hP : va_P D vwCl [(l3, .inr (5, [.int 1, .ref (D.1 1000), .int 0])), (mo, .inr (16, [.int 5, .int 5, .int 1, .ref m1, .ref m2, .ref m3, .ref m4, .ref m5, .ref l1, .ref l2, .ref l3, .int (-1), .ref l4])), (l2, .inr (5, [.int 1, .ref (D.1 1000), .int 0]))] H := hP
  have hD : va_D A [(l3, .inr (5, [.int 1, .ref (D.1 1000), .int 0])), (mo, .inr (16, [.int 5, .int 5, .int 1, .ref m1, .ref m2, .ref m3, .ref m4, .ref m5, .ref l1, .ref l2, .ref l3, .int (-1), .ref l4])), (l2, .inr (5, [.int 1, .ref (D.1 1000), .int 0]))] := hD
  refine lv_aload_n hx hb dX9_meanTime_32 rfl (lv_at hl 0 rfl) ?_
  refine va_get (D := D) (ci := 16) (v := .int 1) (C := RX9) (T := TX9) (N := 13) hx hb hts hb_1 hown hK hP 1 rfl rfl 2 (by decide) hw_4 (fun _ h9 => h9) rfl dX9_meanTime_33 ?_
  refine lv_if_le (tgt := 41) hx hb dX9_meanTime_36 (by decide) (fun h4 => absurd h4 (by decide)) (fun h4 => ?_)
  refine lv_dconst0 hx hb dX9_meanTime_39 ?_
  exact mr_d hx hb hr (1, fun k9 => [m1, m2, m3, m4, m5, l1, l2, l3, l4].getD k9 0, fun k9 => [5, 5, -1].getD k9 0) (rfl) (hP.sub [1] rfl) (hK.sub [] rfl) (hD.sub [1] (by decide) rfl) hS (Nat.le_of_ble_eq_true rfl) (Nat.le_of_ble_eq_true rfl) hlocks dX9_meanTime_40

def us_c_mrunner : List Cond := .code yX9_runner cX9_runner 3 (some .int) :: (([.constantLong RX9 87 (9), .methodLink RX9 72 yX9_in, .static yX9_in, .initialized RX9, .methodLink RX9 178 yX9_isCourse, .instanceMethod yX9_isCourse, .selects RX9 yX9_isCourse yX9_isCourse, .methodLink RX9 76 yX9_fails, .instanceMethod yX9_fails, .selects RX9 yX9_fails yX9_fails] : List Cond) ++ (us_c_in ++ (us_c_isCourse ++ (us_c_fails ++ ([])))))
theorem gw_c_mrunner : ∀ w ∈ us_c_mrunner, goodWord w = true := gw_cons rfl (gw_app (by decide +kernel) (gw_app gw_c_in (gw_app gw_c_isCourse (gw_app gw_c_fails (fun _ h => nomatch h)))))
set_option maxHeartbeats 4000000 in
set_option maxRecDepth 100000 in
/-- the reference refuses runner -/
theorem c_mrunner (l : Launch) (hst : l.stackTraces = false) (D : va_G) (mo : Nat) (th : Int32) (m1 : Nat) (m2 : Nat) (m3 : Nat) (m4 : Nat) (m5 : Nat) (l1 : Nat) (l2 : Nat) (l3 : Nat) (l4 : Nat) (p0 : Int32) (p1 : Int32) (sz : Nat) : Met l yX9_runner us_c_mrunner { frames := 2, cells := 0, slots := 0, locals := 46 } (pw D [.ref mo, .int p0, .int p1] [] [(mo, .inr (16, [.int 5, .int 5, .int th, .ref m1, .ref m2, .ref m3, .ref m4, .ref m5, .ref l1, .ref l2, .ref l3, .int (-1), .ref l4])), (l2, .inr (5, [.int 1, .ref (D.1 1000), .int 0]))] sz) (va_Qi (fun (r : Int32) (u : (Int32 × (Nat → Nat) × (Nat → Int32))) => u.1 = kf_runner p0 p1 ∧ (kf_runner p0 p1 = 0 → r = rf_runner p0 p1)) (qb D (va_A [(mo, .inr (16, [.int 5, .int 5, .int th, .ref m1, .ref m2, .ref m3, .ref m4, .ref m5, .ref l1, .ref l2, .ref l3, .int (-1), .ref l4])), (l2, .inr (5, [.int 1, .ref (D.1 1000), .int 0]))] sz) (fun u : (Int32 × (Nat → Nat) × (Nat → Int32)) => [(mo, .inr (16, [.int (u.2.2 0), .int (u.2.2 1), .int u.1, .ref (u.2.1 0), .ref (u.2.1 1), .ref (u.2.1 2), .ref (u.2.1 3), .ref (u.2.1 4), .ref (u.2.1 5), .ref (u.2.1 6), .ref (u.2.1 7), .int (u.2.2 2), .ref (u.2.1 8)]))]) (fun u : (Int32 × (Nat → Nat) × (Nat → Int32)) => ([] : List (ClassId × FieldType)))) (va_A [(mo, .inr (16, [.int 5, .int 5, .int th, .ref m1, .ref m2, .ref m3, .ref m4, .ref m5, .ref l1, .ref l2, .ref l3, .int (-1), .ref l4])), (l2, .inr (5, [.int 1, .ref (D.1 1000), .int 0]))] sz)) 0 0 (va_A [(mo, .inr (16, [.int 5, .int 5, .int th, .ref m1, .ref m2, .ref m3, .ref m4, .ref m5, .ref l1, .ref l2, .ref l3, .int (-1), .ref l4])), (l2, .inr (5, [.int 1, .ref (D.1 1000), .int 0]))] sz) := by
  refine op_M (Qc := fun A => (va_Qi (fun (r : Int32) (u : (Int32 × (Nat → Nat) × (Nat → Int32))) => u.1 = kf_runner p0 p1 ∧ (kf_runner p0 p1 = 0 → r = rf_runner p0 p1)) (qb D A (fun u : (Int32 × (Nat → Nat) × (Nat → Int32)) => [(mo, .inr (16, [.int (u.2.2 0), .int (u.2.2 1), .int u.1, .ref (u.2.1 0), .ref (u.2.1 1), .ref (u.2.1 2), .ref (u.2.1 3), .ref (u.2.1 4), .ref (u.2.1 5), .ref (u.2.1 6), .ref (u.2.1 7), .int (u.2.2 2), .ref (u.2.1 8)]))]) (fun u : (Int32 × (Nat → Nat) × (Nat → Int32)) => ([] : List (ClassId × FieldType)))) A)) (by decide +kernel) rfl (Nat.le_of_ble_eq_true rfl) ?_
  intro p e s m args below meth c A ls hx hb hr hml hts hown hlocks hmn htab hA hD hS hP hK hE hsz hl
  have hown : s.vm.findClass RX9 = some m.cls := hown
  have hl : lv_has ls 3 [(0, .ref mo), (1, .int p0), (2, .int p1)] := hl
  have hw_0 := hts (.constantLong RX9 87 (9)) (List.mem_cons_of_mem _ (List.mem_append_left _ (List.mem_of_getElem? (i := 0) rfl)))
  have hw_1 := hts (.methodLink RX9 72 yX9_in) (List.mem_cons_of_mem _ (List.mem_append_left _ (List.mem_of_getElem? (i := 1) rfl)))
  have hw_2 := hts (.static yX9_in) (List.mem_cons_of_mem _ (List.mem_append_left _ (List.mem_of_getElem? (i := 2) rfl)))
  have hw_3 := hts (.initialized RX9) (List.mem_cons_of_mem _ (List.mem_append_left _ (List.mem_of_getElem? (i := 3) rfl)))
  have hw_4 := hts (.methodLink RX9 178 yX9_isCourse) (List.mem_cons_of_mem _ (List.mem_append_left _ (List.mem_of_getElem? (i := 4) rfl)))
  have hw_5 := hts (.instanceMethod yX9_isCourse) (List.mem_cons_of_mem _ (List.mem_append_left _ (List.mem_of_getElem? (i := 5) rfl)))
  have hw_6 := hts (.selects RX9 yX9_isCourse yX9_isCourse) (List.mem_cons_of_mem _ (List.mem_append_left _ (List.mem_of_getElem? (i := 6) rfl)))
  have hw_7 := hts (.methodLink RX9 76 yX9_fails) (List.mem_cons_of_mem _ (List.mem_append_left _ (List.mem_of_getElem? (i := 7) rfl)))
  have hw_8 := hts (.instanceMethod yX9_fails) (List.mem_cons_of_mem _ (List.mem_append_left _ (List.mem_of_getElem? (i := 8) rfl)))
  have hw_9 := hts (.selects RX9 yX9_fails yX9_fails) (List.mem_cons_of_mem _ (List.mem_append_left _ (List.mem_of_getElem? (i := 9) rfl)))
  have hb_0 : ∀ w ∈ us_c_in, w ∈ us_c_mrunner := fun w h => List.mem_cons_of_mem _ (List.mem_append_right _ (List.mem_append_left _ h))
  have hb_1 : ∀ w ∈ us_c_isCourse, w ∈ us_c_mrunner := fun w h => List.mem_cons_of_mem _ (List.mem_append_right _ (List.mem_append_right _ (List.mem_append_left _ h)))
  have hb_2 : ∀ w ∈ us_c_fails, w ∈ us_c_mrunner := fun w h => List.mem_cons_of_mem _ (List.mem_append_right _ (List.mem_append_right _ (List.mem_append_right _ (List.mem_append_left _ h))))
  refine lv_iload_n hx hb dX9_runner_0 rfl (lv_at hl 1 rfl) ?_
  refine lv_i2l hx hb dX9_runner_1 rfl ?_
  refine lv_topl (fun x1 e1 => ?_)
  obtain rfl : x1 = p0.toInt64 := e1
  refine lv_lconst (v := 0) hx hb dX9_runner_2 (by decide) ?_
  refine lv_ldc2 hx hb hown hw_0 dX9_runner_3 ?_
  refine mc_i (wr := [(mo, .inr (16, [.int 5, .int 5, .int th, .ref m1, .ref m2, .ref m3, .ref m4, .ref m5, .ref l1, .ref l2, .ref l3, .int (-1), .ref l4])), (l2, .inr (5, [.int 1, .ref (D.1 1000), .int 0]))]) (va_runS (As := [.long p0.toInt64, .long 0, .long 9]) (rest := []) ⟨hx, hb, hml, hown, hts⟩ (c_in l hst D p0 0 9 0 9 s.heap.size (by decide) (by decide)) (va_cwS 3 hts (gi_c (List.mem_cons_of_mem _ (List.mem_append_left _ (List.mem_of_getElem? (i := 1) rfl))) rfl (gi_c (List.mem_cons_of_mem _ (List.mem_append_left _ (List.mem_of_getElem? (i := 2) rfl))) rfl (gi_c (List.mem_cons_of_mem _ (List.mem_append_left _ (List.mem_of_getElem? (i := 3) rfl))) rfl (goodIn_sub hb_0 (List.all_eq_true.mpr gw_c_in))))) rfl rfl rfl (by decide +kernel) ⟨Nat.le_of_ble_eq_true rfl, Nat.le_of_ble_eq_true rfl⟩) (pr_S (As := [.long p0.toInt64, .long 0, .long 9]) hP hD hK hS hA hE [] [] rfl rfl rfl) rfl rfl hl.1 rfl (lv_room (Nat.le_of_ble_eq_true rfl)) dX9_runner_6 ⟨Nat.le_of_ble_eq_true rfl, Nat.le_of_ble_eq_true rfl⟩) hP hD hK hS hA [] [0, 1] rfl rfl (by decide) (by decide) (fun r3 _ H locs w2 hP hD hK hS => ?_)
  have hP : va_P D vwCl [(mo, .inr (16, [.int 5, .int 5, .int th, .ref m1, .ref m2, .ref m3, .ref m4, .ref m5, .ref l1, .ref l2, .ref l3, .int (-1), .ref l4])), (l2, .inr (5, [.int 1, .ref (D.1 1000), .int 0]))] H := hP
  have hD : va_D A [(mo, .inr (16, [.int 5, .int 5, .int th, .ref m1, .ref m2, .ref m3, .ref m4, .ref m5, .ref l1, .ref l2, .ref l3, .int (-1), .ref l4])), (l2, .inr (5, [.int 1, .ref (D.1 1000), .int 0]))] := hD
  have hK : va_K D vwCl [] s := hK
  obtain rfl : r3 = (if inR p0 0 9 then 1 else 0) := w2
  refine lv_if_ne (tgt := 18) hx hb dX9_runner_9 (by decide) (fun h4 => ?_) (fun h4 => ?_)
  · refine lv_aload_n hx hb dX9_runner_18 rfl (lv_at hl 0 rfl) ?_
    refine lv_iload_n hx hb dX9_runner_19 rfl (lv_at hl 2 rfl) ?_
    refine mc_i (wr := []) (va_runV (As := [.int p1]) (rest := []) ⟨hx, hb, hml, hown, hts⟩ (c_isCourse l hst D mo th m1 m2 m3 m4 m5 l1 l2 l3 l4 p1 H.size) (cwV 1 hts (gi_c (List.mem_cons_of_mem _ (List.mem_append_left _ (List.mem_of_getElem? (i := 4) rfl))) rfl (gi_c (List.mem_cons_of_mem _ (List.mem_append_left _ (List.mem_of_getElem? (i := 5) rfl))) rfl (gi_c (List.mem_cons_of_mem _ (List.mem_append_left _ (List.mem_of_getElem? (i := 6) rfl))) rfl (gi_c (List.mem_cons_of_mem _ (List.mem_append_left _ (List.mem_of_getElem? (i := 3) rfl))) rfl (goodIn_sub hb_1 (List.all_eq_true.mpr gw_c_isCourse)))))) rfl rfl rfl (by decide +kernel) ⟨Nat.le_of_ble_eq_true rfl, Nat.le_of_ble_eq_true rfl⟩) (pr_V (As := [.int p1]) (b := mo) (C := RX9) hP hD hK hS hA hE [0, 1] [] rfl rfl rfl 0 16 rfl rfl rfl) rfl rfl hl.1 rfl (lv_room (Nat.le_of_ble_eq_true rfl)) dX9_runner_20 ⟨Nat.le_of_ble_eq_true rfl, Nat.le_of_ble_eq_true rfl⟩) hP hD hK hS hA [0, 1] [] rfl rfl (by decide) (by decide) (fun r6 _ H locs w5 hP hD hK hS => ?_)
    have hP : va_P D vwCl [(mo, .inr (16, [.int 5, .int 5, .int th, .ref m1, .ref m2, .ref m3, .ref m4, .ref m5, .ref l1, .ref l2, .ref l3, .int (-1), .ref l4])), (l2, .inr (5, [.int 1, .ref (D.1 1000), .int 0]))] H := hP
    have hD : va_D A [(mo, .inr (16, [.int 5, .int 5, .int th, .ref m1, .ref m2, .ref m3, .ref m4, .ref m5, .ref l1, .ref l2, .ref l3, .int (-1), .ref l4])), (l2, .inr (5, [.int 1, .ref (D.1 1000), .int 0]))] := hD
    have hK : va_K D vwCl [] s := hK
    obtain rfl : r6 = 0 := w5
    refine lv_if_ne (tgt := 32) hx hb dX9_runner_23 (by decide) (fun h7 => absurd (by decide) h7) (fun h7 => ?_)
    refine lv_aload_n hx hb dX9_runner_26 rfl (lv_at hl 0 rfl) ?_
    refine lv_iconst (v := 2) hx hb dX9_runner_27 (by decide) ?_
    refine mc_i (wr := [(l2, .inr (5, [.int 1, .ref (D.1 1000), .int 0]))]) (va_runV (As := [.int 2]) (rest := []) ⟨hx, hb, hml, hown, hts⟩ (c_fails l hst D mo 5 5 th m1 m2 m3 m4 m5 l1 l2 l3 (-1) l4 2 H.size) (cwV 1 hts (gi_c (List.mem_cons_of_mem _ (List.mem_append_left _ (List.mem_of_getElem? (i := 7) rfl))) rfl (gi_c (List.mem_cons_of_mem _ (List.mem_append_left _ (List.mem_of_getElem? (i := 8) rfl))) rfl (gi_c (List.mem_cons_of_mem _ (List.mem_append_left _ (List.mem_of_getElem? (i := 9) rfl))) rfl (gi_c (List.mem_cons_of_mem _ (List.mem_append_left _ (List.mem_of_getElem? (i := 3) rfl))) rfl (goodIn_sub hb_2 (List.all_eq_true.mpr gw_c_fails)))))) rfl rfl rfl (by decide +kernel) ⟨Nat.le_of_ble_eq_true rfl, Nat.le_of_ble_eq_true rfl⟩) (pr_V (As := [.int 2]) (b := mo) (C := RX9) hP hD hK hS hA hE [0] [] rfl rfl rfl 0 16 rfl rfl rfl) rfl rfl hl.1 rfl (lv_room (Nat.le_of_ble_eq_true rfl)) dX9_runner_28 ⟨Nat.le_of_ble_eq_true rfl, Nat.le_of_ble_eq_true rfl⟩) hP hD hK hS hA [0] [1] rfl rfl (by decide) (by decide) (fun r9 _ H locs w8 hP hD hK hS => ?_)
    have hP : va_P D vwCl [(l2, .inr (5, [.int 1, .ref (D.1 1000), .int 0])), (mo, .inr (16, [.int 5, .int 5, .int 2, .ref m1, .ref m2, .ref m3, .ref m4, .ref m5, .ref l1, .ref l2, .ref l3, .int (-1), .ref l4]))] H := hP
    have hD : va_D A [(l2, .inr (5, [.int 1, .ref (D.1 1000), .int 0])), (mo, .inr (16, [.int 5, .int 5, .int 2, .ref m1, .ref m2, .ref m3, .ref m4, .ref m5, .ref l1, .ref l2, .ref l3, .int (-1), .ref l4]))] := hD
    have hK : va_K D vwCl [] s := hK
    obtain rfl : r9 = 0 := w8
    exact mr_i hx hb hr (2, fun k9 => [m1, m2, m3, m4, m5, l1, l2, l3, l4].getD k9 0, fun k9 => [5, 5, -1].getD k9 0) (⟨(if_pos (ite01_1 h4)).symm, fun q9 => absurd ((if_pos (ite01_1 h4)).symm.trans q9) (by decide)⟩) (hP.sub [1] rfl) (hK.sub [] rfl) (hD.sub [1] (by decide) rfl) hS (Nat.le_of_ble_eq_true rfl) (Nat.le_of_ble_eq_true rfl) hlocks dX9_runner_31
  · refine lv_aload_n hx hb dX9_runner_12 rfl (lv_at hl 0 rfl) ?_
    refine lv_iconst (v := 1) hx hb dX9_runner_13 (by decide) ?_
    refine mc_i (wr := [(l2, .inr (5, [.int 1, .ref (D.1 1000), .int 0]))]) (va_runV (As := [.int 1]) (rest := []) ⟨hx, hb, hml, hown, hts⟩ (c_fails l hst D mo 5 5 th m1 m2 m3 m4 m5 l1 l2 l3 (-1) l4 1 H.size) (cwV 1 hts (gi_c (List.mem_cons_of_mem _ (List.mem_append_left _ (List.mem_of_getElem? (i := 7) rfl))) rfl (gi_c (List.mem_cons_of_mem _ (List.mem_append_left _ (List.mem_of_getElem? (i := 8) rfl))) rfl (gi_c (List.mem_cons_of_mem _ (List.mem_append_left _ (List.mem_of_getElem? (i := 9) rfl))) rfl (gi_c (List.mem_cons_of_mem _ (List.mem_append_left _ (List.mem_of_getElem? (i := 3) rfl))) rfl (goodIn_sub hb_2 (List.all_eq_true.mpr gw_c_fails)))))) rfl rfl rfl (by decide +kernel) ⟨Nat.le_of_ble_eq_true rfl, Nat.le_of_ble_eq_true rfl⟩) (pr_V (As := [.int 1]) (b := mo) (C := RX9) hP hD hK hS hA hE [0] [] rfl rfl rfl 0 16 rfl rfl rfl) rfl rfl hl.1 rfl (lv_room (Nat.le_of_ble_eq_true rfl)) dX9_runner_14 ⟨Nat.le_of_ble_eq_true rfl, Nat.le_of_ble_eq_true rfl⟩) hP hD hK hS hA [0] [1] rfl rfl (by decide) (by decide) (fun r11 _ H locs w10 hP hD hK hS => ?_)
    have hP : va_P D vwCl [(l2, .inr (5, [.int 1, .ref (D.1 1000), .int 0])), (mo, .inr (16, [.int 5, .int 5, .int 1, .ref m1, .ref m2, .ref m3, .ref m4, .ref m5, .ref l1, .ref l2, .ref l3, .int (-1), .ref l4]))] H := hP
    have hD : va_D A [(l2, .inr (5, [.int 1, .ref (D.1 1000), .int 0])), (mo, .inr (16, [.int 5, .int 5, .int 1, .ref m1, .ref m2, .ref m3, .ref m4, .ref m5, .ref l1, .ref l2, .ref l3, .int (-1), .ref l4]))] := hD
    have hK : va_K D vwCl [] s := hK
    obtain rfl : r11 = 0 := w10
    exact mr_i hx hb hr (1, fun k9 => [m1, m2, m3, m4, m5, l1, l2, l3, l4].getD k9 0, fun k9 => [5, 5, -1].getD k9 0) (⟨(if_neg (ite01_0 h4)).symm, fun q9 => absurd ((if_neg (ite01_0 h4)).symm.trans q9) (by decide)⟩) (hP.sub [1] rfl) (hK.sub [] rfl) (hD.sub [1] (by decide) rfl) hS (Nat.le_of_ble_eq_true rfl) (Nat.le_of_ble_eq_true rfl) hlocks dX9_runner_17

def us_c_mcell : List Cond := .code yX9_cell cX9_cell 6 (some .int) :: (([.methodLink RX9 83 yX9_isCell, .instanceMethod yX9_isCell, .selects RX9 yX9_isCell yX9_isCell, .initialized RX9, .constantLong RX9 87 (9), .methodLink RX9 72 yX9_in, .static yX9_in, .methodLink RX9 76 yX9_fails, .instanceMethod yX9_fails, .selects RX9 yX9_fails yX9_fails, .methodLink RX9 89 yX9_isKind, .static yX9_isKind, .fieldLink RX9 19 "ControlWoodModel" "growth" "[I", .fieldLink RX9 23 "ControlWoodModel" "height" "[I", .fieldLink RX9 29 "ControlWoodModel" "kind" "[C", .methodLink RX9 80 yX9_tells, .instanceMethod yX9_tells, .selects RX9 yX9_tells yX9_tells] : List Cond) ++ (us_c_isCell ++ (us_c_in ++ (us_c_fails ++ (us_c_isKind ++ (wsX90 ++ (us_c_tells ++ ([]))))))))
theorem gw_c_mcell : ∀ w ∈ us_c_mcell, goodWord w = true := gw_cons rfl (gw_app (by decide +kernel) (gw_app gw_c_isCell (gw_app gw_c_in (gw_app gw_c_fails (gw_app gw_c_isKind (gw_app gwf_X9 (gw_app gw_c_tells (fun _ h => nomatch h))))))))
set_option maxHeartbeats 4000000 in
set_option maxRecDepth 100000 in
/-- the reference: cell -/
theorem c_mcell (l : Launch) (hst : l.stackTraces = false) (D : va_G) (mo : Nat) (th : Int32) (m1 : Nat) (m2 : Nat) (m3 : Nat) (m4 : Nat) (m5 : Nat) (l1 : Nat) (l2 : Nat) (l3 : Nat) (l4 : Nat) (cm1 : ClassId) (cm2 : ClassId) (cm4 : ClassId) (p0 : Int32) (p1 : Int32) (p2 : Int32) (p3 : Int32) (sz : Nat) : Met l yX9_cell us_c_mcell { frames := 2, cells := 0, slots := 0, locals := 46 } (pw D [.ref mo, .int p0, .int p1, .int p2, .int p3] [(cm1, .int), (cm2, .int), (cm4, .char)] [(mo, .inr (16, [.int 5, .int 5, .int th, .ref m1, .ref m2, .ref m3, .ref m4, .ref m5, .ref l1, .ref l2, .ref l3, .int (-1), .ref l4])), (m1, .inl (cm1, 25, .inl (fun _ => 0))), (m2, .inl (cm2, 25, .inl (fun _ => 0))), (m4, .inl (cm4, 25, .inl fK5))] sz) (va_Qi (fun (r : Int32) (u : (Int32 × (Nat → Nat) × (Nat → Int32))) => u.1 = kf_cell p0 p1 p2 p3 ∧ (kf_cell p0 p1 p2 p3 = 0 → r = rf_cell p0 p1 p2 p3)) (qb D (va_A [(mo, .inr (16, [.int 5, .int 5, .int th, .ref m1, .ref m2, .ref m3, .ref m4, .ref m5, .ref l1, .ref l2, .ref l3, .int (-1), .ref l4])), (m1, .inl (cm1, 25, .inl (fun _ => 0))), (m2, .inl (cm2, 25, .inl (fun _ => 0))), (m4, .inl (cm4, 25, .inl fK5))] sz) (fun u : (Int32 × (Nat → Nat) × (Nat → Int32)) => [(mo, .inr (16, [.int (u.2.2 0), .int (u.2.2 1), .int u.1, .ref (u.2.1 0), .ref (u.2.1 1), .ref (u.2.1 2), .ref (u.2.1 3), .ref (u.2.1 4), .ref (u.2.1 5), .ref (u.2.1 6), .ref (u.2.1 7), .int (u.2.2 2), .ref (u.2.1 8)]))]) (fun u : (Int32 × (Nat → Nat) × (Nat → Int32)) => ([] : List (ClassId × FieldType)))) (va_A [(mo, .inr (16, [.int 5, .int 5, .int th, .ref m1, .ref m2, .ref m3, .ref m4, .ref m5, .ref l1, .ref l2, .ref l3, .int (-1), .ref l4])), (m1, .inl (cm1, 25, .inl (fun _ => 0))), (m2, .inl (cm2, 25, .inl (fun _ => 0))), (m4, .inl (cm4, 25, .inl fK5))] sz)) 0 0 (va_A [(mo, .inr (16, [.int 5, .int 5, .int th, .ref m1, .ref m2, .ref m3, .ref m4, .ref m5, .ref l1, .ref l2, .ref l3, .int (-1), .ref l4])), (m1, .inl (cm1, 25, .inl (fun _ => 0))), (m2, .inl (cm2, 25, .inl (fun _ => 0))), (m4, .inl (cm4, 25, .inl fK5))] sz) := by
  refine op_M (Qc := fun A => (va_Qi (fun (r : Int32) (u : (Int32 × (Nat → Nat) × (Nat → Int32))) => u.1 = kf_cell p0 p1 p2 p3 ∧ (kf_cell p0 p1 p2 p3 = 0 → r = rf_cell p0 p1 p2 p3)) (qb D A (fun u : (Int32 × (Nat → Nat) × (Nat → Int32)) => [(mo, .inr (16, [.int (u.2.2 0), .int (u.2.2 1), .int u.1, .ref (u.2.1 0), .ref (u.2.1 1), .ref (u.2.1 2), .ref (u.2.1 3), .ref (u.2.1 4), .ref (u.2.1 5), .ref (u.2.1 6), .ref (u.2.1 7), .int (u.2.2 2), .ref (u.2.1 8)]))]) (fun u : (Int32 × (Nat → Nat) × (Nat → Int32)) => ([] : List (ClassId × FieldType)))) A)) (by decide +kernel) rfl (Nat.le_of_ble_eq_true rfl) ?_
  intro p e s m args below meth c A ls hx hb hr hml hts hown hlocks hmn htab hA hD hS hP hK hE hsz hl
  have hown : s.vm.findClass RX9 = some m.cls := hown
  have hl : lv_has ls 6 [(0, .ref mo), (1, .int p0), (2, .int p1), (3, .int p2), (4, .int p3)] := hl
  have hw_0 := hts (.methodLink RX9 83 yX9_isCell) (List.mem_cons_of_mem _ (List.mem_append_left _ (List.mem_of_getElem? (i := 0) rfl)))
  have hw_1 := hts (.instanceMethod yX9_isCell) (List.mem_cons_of_mem _ (List.mem_append_left _ (List.mem_of_getElem? (i := 1) rfl)))
  have hw_2 := hts (.selects RX9 yX9_isCell yX9_isCell) (List.mem_cons_of_mem _ (List.mem_append_left _ (List.mem_of_getElem? (i := 2) rfl)))
  have hw_3 := hts (.initialized RX9) (List.mem_cons_of_mem _ (List.mem_append_left _ (List.mem_of_getElem? (i := 3) rfl)))
  have hw_4 := hts (.constantLong RX9 87 (9)) (List.mem_cons_of_mem _ (List.mem_append_left _ (List.mem_of_getElem? (i := 4) rfl)))
  have hw_5 := hts (.methodLink RX9 72 yX9_in) (List.mem_cons_of_mem _ (List.mem_append_left _ (List.mem_of_getElem? (i := 5) rfl)))
  have hw_6 := hts (.static yX9_in) (List.mem_cons_of_mem _ (List.mem_append_left _ (List.mem_of_getElem? (i := 6) rfl)))
  have hw_7 := hts (.methodLink RX9 76 yX9_fails) (List.mem_cons_of_mem _ (List.mem_append_left _ (List.mem_of_getElem? (i := 7) rfl)))
  have hw_8 := hts (.instanceMethod yX9_fails) (List.mem_cons_of_mem _ (List.mem_append_left _ (List.mem_of_getElem? (i := 8) rfl)))
  have hw_9 := hts (.selects RX9 yX9_fails yX9_fails) (List.mem_cons_of_mem _ (List.mem_append_left _ (List.mem_of_getElem? (i := 9) rfl)))
  have hw_10 := hts (.methodLink RX9 89 yX9_isKind) (List.mem_cons_of_mem _ (List.mem_append_left _ (List.mem_of_getElem? (i := 10) rfl)))
  have hw_11 := hts (.static yX9_isKind) (List.mem_cons_of_mem _ (List.mem_append_left _ (List.mem_of_getElem? (i := 11) rfl)))
  have hw_12 := hts (.fieldLink RX9 19 "ControlWoodModel" "growth" "[I") (List.mem_cons_of_mem _ (List.mem_append_left _ (List.mem_of_getElem? (i := 12) rfl)))
  have hw_13 := hts (.fieldLink RX9 23 "ControlWoodModel" "height" "[I") (List.mem_cons_of_mem _ (List.mem_append_left _ (List.mem_of_getElem? (i := 13) rfl)))
  have hw_14 := hts (.fieldLink RX9 29 "ControlWoodModel" "kind" "[C") (List.mem_cons_of_mem _ (List.mem_append_left _ (List.mem_of_getElem? (i := 14) rfl)))
  have hw_15 := hts (.methodLink RX9 80 yX9_tells) (List.mem_cons_of_mem _ (List.mem_append_left _ (List.mem_of_getElem? (i := 15) rfl)))
  have hw_16 := hts (.instanceMethod yX9_tells) (List.mem_cons_of_mem _ (List.mem_append_left _ (List.mem_of_getElem? (i := 16) rfl)))
  have hw_17 := hts (.selects RX9 yX9_tells yX9_tells) (List.mem_cons_of_mem _ (List.mem_append_left _ (List.mem_of_getElem? (i := 17) rfl)))
  have hb_0 : ∀ w ∈ us_c_isCell, w ∈ us_c_mcell := fun w h => List.mem_cons_of_mem _ (List.mem_append_right _ (List.mem_append_left _ h))
  have hb_1 : ∀ w ∈ us_c_in, w ∈ us_c_mcell := fun w h => List.mem_cons_of_mem _ (List.mem_append_right _ (List.mem_append_right _ (List.mem_append_left _ h)))
  have hb_2 : ∀ w ∈ us_c_fails, w ∈ us_c_mcell := fun w h => List.mem_cons_of_mem _ (List.mem_append_right _ (List.mem_append_right _ (List.mem_append_right _ (List.mem_append_left _ h))))
  have hb_3 : ∀ w ∈ us_c_isKind, w ∈ us_c_mcell := fun w h => List.mem_cons_of_mem _ (List.mem_append_right _ (List.mem_append_right _ (List.mem_append_right _ (List.mem_append_right _ (List.mem_append_left _ h)))))
  have hb_4 : ∀ w ∈ wsX90, w ∈ us_c_mcell := fun w h => List.mem_cons_of_mem _ (List.mem_append_right _ (List.mem_append_right _ (List.mem_append_right _ (List.mem_append_right _ (List.mem_append_right _ (List.mem_append_left _ h))))))
  have hb_5 : ∀ w ∈ us_c_tells, w ∈ us_c_mcell := fun w h => List.mem_cons_of_mem _ (List.mem_append_right _ (List.mem_append_right _ (List.mem_append_right _ (List.mem_append_right _ (List.mem_append_right _ (List.mem_append_right _ (List.mem_append_left _ h)))))))
  refine lv_aload_n hx hb dX9_cell_0 rfl (lv_at hl 0 rfl) ?_
  refine lv_iload_n hx hb dX9_cell_1 rfl (lv_at hl 1 rfl) ?_
  refine mc_i (wr := [(m2, .inl (cm2, 25, .inl (fun _ => 0))), (m4, .inl (cm4, 25, .inl fK5))]) (va_runV (As := [.int p0]) (rest := []) ⟨hx, hb, hml, hown, hts⟩ (c_isCell l hst D mo th m1 m2 m3 m4 m5 l1 l2 l3 l4 cm1 p0 s.heap.size) (cwV 1 hts (gi_c (List.mem_cons_of_mem _ (List.mem_append_left _ (List.mem_of_getElem? (i := 0) rfl))) rfl (gi_c (List.mem_cons_of_mem _ (List.mem_append_left _ (List.mem_of_getElem? (i := 1) rfl))) rfl (gi_c (List.mem_cons_of_mem _ (List.mem_append_left _ (List.mem_of_getElem? (i := 2) rfl))) rfl (gi_c (List.mem_cons_of_mem _ (List.mem_append_left _ (List.mem_of_getElem? (i := 3) rfl))) rfl (goodIn_sub hb_0 (List.all_eq_true.mpr gw_c_isCell)))))) rfl rfl rfl (by decide +kernel) ⟨Nat.le_of_ble_eq_true rfl, Nat.le_of_ble_eq_true rfl⟩) (pr_V (As := [.int p0]) (b := mo) (C := RX9) hP hD hK hS hA hE [0, 1] [0] rfl rfl rfl 0 16 rfl rfl rfl) rfl rfl hl.1 rfl (lv_room (Nat.le_of_ble_eq_true rfl)) dX9_cell_2 ⟨Nat.le_of_ble_eq_true rfl, Nat.le_of_ble_eq_true rfl⟩) hP hD hK hS hA [0, 1] [2, 3] rfl rfl (by decide) (by decide) (fun r2 _ H locs w1 hP hD hK hS => ?_)
  have hP : va_P D vwCl [(m2, .inl (cm2, 25, .inl (fun _ => 0))), (m4, .inl (cm4, 25, .inl fK5)), (mo, .inr (16, [.int 5, .int 5, .int th, .ref m1, .ref m2, .ref m3, .ref m4, .ref m5, .ref l1, .ref l2, .ref l3, .int (-1), .ref l4])), (m1, .inl (cm1, 25, .inl (fun _ => 0)))] H := hP
  have hD : va_D A [(m2, .inl (cm2, 25, .inl (fun _ => 0))), (m4, .inl (cm4, 25, .inl fK5)), (mo, .inr (16, [.int 5, .int 5, .int th, .ref m1, .ref m2, .ref m3, .ref m4, .ref m5, .ref l1, .ref l2, .ref l3, .int (-1), .ref l4])), (m1, .inl (cm1, 25, .inl (fun _ => 0)))] := hD
  have hK : va_K D vwCl [(cm1, .int), (cm2, .int), (cm4, .char)] s := hK
  obtain rfl : r2 = (if inI p0 25 then 1 else 0) := w1
  refine lv_if_ne (tgt := 14) hx hb dX9_cell_5 (by decide) (fun h3 => ?_) (fun h3 => ?_)
  · obtain ⟨k0, hk0, rfl⟩ := inI_nI (ite01_1 h3)
    refine lv_iload_n hx hb dX9_cell_14 rfl (lv_at hl 2 rfl) ?_
    refine lv_i2l hx hb dX9_cell_15 rfl ?_
    refine lv_topl (fun x4 e4 => ?_)
    obtain rfl : x4 = p1.toInt64 := e4
    refine lv_lconst (v := 0) hx hb dX9_cell_16 (by decide) ?_
    refine lv_ldc2 hx hb hown hw_4 dX9_cell_17 ?_
    refine mc_i (wr := [(m2, .inl (cm2, 25, .inl (fun _ => 0))), (m4, .inl (cm4, 25, .inl fK5)), (mo, .inr (16, [.int 5, .int 5, .int th, .ref m1, .ref m2, .ref m3, .ref m4, .ref m5, .ref l1, .ref l2, .ref l3, .int (-1), .ref l4])), (m1, .inl (cm1, 25, .inl (fun _ => 0)))]) (va_runS (As := [.long p1.toInt64, .long 0, .long 9]) (rest := []) ⟨hx, hb, hml, hown, hts⟩ (c_in l hst D p1 0 9 0 9 H.size (by decide) (by decide)) (va_cwS 3 hts (gi_c (List.mem_cons_of_mem _ (List.mem_append_left _ (List.mem_of_getElem? (i := 5) rfl))) rfl (gi_c (List.mem_cons_of_mem _ (List.mem_append_left _ (List.mem_of_getElem? (i := 6) rfl))) rfl (gi_c (List.mem_cons_of_mem _ (List.mem_append_left _ (List.mem_of_getElem? (i := 3) rfl))) rfl (goodIn_sub hb_1 (List.all_eq_true.mpr gw_c_in))))) rfl rfl rfl (by decide +kernel) ⟨Nat.le_of_ble_eq_true rfl, Nat.le_of_ble_eq_true rfl⟩) (pr_S (As := [.long p1.toInt64, .long 0, .long 9]) hP hD hK hS hA hE [] [] rfl rfl rfl) rfl rfl hl.1 rfl (lv_room (Nat.le_of_ble_eq_true rfl)) dX9_cell_20 ⟨Nat.le_of_ble_eq_true rfl, Nat.le_of_ble_eq_true rfl⟩) hP hD hK hS hA [] [0, 1, 2, 3] rfl rfl (by decide) (by decide) (fun r6 _ H locs w5 hP hD hK hS => ?_)
    have hP : va_P D vwCl [(m2, .inl (cm2, 25, .inl (fun _ => 0))), (m4, .inl (cm4, 25, .inl fK5)), (mo, .inr (16, [.int 5, .int 5, .int th, .ref m1, .ref m2, .ref m3, .ref m4, .ref m5, .ref l1, .ref l2, .ref l3, .int (-1), .ref l4])), (m1, .inl (cm1, 25, .inl (fun _ => 0)))] H := hP
    have hD : va_D A [(m2, .inl (cm2, 25, .inl (fun _ => 0))), (m4, .inl (cm4, 25, .inl fK5)), (mo, .inr (16, [.int 5, .int 5, .int th, .ref m1, .ref m2, .ref m3, .ref m4, .ref m5, .ref l1, .ref l2, .ref l3, .int (-1), .ref l4])), (m1, .inl (cm1, 25, .inl (fun _ => 0)))] := hD
    have hK : va_K D vwCl [(cm1, .int), (cm2, .int), (cm4, .char)] s := hK
    obtain rfl : r6 = (if inR p1 0 9 then 1 else 0) := w5
    refine lv_if_eq (tgt := 46) hx hb dX9_cell_23 (by decide) (fun h7 => ?_) (fun h7 => ?_)
    · refine lv_aload_n hx hb dX9_cell_46 rfl (lv_at hl 0 rfl) ?_
      refine lv_iconst (v := 2) hx hb dX9_cell_47 (by decide) ?_
      refine mc_i (wr := [(m2, .inl (cm2, 25, .inl (fun _ => 0))), (m4, .inl (cm4, 25, .inl fK5)), (m1, .inl (cm1, 25, .inl (fun _ => 0)))]) (va_runV (As := [.int 2]) (rest := []) ⟨hx, hb, hml, hown, hts⟩ (c_fails l hst D mo 5 5 th m1 m2 m3 m4 m5 l1 l2 l3 (-1) l4 2 H.size) (cwV 1 hts (gi_c (List.mem_cons_of_mem _ (List.mem_append_left _ (List.mem_of_getElem? (i := 7) rfl))) rfl (gi_c (List.mem_cons_of_mem _ (List.mem_append_left _ (List.mem_of_getElem? (i := 8) rfl))) rfl (gi_c (List.mem_cons_of_mem _ (List.mem_append_left _ (List.mem_of_getElem? (i := 9) rfl))) rfl (gi_c (List.mem_cons_of_mem _ (List.mem_append_left _ (List.mem_of_getElem? (i := 3) rfl))) rfl (goodIn_sub hb_2 (List.all_eq_true.mpr gw_c_fails)))))) rfl rfl rfl (by decide +kernel) ⟨Nat.le_of_ble_eq_true rfl, Nat.le_of_ble_eq_true rfl⟩) (pr_V (As := [.int 2]) (b := mo) (C := RX9) hP hD hK hS hA hE [2] [] rfl rfl rfl 2 16 rfl rfl rfl) rfl rfl hl.1 rfl (lv_room (Nat.le_of_ble_eq_true rfl)) dX9_cell_48 ⟨Nat.le_of_ble_eq_true rfl, Nat.le_of_ble_eq_true rfl⟩) hP hD hK hS hA [2] [0, 1, 3] rfl rfl (by decide) (by decide) (fun r9 _ H locs w8 hP hD hK hS => ?_)
      have hP : va_P D vwCl [(m2, .inl (cm2, 25, .inl (fun _ => 0))), (m4, .inl (cm4, 25, .inl fK5)), (m1, .inl (cm1, 25, .inl (fun _ => 0))), (mo, .inr (16, [.int 5, .int 5, .int 2, .ref m1, .ref m2, .ref m3, .ref m4, .ref m5, .ref l1, .ref l2, .ref l3, .int (-1), .ref l4]))] H := hP
      have hD : va_D A [(m2, .inl (cm2, 25, .inl (fun _ => 0))), (m4, .inl (cm4, 25, .inl fK5)), (m1, .inl (cm1, 25, .inl (fun _ => 0))), (mo, .inr (16, [.int 5, .int 5, .int 2, .ref m1, .ref m2, .ref m3, .ref m4, .ref m5, .ref l1, .ref l2, .ref l3, .int (-1), .ref l4]))] := hD
      have hK : va_K D vwCl [(cm1, .int), (cm2, .int), (cm4, .char)] s := hK
      obtain rfl : r9 = 0 := w8
      exact mr_i hx hb hr (2, fun k9 => [m1, m2, m3, m4, m5, l1, l2, l3, l4].getD k9 0, fun k9 => [5, 5, -1].getD k9 0) (⟨((if_pos (ite01_1 h3)).trans (if_neg (ite01_0 h7))).symm, fun q9 => absurd (((if_pos (ite01_1 h3)).trans (if_neg (ite01_0 h7))).symm.trans q9) (by decide)⟩) (hP.sub [3] rfl) (hK.sub [] rfl) (hD.sub [3] (by decide) rfl) hS (Nat.le_of_ble_eq_true rfl) (Nat.le_of_ble_eq_true rfl) hlocks dX9_cell_51
    · refine lv_iload_n hx hb dX9_cell_26 rfl (lv_at hl 3 rfl) ?_
      refine lv_i2l hx hb dX9_cell_27 rfl ?_
      refine lv_topl (fun x10 e10 => ?_)
      obtain rfl : x10 = p2.toInt64 := e10
      refine lv_lconst (v := 0) hx hb dX9_cell_28 (by decide) ?_
      refine lv_ldc2 hx hb hown hw_4 dX9_cell_29 ?_
      refine mc_i (wr := [(m2, .inl (cm2, 25, .inl (fun _ => 0))), (m4, .inl (cm4, 25, .inl fK5)), (mo, .inr (16, [.int 5, .int 5, .int th, .ref m1, .ref m2, .ref m3, .ref m4, .ref m5, .ref l1, .ref l2, .ref l3, .int (-1), .ref l4])), (m1, .inl (cm1, 25, .inl (fun _ => 0)))]) (va_runS (As := [.long p2.toInt64, .long 0, .long 9]) (rest := []) ⟨hx, hb, hml, hown, hts⟩ (c_in l hst D p2 0 9 0 9 H.size (by decide) (by decide)) (va_cwS 3 hts (gi_c (List.mem_cons_of_mem _ (List.mem_append_left _ (List.mem_of_getElem? (i := 5) rfl))) rfl (gi_c (List.mem_cons_of_mem _ (List.mem_append_left _ (List.mem_of_getElem? (i := 6) rfl))) rfl (gi_c (List.mem_cons_of_mem _ (List.mem_append_left _ (List.mem_of_getElem? (i := 3) rfl))) rfl (goodIn_sub hb_1 (List.all_eq_true.mpr gw_c_in))))) rfl rfl rfl (by decide +kernel) ⟨Nat.le_of_ble_eq_true rfl, Nat.le_of_ble_eq_true rfl⟩) (pr_S (As := [.long p2.toInt64, .long 0, .long 9]) hP hD hK hS hA hE [] [] rfl rfl rfl) rfl rfl hl.1 rfl (lv_room (Nat.le_of_ble_eq_true rfl)) dX9_cell_32 ⟨Nat.le_of_ble_eq_true rfl, Nat.le_of_ble_eq_true rfl⟩) hP hD hK hS hA [] [0, 1, 2, 3] rfl rfl (by decide) (by decide) (fun r12 _ H locs w11 hP hD hK hS => ?_)
      have hP : va_P D vwCl [(m2, .inl (cm2, 25, .inl (fun _ => 0))), (m4, .inl (cm4, 25, .inl fK5)), (mo, .inr (16, [.int 5, .int 5, .int th, .ref m1, .ref m2, .ref m3, .ref m4, .ref m5, .ref l1, .ref l2, .ref l3, .int (-1), .ref l4])), (m1, .inl (cm1, 25, .inl (fun _ => 0)))] H := hP
      have hD : va_D A [(m2, .inl (cm2, 25, .inl (fun _ => 0))), (m4, .inl (cm4, 25, .inl fK5)), (mo, .inr (16, [.int 5, .int 5, .int th, .ref m1, .ref m2, .ref m3, .ref m4, .ref m5, .ref l1, .ref l2, .ref l3, .int (-1), .ref l4])), (m1, .inl (cm1, 25, .inl (fun _ => 0)))] := hD
      have hK : va_K D vwCl [(cm1, .int), (cm2, .int), (cm4, .char)] s := hK
      obtain rfl : r12 = (if inR p2 0 9 then 1 else 0) := w11
      refine lv_if_eq (tgt := 46) hx hb dX9_cell_35 (by decide) (fun h13 => ?_) (fun h13 => ?_)
      · refine lv_aload_n hx hb dX9_cell_46 rfl (lv_at hl 0 rfl) ?_
        refine lv_iconst (v := 2) hx hb dX9_cell_47 (by decide) ?_
        refine mc_i (wr := [(m2, .inl (cm2, 25, .inl (fun _ => 0))), (m4, .inl (cm4, 25, .inl fK5)), (m1, .inl (cm1, 25, .inl (fun _ => 0)))]) (va_runV (As := [.int 2]) (rest := []) ⟨hx, hb, hml, hown, hts⟩ (c_fails l hst D mo 5 5 th m1 m2 m3 m4 m5 l1 l2 l3 (-1) l4 2 H.size) (cwV 1 hts (gi_c (List.mem_cons_of_mem _ (List.mem_append_left _ (List.mem_of_getElem? (i := 7) rfl))) rfl (gi_c (List.mem_cons_of_mem _ (List.mem_append_left _ (List.mem_of_getElem? (i := 8) rfl))) rfl (gi_c (List.mem_cons_of_mem _ (List.mem_append_left _ (List.mem_of_getElem? (i := 9) rfl))) rfl (gi_c (List.mem_cons_of_mem _ (List.mem_append_left _ (List.mem_of_getElem? (i := 3) rfl))) rfl (goodIn_sub hb_2 (List.all_eq_true.mpr gw_c_fails)))))) rfl rfl rfl (by decide +kernel) ⟨Nat.le_of_ble_eq_true rfl, Nat.le_of_ble_eq_true rfl⟩) (pr_V (As := [.int 2]) (b := mo) (C := RX9) hP hD hK hS hA hE [2] [] rfl rfl rfl 2 16 rfl rfl rfl) rfl rfl hl.1 rfl (lv_room (Nat.le_of_ble_eq_true rfl)) dX9_cell_48 ⟨Nat.le_of_ble_eq_true rfl, Nat.le_of_ble_eq_true rfl⟩) hP hD hK hS hA [2] [0, 1, 3] rfl rfl (by decide) (by decide) (fun r15 _ H locs w14 hP hD hK hS => ?_)
        have hP : va_P D vwCl [(m2, .inl (cm2, 25, .inl (fun _ => 0))), (m4, .inl (cm4, 25, .inl fK5)), (m1, .inl (cm1, 25, .inl (fun _ => 0))), (mo, .inr (16, [.int 5, .int 5, .int 2, .ref m1, .ref m2, .ref m3, .ref m4, .ref m5, .ref l1, .ref l2, .ref l3, .int (-1), .ref l4]))] H := hP
        have hD : va_D A [(m2, .inl (cm2, 25, .inl (fun _ => 0))), (m4, .inl (cm4, 25, .inl fK5)), (m1, .inl (cm1, 25, .inl (fun _ => 0))), (mo, .inr (16, [.int 5, .int 5, .int 2, .ref m1, .ref m2, .ref m3, .ref m4, .ref m5, .ref l1, .ref l2, .ref l3, .int (-1), .ref l4]))] := hD
        have hK : va_K D vwCl [(cm1, .int), (cm2, .int), (cm4, .char)] s := hK
        obtain rfl : r15 = 0 := w14
        exact mr_i hx hb hr (2, fun k9 => [m1, m2, m3, m4, m5, l1, l2, l3, l4].getD k9 0, fun k9 => [5, 5, -1].getD k9 0) (⟨((if_pos (ite01_1 h3)).trans ((if_pos (ite01_1 h7)).trans (if_neg (ite01_0 h13)))).symm, fun q9 => absurd (((if_pos (ite01_1 h3)).trans ((if_pos (ite01_1 h7)).trans (if_neg (ite01_0 h13)))).symm.trans q9) (by decide)⟩) (hP.sub [3] rfl) (hK.sub [] rfl) (hD.sub [3] (by decide) rfl) hS (Nat.le_of_ble_eq_true rfl) (Nat.le_of_ble_eq_true rfl) hlocks dX9_cell_51
      · refine lv_iload hx hb dX9_cell_38 (lv_at hl 4 rfl) ?_
        refine mc_i (wr := [(m2, .inl (cm2, 25, .inl (fun _ => 0))), (m4, .inl (cm4, 25, .inl fK5)), (mo, .inr (16, [.int 5, .int 5, .int th, .ref m1, .ref m2, .ref m3, .ref m4, .ref m5, .ref l1, .ref l2, .ref l3, .int (-1), .ref l4])), (m1, .inl (cm1, 25, .inl (fun _ => 0)))]) (va_runS (As := [.int p3]) (rest := []) ⟨hx, hb, hml, hown, hts⟩ (c_isKind l hst D p3 H.size) (va_cwS 1 hts (gi_c (List.mem_cons_of_mem _ (List.mem_append_left _ (List.mem_of_getElem? (i := 10) rfl))) rfl (gi_c (List.mem_cons_of_mem _ (List.mem_append_left _ (List.mem_of_getElem? (i := 11) rfl))) rfl (gi_c (List.mem_cons_of_mem _ (List.mem_append_left _ (List.mem_of_getElem? (i := 3) rfl))) rfl (goodIn_sub hb_3 (List.all_eq_true.mpr gw_c_isKind))))) rfl rfl rfl (by decide +kernel) ⟨Nat.le_of_ble_eq_true rfl, Nat.le_of_ble_eq_true rfl⟩) (pr_S (As := [.int p3]) hP hD hK hS hA hE [] [] rfl rfl rfl) rfl rfl hl.1 rfl (lv_room (Nat.le_of_ble_eq_true rfl)) dX9_cell_40 ⟨Nat.le_of_ble_eq_true rfl, Nat.le_of_ble_eq_true rfl⟩) hP hD hK hS hA [] [0, 1, 2, 3] rfl rfl (by decide) (by decide) (fun r17 _ H locs w16 hP hD hK hS => ?_)
        have hP : va_P D vwCl [(m2, .inl (cm2, 25, .inl (fun _ => 0))), (m4, .inl (cm4, 25, .inl fK5)), (mo, .inr (16, [.int 5, .int 5, .int th, .ref m1, .ref m2, .ref m3, .ref m4, .ref m5, .ref l1, .ref l2, .ref l3, .int (-1), .ref l4])), (m1, .inl (cm1, 25, .inl (fun _ => 0)))] H := hP
        have hD : va_D A [(m2, .inl (cm2, 25, .inl (fun _ => 0))), (m4, .inl (cm4, 25, .inl fK5)), (mo, .inr (16, [.int 5, .int 5, .int th, .ref m1, .ref m2, .ref m3, .ref m4, .ref m5, .ref l1, .ref l2, .ref l3, .int (-1), .ref l4])), (m1, .inl (cm1, 25, .inl (fun _ => 0)))] := hD
        have hK : va_K D vwCl [(cm1, .int), (cm2, .int), (cm4, .char)] s := hK
        obtain rfl : r17 = (if okK p3 then 1 else 0) := w16
        refine lv_if_ne (tgt := 52) hx hb dX9_cell_43 (by decide) (fun h18 => ?_) (fun h18 => ?_)
        · refine lv_aload_n hx hb dX9_cell_52 rfl (lv_at hl 0 rfl) ?_
          refine va_get (D := D) (ci := 16) (v := .ref m1) (C := RX9) (T := TX9) (N := 13) hx hb hts hb_4 hown hK hP 2 rfl rfl 3 (by decide) hw_12 (fun _ h9 => h9) rfl dX9_cell_53 ?_
          refine lv_iload_n hx hb dX9_cell_56 rfl (lv_at hl 1 rfl) ?_
          refine va_iald hx hb hK hP 3 0 rfl rfl (vp_in_nI (n := k0) (by omega) (by decide)) dX9_cell_57 ?_
          refine lv_topi (fun x19 e19 => ?_)
          obtain rfl : x19 = 0 := e19
          refine lv_istore (lv' := [(5, .int 0), (0, .ref mo), (1, .int (nI k0)), (2, .int p1), (3, .int p2), (4, .int p3)]) hx hb dX9_cell_58 hl (by decide) rfl (fun ls hl => ?_)
          refine lv_aload_n hx hb dX9_cell_60 rfl (lv_at hl 1 rfl) ?_
          refine va_get (D := D) (ci := 16) (v := .ref m1) (C := RX9) (T := TX9) (N := 13) hx hb hts hb_4 hown hK hP 2 rfl rfl 3 (by decide) hw_12 (fun _ h9 => h9) rfl dX9_cell_61 ?_
          refine lv_iload_n hx hb dX9_cell_64 rfl (lv_at hl 2 rfl) ?_
          refine lv_iload_n hx hb dX9_cell_65 rfl (lv_at hl 3 rfl) ?_
          refine va_iast hx hb hK hP hD hS 3 0 rfl rfl (vp_in_nI (n := k0) (by omega) (by decide)) dX9_cell_66 (fun H locs hP hD hS => ?_)
          have hP : va_P D vwCl [(m2, .inl (cm2, 25, .inl (fun _ => 0))), (m4, .inl (cm4, 25, .inl fK5)), (mo, .inr (16, [.int 5, .int 5, .int th, .ref m1, .ref m2, .ref m3, .ref m4, .ref m5, .ref l1, .ref l2, .ref l3, .int (-1), .ref l4])), (m1, .inl (cm1, 25, .inl (upd (fun _ => 0) ((nI k0).toNatClampNeg) p1)))] H := hP
          have hD : va_D A [(m2, .inl (cm2, 25, .inl (fun _ => 0))), (m4, .inl (cm4, 25, .inl fK5)), (mo, .inr (16, [.int 5, .int 5, .int th, .ref m1, .ref m2, .ref m3, .ref m4, .ref m5, .ref l1, .ref l2, .ref l3, .int (-1), .ref l4])), (m1, .inl (cm1, 25, .inl (upd (fun _ => 0) ((nI k0).toNatClampNeg) p1)))] := hD
          refine lv_aload_n hx hb dX9_cell_67 rfl (lv_at hl 1 rfl) ?_
          refine va_get (D := D) (ci := 16) (v := .ref m2) (C := RX9) (T := TX9) (N := 13) hx hb hts hb_4 hown hK hP 2 rfl rfl 4 (by decide) hw_13 (fun _ h9 => h9) rfl dX9_cell_68 ?_
          refine lv_iload_n hx hb dX9_cell_71 rfl (lv_at hl 2 rfl) ?_
          refine lv_iload_n hx hb dX9_cell_72 rfl (lv_at hl 4 rfl) ?_
          refine va_iast hx hb hK hP hD hS 0 1 rfl rfl (vp_in_nI (n := k0) (by omega) (by decide)) dX9_cell_73 (fun H locs hP hD hS => ?_)
          have hP : va_P D vwCl [(m2, .inl (cm2, 25, .inl (upd (fun _ => 0) ((nI k0).toNatClampNeg) p2))), (m4, .inl (cm4, 25, .inl fK5)), (mo, .inr (16, [.int 5, .int 5, .int th, .ref m1, .ref m2, .ref m3, .ref m4, .ref m5, .ref l1, .ref l2, .ref l3, .int (-1), .ref l4])), (m1, .inl (cm1, 25, .inl (upd (fun _ => 0) ((nI k0).toNatClampNeg) p1)))] H := hP
          have hD : va_D A [(m2, .inl (cm2, 25, .inl (upd (fun _ => 0) ((nI k0).toNatClampNeg) p2))), (m4, .inl (cm4, 25, .inl fK5)), (mo, .inr (16, [.int 5, .int 5, .int th, .ref m1, .ref m2, .ref m3, .ref m4, .ref m5, .ref l1, .ref l2, .ref l3, .int (-1), .ref l4])), (m1, .inl (cm1, 25, .inl (upd (fun _ => 0) ((nI k0).toNatClampNeg) p1)))] := hD
          refine lv_aload_n hx hb dX9_cell_74 rfl (lv_at hl 1 rfl) ?_
          refine va_get (D := D) (ci := 16) (v := .ref m4) (C := RX9) (T := TX9) (N := 13) hx hb hts hb_4 hown hK hP 2 rfl rfl 6 (by decide) hw_14 (fun _ h9 => h9) rfl dX9_cell_75 ?_
          refine lv_iload_n hx hb dX9_cell_78 rfl (lv_at hl 2 rfl) ?_
          refine lv_iload hx hb dX9_cell_79 (lv_at hl 5 rfl) ?_
          refine va_cast hx hb hK hP hD hS 1 2 rfl rfl (vp_in_nI (n := k0) (by omega) (by decide)) dX9_cell_81 (fun H locs hP hD hS => ?_)
          have hP : va_P D vwCl [(m2, .inl (cm2, 25, .inl (upd (fun _ => 0) ((nI k0).toNatClampNeg) p2))), (m4, .inl (cm4, 25, .inl (upd fK5 ((nI k0).toNatClampNeg) (vp_nar .char p3)))), (mo, .inr (16, [.int 5, .int 5, .int th, .ref m1, .ref m2, .ref m3, .ref m4, .ref m5, .ref l1, .ref l2, .ref l3, .int (-1), .ref l4])), (m1, .inl (cm1, 25, .inl (upd (fun _ => 0) ((nI k0).toNatClampNeg) p1)))] H := hP
          have hD : va_D A [(m2, .inl (cm2, 25, .inl (upd (fun _ => 0) ((nI k0).toNatClampNeg) p2))), (m4, .inl (cm4, 25, .inl (upd fK5 ((nI k0).toNatClampNeg) (vp_nar .char p3)))), (mo, .inr (16, [.int 5, .int 5, .int th, .ref m1, .ref m2, .ref m3, .ref m4, .ref m5, .ref l1, .ref l2, .ref l3, .int (-1), .ref l4])), (m1, .inl (cm1, 25, .inl (upd (fun _ => 0) ((nI k0).toNatClampNeg) p1)))] := hD
          refine lv_aload_n hx hb dX9_cell_82 rfl (lv_at hl 1 rfl) ?_
          refine lv_iload hx hb dX9_cell_83 (lv_at hl 0 rfl) ?_
          refine mc_i (wr := [(m2, .inl (cm2, 25, .inl (upd (fun _ => 0) ((nI k0).toNatClampNeg) p2))), (m4, .inl (cm4, 25, .inl (upd fK5 ((nI k0).toNatClampNeg) (vp_nar .char p3)))), (m1, .inl (cm1, 25, .inl (upd (fun _ => 0) ((nI k0).toNatClampNeg) p1)))]) (va_runV (As := [.int 0]) (rest := []) ⟨hx, hb, hml, hown, hts⟩ (c_tells l hst D mo 5 5 th m1 m2 m3 m4 m5 l1 l2 l3 (-1) l4 0 H.size) (cwV 1 hts (gi_c (List.mem_cons_of_mem _ (List.mem_append_left _ (List.mem_of_getElem? (i := 15) rfl))) rfl (gi_c (List.mem_cons_of_mem _ (List.mem_append_left _ (List.mem_of_getElem? (i := 16) rfl))) rfl (gi_c (List.mem_cons_of_mem _ (List.mem_append_left _ (List.mem_of_getElem? (i := 17) rfl))) rfl (gi_c (List.mem_cons_of_mem _ (List.mem_append_left _ (List.mem_of_getElem? (i := 3) rfl))) rfl (goodIn_sub hb_5 (List.all_eq_true.mpr gw_c_tells)))))) rfl rfl rfl (by decide +kernel) ⟨Nat.le_of_ble_eq_true rfl, Nat.le_of_ble_eq_true rfl⟩) (pr_V (As := [.int 0]) (b := mo) (C := RX9) hP hD hK hS hA hE [2] [] rfl rfl rfl 2 16 rfl rfl rfl) rfl rfl hl.1 rfl (lv_room (Nat.le_of_ble_eq_true rfl)) dX9_cell_85 ⟨Nat.le_of_ble_eq_true rfl, Nat.le_of_ble_eq_true rfl⟩) hP hD hK hS hA [2] [0, 1, 3] rfl rfl (by decide) (by decide) (fun r21 _ H locs w20 hP hD hK hS => ?_)
          have hP : va_P D vwCl [(m2, .inl (cm2, 25, .inl (upd (fun _ => 0) ((nI k0).toNatClampNeg) p2))), (m4, .inl (cm4, 25, .inl (upd fK5 ((nI k0).toNatClampNeg) (vp_nar .char p3)))), (m1, .inl (cm1, 25, .inl (upd (fun _ => 0) ((nI k0).toNatClampNeg) p1))), (mo, .inr (16, [.int 5, .int 5, .int 0, .ref m1, .ref m2, .ref m3, .ref m4, .ref m5, .ref l1, .ref l2, .ref l3, .int (-1), .ref l4]))] H := hP
          have hD : va_D A [(m2, .inl (cm2, 25, .inl (upd (fun _ => 0) ((nI k0).toNatClampNeg) p2))), (m4, .inl (cm4, 25, .inl (upd fK5 ((nI k0).toNatClampNeg) (vp_nar .char p3)))), (m1, .inl (cm1, 25, .inl (upd (fun _ => 0) ((nI k0).toNatClampNeg) p1))), (mo, .inr (16, [.int 5, .int 5, .int 0, .ref m1, .ref m2, .ref m3, .ref m4, .ref m5, .ref l1, .ref l2, .ref l3, .int (-1), .ref l4]))] := hD
          have hK : va_K D vwCl [(cm1, .int), (cm2, .int), (cm4, .char)] s := hK
          obtain rfl : r21 = 0 := w20
          exact mr_i hx hb hr (0, fun k9 => [m1, m2, m3, m4, m5, l1, l2, l3, l4].getD k9 0, fun k9 => [5, 5, -1].getD k9 0) (⟨((if_pos (ite01_1 h3)).trans ((if_pos (ite01_1 h7)).trans ((if_pos (ite01_1 h13)).trans (if_pos (ite01_1 h18))))).symm, fun _ => rfl⟩) (hP.sub [3] rfl) (hK.sub [] rfl) (hD.sub [3] (by decide) rfl) hS (Nat.le_of_ble_eq_true rfl) (Nat.le_of_ble_eq_true rfl) hlocks dX9_cell_88
        · refine lv_aload_n hx hb dX9_cell_46 rfl (lv_at hl 0 rfl) ?_
          refine lv_iconst (v := 2) hx hb dX9_cell_47 (by decide) ?_
          refine mc_i (wr := [(m2, .inl (cm2, 25, .inl (fun _ => 0))), (m4, .inl (cm4, 25, .inl fK5)), (m1, .inl (cm1, 25, .inl (fun _ => 0)))]) (va_runV (As := [.int 2]) (rest := []) ⟨hx, hb, hml, hown, hts⟩ (c_fails l hst D mo 5 5 th m1 m2 m3 m4 m5 l1 l2 l3 (-1) l4 2 H.size) (cwV 1 hts (gi_c (List.mem_cons_of_mem _ (List.mem_append_left _ (List.mem_of_getElem? (i := 7) rfl))) rfl (gi_c (List.mem_cons_of_mem _ (List.mem_append_left _ (List.mem_of_getElem? (i := 8) rfl))) rfl (gi_c (List.mem_cons_of_mem _ (List.mem_append_left _ (List.mem_of_getElem? (i := 9) rfl))) rfl (gi_c (List.mem_cons_of_mem _ (List.mem_append_left _ (List.mem_of_getElem? (i := 3) rfl))) rfl (goodIn_sub hb_2 (List.all_eq_true.mpr gw_c_fails)))))) rfl rfl rfl (by decide +kernel) ⟨Nat.le_of_ble_eq_true rfl, Nat.le_of_ble_eq_true rfl⟩) (pr_V (As := [.int 2]) (b := mo) (C := RX9) hP hD hK hS hA hE [2] [] rfl rfl rfl 2 16 rfl rfl rfl) rfl rfl hl.1 rfl (lv_room (Nat.le_of_ble_eq_true rfl)) dX9_cell_48 ⟨Nat.le_of_ble_eq_true rfl, Nat.le_of_ble_eq_true rfl⟩) hP hD hK hS hA [2] [0, 1, 3] rfl rfl (by decide) (by decide) (fun r23 _ H locs w22 hP hD hK hS => ?_)
          have hP : va_P D vwCl [(m2, .inl (cm2, 25, .inl (fun _ => 0))), (m4, .inl (cm4, 25, .inl fK5)), (m1, .inl (cm1, 25, .inl (fun _ => 0))), (mo, .inr (16, [.int 5, .int 5, .int 2, .ref m1, .ref m2, .ref m3, .ref m4, .ref m5, .ref l1, .ref l2, .ref l3, .int (-1), .ref l4]))] H := hP
          have hD : va_D A [(m2, .inl (cm2, 25, .inl (fun _ => 0))), (m4, .inl (cm4, 25, .inl fK5)), (m1, .inl (cm1, 25, .inl (fun _ => 0))), (mo, .inr (16, [.int 5, .int 5, .int 2, .ref m1, .ref m2, .ref m3, .ref m4, .ref m5, .ref l1, .ref l2, .ref l3, .int (-1), .ref l4]))] := hD
          have hK : va_K D vwCl [(cm1, .int), (cm2, .int), (cm4, .char)] s := hK
          obtain rfl : r23 = 0 := w22
          exact mr_i hx hb hr (2, fun k9 => [m1, m2, m3, m4, m5, l1, l2, l3, l4].getD k9 0, fun k9 => [5, 5, -1].getD k9 0) (⟨((if_pos (ite01_1 h3)).trans ((if_pos (ite01_1 h7)).trans ((if_pos (ite01_1 h13)).trans (if_neg (ite01_0 h18))))).symm, fun q9 => absurd (((if_pos (ite01_1 h3)).trans ((if_pos (ite01_1 h7)).trans ((if_pos (ite01_1 h13)).trans (if_neg (ite01_0 h18))))).symm.trans q9) (by decide)⟩) (hP.sub [3] rfl) (hK.sub [] rfl) (hD.sub [3] (by decide) rfl) hS (Nat.le_of_ble_eq_true rfl) (Nat.le_of_ble_eq_true rfl) hlocks dX9_cell_51
  · refine lv_aload_n hx hb dX9_cell_8 rfl (lv_at hl 0 rfl) ?_
    refine lv_iconst (v := 1) hx hb dX9_cell_9 (by decide) ?_
    refine mc_i (wr := [(m2, .inl (cm2, 25, .inl (fun _ => 0))), (m4, .inl (cm4, 25, .inl fK5)), (m1, .inl (cm1, 25, .inl (fun _ => 0)))]) (va_runV (As := [.int 1]) (rest := []) ⟨hx, hb, hml, hown, hts⟩ (c_fails l hst D mo 5 5 th m1 m2 m3 m4 m5 l1 l2 l3 (-1) l4 1 H.size) (cwV 1 hts (gi_c (List.mem_cons_of_mem _ (List.mem_append_left _ (List.mem_of_getElem? (i := 7) rfl))) rfl (gi_c (List.mem_cons_of_mem _ (List.mem_append_left _ (List.mem_of_getElem? (i := 8) rfl))) rfl (gi_c (List.mem_cons_of_mem _ (List.mem_append_left _ (List.mem_of_getElem? (i := 9) rfl))) rfl (gi_c (List.mem_cons_of_mem _ (List.mem_append_left _ (List.mem_of_getElem? (i := 3) rfl))) rfl (goodIn_sub hb_2 (List.all_eq_true.mpr gw_c_fails)))))) rfl rfl rfl (by decide +kernel) ⟨Nat.le_of_ble_eq_true rfl, Nat.le_of_ble_eq_true rfl⟩) (pr_V (As := [.int 1]) (b := mo) (C := RX9) hP hD hK hS hA hE [2] [] rfl rfl rfl 2 16 rfl rfl rfl) rfl rfl hl.1 rfl (lv_room (Nat.le_of_ble_eq_true rfl)) dX9_cell_10 ⟨Nat.le_of_ble_eq_true rfl, Nat.le_of_ble_eq_true rfl⟩) hP hD hK hS hA [2] [0, 1, 3] rfl rfl (by decide) (by decide) (fun r25 _ H locs w24 hP hD hK hS => ?_)
    have hP : va_P D vwCl [(m2, .inl (cm2, 25, .inl (fun _ => 0))), (m4, .inl (cm4, 25, .inl fK5)), (m1, .inl (cm1, 25, .inl (fun _ => 0))), (mo, .inr (16, [.int 5, .int 5, .int 1, .ref m1, .ref m2, .ref m3, .ref m4, .ref m5, .ref l1, .ref l2, .ref l3, .int (-1), .ref l4]))] H := hP
    have hD : va_D A [(m2, .inl (cm2, 25, .inl (fun _ => 0))), (m4, .inl (cm4, 25, .inl fK5)), (m1, .inl (cm1, 25, .inl (fun _ => 0))), (mo, .inr (16, [.int 5, .int 5, .int 1, .ref m1, .ref m2, .ref m3, .ref m4, .ref m5, .ref l1, .ref l2, .ref l3, .int (-1), .ref l4]))] := hD
    have hK : va_K D vwCl [(cm1, .int), (cm2, .int), (cm4, .char)] s := hK
    obtain rfl : r25 = 0 := w24
    exact mr_i hx hb hr (1, fun k9 => [m1, m2, m3, m4, m5, l1, l2, l3, l4].getD k9 0, fun k9 => [5, 5, -1].getD k9 0) (⟨(if_neg (ite01_0 h3)).symm, fun q9 => absurd ((if_neg (ite01_0 h3)).symm.trans q9) (by decide)⟩) (hP.sub [3] rfl) (hK.sub [] rfl) (hD.sub [3] (by decide) rfl) hS (Nat.le_of_ble_eq_true rfl) (Nat.le_of_ble_eq_true rfl) hlocks dX9_cell_13

def us_c_mlate : List Cond := .code yX9_late cX9_late 4 (some .int) :: (([.constantLong RX9 240 (9999), .methodLink RX9 72 yX9_in, .static yX9_in, .initialized RX9, .methodLink RX9 76 yX9_fails, .instanceMethod yX9_fails, .selects RX9 yX9_fails yX9_fails, .constantLong RX9 139 (99), .methodLink RX9 105 Lib.Math.max.name, .static Lib.Math.max.name, .initialized "java/lang/Math", .code Lib.Math.max.name Lib.Math.max.code 2 (some .int), .methodLink RX9 80 yX9_tells, .instanceMethod yX9_tells, .selects RX9 yX9_tells yX9_tells] : List Cond) ++ (us_c_in ++ (us_c_fails ++ (us_c_tells ++ ([])))))
theorem gw_c_mlate : ∀ w ∈ us_c_mlate, goodWord w = true := gw_cons rfl (gw_app (by decide +kernel) (gw_app gw_c_in (gw_app gw_c_fails (gw_app gw_c_tells (fun _ h => nomatch h)))))
set_option maxHeartbeats 4000000 in
set_option maxRecDepth 100000 in
/-- the reference: late -/
theorem c_mlate (l : Launch) (hst : l.stackTraces = false) (D : va_G) (mo : Nat) (th : Int32) (m1 : Nat) (m2 : Nat) (m3 : Nat) (m4 : Nat) (m5 : Nat) (l1 : Nat) (l2 : Nat) (l3 : Nat) (l4 : Nat) (p0 : Int32) (p1 : Int32) (p2 : Int32) (sz : Nat) : Met l yX9_late us_c_mlate { frames := 1, cells := 0, slots := 0, locals := 25 } (pw D [.ref mo, .int p0, .int p1, .int p2] [] [(mo, .inr (16, [.int 5, .int 5, .int th, .ref m1, .ref m2, .ref m3, .ref m4, .ref m5, .ref l1, .ref l2, .ref l3, .int (-1), .ref l4]))] sz) (va_Qi (fun (r : Int32) (u : (Int32 × (Nat → Nat) × (Nat → Int32))) => u.1 = kf_late p0 p1 p2 ∧ (kf_late p0 p1 p2 = 0 → r = rf_late p0 p1 p2)) (qb D (va_A [(mo, .inr (16, [.int 5, .int 5, .int th, .ref m1, .ref m2, .ref m3, .ref m4, .ref m5, .ref l1, .ref l2, .ref l3, .int (-1), .ref l4]))] sz) (fun u : (Int32 × (Nat → Nat) × (Nat → Int32)) => [(mo, .inr (16, [.int (u.2.2 0), .int (u.2.2 1), .int u.1, .ref (u.2.1 0), .ref (u.2.1 1), .ref (u.2.1 2), .ref (u.2.1 3), .ref (u.2.1 4), .ref (u.2.1 5), .ref (u.2.1 6), .ref (u.2.1 7), .int (u.2.2 2), .ref (u.2.1 8)]))]) (fun u : (Int32 × (Nat → Nat) × (Nat → Int32)) => ([] : List (ClassId × FieldType)))) (va_A [(mo, .inr (16, [.int 5, .int 5, .int th, .ref m1, .ref m2, .ref m3, .ref m4, .ref m5, .ref l1, .ref l2, .ref l3, .int (-1), .ref l4]))] sz)) 0 0 (va_A [(mo, .inr (16, [.int 5, .int 5, .int th, .ref m1, .ref m2, .ref m3, .ref m4, .ref m5, .ref l1, .ref l2, .ref l3, .int (-1), .ref l4]))] sz) := by
  refine op_M (Qc := fun A => (va_Qi (fun (r : Int32) (u : (Int32 × (Nat → Nat) × (Nat → Int32))) => u.1 = kf_late p0 p1 p2 ∧ (kf_late p0 p1 p2 = 0 → r = rf_late p0 p1 p2)) (qb D A (fun u : (Int32 × (Nat → Nat) × (Nat → Int32)) => [(mo, .inr (16, [.int (u.2.2 0), .int (u.2.2 1), .int u.1, .ref (u.2.1 0), .ref (u.2.1 1), .ref (u.2.1 2), .ref (u.2.1 3), .ref (u.2.1 4), .ref (u.2.1 5), .ref (u.2.1 6), .ref (u.2.1 7), .int (u.2.2 2), .ref (u.2.1 8)]))]) (fun u : (Int32 × (Nat → Nat) × (Nat → Int32)) => ([] : List (ClassId × FieldType)))) A)) (by decide +kernel) rfl (Nat.le_of_ble_eq_true rfl) ?_
  intro p e s m args below meth c A ls hx hb hr hml hts hown hlocks hmn htab hA hD hS hP hK hE hsz hl
  have hown : s.vm.findClass RX9 = some m.cls := hown
  have hl : lv_has ls 4 [(0, .ref mo), (1, .int p0), (2, .int p1), (3, .int p2)] := hl
  have hw_0 := hts (.constantLong RX9 240 (9999)) (List.mem_cons_of_mem _ (List.mem_append_left _ (List.mem_of_getElem? (i := 0) rfl)))
  have hw_1 := hts (.methodLink RX9 72 yX9_in) (List.mem_cons_of_mem _ (List.mem_append_left _ (List.mem_of_getElem? (i := 1) rfl)))
  have hw_2 := hts (.static yX9_in) (List.mem_cons_of_mem _ (List.mem_append_left _ (List.mem_of_getElem? (i := 2) rfl)))
  have hw_3 := hts (.initialized RX9) (List.mem_cons_of_mem _ (List.mem_append_left _ (List.mem_of_getElem? (i := 3) rfl)))
  have hw_4 := hts (.methodLink RX9 76 yX9_fails) (List.mem_cons_of_mem _ (List.mem_append_left _ (List.mem_of_getElem? (i := 4) rfl)))
  have hw_5 := hts (.instanceMethod yX9_fails) (List.mem_cons_of_mem _ (List.mem_append_left _ (List.mem_of_getElem? (i := 5) rfl)))
  have hw_6 := hts (.selects RX9 yX9_fails yX9_fails) (List.mem_cons_of_mem _ (List.mem_append_left _ (List.mem_of_getElem? (i := 6) rfl)))
  have hw_7 := hts (.constantLong RX9 139 (99)) (List.mem_cons_of_mem _ (List.mem_append_left _ (List.mem_of_getElem? (i := 7) rfl)))
  have hw_8 := hts (.methodLink RX9 105 Lib.Math.max.name) (List.mem_cons_of_mem _ (List.mem_append_left _ (List.mem_of_getElem? (i := 8) rfl)))
  have hw_9 := hts (.static Lib.Math.max.name) (List.mem_cons_of_mem _ (List.mem_append_left _ (List.mem_of_getElem? (i := 9) rfl)))
  have hw_10 := hts (.initialized "java/lang/Math") (List.mem_cons_of_mem _ (List.mem_append_left _ (List.mem_of_getElem? (i := 10) rfl)))
  have hw_11 := hts (.code Lib.Math.max.name Lib.Math.max.code 2 (some .int)) (List.mem_cons_of_mem _ (List.mem_append_left _ (List.mem_of_getElem? (i := 11) rfl)))
  have hw_12 := hts (.methodLink RX9 80 yX9_tells) (List.mem_cons_of_mem _ (List.mem_append_left _ (List.mem_of_getElem? (i := 12) rfl)))
  have hw_13 := hts (.instanceMethod yX9_tells) (List.mem_cons_of_mem _ (List.mem_append_left _ (List.mem_of_getElem? (i := 13) rfl)))
  have hw_14 := hts (.selects RX9 yX9_tells yX9_tells) (List.mem_cons_of_mem _ (List.mem_append_left _ (List.mem_of_getElem? (i := 14) rfl)))
  have hb_0 : ∀ w ∈ us_c_in, w ∈ us_c_mlate := fun w h => List.mem_cons_of_mem _ (List.mem_append_right _ (List.mem_append_left _ h))
  have hb_1 : ∀ w ∈ us_c_fails, w ∈ us_c_mlate := fun w h => List.mem_cons_of_mem _ (List.mem_append_right _ (List.mem_append_right _ (List.mem_append_left _ h)))
  have hb_2 : ∀ w ∈ us_c_tells, w ∈ us_c_mlate := fun w h => List.mem_cons_of_mem _ (List.mem_append_right _ (List.mem_append_right _ (List.mem_append_right _ (List.mem_append_left _ h))))
  refine lv_iload_n hx hb dX9_late_0 rfl (lv_at hl 1 rfl) ?_
  refine lv_i2l hx hb dX9_late_1 rfl ?_
  refine lv_topl (fun x1 e1 => ?_)
  obtain rfl : x1 = p0.toInt64 := e1
  refine lv_lconst (v := 0) hx hb dX9_late_2 (by decide) ?_
  refine lv_ldc2 hx hb hown hw_0 dX9_late_3 ?_
  refine mc_i (wr := [(mo, .inr (16, [.int 5, .int 5, .int th, .ref m1, .ref m2, .ref m3, .ref m4, .ref m5, .ref l1, .ref l2, .ref l3, .int (-1), .ref l4]))]) (va_runS (As := [.long p0.toInt64, .long 0, .long 9999]) (rest := []) ⟨hx, hb, hml, hown, hts⟩ (c_in l hst D p0 0 9999 0 9999 s.heap.size (by decide) (by decide)) (va_cwS 3 hts (gi_c (List.mem_cons_of_mem _ (List.mem_append_left _ (List.mem_of_getElem? (i := 1) rfl))) rfl (gi_c (List.mem_cons_of_mem _ (List.mem_append_left _ (List.mem_of_getElem? (i := 2) rfl))) rfl (gi_c (List.mem_cons_of_mem _ (List.mem_append_left _ (List.mem_of_getElem? (i := 3) rfl))) rfl (goodIn_sub hb_0 (List.all_eq_true.mpr gw_c_in))))) rfl rfl rfl (by decide +kernel) ⟨Nat.le_of_ble_eq_true rfl, Nat.le_of_ble_eq_true rfl⟩) (pr_S (As := [.long p0.toInt64, .long 0, .long 9999]) hP hD hK hS hA hE [] [] rfl rfl rfl) rfl rfl hl.1 rfl (lv_room (Nat.le_of_ble_eq_true rfl)) dX9_late_6 ⟨Nat.le_of_ble_eq_true rfl, Nat.le_of_ble_eq_true rfl⟩) hP hD hK hS hA [] [0] rfl rfl (by decide) (by decide) (fun r3 _ H locs w2 hP hD hK hS => ?_)
  have hP : va_P D vwCl [(mo, .inr (16, [.int 5, .int 5, .int th, .ref m1, .ref m2, .ref m3, .ref m4, .ref m5, .ref l1, .ref l2, .ref l3, .int (-1), .ref l4]))] H := hP
  have hD : va_D A [(mo, .inr (16, [.int 5, .int 5, .int th, .ref m1, .ref m2, .ref m3, .ref m4, .ref m5, .ref l1, .ref l2, .ref l3, .int (-1), .ref l4]))] := hD
  have hK : va_K D vwCl [] s := hK
  obtain rfl : r3 = (if inR p0 0 9999 then 1 else 0) := w2
  refine lv_if_eq (tgt := 36) hx hb dX9_late_9 (by decide) (fun h4 => ?_) (fun h4 => ?_)
  · refine lv_aload_n hx hb dX9_late_36 rfl (lv_at hl 0 rfl) ?_
    refine lv_iconst (v := 1) hx hb dX9_late_37 (by decide) ?_
    refine mc_i (wr := []) (va_runV (As := [.int 1]) (rest := []) ⟨hx, hb, hml, hown, hts⟩ (c_fails l hst D mo 5 5 th m1 m2 m3 m4 m5 l1 l2 l3 (-1) l4 1 H.size) (cwV 1 hts (gi_c (List.mem_cons_of_mem _ (List.mem_append_left _ (List.mem_of_getElem? (i := 4) rfl))) rfl (gi_c (List.mem_cons_of_mem _ (List.mem_append_left _ (List.mem_of_getElem? (i := 5) rfl))) rfl (gi_c (List.mem_cons_of_mem _ (List.mem_append_left _ (List.mem_of_getElem? (i := 6) rfl))) rfl (gi_c (List.mem_cons_of_mem _ (List.mem_append_left _ (List.mem_of_getElem? (i := 3) rfl))) rfl (goodIn_sub hb_1 (List.all_eq_true.mpr gw_c_fails)))))) rfl rfl rfl (by decide +kernel) ⟨Nat.le_of_ble_eq_true rfl, Nat.le_of_ble_eq_true rfl⟩) (pr_V (As := [.int 1]) (b := mo) (C := RX9) hP hD hK hS hA hE [0] [] rfl rfl rfl 0 16 rfl rfl rfl) rfl rfl hl.1 rfl (lv_room (Nat.le_of_ble_eq_true rfl)) dX9_late_38 ⟨Nat.le_of_ble_eq_true rfl, Nat.le_of_ble_eq_true rfl⟩) hP hD hK hS hA [0] [] rfl rfl (by decide) (by decide) (fun r6 _ H locs w5 hP hD hK hS => ?_)
    have hP : va_P D vwCl [(mo, .inr (16, [.int 5, .int 5, .int 1, .ref m1, .ref m2, .ref m3, .ref m4, .ref m5, .ref l1, .ref l2, .ref l3, .int (-1), .ref l4]))] H := hP
    have hD : va_D A [(mo, .inr (16, [.int 5, .int 5, .int 1, .ref m1, .ref m2, .ref m3, .ref m4, .ref m5, .ref l1, .ref l2, .ref l3, .int (-1), .ref l4]))] := hD
    have hK : va_K D vwCl [] s := hK
    obtain rfl : r6 = 0 := w5
    exact mr_i hx hb hr (1, fun k9 => [m1, m2, m3, m4, m5, l1, l2, l3, l4].getD k9 0, fun k9 => [5, 5, -1].getD k9 0) (⟨(if_neg (ite01_0 h4)).symm, fun q9 => absurd ((if_neg (ite01_0 h4)).symm.trans q9) (by decide)⟩) (hP.sub [0] rfl) (hK.sub [] rfl) (hD.sub [0] (by decide) rfl) hS (Nat.le_of_ble_eq_true rfl) (Nat.le_of_ble_eq_true rfl) hlocks dX9_late_41
  · refine lv_iload_n hx hb dX9_late_12 rfl (lv_at hl 2 rfl) ?_
    refine lv_i2l hx hb dX9_late_13 rfl ?_
    refine lv_topl (fun x7 e7 => ?_)
    obtain rfl : x7 = p1.toInt64 := e7
    refine lv_lconst (v := 0) hx hb dX9_late_14 (by decide) ?_
    refine lv_ldc2 hx hb hown hw_0 dX9_late_15 ?_
    refine mc_i (wr := [(mo, .inr (16, [.int 5, .int 5, .int th, .ref m1, .ref m2, .ref m3, .ref m4, .ref m5, .ref l1, .ref l2, .ref l3, .int (-1), .ref l4]))]) (va_runS (As := [.long p1.toInt64, .long 0, .long 9999]) (rest := []) ⟨hx, hb, hml, hown, hts⟩ (c_in l hst D p1 0 9999 0 9999 H.size (by decide) (by decide)) (va_cwS 3 hts (gi_c (List.mem_cons_of_mem _ (List.mem_append_left _ (List.mem_of_getElem? (i := 1) rfl))) rfl (gi_c (List.mem_cons_of_mem _ (List.mem_append_left _ (List.mem_of_getElem? (i := 2) rfl))) rfl (gi_c (List.mem_cons_of_mem _ (List.mem_append_left _ (List.mem_of_getElem? (i := 3) rfl))) rfl (goodIn_sub hb_0 (List.all_eq_true.mpr gw_c_in))))) rfl rfl rfl (by decide +kernel) ⟨Nat.le_of_ble_eq_true rfl, Nat.le_of_ble_eq_true rfl⟩) (pr_S (As := [.long p1.toInt64, .long 0, .long 9999]) hP hD hK hS hA hE [] [] rfl rfl rfl) rfl rfl hl.1 rfl (lv_room (Nat.le_of_ble_eq_true rfl)) dX9_late_18 ⟨Nat.le_of_ble_eq_true rfl, Nat.le_of_ble_eq_true rfl⟩) hP hD hK hS hA [] [0] rfl rfl (by decide) (by decide) (fun r9 _ H locs w8 hP hD hK hS => ?_)
    have hP : va_P D vwCl [(mo, .inr (16, [.int 5, .int 5, .int th, .ref m1, .ref m2, .ref m3, .ref m4, .ref m5, .ref l1, .ref l2, .ref l3, .int (-1), .ref l4]))] H := hP
    have hD : va_D A [(mo, .inr (16, [.int 5, .int 5, .int th, .ref m1, .ref m2, .ref m3, .ref m4, .ref m5, .ref l1, .ref l2, .ref l3, .int (-1), .ref l4]))] := hD
    have hK : va_K D vwCl [] s := hK
    obtain rfl : r9 = (if inR p1 0 9999 then 1 else 0) := w8
    refine lv_if_eq (tgt := 36) hx hb dX9_late_21 (by decide) (fun h10 => ?_) (fun h10 => ?_)
    · refine lv_aload_n hx hb dX9_late_36 rfl (lv_at hl 0 rfl) ?_
      refine lv_iconst (v := 1) hx hb dX9_late_37 (by decide) ?_
      refine mc_i (wr := []) (va_runV (As := [.int 1]) (rest := []) ⟨hx, hb, hml, hown, hts⟩ (c_fails l hst D mo 5 5 th m1 m2 m3 m4 m5 l1 l2 l3 (-1) l4 1 H.size) (cwV 1 hts (gi_c (List.mem_cons_of_mem _ (List.mem_append_left _ (List.mem_of_getElem? (i := 4) rfl))) rfl (gi_c (List.mem_cons_of_mem _ (List.mem_append_left _ (List.mem_of_getElem? (i := 5) rfl))) rfl (gi_c (List.mem_cons_of_mem _ (List.mem_append_left _ (List.mem_of_getElem? (i := 6) rfl))) rfl (gi_c (List.mem_cons_of_mem _ (List.mem_append_left _ (List.mem_of_getElem? (i := 3) rfl))) rfl (goodIn_sub hb_1 (List.all_eq_true.mpr gw_c_fails)))))) rfl rfl rfl (by decide +kernel) ⟨Nat.le_of_ble_eq_true rfl, Nat.le_of_ble_eq_true rfl⟩) (pr_V (As := [.int 1]) (b := mo) (C := RX9) hP hD hK hS hA hE [0] [] rfl rfl rfl 0 16 rfl rfl rfl) rfl rfl hl.1 rfl (lv_room (Nat.le_of_ble_eq_true rfl)) dX9_late_38 ⟨Nat.le_of_ble_eq_true rfl, Nat.le_of_ble_eq_true rfl⟩) hP hD hK hS hA [0] [] rfl rfl (by decide) (by decide) (fun r12 _ H locs w11 hP hD hK hS => ?_)
      have hP : va_P D vwCl [(mo, .inr (16, [.int 5, .int 5, .int 1, .ref m1, .ref m2, .ref m3, .ref m4, .ref m5, .ref l1, .ref l2, .ref l3, .int (-1), .ref l4]))] H := hP
      have hD : va_D A [(mo, .inr (16, [.int 5, .int 5, .int 1, .ref m1, .ref m2, .ref m3, .ref m4, .ref m5, .ref l1, .ref l2, .ref l3, .int (-1), .ref l4]))] := hD
      have hK : va_K D vwCl [] s := hK
      obtain rfl : r12 = 0 := w11
      exact mr_i hx hb hr (1, fun k9 => [m1, m2, m3, m4, m5, l1, l2, l3, l4].getD k9 0, fun k9 => [5, 5, -1].getD k9 0) (⟨((if_pos (ite01_1 h4)).trans (if_neg (ite01_0 h10))).symm, fun q9 => absurd (((if_pos (ite01_1 h4)).trans (if_neg (ite01_0 h10))).symm.trans q9) (by decide)⟩) (hP.sub [0] rfl) (hK.sub [] rfl) (hD.sub [0] (by decide) rfl) hS (Nat.le_of_ble_eq_true rfl) (Nat.le_of_ble_eq_true rfl) hlocks dX9_late_41
    · refine lv_iload_n hx hb dX9_late_24 rfl (lv_at hl 3 rfl) ?_
      refine lv_i2l hx hb dX9_late_25 rfl ?_
      refine lv_topl (fun x13 e13 => ?_)
      obtain rfl : x13 = p2.toInt64 := e13
      refine lv_lconst (v := 0) hx hb dX9_late_26 (by decide) ?_
      refine lv_ldc2 hx hb hown hw_7 dX9_late_27 ?_
      refine mc_i (wr := [(mo, .inr (16, [.int 5, .int 5, .int th, .ref m1, .ref m2, .ref m3, .ref m4, .ref m5, .ref l1, .ref l2, .ref l3, .int (-1), .ref l4]))]) (va_runS (As := [.long p2.toInt64, .long 0, .long 99]) (rest := []) ⟨hx, hb, hml, hown, hts⟩ (c_in l hst D p2 0 99 0 99 H.size (by decide) (by decide)) (va_cwS 3 hts (gi_c (List.mem_cons_of_mem _ (List.mem_append_left _ (List.mem_of_getElem? (i := 1) rfl))) rfl (gi_c (List.mem_cons_of_mem _ (List.mem_append_left _ (List.mem_of_getElem? (i := 2) rfl))) rfl (gi_c (List.mem_cons_of_mem _ (List.mem_append_left _ (List.mem_of_getElem? (i := 3) rfl))) rfl (goodIn_sub hb_0 (List.all_eq_true.mpr gw_c_in))))) rfl rfl rfl (by decide +kernel) ⟨Nat.le_of_ble_eq_true rfl, Nat.le_of_ble_eq_true rfl⟩) (pr_S (As := [.long p2.toInt64, .long 0, .long 99]) hP hD hK hS hA hE [] [] rfl rfl rfl) rfl rfl hl.1 rfl (lv_room (Nat.le_of_ble_eq_true rfl)) dX9_late_30 ⟨Nat.le_of_ble_eq_true rfl, Nat.le_of_ble_eq_true rfl⟩) hP hD hK hS hA [] [0] rfl rfl (by decide) (by decide) (fun r15 _ H locs w14 hP hD hK hS => ?_)
      have hP : va_P D vwCl [(mo, .inr (16, [.int 5, .int 5, .int th, .ref m1, .ref m2, .ref m3, .ref m4, .ref m5, .ref l1, .ref l2, .ref l3, .int (-1), .ref l4]))] H := hP
      have hD : va_D A [(mo, .inr (16, [.int 5, .int 5, .int th, .ref m1, .ref m2, .ref m3, .ref m4, .ref m5, .ref l1, .ref l2, .ref l3, .int (-1), .ref l4]))] := hD
      have hK : va_K D vwCl [] s := hK
      obtain rfl : r15 = (if inR p2 0 99 then 1 else 0) := w14
      refine lv_if_ne (tgt := 42) hx hb dX9_late_33 (by decide) (fun h16 => ?_) (fun h16 => ?_)
      · refine lv_aload_n hx hb dX9_late_42 rfl (lv_at hl 0 rfl) ?_
        refine lv_iconst (v := 0) hx hb dX9_late_43 (by decide) ?_
        refine lv_iload_n hx hb dX9_late_44 rfl (lv_at hl 1 rfl) ?_
        refine lv_iload_n hx hb dX9_late_45 rfl (lv_at hl 2 rfl) ?_
        refine lv_bipush (v := 59) hx hb dX9_late_46 (by decide) ?_
        refine lv_iadd hx hb dX9_late_48 ?_
        refine lv_topi (fun x17 e17 => ?_)
        refine lv_bipush (v := 60) hx hb dX9_late_49 (by decide) ?_
        refine lv_idiv hx hb dX9_late_51 (by decide) ?_
        refine lv_topi (fun x18 e18 => ?_)
        refine lv_iload_n hx hb dX9_late_52 rfl (lv_at hl 3 rfl) ?_
        refine lv_imul hx hb dX9_late_53 ?_
        refine lv_topi (fun x19 e19 => ?_)
        refine lv_isub hx hb dX9_late_54 ?_
        refine lv_topi (fun x20 e20 => ?_)
        refine va_mmax hx hb (by rw [hml]; exact hl.1.symm) hown hw_8 hw_9 hw_10 hw_11 (Nat.le_of_ble_eq_true rfl) (Nat.le_of_ble_eq_true rfl) (Nat.le_of_ble_eq_true rfl) (Nat.le_of_ble_eq_true rfl) dX9_late_55 ?_
        refine lv_topi (fun x21 e21 => ?_)
        refine mc_i (wr := []) (va_runV (As := [.int x21]) (rest := []) ⟨hx, hb, hml, hown, hts⟩ (c_tells l hst D mo 5 5 th m1 m2 m3 m4 m5 l1 l2 l3 (-1) l4 x21 H.size) (cwV 1 hts (gi_c (List.mem_cons_of_mem _ (List.mem_append_left _ (List.mem_of_getElem? (i := 12) rfl))) rfl (gi_c (List.mem_cons_of_mem _ (List.mem_append_left _ (List.mem_of_getElem? (i := 13) rfl))) rfl (gi_c (List.mem_cons_of_mem _ (List.mem_append_left _ (List.mem_of_getElem? (i := 14) rfl))) rfl (gi_c (List.mem_cons_of_mem _ (List.mem_append_left _ (List.mem_of_getElem? (i := 3) rfl))) rfl (goodIn_sub hb_2 (List.all_eq_true.mpr gw_c_tells)))))) rfl rfl rfl (by decide +kernel) ⟨Nat.le_of_ble_eq_true rfl, Nat.le_of_ble_eq_true rfl⟩) (pr_V (As := [.int x21]) (b := mo) (C := RX9) hP hD hK hS hA hE [0] [] rfl rfl rfl 0 16 rfl rfl rfl) rfl rfl hl.1 rfl (lv_room (Nat.le_of_ble_eq_true rfl)) dX9_late_58 ⟨Nat.le_of_ble_eq_true rfl, Nat.le_of_ble_eq_true rfl⟩) hP hD hK hS hA [0] [] rfl rfl (by decide) (by decide) (fun r23 _ H locs w22 hP hD hK hS => ?_)
        have hP : va_P D vwCl [(mo, .inr (16, [.int 5, .int 5, .int 0, .ref m1, .ref m2, .ref m3, .ref m4, .ref m5, .ref l1, .ref l2, .ref l3, .int (-1), .ref l4]))] H := hP
        have hD : va_D A [(mo, .inr (16, [.int 5, .int 5, .int 0, .ref m1, .ref m2, .ref m3, .ref m4, .ref m5, .ref l1, .ref l2, .ref l3, .int (-1), .ref l4]))] := hD
        have hK : va_K D vwCl [] s := hK
        obtain rfl : x21 = r23 := w22.symm
        exact mr_i hx hb hr (0, fun k9 => [m1, m2, m3, m4, m5, l1, l2, l3, l4].getD k9 0, fun k9 => [5, 5, -1].getD k9 0) (⟨((if_pos (ite01_1 h4)).trans ((if_pos (ite01_1 h10)).trans (if_pos (ite01_1 h16)))).symm, fun _ => by subst_vars; rfl⟩) (hP.sub [0] rfl) (hK.sub [] rfl) (hD.sub [0] (by decide) rfl) hS (Nat.le_of_ble_eq_true rfl) (Nat.le_of_ble_eq_true rfl) hlocks dX9_late_61
      · refine lv_aload_n hx hb dX9_late_36 rfl (lv_at hl 0 rfl) ?_
        refine lv_iconst (v := 1) hx hb dX9_late_37 (by decide) ?_
        refine mc_i (wr := []) (va_runV (As := [.int 1]) (rest := []) ⟨hx, hb, hml, hown, hts⟩ (c_fails l hst D mo 5 5 th m1 m2 m3 m4 m5 l1 l2 l3 (-1) l4 1 H.size) (cwV 1 hts (gi_c (List.mem_cons_of_mem _ (List.mem_append_left _ (List.mem_of_getElem? (i := 4) rfl))) rfl (gi_c (List.mem_cons_of_mem _ (List.mem_append_left _ (List.mem_of_getElem? (i := 5) rfl))) rfl (gi_c (List.mem_cons_of_mem _ (List.mem_append_left _ (List.mem_of_getElem? (i := 6) rfl))) rfl (gi_c (List.mem_cons_of_mem _ (List.mem_append_left _ (List.mem_of_getElem? (i := 3) rfl))) rfl (goodIn_sub hb_1 (List.all_eq_true.mpr gw_c_fails)))))) rfl rfl rfl (by decide +kernel) ⟨Nat.le_of_ble_eq_true rfl, Nat.le_of_ble_eq_true rfl⟩) (pr_V (As := [.int 1]) (b := mo) (C := RX9) hP hD hK hS hA hE [0] [] rfl rfl rfl 0 16 rfl rfl rfl) rfl rfl hl.1 rfl (lv_room (Nat.le_of_ble_eq_true rfl)) dX9_late_38 ⟨Nat.le_of_ble_eq_true rfl, Nat.le_of_ble_eq_true rfl⟩) hP hD hK hS hA [0] [] rfl rfl (by decide) (by decide) (fun r25 _ H locs w24 hP hD hK hS => ?_)
        have hP : va_P D vwCl [(mo, .inr (16, [.int 5, .int 5, .int 1, .ref m1, .ref m2, .ref m3, .ref m4, .ref m5, .ref l1, .ref l2, .ref l3, .int (-1), .ref l4]))] H := hP
        have hD : va_D A [(mo, .inr (16, [.int 5, .int 5, .int 1, .ref m1, .ref m2, .ref m3, .ref m4, .ref m5, .ref l1, .ref l2, .ref l3, .int (-1), .ref l4]))] := hD
        have hK : va_K D vwCl [] s := hK
        obtain rfl : r25 = 0 := w24
        exact mr_i hx hb hr (1, fun k9 => [m1, m2, m3, m4, m5, l1, l2, l3, l4].getD k9 0, fun k9 => [5, 5, -1].getD k9 0) (⟨((if_pos (ite01_1 h4)).trans ((if_pos (ite01_1 h10)).trans (if_neg (ite01_0 h16)))).symm, fun q9 => absurd (((if_pos (ite01_1 h4)).trans ((if_pos (ite01_1 h10)).trans (if_neg (ite01_0 h16)))).symm.trans q9) (by decide)⟩) (hP.sub [0] rfl) (hK.sub [] rfl) (hD.sub [0] (by decide) rfl) hS (Nat.le_of_ble_eq_true rfl) (Nat.le_of_ble_eq_true rfl) hlocks dX9_late_41
