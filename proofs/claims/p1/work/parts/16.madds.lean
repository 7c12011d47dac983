theorem dJx4a65c_grow_92f84_0 : decode cJx4a65c_grow_92f84 0 = .ok (.aload_n 0, 1) := by decide +kernel
theorem dJx4a65c_grow_92f84_1 : decode cJx4a65c_grow_92f84 1 = .ok (.getfield 9, 3) := by decide +kernel
theorem dJx4a65c_grow_92f84_4 : decode cJx4a65c_grow_92f84 4 = .ok (.arraylength, 1) := by decide +kernel
theorem dJx4a65c_grow_92f84_5 : decode cJx4a65c_grow_92f84 5 = .ok (.istore_n 2, 1) := by decide +kernel
theorem dJx4a65c_grow_92f84_6 : decode cJx4a65c_grow_92f84 6 = .ok (.iload_n 2, 1) := by decide +kernel
theorem dJx4a65c_grow_92f84_7 : decode cJx4a65c_grow_92f84 7 = .ok (.ifCond .gt 13, 3) := by decide +kernel
theorem dJx4a65c_grow_92f84_10 : decode cJx4a65c_grow_92f84 10 = .ok (.aload_n 0, 1) := by decide +kernel
theorem dJx4a65c_grow_92f84_11 : decode cJx4a65c_grow_92f84 11 = .ok (.getfield 9, 3) := by decide +kernel
theorem dJx4a65c_grow_92f84_14 : decode cJx4a65c_grow_92f84 14 = .ok (.getstatic 39, 3) := by decide +kernel
theorem dJx4a65c_grow_92f84_17 : decode cJx4a65c_grow_92f84 17 = .ok (.if_acmp .eq 28, 3) := by decide +kernel
theorem dJx4a65c_grow_92f84_45 : decode cJx4a65c_grow_92f84 45 = .ok (.aload_n 0, 1) := by decide +kernel
theorem dJx4a65c_grow_92f84_46 : decode cJx4a65c_grow_92f84 46 = .ok (.bipush 10, 2) := by decide +kernel
theorem dJx4a65c_grow_92f84_48 : decode cJx4a65c_grow_92f84 48 = .ok (.iload_n 1, 1) := by decide +kernel
theorem dJx4a65c_grow_92f84_49 : decode cJx4a65c_grow_92f84 49 = .ok (.invokestatic 79, 3) := by decide +kernel
theorem dJx4a65c_grow_92f84_52 : decode cJx4a65c_grow_92f84 52 = .ok (.anewarray 7, 3) := by decide +kernel
theorem dJx4a65c_grow_92f84_55 : decode cJx4a65c_grow_92f84 55 = .ok (.dup_x1, 1) := by decide +kernel
theorem dJx4a65c_grow_92f84_56 : decode cJx4a65c_grow_92f84 56 = .ok (.putfield 9, 3) := by decide +kernel
theorem dJx4a65c_grow_92f84_59 : decode cJx4a65c_grow_92f84 59 = .ok (.areturn, 1) := by decide +kernel
theorem dJx4a65c_grow_d5877_0 : decode cJx4a65c_grow_d5877 0 = .ok (.aload_n 0, 1) := by decide +kernel
theorem dJx4a65c_grow_d5877_1 : decode cJx4a65c_grow_d5877 1 = .ok (.aload_n 0, 1) := by decide +kernel
theorem dJx4a65c_grow_d5877_2 : decode cJx4a65c_grow_d5877 2 = .ok (.getfield 48, 3) := by decide +kernel
theorem dJx4a65c_grow_d5877_5 : decode cJx4a65c_grow_d5877 5 = .ok (.iconst 1, 1) := by decide +kernel
theorem dJx4a65c_grow_d5877_6 : decode cJx4a65c_grow_d5877 6 = .ok (.iadd, 1) := by decide +kernel
theorem dJx4a65c_grow_d5877_7 : decode cJx4a65c_grow_d5877 7 = .ok (.invokevirtual 69, 3) := by decide +kernel
theorem dJx4a65c_grow_d5877_10 : decode cJx4a65c_grow_d5877 10 = .ok (.areturn, 1) := by decide +kernel
theorem dJx4a65c_add_72be8_0 : decode cJx4a65c_add_72be8 0 = .ok (.iload_n 3, 1) := by decide +kernel
theorem dJx4a65c_add_72be8_1 : decode cJx4a65c_add_72be8 1 = .ok (.aload_n 2, 1) := by decide +kernel
theorem dJx4a65c_add_72be8_2 : decode cJx4a65c_add_72be8 2 = .ok (.arraylength, 1) := by decide +kernel
theorem dJx4a65c_add_72be8_3 : decode cJx4a65c_add_72be8 3 = .ok (.if_icmp .ne 8, 3) := by decide +kernel
theorem dJx4a65c_add_72be8_6 : decode cJx4a65c_add_72be8 6 = .ok (.aload_n 0, 1) := by decide +kernel
theorem dJx4a65c_add_72be8_7 : decode cJx4a65c_add_72be8 7 = .ok (.invokevirtual 129, 3) := by decide +kernel
theorem dJx4a65c_add_72be8_10 : decode cJx4a65c_add_72be8 10 = .ok (.astore_n 2, 1) := by decide +kernel
theorem dJx4a65c_add_72be8_11 : decode cJx4a65c_add_72be8 11 = .ok (.aload_n 2, 1) := by decide +kernel
theorem dJx4a65c_add_72be8_12 : decode cJx4a65c_add_72be8 12 = .ok (.iload_n 3, 1) := by decide +kernel
theorem dJx4a65c_add_72be8_13 : decode cJx4a65c_add_72be8 13 = .ok (.aload_n 1, 1) := by decide +kernel
theorem dJx4a65c_add_72be8_14 : decode cJx4a65c_add_72be8 14 = .ok (.aastore, 1) := by decide +kernel
theorem dJx4a65c_add_72be8_15 : decode cJx4a65c_add_72be8 15 = .ok (.aload_n 0, 1) := by decide +kernel
theorem dJx4a65c_add_72be8_16 : decode cJx4a65c_add_72be8 16 = .ok (.iload_n 3, 1) := by decide +kernel
theorem dJx4a65c_add_72be8_17 : decode cJx4a65c_add_72be8 17 = .ok (.iconst 1, 1) := by decide +kernel
theorem dJx4a65c_add_72be8_18 : decode cJx4a65c_add_72be8 18 = .ok (.iadd, 1) := by decide +kernel
theorem dJx4a65c_add_72be8_19 : decode cJx4a65c_add_72be8 19 = .ok (.putfield 48, 3) := by decide +kernel
theorem dJx4a65c_add_72be8_22 : decode cJx4a65c_add_72be8 22 = .ok (.return_, 1) := by decide +kernel
theorem dJx4a65c_add_9ea2d_0 : decode cJx4a65c_add_9ea2d 0 = .ok (.aload_n 0, 1) := by decide +kernel
theorem dJx4a65c_add_9ea2d_1 : decode cJx4a65c_add_9ea2d 1 = .ok (.dup, 1) := by decide +kernel
theorem dJx4a65c_add_9ea2d_2 : decode cJx4a65c_add_9ea2d 2 = .ok (.getfield 63, 3) := by decide +kernel
theorem dJx4a65c_add_9ea2d_5 : decode cJx4a65c_add_9ea2d 5 = .ok (.iconst 1, 1) := by decide +kernel
theorem dJx4a65c_add_9ea2d_6 : decode cJx4a65c_add_9ea2d 6 = .ok (.iadd, 1) := by decide +kernel
theorem dJx4a65c_add_9ea2d_7 : decode cJx4a65c_add_9ea2d 7 = .ok (.putfield 63, 3) := by decide +kernel
theorem dJx4a65c_add_9ea2d_10 : decode cJx4a65c_add_9ea2d 10 = .ok (.aload_n 0, 1) := by decide +kernel
theorem dJx4a65c_add_9ea2d_11 : decode cJx4a65c_add_9ea2d 11 = .ok (.aload_n 1, 1) := by decide +kernel
theorem dJx4a65c_add_9ea2d_12 : decode cJx4a65c_add_9ea2d 12 = .ok (.aload_n 0, 1) := by decide +kernel
theorem dJx4a65c_add_9ea2d_13 : decode cJx4a65c_add_9ea2d 13 = .ok (.getfield 9, 3) := by decide +kernel
theorem dJx4a65c_add_9ea2d_16 : decode cJx4a65c_add_9ea2d 16 = .ok (.aload_n 0, 1) := by decide +kernel
theorem dJx4a65c_add_9ea2d_17 : decode cJx4a65c_add_9ea2d 17 = .ok (.getfield 48, 3) := by decide +kernel
theorem dJx4a65c_add_9ea2d_20 : decode cJx4a65c_add_9ea2d 20 = .ok (.invokevirtual 131, 3) := by decide +kernel
theorem dJx4a65c_add_9ea2d_23 : decode cJx4a65c_add_9ea2d 23 = .ok (.iconst 1, 1) := by decide +kernel
theorem dJx4a65c_add_9ea2d_24 : decode cJx4a65c_add_9ea2d 24 = .ok (.ireturn, 1) := by decide +kernel
theorem dX7_init_0 : decode cX7_init 0 = .ok (.aload_n 0, 1) := by decide +kernel
theorem dX7_init_1 : decode cX7_init 1 = .ok (.invokespecial 3, 3) := by decide +kernel
theorem dX7_init_4 : decode cX7_init 4 = .ok (.aload_n 0, 1) := by decide +kernel
theorem dX7_init_5 : decode cX7_init 5 = .ok (.new 9, 3) := by decide +kernel
theorem dX7_init_8 : decode cX7_init 8 = .ok (.dup, 1) := by decide +kernel
theorem dX7_init_9 : decode cX7_init 9 = .ok (.invokespecial 11, 3) := by decide +kernel
theorem dX7_init_12 : decode cX7_init 12 = .ok (.putfield 12, 3) := by decide +kernel
theorem dX7_init_15 : decode cX7_init 15 = .ok (.aload_n 0, 1) := by decide +kernel
theorem dX7_init_16 : decode cX7_init 16 = .ok (.bipush 9, 2) := by decide +kernel
theorem dX7_init_18 : decode cX7_init 18 = .ok (.newarray .int, 2) := by decide +kernel
theorem dX7_init_20 : decode cX7_init 20 = .ok (.putfield 18, 3) := by decide +kernel
theorem dX7_init_23 : decode cX7_init 23 = .ok (.aload_n 0, 1) := by decide +kernel
theorem dX7_init_24 : decode cX7_init 24 = .ok (.bipush 10, 2) := by decide +kernel
theorem dX7_init_26 : decode cX7_init 26 = .ok (.newarray .boolean, 2) := by decide +kernel
theorem dX7_init_28 : decode cX7_init 28 = .ok (.putfield 22, 3) := by decide +kernel
theorem dX7_init_31 : decode cX7_init 31 = .ok (.aload_n 0, 1) := by decide +kernel
theorem dX7_init_32 : decode cX7_init 32 = .ok (.iload_n 1, 1) := by decide +kernel
theorem dX7_init_33 : decode cX7_init 33 = .ok (.putfield 26, 3) := by decide +kernel
theorem dX7_init_36 : decode cX7_init 36 = .ok (.aload_n 0, 1) := by decide +kernel
theorem dX7_init_37 : decode cX7_init 37 = .ok (.getfield 18, 3) := by decide +kernel
theorem dX7_init_40 : decode cX7_init 40 = .ok (.iconst (-1), 1) := by decide +kernel
theorem dX7_init_41 : decode cX7_init 41 = .ok (.invokestatic 30, 3) := by decide +kernel
theorem dX7_init_44 : decode cX7_init 44 = .ok (.return_, 1) := by decide +kernel
theorem dX9_course_0 : decode cX9_course 0 = .ok (.aload_n 0, 1) := by decide +kernel
theorem dX9_course_1 : decode cX9_course 1 = .ok (.iload_n 1, 1) := by decide +kernel
theorem dX9_course_2 : decode cX9_course 2 = .ok (.invokevirtual 83, 3) := by decide +kernel
theorem dX9_course_5 : decode cX9_course 5 = .ok (.ifCond .ne 9, 3) := by decide +kernel
theorem dX9_course_14 : decode cX9_course 14 = .ok (.aload_n 0, 1) := by decide +kernel
theorem dX9_course_15 : decode cX9_course 15 = .ok (.getfield 43, 3) := by decide +kernel
theorem dX9_course_18 : decode cX9_course 18 = .ok (.invokevirtual 135, 3) := by decide +kernel
theorem dX9_course_21 : decode cX9_course 21 = .ok (.bipush 6, 2) := by decide +kernel
theorem dX9_course_23 : decode cX9_course 23 = .ok (.if_icmp .ne 9, 3) := by decide +kernel
theorem dX9_course_32 : decode cX9_course 32 = .ok (.aload_n 0, 1) := by decide +kernel
theorem dX9_course_33 : decode cX9_course 33 = .ok (.getfield 43, 3) := by decide +kernel
theorem dX9_course_36 : decode cX9_course 36 = .ok (.new 155, 3) := by decide +kernel
theorem dX9_course_39 : decode cX9_course 39 = .ok (.dup, 1) := by decide +kernel
theorem dX9_course_40 : decode cX9_course 40 = .ok (.iload_n 1, 1) := by decide +kernel
theorem dX9_course_41 : decode cX9_course 41 = .ok (.invokespecial 157, 3) := by decide +kernel
theorem dX9_course_44 : decode cX9_course 44 = .ok (.invokevirtual 141, 3) := by decide +kernel
theorem dX9_course_47 : decode cX9_course 47 = .ok (.pop, 1) := by decide +kernel
theorem dX9_course_48 : decode cX9_course 48 = .ok (.aload_n 0, 1) := by decide +kernel
theorem dX9_course_49 : decode cX9_course 49 = .ok (.aload_n 0, 1) := by decide +kernel
theorem dX9_course_50 : decode cX9_course 50 = .ok (.getfield 43, 3) := by decide +kernel
theorem dX9_course_53 : decode cX9_course 53 = .ok (.invokevirtual 135, 3) := by decide +kernel
theorem dX9_course_56 : decode cX9_course 56 = .ok (.iconst 1, 1) := by decide +kernel
theorem dX9_course_57 : decode cX9_course 57 = .ok (.isub, 1) := by decide +kernel
theorem dX9_course_58 : decode cX9_course 58 = .ok (.invokevirtual 80, 3) := by decide +kernel
theorem dX9_course_61 : decode cX9_course 61 = .ok (.ireturn, 1) := by decide +kernel
theorem dX9_course_8 : decode cX9_course 8 = .ok (.aload_n 0, 1) := by decide +kernel
theorem dX9_course_9 : decode cX9_course 9 = .ok (.iconst 1, 1) := by decide +kernel
theorem dX9_course_10 : decode cX9_course 10 = .ok (.invokevirtual 76, 3) := by decide +kernel
theorem dX9_course_13 : decode cX9_course 13 = .ok (.ireturn, 1) := by decide +kernel
theorem dX9_control_0 : decode cX9_control 0 = .ok (.aload_n 0, 1) := by decide +kernel
theorem dX9_control_1 : decode cX9_control 1 = .ok (.iload_n 1, 1) := by decide +kernel
theorem dX9_control_2 : decode cX9_control 2 = .ok (.invokevirtual 83, 3) := by decide +kernel
theorem dX9_control_5 : decode cX9_control 5 = .ok (.ifCond .ne 9, 3) := by decide +kernel
theorem dX9_control_14 : decode cX9_control 14 = .ok (.iload_n 2, 1) := by decide +kernel
theorem dX9_control_15 : decode cX9_control 15 = .ok (.i2l, 1) := by decide +kernel
theorem dX9_control_16 : decode cX9_control 16 = .ok (.lconst 0, 1) := by decide +kernel
theorem dX9_control_17 : decode cX9_control 17 = .ok (.ldc2_w 68, 3) := by decide +kernel
theorem dX9_control_20 : decode cX9_control 20 = .ok (.invokestatic 72, 3) := by decide +kernel
theorem dX9_control_23 : decode cX9_control 23 = .ok (.ifCond .eq 15, 3) := by decide +kernel
theorem dX9_control_38 : decode cX9_control 38 = .ok (.aload_n 0, 1) := by decide +kernel
theorem dX9_control_39 : decode cX9_control 39 = .ok (.iconst 2, 1) := by decide +kernel
theorem dX9_control_40 : decode cX9_control 40 = .ok (.invokevirtual 76, 3) := by decide +kernel
theorem dX9_control_43 : decode cX9_control 43 = .ok (.ireturn, 1) := by decide +kernel
theorem dX9_control_26 : decode cX9_control 26 = .ok (.iload_n 3, 1) := by decide +kernel
theorem dX9_control_27 : decode cX9_control 27 = .ok (.i2l, 1) := by decide +kernel
theorem dX9_control_28 : decode cX9_control 28 = .ok (.lconst 0, 1) := by decide +kernel
theorem dX9_control_29 : decode cX9_control 29 = .ok (.ldc2_w 139, 3) := by decide +kernel
theorem dX9_control_32 : decode cX9_control 32 = .ok (.invokestatic 72, 3) := by decide +kernel
theorem dX9_control_35 : decode cX9_control 35 = .ok (.ifCond .ne 9, 3) := by decide +kernel
theorem dX9_control_44 : decode cX9_control 44 = .ok (.aload_n 0, 1) := by decide +kernel
theorem dX9_control_45 : decode cX9_control 45 = .ok (.getfield 29, 3) := by decide +kernel
theorem dX9_control_48 : decode cX9_control 48 = .ok (.iload_n 1, 1) := by decide +kernel
theorem dX9_control_49 : decode cX9_control 49 = .ok (.caload, 1) := by decide +kernel
theorem dX9_control_50 : decode cX9_control 50 = .ok (.bipush 119, 2) := by decide +kernel
theorem dX9_control_52 : decode cX9_control 52 = .ok (.if_icmp .ne 9, 3) := by decide +kernel
theorem dX9_control_61 : decode cX9_control 61 = .ok (.aload_n 0, 1) := by decide +kernel
theorem dX9_control_62 : decode cX9_control 62 = .ok (.getfield 39, 3) := by decide +kernel
theorem dX9_control_65 : decode cX9_control 65 = .ok (.invokevirtual 135, 3) := by decide +kernel
theorem dX9_control_68 : decode cX9_control 68 = .ok (.bipush 12, 2) := by decide +kernel
theorem dX9_control_70 : decode cX9_control 70 = .ok (.if_icmp .ne 9, 3) := by decide +kernel
theorem dX9_control_79 : decode cX9_control 79 = .ok (.aload_n 0, 1) := by decide +kernel
theorem dX9_control_80 : decode cX9_control 80 = .ok (.getfield 39, 3) := by decide +kernel
theorem dX9_control_83 : decode cX9_control 83 = .ok (.bipush 6, 2) := by decide +kernel
theorem dX9_control_85 : decode cX9_control 85 = .ok (.newarray .int, 2) := by decide +kernel
theorem dX9_control_87 : decode cX9_control 87 = .ok (.dup, 1) := by decide +kernel
theorem dX9_control_88 : decode cX9_control 88 = .ok (.iconst 0, 1) := by decide +kernel
theorem dX9_control_89 : decode cX9_control 89 = .ok (.iload_n 1, 1) := by decide +kernel
theorem dX9_control_90 : decode cX9_control 90 = .ok (.iastore, 1) := by decide +kernel
theorem dX9_control_91 : decode cX9_control 91 = .ok (.dup, 1) := by decide +kernel
theorem dX9_control_92 : decode cX9_control 92 = .ok (.iconst 1, 1) := by decide +kernel
theorem dX9_control_93 : decode cX9_control 93 = .ok (.iload_n 2, 1) := by decide +kernel
theorem dX9_control_94 : decode cX9_control 94 = .ok (.iastore, 1) := by decide +kernel
theorem dX9_control_95 : decode cX9_control 95 = .ok (.dup, 1) := by decide +kernel
theorem dX9_control_96 : decode cX9_control 96 = .ok (.iconst 2, 1) := by decide +kernel
theorem dX9_control_97 : decode cX9_control 97 = .ok (.iload_n 3, 1) := by decide +kernel
theorem dX9_control_98 : decode cX9_control 98 = .ok (.iastore, 1) := by decide +kernel
theorem dX9_control_99 : decode cX9_control 99 = .ok (.dup, 1) := by decide +kernel
theorem dX9_control_100 : decode cX9_control 100 = .ok (.iconst 3, 1) := by decide +kernel
theorem dX9_control_101 : decode cX9_control 101 = .ok (.iconst (-1), 1) := by decide +kernel
theorem dX9_control_102 : decode cX9_control 102 = .ok (.iastore, 1) := by decide +kernel
theorem dX9_control_103 : decode cX9_control 103 = .ok (.dup, 1) := by decide +kernel
theorem dX9_control_104 : decode cX9_control 104 = .ok (.iconst 4, 1) := by decide +kernel
theorem dX9_control_105 : decode cX9_control 105 = .ok (.iconst (-1), 1) := by decide +kernel
theorem dX9_control_106 : decode cX9_control 106 = .ok (.iastore, 1) := by decide +kernel
theorem dX9_control_107 : decode cX9_control 107 = .ok (.dup, 1) := by decide +kernel
theorem dX9_control_108 : decode cX9_control 108 = .ok (.iconst 5, 1) := by decide +kernel
theorem dX9_control_109 : decode cX9_control 109 = .ok (.iconst (-1), 1) := by decide +kernel
theorem dX9_control_110 : decode cX9_control 110 = .ok (.iastore, 1) := by decide +kernel
theorem dX9_control_111 : decode cX9_control 111 = .ok (.invokevirtual 141, 3) := by decide +kernel
theorem dX9_control_114 : decode cX9_control 114 = .ok (.pop, 1) := by decide +kernel
theorem dX9_control_115 : decode cX9_control 115 = .ok (.aload_n 0, 1) := by decide +kernel
theorem dX9_control_116 : decode cX9_control 116 = .ok (.aload_n 0, 1) := by decide +kernel
theorem dX9_control_117 : decode cX9_control 117 = .ok (.getfield 39, 3) := by decide +kernel
theorem dX9_control_120 : decode cX9_control 120 = .ok (.invokevirtual 135, 3) := by decide +kernel
theorem dX9_control_123 : decode cX9_control 123 = .ok (.iconst 1, 1) := by decide +kernel
theorem dX9_control_124 : decode cX9_control 124 = .ok (.isub, 1) := by decide +kernel
theorem dX9_control_125 : decode cX9_control 125 = .ok (.invokevirtual 80, 3) := by decide +kernel
theorem dX9_control_128 : decode cX9_control 128 = .ok (.ireturn, 1) := by decide +kernel
theorem dX9_control_8 : decode cX9_control 8 = .ok (.aload_n 0, 1) := by decide +kernel
theorem dX9_control_9 : decode cX9_control 9 = .ok (.iconst 1, 1) := by decide +kernel
theorem dX9_control_10 : decode cX9_control 10 = .ok (.invokevirtual 76, 3) := by decide +kernel
theorem dX9_control_13 : decode cX9_control 13 = .ok (.ireturn, 1) := by decide +kernel
theorem dX9_isSound_0 : decode cX9_isSound 0 = .ok (.aload_n 0, 1) := by decide +kernel
theorem dX9_isSound_1 : decode cX9_isSound 1 = .ok (.iconst 0, 1) := by decide +kernel
theorem dX9_isSound_2 : decode cX9_isSound 2 = .ok (.putfield 16, 3) := by decide +kernel
theorem dX9_isSound_5 : decode cX9_isSound 5 = .ok (.iconst 1, 1) := by decide +kernel
theorem dX9_isSound_6 : decode cX9_isSound 6 = .ok (.ireturn, 1) := by decide +kernel
theorem dX9_checksum_0 : decode cX9_checksum 0 = .ok (.aload_n 0, 1) := by decide +kernel
theorem dX9_checksum_1 : decode cX9_checksum 1 = .ok (.iconst 0, 1) := by decide +kernel
theorem dX9_checksum_2 : decode cX9_checksum 2 = .ok (.putfield 16, 3) := by decide +kernel
theorem dX9_checksum_5 : decode cX9_checksum 5 = .ok (.ldc2_w 361, 3) := by decide +kernel
theorem dX9_checksum_8 : decode cX9_checksum 8 = .ok (.lstore_n 1, 1) := by decide +kernel
theorem dX9_checksum_9 : decode cX9_checksum 9 = .ok (.aload_n 0, 1) := by decide +kernel
theorem dX9_checksum_10 : decode cX9_checksum 10 = .ok (.getfield 46, 3) := by decide +kernel
theorem dX9_checksum_13 : decode cX9_checksum 13 = .ok (.invokevirtual 160, 3) := by decide +kernel
theorem dX9_checksum_16 : decode cX9_checksum 16 = .ok (.astore_n 3, 1) := by decide +kernel
theorem dX9_checksum_17 : decode cX9_checksum 17 = .ok (.aload_n 3, 1) := by decide +kernel
theorem dX9_checksum_18 : decode cX9_checksum 18 = .ok (.invokeinterface 164 1, 5) := by decide +kernel
theorem dX9_checksum_23 : decode cX9_checksum 23 = .ok (.ifCond .eq 74, 3) := by decide +kernel
theorem dX9_checksum_97 : decode cX9_checksum 97 = .ok (.lload_n 1, 1) := by decide +kernel
theorem dX9_checksum_98 : decode cX9_checksum 98 = .ok (.lreturn, 1) := by decide +kernel
theorem dX9_isFairOf_0 : decode cX9_isFairOf 0 = .ok (.aload_n 0, 1) := by decide +kernel
theorem dX9_isFairOf_1 : decode cX9_isFairOf 1 = .ok (.getfield 52, 3) := by decide +kernel
theorem dX9_isFairOf_4 : decode cX9_isFairOf 4 = .ok (.invokevirtual 160, 3) := by decide +kernel
theorem dX9_isFairOf_7 : decode cX9_isFairOf 7 = .ok (.astore_n 1, 1) := by decide +kernel
theorem dX9_isFairOf_8 : decode cX9_isFairOf 8 = .ok (.aload_n 1, 1) := by decide +kernel
theorem dX9_isFairOf_9 : decode cX9_isFairOf 9 = .ok (.invokeinterface 164 1, 5) := by decide +kernel
theorem dX9_isFairOf_14 : decode cX9_isFairOf 14 = .ok (.ifCond .eq 61, 3) := by decide +kernel
theorem dX9_isFairOf_75 : decode cX9_isFairOf 75 = .ok (.iconst 1, 1) := by decide +kernel
theorem dX9_isFairOf_76 : decode cX9_isFairOf 76 = .ok (.ireturn, 1) := by decide +kernel
theorem dX9_isFair_0 : decode cX9_isFair 0 = .ok (.aload_n 0, 1) := by decide +kernel
theorem dX9_isFair_1 : decode cX9_isFair 1 = .ok (.iconst 0, 1) := by decide +kernel
theorem dX9_isFair_2 : decode cX9_isFair 2 = .ok (.putfield 16, 3) := by decide +kernel
theorem dX9_isFair_5 : decode cX9_isFair 5 = .ok (.aload_n 0, 1) := by decide +kernel
theorem dX9_isFair_6 : decode cX9_isFair 6 = .ok (.invokevirtual 331, 3) := by decide +kernel
theorem dX9_isFair_9 : decode cX9_isFair 9 = .ok (.ireturn, 1) := by decide +kernel
theorem dX9_print_0 : decode cX9_print 0 = .ok (.iconst 0, 1) := by decide +kernel
theorem dX9_print_1 : decode cX9_print 1 = .ok (.istore_n 1, 1) := by decide +kernel
theorem dX9_print_2 : decode cX9_print 2 = .ok (.iconst 0, 1) := by decide +kernel
theorem dX9_print_3 : decode cX9_print 3 = .ok (.istore_n 2, 1) := by decide +kernel
theorem dX9_print_4 : decode cX9_print 4 = .ok (.iload_n 2, 1) := by decide +kernel
theorem dX9_print_5 : decode cX9_print 5 = .ok (.aload_n 0, 1) := by decide +kernel
theorem dX9_print_6 : decode cX9_print 6 = .ok (.getfield 19, 3) := by decide +kernel
theorem dX9_print_9 : decode cX9_print 9 = .ok (.arraylength, 1) := by decide +kernel
theorem dX9_print_10 : decode cX9_print 10 = .ok (.if_icmp .ge 47, 3) := by decide +kernel
theorem dX9_print_57 : decode cX9_print 57 = .ok (.aload_n 0, 1) := by decide +kernel
theorem dX9_print_58 : decode cX9_print 58 = .ok (.aload_n 0, 1) := by decide +kernel
theorem dX9_print_59 : decode cX9_print 59 = .ok (.getfield 19, 3) := by decide +kernel
theorem dX9_print_62 : decode cX9_print 62 = .ok (.invokevirtual 93, 3) := by decide +kernel
theorem dX9_print_65 : decode cX9_print 65 = .ok (.checkcast 94, 3) := by decide +kernel
theorem dX9_print_68 : decode cX9_print 68 = .ok (.putfield 26, 3) := by decide +kernel
theorem dX9_print_71 : decode cX9_print 71 = .ok (.aload_n 0, 1) := by decide +kernel
theorem dX9_print_72 : decode cX9_print 72 = .ok (.aload_n 0, 1) := by decide +kernel
theorem dX9_print_73 : decode cX9_print 73 = .ok (.getfield 29, 3) := by decide +kernel
theorem dX9_print_76 : decode cX9_print 76 = .ok (.invokevirtual 98, 3) := by decide +kernel
theorem dX9_print_79 : decode cX9_print 79 = .ok (.checkcast 99, 3) := by decide +kernel
theorem dX9_print_82 : decode cX9_print 82 = .ok (.putfield 33, 3) := by decide +kernel
theorem dX9_print_85 : decode cX9_print 85 = .ok (.aload_n 0, 1) := by decide +kernel
theorem dX9_print_86 : decode cX9_print 86 = .ok (.iload_n 1, 1) := by decide +kernel
theorem dX9_print_87 : decode cX9_print 87 = .ok (.invokevirtual 80, 3) := by decide +kernel
theorem dX9_print_90 : decode cX9_print 90 = .ok (.ireturn, 1) := by decide +kernel
theorem dX9_print_13 : decode cX9_print 13 = .ok (.iload_n 1, 1) := by decide +kernel
theorem dX9_print_14 : decode cX9_print 14 = .ok (.aload_n 0, 1) := by decide +kernel
theorem dX9_print_15 : decode cX9_print 15 = .ok (.getfield 26, 3) := by decide +kernel
theorem dX9_print_18 : decode cX9_print 18 = .ok (.iload_n 2, 1) := by decide +kernel
theorem dX9_print_19 : decode cX9_print 19 = .ok (.iaload, 1) := by decide +kernel
theorem dX9_print_20 : decode cX9_print 20 = .ok (.aload_n 0, 1) := by decide +kernel
theorem dX9_print_21 : decode cX9_print 21 = .ok (.getfield 19, 3) := by decide +kernel
theorem dX9_print_24 : decode cX9_print 24 = .ok (.iload_n 2, 1) := by decide +kernel
theorem dX9_print_25 : decode cX9_print 25 = .ok (.iaload, 1) := by decide +kernel
theorem dX9_print_26 : decode cX9_print 26 = .ok (.if_icmp .ne 18, 3) := by decide +kernel
theorem dX9_print_29 : decode cX9_print 29 = .ok (.aload_n 0, 1) := by decide +kernel
theorem dX9_print_30 : decode cX9_print 30 = .ok (.getfield 33, 3) := by decide +kernel
theorem dX9_print_33 : decode cX9_print 33 = .ok (.iload_n 2, 1) := by decide +kernel
theorem dX9_print_34 : decode cX9_print 34 = .ok (.caload, 1) := by decide +kernel
theorem dX9_print_35 : decode cX9_print 35 = .ok (.aload_n 0, 1) := by decide +kernel
theorem dX9_print_36 : decode cX9_print 36 = .ok (.getfield 29, 3) := by decide +kernel
theorem dX9_print_39 : decode cX9_print 39 = .ok (.iload_n 2, 1) := by decide +kernel
theorem dX9_print_40 : decode cX9_print 40 = .ok (.caload, 1) := by decide +kernel
theorem dX9_print_41 : decode cX9_print 41 = .ok (.if_icmp .eq 7, 3) := by decide +kernel
theorem dX9_print_48 : decode cX9_print 48 = .ok (.iconst 0, 1) := by decide +kernel
theorem dX9_print_49 : decode cX9_print 49 = .ok (.iadd, 1) := by decide +kernel
theorem dX9_print_50 : decode cX9_print 50 = .ok (.istore_n 1, 1) := by decide +kernel
theorem dX9_print_51 : decode cX9_print 51 = .ok (.iinc 2 1, 3) := by decide +kernel
theorem dX9_print_54 : decode cX9_print 54 = .ok (.goto (-50), 3) := by decide +kernel
/-! the reference: what it adds, what it answers without refusing -/
theorem any_arr {D : va_G} {cl : List vw_C} {tys : List (ClassId × FieldType)} {ws : va_W} {H : Heap} {s : State} {v k t n : Nat} {cy : ClassId} {f : Nat → Int32} (hK : va_K D cl tys s) (hP : va_P D cl ws H) (ha : ws[k]? = some (v, .inl (cy, n, .inl f))) (ht : tys[t]? = some (cy, .int)) (hc : va_Nw (.castable "[I" "java/lang/Object") s) : va_Any "java/lang/Object" s H v := by
  have h4 : s.vm.findClass "[I" = some cy := (hK.2 t _ ht).2
  obtain ⟨kC, hkC, -⟩ := Vm.findClass_spec h4
  exact ⟨_, hP k _ ha, rfl, ⟨kC, hkC⟩, fun comp h => vb_asgC hc comp cy h h4⟩
theorem fits_i {cy : ClassId} {n i : Nat} {f : Nat → Int32} {v : Value} (h : (vp_cell cy (n, .inl f)).slots[i]? = some v) : fits .int v = true := by
  have h2 : (arrV cy n (fun j => .int (f j))).slots[i]? = some v := h
  by_cases g : i < n
  · rw [arrV_read _ _ g] at h2
    cases h2
    rfl
  · rw [Array.getElem?_eq_none (by rw [arrV_size]; omega)] at h2
    cases h2
theorem fits_c {cy : ClassId} {n i : Nat} {v : Value} (h : (vp_cell cy (n, .inl fK5)).slots[i]? = some v) : fits .char v = true := by
  have h2 : (arrV cy n (fun j => .int (fK5 j))).slots[i]? = some v := h
  by_cases g : i < n
  · rw [arrV_read _ _ g] at h2
    cases h2
    unfold fK5
    split <;> decide
  · rw [Array.getElem?_eq_none (by rw [arrV_size]; omega)] at h2
    cases h2
def us_c_alGrow : List Cond := .code yJx4a65c_grow_92f84 cJx4a65c_grow_92f84 4 (some (.array (.object "java/lang/Object"))) :: (([.fieldLink RJx4a65c 9 "java/util/ArrayList" "elementData" "[Ljava/lang/Object;", .fieldLink RJx4a65c 39 "java/util/ArrayList" "DEFAULTCAPACITY_EMPTY_ELEMENTDATA" "[Ljava/lang/Object;", .methodLink RJx4a65c 79 Lib.Math.max.name, .static Lib.Math.max.name, .initialized "java/lang/Math", .code Lib.Math.max.name Lib.Math.max.code 2 (some .int), .classLink RJx4a65c 7 "java/lang/Object"] : List Cond) ++ (wsJx4a65c0 ++ ([])))
theorem gw_c_alGrow : ∀ w ∈ us_c_alGrow, goodWord w = true := gw_cons rfl (gw_app (by decide +kernel) (gw_app gwf_Jx4a65c (fun _ h => nomatch h)))
set_option maxHeartbeats 4000000 in
set_option maxRecDepth 100000 in
/-- grow, of the first -/
theorem c_alGrow (l : Launch) (hst : l.stackTraces = false) (D : va_G) (b : Nat) (v : Int32) (sz : Nat) : Met l yJx4a65c_grow_92f84 us_c_alGrow { frames := 1, cells := 1, slots := 10, locals := 16 } (pw D [.ref b, .int 1] [] [(b, .inr (5, [.int v, .ref (D.1 1000), .int 0]))] sz) (va_Qq (fun (r : Option Nat) (u : Nat × ClassId) => r = some u.1) (qb D (va_A [(b, .inr (5, [.int v, .ref (D.1 1000), .int 0]))] sz) (fun u : (Nat × ClassId) => [(b, .inr (5, [.int v, .ref u.1, .int 0])), (u.1, .inl (u.2, 10, .inr (.inr (.inr (.inr (fun _ => none))))))]) (fun u : (Nat × ClassId) => ([(u.2, .object "java/lang/Object")] : List (ClassId × FieldType)))) (va_A [(b, .inr (5, [.int v, .ref (D.1 1000), .int 0]))] sz)) 1 10 (va_A [(b, .inr (5, [.int v, .ref (D.1 1000), .int 0]))] sz) := by
  refine op_M (Qc := fun A => (va_Qq (fun (r : Option Nat) (u : Nat × ClassId) => r = some u.1) (qb D A (fun u : (Nat × ClassId) => [(b, .inr (5, [.int v, .ref u.1, .int 0])), (u.1, .inl (u.2, 10, .inr (.inr (.inr (.inr (fun _ => none))))))]) (fun u : (Nat × ClassId) => ([(u.2, .object "java/lang/Object")] : List (ClassId × FieldType)))) A)) (by decide +kernel) rfl (Nat.le_of_ble_eq_true rfl) ?_
  intro p e s m args below meth c A ls hx hb hr hml hts hown hlocks hmn htab hA hD hS hP hK hE hsz hl
  have hown : s.vm.findClass RJx4a65c = some m.cls := hown
  have hl : lv_has ls 4 [(0, .ref b), (1, .int 1)] := hl
  have hw_0 := hts (.fieldLink RJx4a65c 9 "java/util/ArrayList" "elementData" "[Ljava/lang/Object;") (List.mem_cons_of_mem _ (List.mem_append_left _ (List.mem_of_getElem? (i := 0) rfl)))
  have hw_1 := hts (.fieldLink RJx4a65c 39 "java/util/ArrayList" "DEFAULTCAPACITY_EMPTY_ELEMENTDATA" "[Ljava/lang/Object;") (List.mem_cons_of_mem _ (List.mem_append_left _ (List.mem_of_getElem? (i := 1) rfl)))
  have hw_2 := hts (.methodLink RJx4a65c 79 Lib.Math.max.name) (List.mem_cons_of_mem _ (List.mem_append_left _ (List.mem_of_getElem? (i := 2) rfl)))
  have hw_3 := hts (.static Lib.Math.max.name) (List.mem_cons_of_mem _ (List.mem_append_left _ (List.mem_of_getElem? (i := 3) rfl)))
  have hw_4 := hts (.initialized "java/lang/Math") (List.mem_cons_of_mem _ (List.mem_append_left _ (List.mem_of_getElem? (i := 4) rfl)))
  have hw_5 := hts (.code Lib.Math.max.name Lib.Math.max.code 2 (some .int)) (List.mem_cons_of_mem _ (List.mem_append_left _ (List.mem_of_getElem? (i := 5) rfl)))
  have hw_6 := hts (.classLink RJx4a65c 7 "java/lang/Object") (List.mem_cons_of_mem _ (List.mem_append_left _ (List.mem_of_getElem? (i := 6) rfl)))
  have hb_0 : ∀ w ∈ wsJx4a65c0, w ∈ us_c_alGrow := fun w h => List.mem_cons_of_mem _ (List.mem_append_right _ (List.mem_append_left _ h))
  refine lv_aload_n hx hb dJx4a65c_grow_92f84_0 rfl (lv_at hl 0 rfl) ?_
  refine va_get (D := D) (ci := 5) (v := .ref (D.1 1000)) (C := RJx4a65c) (T := TJx4a65c) (N := 3) hx hb hts hb_0 hown hK hP 0 rfl rfl 1 (by decide) hw_0 (fun _ h9 => h9) rfl dJx4a65c_grow_92f84_1 ?_
  refine va_tlen (t := D.1 1000) (N := 0) (v := 0) hx hb hE.2.2.2.2.2.2.2.2.1 hS rfl dJx4a65c_grow_92f84_4 ?_
  refine lv_istore_n (lv' := [(2, .int 0), (0, .ref b), (1, .int 1)]) hx hb dJx4a65c_grow_92f84_5 rfl hl (by decide) rfl (fun ls hl => ?_)
  refine lv_iload_n hx hb dJx4a65c_grow_92f84_6 rfl (lv_at hl 0 rfl) ?_
  refine lv_if_gt (tgt := 20) hx hb dJx4a65c_grow_92f84_7 (by decide) (fun h1 => absurd h1 (by decide)) (fun h1 => ?_)
  refine lv_aload_n hx hb dJx4a65c_grow_92f84_10 rfl (lv_at hl 1 rfl) ?_
  refine va_get (D := D) (ci := 5) (v := .ref (D.1 1000)) (C := RJx4a65c) (T := TJx4a65c) (N := 3) hx hb hts hb_0 hown hK hP 0 rfl rfl 1 (by decide) hw_0 (fun _ h9 => h9) rfl dJx4a65c_grow_92f84_11 ?_
  refine va_gets hx hb hE.2.2.2.2.2.2.1 hS hown hw_1 (fun _ h9 => h9) dJx4a65c_grow_92f84_14 ?_
  refine lv_acmp_eq (rx := some (D.1 1000)) (ry := some (D.1 1000)) (tgt := 45) hx hb dJx4a65c_grow_92f84_17 (by decide) (fun h2 => ?_) (fun h2 => absurd rfl h2)
  refine lv_aload_n hx hb dJx4a65c_grow_92f84_45 rfl (lv_at hl 1 rfl) ?_
  refine lv_bipush (v := 10) hx hb dJx4a65c_grow_92f84_46 (by decide) ?_
  refine lv_iload_n hx hb dJx4a65c_grow_92f84_48 rfl (lv_at hl 2 rfl) ?_
  refine va_mmax hx hb (by rw [hml]; exact hl.1.symm) hown hw_2 hw_3 hw_4 hw_5 (Nat.le_of_ble_eq_true rfl) (Nat.le_of_ble_eq_true rfl) (Nat.le_of_ble_eq_true rfl) (Nat.le_of_ble_eq_true rfl) dJx4a65c_grow_92f84_49 ?_
  refine lv_topi (fun x3 e3 => ?_)
  obtain rfl : x3 = 10 := e3.trans (by decide)
  refine va_newq (C := "java/lang/Object") hx hb hown hw_6 (hE.2.2.2.2.2.1.2.2.2.1 "java/lang/Object" (List.mem_of_getElem? (i := 3) rfl)) hK hP hD hS hA (N' := 10) (by decide) (by decide) (Nat.le_of_ble_eq_true rfl) (Nat.le_of_ble_eq_true rfl) (Nat.le_of_ble_eq_true rfl) dJx4a65c_grow_92f84_52 (fun q4 cy5 H hK hP hD hS => ?_)
  have hK : va_K D vwCl [(cy5, .object "java/lang/Object")] s := hK
  have hP : va_P D vwCl [(b, .inr (5, [.int v, .ref (D.1 1000), .int 0])), (q4, .inl (cy5, 10, .inr (.inr (.inr (.inr (fun _ => none))))))] H := hP
  have hD : va_D A [(b, .inr (5, [.int v, .ref (D.1 1000), .int 0])), (q4, .inl (cy5, 10, .inr (.inr (.inr (.inr (fun _ => none))))))] := hD
  refine W.widen (k := 1) (n := 10) (Nat.le_of_ble_eq_true rfl) (Nat.le_of_ble_eq_true rfl) ?_
  refine lv_dup_x1 hx hb dJx4a65c_grow_92f84_55 rfl rfl ?_
  refine va_put (D := D) (ci := 5) (v := .ref q4) (ty := (.array (.object "java/lang/Object"))) (C := RJx4a65c) (T := TJx4a65c) (N := 3) hx hb hts hb_0 tyJx4a65c tyJx4a65c_ok nmJx4a65c hown hK hP hD hS 0 rfl rfl 1 (by decide) hw_0 (fun _ h9 => h9) rfl (by decide +kernel) rfl rfl (Nat.le_of_ble_eq_true rfl) dJx4a65c_grow_92f84_56 (fun H locs hP hD hS => ?_)
  have hP : va_P D vwCl [(b, .inr (5, [.int v, .ref q4, .int 0])), (q4, .inl (cy5, 10, .inr (.inr (.inr (.inr (fun _ => none))))))] H := hP
  have hD : va_D A [(b, .inr (5, [.int v, .ref q4, .int 0])), (q4, .inl (cy5, 10, .inr (.inr (.inr (.inr (fun _ => none))))))] := hD
  exact mr_q (v := some q4) hx hb hr (Or.inr ⟨_, rfl⟩) (q4, cy5) (rfl) (hP.sub [0, 1] rfl) (hK.sub [0] rfl) (hD.sub [0, 1] (by decide) rfl) hS (Nat.le_of_ble_eq_true rfl) (Nat.le_of_ble_eq_true rfl) hlocks dJx4a65c_grow_92f84_59

def us_c_alGrow0 : List Cond := .code yJx4a65c_grow_d5877 cJx4a65c_grow_d5877 1 (some (.array (.object "java/lang/Object"))) :: (([.fieldLink RJx4a65c 48 "java/util/ArrayList" "size" "I", .methodLink RJx4a65c 69 yJx4a65c_grow_92f84, .instanceMethod yJx4a65c_grow_92f84, .selects RJx4a65c yJx4a65c_grow_92f84 yJx4a65c_grow_92f84, .initialized RJx4a65c] : List Cond) ++ (wsJx4a65c0 ++ (us_c_alGrow ++ ([]))))
theorem gw_c_alGrow0 : ∀ w ∈ us_c_alGrow0, goodWord w = true := gw_cons rfl (gw_app (by decide +kernel) (gw_app gwf_Jx4a65c (gw_app gw_c_alGrow (fun _ h => nomatch h))))
set_option maxHeartbeats 4000000 in
set_option maxRecDepth 100000 in
/-- grow, of the first -/
theorem c_alGrow0 (l : Launch) (hst : l.stackTraces = false) (D : va_G) (b : Nat) (v : Int32) (sz : Nat) : Met l yJx4a65c_grow_d5877 us_c_alGrow0 { frames := 2, cells := 1, slots := 10, locals := 39 } (pw D [.ref b] [] [(b, .inr (5, [.int v, .ref (D.1 1000), .int 0]))] sz) (va_Qq (fun (r : Option Nat) (u : Nat × ClassId) => r = some u.1) (qb D (va_A [(b, .inr (5, [.int v, .ref (D.1 1000), .int 0]))] sz) (fun u : (Nat × ClassId) => [(b, .inr (5, [.int v, .ref u.1, .int 0])), (u.1, .inl (u.2, 10, .inr (.inr (.inr (.inr (fun _ => none))))))]) (fun u : (Nat × ClassId) => ([(u.2, .object "java/lang/Object")] : List (ClassId × FieldType)))) (va_A [(b, .inr (5, [.int v, .ref (D.1 1000), .int 0]))] sz)) 1 10 (va_A [(b, .inr (5, [.int v, .ref (D.1 1000), .int 0]))] sz) := by
  refine op_M (Qc := fun A => (va_Qq (fun (r : Option Nat) (u : Nat × ClassId) => r = some u.1) (qb D A (fun u : (Nat × ClassId) => [(b, .inr (5, [.int v, .ref u.1, .int 0])), (u.1, .inl (u.2, 10, .inr (.inr (.inr (.inr (fun _ => none))))))]) (fun u : (Nat × ClassId) => ([(u.2, .object "java/lang/Object")] : List (ClassId × FieldType)))) A)) (by decide +kernel) rfl (Nat.le_of_ble_eq_true rfl) ?_
  intro p e s m args below meth c A ls hx hb hr hml hts hown hlocks hmn htab hA hD hS hP hK hE hsz hl
  have hown : s.vm.findClass RJx4a65c = some m.cls := hown
  have hl : lv_has ls 1 [(0, .ref b)] := hl
  have hw_0 := hts (.fieldLink RJx4a65c 48 "java/util/ArrayList" "size" "I") (List.mem_cons_of_mem _ (List.mem_append_left _ (List.mem_of_getElem? (i := 0) rfl)))
  have hw_1 := hts (.methodLink RJx4a65c 69 yJx4a65c_grow_92f84) (List.mem_cons_of_mem _ (List.mem_append_left _ (List.mem_of_getElem? (i := 1) rfl)))
  have hw_2 := hts (.instanceMethod yJx4a65c_grow_92f84) (List.mem_cons_of_mem _ (List.mem_append_left _ (List.mem_of_getElem? (i := 2) rfl)))
  have hw_3 := hts (.selects RJx4a65c yJx4a65c_grow_92f84 yJx4a65c_grow_92f84) (List.mem_cons_of_mem _ (List.mem_append_left _ (List.mem_of_getElem? (i := 3) rfl)))
  have hw_4 := hts (.initialized RJx4a65c) (List.mem_cons_of_mem _ (List.mem_append_left _ (List.mem_of_getElem? (i := 4) rfl)))
  have hb_0 : ∀ w ∈ wsJx4a65c0, w ∈ us_c_alGrow0 := fun w h => List.mem_cons_of_mem _ (List.mem_append_right _ (List.mem_append_left _ h))
  have hb_1 : ∀ w ∈ us_c_alGrow, w ∈ us_c_alGrow0 := fun w h => List.mem_cons_of_mem _ (List.mem_append_right _ (List.mem_append_right _ (List.mem_append_left _ h)))
  refine lv_aload_n hx hb dJx4a65c_grow_d5877_0 rfl (lv_at hl 0 rfl) ?_
  refine lv_aload_n hx hb dJx4a65c_grow_d5877_1 rfl (lv_at hl 0 rfl) ?_
  refine va_get (D := D) (ci := 5) (v := .int 0) (C := RJx4a65c) (T := TJx4a65c) (N := 3) hx hb hts hb_0 hown hK hP 0 rfl rfl 2 (by decide) hw_0 (fun _ h9 => h9) rfl dJx4a65c_grow_d5877_2 ?_
  refine lv_iconst (v := 1) hx hb dJx4a65c_grow_d5877_5 (by decide) ?_
  refine lv_iadd hx hb dJx4a65c_grow_d5877_6 ?_
  refine lv_topi (fun x1 e1 => ?_)
  obtain rfl : x1 = 1 := e1.trans (by decide)
  refine mc_q (wr := []) (va_runV (As := [.int 1]) (rest := []) ⟨hx, hb, hml, hown, hts⟩ (c_alGrow l hst D b v s.heap.size) (cwV 1 hts (gi_c (List.mem_cons_of_mem _ (List.mem_append_left _ (List.mem_of_getElem? (i := 1) rfl))) rfl (gi_c (List.mem_cons_of_mem _ (List.mem_append_left _ (List.mem_of_getElem? (i := 2) rfl))) rfl (gi_c (List.mem_cons_of_mem _ (List.mem_append_left _ (List.mem_of_getElem? (i := 3) rfl))) rfl (gi_c (List.mem_cons_of_mem _ (List.mem_append_left _ (List.mem_of_getElem? (i := 4) rfl))) rfl (goodIn_sub hb_1 (List.all_eq_true.mpr gw_c_alGrow)))))) rfl rfl rfl (by decide +kernel) ⟨Nat.le_of_ble_eq_true rfl, Nat.le_of_ble_eq_true rfl⟩) (pr_V (As := [.int 1]) (b := b) (C := RJx4a65c) hP hD hK hS hA hE [0] [] rfl rfl rfl 0 5 rfl rfl rfl) rfl rfl hl.1 rfl (lv_room (Nat.le_of_ble_eq_true rfl)) dJx4a65c_grow_d5877_7 ⟨Nat.le_of_ble_eq_true rfl, Nat.le_of_ble_eq_true rfl⟩) hP hD hK hS hA [0] [] rfl rfl (by decide) (by decide) (fun r4 u2 H locs w3 hP hD hK hS => ?_)
  have hP : va_P D vwCl [(b, .inr (5, [.int v, .ref u2.1, .int 0])), (u2.1, .inl (u2.2, 10, .inr (.inr (.inr (.inr (fun _ => none))))))] H := hP
  have hD : va_D A [(b, .inr (5, [.int v, .ref u2.1, .int 0])), (u2.1, .inl (u2.2, 10, .inr (.inr (.inr (.inr (fun _ => none))))))] := hD
  have hK : va_K D vwCl [(u2.2, .object "java/lang/Object")] s := hK
  obtain rfl := w3
  exact mr_q (v := some u2.1) hx hb hr (Or.inr ⟨_, rfl⟩) (u2.1, u2.2) (rfl) (hP.sub [0, 1] rfl) (hK.sub [0] rfl) (hD.sub [0, 1] (by decide) rfl) hS (Nat.le_of_ble_eq_true rfl) (Nat.le_of_ble_eq_true rfl) hlocks dJx4a65c_grow_d5877_10

def us_c_alAdd3C : List Cond := .code yJx4a65c_add_72be8 cJx4a65c_add_72be8 4 none :: (([.methodLink RJx4a65c 129 yJx4a65c_grow_d5877, .instanceMethod yJx4a65c_grow_d5877, .selects RJx4a65c yJx4a65c_grow_d5877 yJx4a65c_grow_d5877, .initialized RJx4a65c, .fieldLink RJx4a65c 48 "java/util/ArrayList" "size" "I"] : List Cond) ++ (us_c_alGrow0 ++ (wsJx4a65c0 ++ ([]))))
theorem gw_c_alAdd3C : ∀ w ∈ us_c_alAdd3C, goodWord w = true := gw_cons rfl (gw_app (by decide +kernel) (gw_app gw_c_alGrow0 (gw_app gwf_Jx4a65c (fun _ h => nomatch h))))
set_option maxHeartbeats 4000000 in
set_option maxRecDepth 100000 in
/-- add, of the first -/
theorem c_alAdd3C (l : Launch) (hst : l.stackTraces = false) (D : va_G) (b : Nat) (v : Int32) (y : Nat) (j0 : Int32) (j1 : Nat) (j2 : Nat) (j3 : Nat) (sz : Nat) : Met l yJx4a65c_add_72be8 us_c_alAdd3C { frames := 3, cells := 1, slots := 10, locals := 59 } (pw D [.ref b, .ref y, .ref (D.1 1000), .int 0] [] [(b, .inr (5, [.int v, .ref (D.1 1000), .int 0])), (y, .inr (14, [.int j0, .ref j1, .ref j2, .ref j3]))] sz) (va_Qv (fun _ : Nat => True) (qb D (va_A [(b, .inr (5, [.int v, .ref (D.1 1000), .int 0])), (y, .inr (14, [.int j0, .ref j1, .ref j2, .ref j3]))] sz) (fun u : Nat => [(b, .inr (5, [.int v, .ref u, .int 1]))]) (fun u : Nat => ([] : List (ClassId × FieldType)))) (va_A [(b, .inr (5, [.int v, .ref (D.1 1000), .int 0])), (y, .inr (14, [.int j0, .ref j1, .ref j2, .ref j3]))] sz)) 1 10 (va_A [(b, .inr (5, [.int v, .ref (D.1 1000), .int 0])), (y, .inr (14, [.int j0, .ref j1, .ref j2, .ref j3]))] sz) := by
  refine op_M (Qc := fun A => (va_Qv (fun _ : Nat => True) (qb D A (fun u : Nat => [(b, .inr (5, [.int v, .ref u, .int 1]))]) (fun u : Nat => ([] : List (ClassId × FieldType)))) A)) (by decide +kernel) rfl (Nat.le_of_ble_eq_true rfl) ?_
  intro p e s m args below meth c A ls hx hb hr hml hts hown hlocks hmn htab hA hD hS hP hK hE hsz hl
  have hown : s.vm.findClass RJx4a65c = some m.cls := hown
  have hl : lv_has ls 4 [(0, .ref b), (1, .ref y), (2, .ref (D.1 1000)), (3, .int 0)] := hl
  have hw_0 := hts (.methodLink RJx4a65c 129 yJx4a65c_grow_d5877) (List.mem_cons_of_mem _ (List.mem_append_left _ (List.mem_of_getElem? (i := 0) rfl)))
  have hw_1 := hts (.instanceMethod yJx4a65c_grow_d5877) (List.mem_cons_of_mem _ (List.mem_append_left _ (List.mem_of_getElem? (i := 1) rfl)))
  have hw_2 := hts (.selects RJx4a65c yJx4a65c_grow_d5877 yJx4a65c_grow_d5877) (List.mem_cons_of_mem _ (List.mem_append_left _ (List.mem_of_getElem? (i := 2) rfl)))
  have hw_3 := hts (.initialized RJx4a65c) (List.mem_cons_of_mem _ (List.mem_append_left _ (List.mem_of_getElem? (i := 3) rfl)))
  have hw_4 := hts (.fieldLink RJx4a65c 48 "java/util/ArrayList" "size" "I") (List.mem_cons_of_mem _ (List.mem_append_left _ (List.mem_of_getElem? (i := 4) rfl)))
  have hb_0 : ∀ w ∈ us_c_alGrow0, w ∈ us_c_alAdd3C := fun w h => List.mem_cons_of_mem _ (List.mem_append_right _ (List.mem_append_left _ h))
  have hb_1 : ∀ w ∈ wsJx4a65c0, w ∈ us_c_alAdd3C := fun w h => List.mem_cons_of_mem _ (List.mem_append_right _ (List.mem_append_right _ (List.mem_append_left _ h)))
  refine lv_iload_n hx hb dJx4a65c_add_72be8_0 rfl (lv_at hl 3 rfl) ?_
  refine lv_aload_n hx hb dJx4a65c_add_72be8_1 rfl (lv_at hl 2 rfl) ?_
  refine va_tlen (t := D.1 1000) (N := 0) (v := 0) hx hb hE.2.2.2.2.2.2.2.2.1 hS rfl dJx4a65c_add_72be8_2 ?_
  refine lv_icmp_ne (tgt := 11) hx hb dJx4a65c_add_72be8_3 (by decide) (fun h1 => absurd (by decide) h1) (fun h1 => ?_)
  refine lv_aload_n hx hb dJx4a65c_add_72be8_6 rfl (lv_at hl 0 rfl) ?_
  refine mc_q (wr := [(y, .inr (14, [.int j0, .ref j1, .ref j2, .ref j3]))]) (va_runV (As := []) (rest := []) ⟨hx, hb, hml, hown, hts⟩ (c_alGrow0 l hst D b v s.heap.size) (cwV 0 hts (gi_c (List.mem_cons_of_mem _ (List.mem_append_left _ (List.mem_of_getElem? (i := 0) rfl))) rfl (gi_c (List.mem_cons_of_mem _ (List.mem_append_left _ (List.mem_of_getElem? (i := 1) rfl))) rfl (gi_c (List.mem_cons_of_mem _ (List.mem_append_left _ (List.mem_of_getElem? (i := 2) rfl))) rfl (gi_c (List.mem_cons_of_mem _ (List.mem_append_left _ (List.mem_of_getElem? (i := 3) rfl))) rfl (goodIn_sub hb_0 (List.all_eq_true.mpr gw_c_alGrow0)))))) rfl rfl rfl (by decide +kernel) ⟨Nat.le_of_ble_eq_true rfl, Nat.le_of_ble_eq_true rfl⟩) (pr_V (As := []) (b := b) (C := RJx4a65c) hP hD hK hS hA hE [0] [] rfl rfl rfl 0 5 rfl rfl rfl) rfl rfl hl.1 rfl (lv_room (Nat.le_of_ble_eq_true rfl)) dJx4a65c_add_72be8_7 ⟨Nat.le_of_ble_eq_true rfl, Nat.le_of_ble_eq_true rfl⟩) hP hD hK hS hA [0] [1] rfl rfl (by decide) (by decide) (fun r4 u2 H locs w3 hP hD hK hS => ?_)
  have hP : va_P D vwCl [(y, .inr (14, [.int j0, .ref j1, .ref j2, .ref j3])), (b, .inr (5, [.int v, .ref u2.1, .int 0])), (u2.1, .inl (u2.2, 10, .inr (.inr (.inr (.inr (fun _ => none))))))] H := hP
  have hD : va_D A [(y, .inr (14, [.int j0, .ref j1, .ref j2, .ref j3])), (b, .inr (5, [.int v, .ref u2.1, .int 0])), (u2.1, .inl (u2.2, 10, .inr (.inr (.inr (.inr (fun _ => none))))))] := hD
  have hK : va_K D vwCl [(u2.2, .object "java/lang/Object")] s := hK
  obtain rfl := w3
  refine lv_astore_n (lv' := [(2, .ref u2.1), (0, .ref b), (1, .ref y), (3, .int 0)]) hx hb dJx4a65c_add_72be8_10 rfl hl (by decide) rfl (fun ls hl => ?_)
  refine lv_aload_n hx hb dJx4a65c_add_72be8_11 rfl (lv_at hl 0 rfl) ?_
  refine lv_iload_n hx hb dJx4a65c_add_72be8_12 rfl (lv_at hl 3 rfl) ?_
  refine lv_aload_n hx hb dJx4a65c_add_72be8_13 rfl (lv_at hl 2 rfl) ?_
  refine va_astqM hx hb hK hP hD hS 2 0 rfl rfl (va_rAny hK hP (q0 := 0) rfl rfl (vb_asgC (hE.2.2.2.2.2.1.1 _ (List.mem_of_getElem? (i := 12) rfl)))) (vp_in_nI (n := 0) (by decide) (by decide)) dJx4a65c_add_72be8_14 (fun H locs hP hD hS => ?_)
  have hP : va_P D vwCl [(y, .inr (14, [.int j0, .ref j1, .ref j2, .ref j3])), (b, .inr (5, [.int v, .ref u2.1, .int 0])), (u2.1, .inl (u2.2, 10, .inr (.inr (.inr (.inr (va_up (fun _ => none) ((0 : Int32).toNatClampNeg) (some y)))))))] H := hP
  have hD : va_D A [(y, .inr (14, [.int j0, .ref j1, .ref j2, .ref j3])), (b, .inr (5, [.int v, .ref u2.1, .int 0])), (u2.1, .inl (u2.2, 10, .inr (.inr (.inr (.inr (va_up (fun _ => none) ((0 : Int32).toNatClampNeg) (some y)))))))] := hD
  refine lv_aload_n hx hb dJx4a65c_add_72be8_15 rfl (lv_at hl 1 rfl) ?_
  refine lv_iload_n hx hb dJx4a65c_add_72be8_16 rfl (lv_at hl 3 rfl) ?_
  refine lv_iconst (v := 1) hx hb dJx4a65c_add_72be8_17 (by decide) ?_
  refine lv_iadd hx hb dJx4a65c_add_72be8_18 ?_
  refine lv_topi (fun x5 e5 => ?_)
  obtain rfl : x5 = 1 := e5.trans (by decide)
  refine va_put (D := D) (ci := 5) (v := .int 1) (ty := .int) (C := RJx4a65c) (T := TJx4a65c) (N := 3) hx hb hts hb_1 tyJx4a65c tyJx4a65c_ok nmJx4a65c hown hK hP hD hS 1 rfl rfl 2 (by decide) hw_4 (fun _ h9 => h9) rfl (by decide +kernel) rfl rfl (Nat.le_of_ble_eq_true rfl) dJx4a65c_add_72be8_19 (fun H locs hP hD hS => ?_)
  have hP : va_P D vwCl [(y, .inr (14, [.int j0, .ref j1, .ref j2, .ref j3])), (b, .inr (5, [.int v, .ref u2.1, .int 1])), (u2.1, .inl (u2.2, 10, .inr (.inr (.inr (.inr (va_up (fun _ => none) ((0 : Int32).toNatClampNeg) (some y)))))))] H := hP
  have hD : va_D A [(y, .inr (14, [.int j0, .ref j1, .ref j2, .ref j3])), (b, .inr (5, [.int v, .ref u2.1, .int 1])), (u2.1, .inl (u2.2, 10, .inr (.inr (.inr (.inr (va_up (fun _ => none) ((0 : Int32).toNatClampNeg) (some y)))))))] := hD
  exact mr_v hx hb hr u2.1 (trivial) (hP.sub [1] rfl) (hK.sub [] rfl) (hD.sub [1] (by decide) rfl) hS (Nat.le_of_ble_eq_true rfl) (Nat.le_of_ble_eq_true rfl) hlocks dJx4a65c_add_72be8_22

def us_c_alAddC : List Cond := .code yJx4a65c_add_9ea2d cJx4a65c_add_9ea2d 2 (some .boolean) :: (([.sameField "java/util/ArrayList" "java/util/AbstractList" "modCount" "I", .fieldLink RJx4a65c 63 "java/util/ArrayList" "modCount" "I", .fieldLink RJx4a65c 9 "java/util/ArrayList" "elementData" "[Ljava/lang/Object;", .fieldLink RJx4a65c 48 "java/util/ArrayList" "size" "I", .methodLink RJx4a65c 131 yJx4a65c_add_72be8, .instanceMethod yJx4a65c_add_72be8, .selects RJx4a65c yJx4a65c_add_72be8 yJx4a65c_add_72be8, .initialized RJx4a65c] : List Cond) ++ (wsJx4a65c0 ++ (us_c_alAdd3C ++ ([]))))
theorem gw_c_alAddC : ∀ w ∈ us_c_alAddC, goodWord w = true := gw_cons rfl (gw_app (by decide +kernel) (gw_app gwf_Jx4a65c (gw_app gw_c_alAdd3C (fun _ h => nomatch h))))
set_option maxHeartbeats 4000000 in
set_option maxRecDepth 100000 in
/-- add, of the first -/
theorem c_alAddC (l : Launch) (hst : l.stackTraces = false) (D : va_G) (b : Nat) (v : Int32) (y : Nat) (j0 : Int32) (j1 : Nat) (j2 : Nat) (j3 : Nat) (sz : Nat) : Met l yJx4a65c_add_9ea2d us_c_alAddC { frames := 4, cells := 1, slots := 10, locals := 82 } (pw D [.ref b, .ref y] [] [(b, .inr (5, [.int v, .ref (D.1 1000), .int 0])), (y, .inr (14, [.int j0, .ref j1, .ref j2, .ref j3]))] sz) (va_Qi (fun (_ : Int32) (_ : Nat) => True) (qb D (va_A [(b, .inr (5, [.int v, .ref (D.1 1000), .int 0])), (y, .inr (14, [.int j0, .ref j1, .ref j2, .ref j3]))] sz) (fun u : Nat => [(b, .inr (5, [.int (v + 1), .ref u, .int 1]))]) (fun u : Nat => ([] : List (ClassId × FieldType)))) (va_A [(b, .inr (5, [.int v, .ref (D.1 1000), .int 0])), (y, .inr (14, [.int j0, .ref j1, .ref j2, .ref j3]))] sz)) 1 10 (va_A [(b, .inr (5, [.int v, .ref (D.1 1000), .int 0])), (y, .inr (14, [.int j0, .ref j1, .ref j2, .ref j3]))] sz) := by
  refine op_M (Qc := fun A => (va_Qi (fun (_ : Int32) (_ : Nat) => True) (qb D A (fun u : Nat => [(b, .inr (5, [.int (v + 1), .ref u, .int 1]))]) (fun u : Nat => ([] : List (ClassId × FieldType)))) A)) (by decide +kernel) rfl (Nat.le_of_ble_eq_true rfl) ?_
  intro p e s m args below meth c A ls hx hb hr hml hts hown hlocks hmn htab hA hD hS hP hK hE hsz hl
  have hown : s.vm.findClass RJx4a65c = some m.cls := hown
  have hl : lv_has ls 2 [(0, .ref b), (1, .ref y)] := hl
  have hw_0 := hts (.sameField "java/util/ArrayList" "java/util/AbstractList" "modCount" "I") (List.mem_cons_of_mem _ (List.mem_append_left _ (List.mem_of_getElem? (i := 0) rfl)))
  have hw_1 := hts (.fieldLink RJx4a65c 63 "java/util/ArrayList" "modCount" "I") (List.mem_cons_of_mem _ (List.mem_append_left _ (List.mem_of_getElem? (i := 1) rfl)))
  have hw_2 := hts (.fieldLink RJx4a65c 9 "java/util/ArrayList" "elementData" "[Ljava/lang/Object;") (List.mem_cons_of_mem _ (List.mem_append_left _ (List.mem_of_getElem? (i := 2) rfl)))
  have hw_3 := hts (.fieldLink RJx4a65c 48 "java/util/ArrayList" "size" "I") (List.mem_cons_of_mem _ (List.mem_append_left _ (List.mem_of_getElem? (i := 3) rfl)))
  have hw_4 := hts (.methodLink RJx4a65c 131 yJx4a65c_add_72be8) (List.mem_cons_of_mem _ (List.mem_append_left _ (List.mem_of_getElem? (i := 4) rfl)))
  have hw_5 := hts (.instanceMethod yJx4a65c_add_72be8) (List.mem_cons_of_mem _ (List.mem_append_left _ (List.mem_of_getElem? (i := 5) rfl)))
  have hw_6 := hts (.selects RJx4a65c yJx4a65c_add_72be8 yJx4a65c_add_72be8) (List.mem_cons_of_mem _ (List.mem_append_left _ (List.mem_of_getElem? (i := 6) rfl)))
  have hw_7 := hts (.initialized RJx4a65c) (List.mem_cons_of_mem _ (List.mem_append_left _ (List.mem_of_getElem? (i := 7) rfl)))
  have hb_0 : ∀ w ∈ wsJx4a65c0, w ∈ us_c_alAddC := fun w h => List.mem_cons_of_mem _ (List.mem_append_right _ (List.mem_append_left _ h))
  have hb_1 : ∀ w ∈ us_c_alAdd3C, w ∈ us_c_alAddC := fun w h => List.mem_cons_of_mem _ (List.mem_append_right _ (List.mem_append_right _ (List.mem_append_left _ h)))
  refine lv_aload_n hx hb dJx4a65c_add_9ea2d_0 rfl (lv_at hl 0 rfl) ?_
  refine lv_dup hx hb dJx4a65c_add_9ea2d_1 rfl ?_
  refine va_get (D := D) (ci := 5) (v := .int v) (C := RJx4a65c) (T := TJx4a65c) (N := 3) hx hb hts hb_0 hown hK hP 0 rfl rfl 0 (by decide) hw_1 (fun x9 h9 => u_same hw_0 x9 h9) rfl dJx4a65c_add_9ea2d_2 ?_
  refine lv_iconst (v := 1) hx hb dJx4a65c_add_9ea2d_5 (by decide) ?_
  refine lv_iadd hx hb dJx4a65c_add_9ea2d_6 ?_
  refine lv_topi (fun x1 e1 => ?_)
  obtain rfl : x1 = v + 1 := e1
  refine va_put (D := D) (ci := 5) (v := .int (v + 1)) (ty := .int) (C := RJx4a65c) (T := TJx4a65c) (N := 3) hx hb hts hb_0 tyJx4a65c tyJx4a65c_ok nmJx4a65c hown hK hP hD hS 0 rfl rfl 0 (by decide) hw_1 (fun x9 h9 => u_same hw_0 x9 h9) rfl (by decide +kernel) rfl rfl (Nat.le_of_ble_eq_true rfl) dJx4a65c_add_9ea2d_7 (fun H locs hP hD hS => ?_)
  have hP : va_P D vwCl [(b, .inr (5, [.int (v + 1), .ref (D.1 1000), .int 0])), (y, .inr (14, [.int j0, .ref j1, .ref j2, .ref j3]))] H := hP
  have hD : va_D A [(b, .inr (5, [.int (v + 1), .ref (D.1 1000), .int 0])), (y, .inr (14, [.int j0, .ref j1, .ref j2, .ref j3]))] := hD
  refine lv_aload_n hx hb dJx4a65c_add_9ea2d_10 rfl (lv_at hl 0 rfl) ?_
  refine lv_aload_n hx hb dJx4a65c_add_9ea2d_11 rfl (lv_at hl 1 rfl) ?_
  refine lv_aload_n hx hb dJx4a65c_add_9ea2d_12 rfl (lv_at hl 0 rfl) ?_
  refine va_get (D := D) (ci := 5) (v := .ref (D.1 1000)) (C := RJx4a65c) (T := TJx4a65c) (N := 3) hx hb hts hb_0 hown hK hP 0 rfl rfl 1 (by decide) hw_2 (fun _ h9 => h9) rfl dJx4a65c_add_9ea2d_13 ?_
  refine lv_aload_n hx hb dJx4a65c_add_9ea2d_16 rfl (lv_at hl 0 rfl) ?_
  refine va_get (D := D) (ci := 5) (v := .int 0) (C := RJx4a65c) (T := TJx4a65c) (N := 3) hx hb hts hb_0 hown hK hP 0 rfl rfl 2 (by decide) hw_3 (fun _ h9 => h9) rfl dJx4a65c_add_9ea2d_17 ?_
  refine mc_v (wr := []) (va_runV (As := [.ref y, .ref (D.1 1000), .int 0]) (rest := []) ⟨hx, hb, hml, hown, hts⟩ (c_alAdd3C l hst D b (v + 1) y j0 j1 j2 j3 H.size) (cwV 3 hts (gi_c (List.mem_cons_of_mem _ (List.mem_append_left _ (List.mem_of_getElem? (i := 4) rfl))) rfl (gi_c (List.mem_cons_of_mem _ (List.mem_append_left _ (List.mem_of_getElem? (i := 5) rfl))) rfl (gi_c (List.mem_cons_of_mem _ (List.mem_append_left _ (List.mem_of_getElem? (i := 6) rfl))) rfl (gi_c (List.mem_cons_of_mem _ (List.mem_append_left _ (List.mem_of_getElem? (i := 7) rfl))) rfl (goodIn_sub hb_1 (List.all_eq_true.mpr gw_c_alAdd3C)))))) rfl rfl rfl (by decide +kernel) ⟨Nat.le_of_ble_eq_true rfl, Nat.le_of_ble_eq_true rfl⟩) (pr_V (As := [.ref y, .ref (D.1 1000), .int 0]) (b := b) (C := RJx4a65c) hP hD hK hS hA hE [0, 1] [] rfl rfl rfl 0 5 rfl rfl rfl) rfl rfl hl.1 rfl (lv_room (Nat.le_of_ble_eq_true rfl)) dJx4a65c_add_9ea2d_20 ⟨Nat.le_of_ble_eq_true rfl, Nat.le_of_ble_eq_true rfl⟩) hP hD hK hS hA [0, 1] [] rfl rfl (by decide) (by decide) (fun u2 H locs w3 hP hD hK hS => ?_)
  have hP : va_P D vwCl [(b, .inr (5, [.int (v + 1), .ref u2, .int 1]))] H := hP
  have hD : va_D A [(b, .inr (5, [.int (v + 1), .ref u2, .int 1]))] := hD
  have hK : va_K D vwCl [] s := hK
  refine lv_iconst (v := 1) hx hb dJx4a65c_add_9ea2d_23 (by decide) ?_
  exact mr_z (rfl) hx hb hr u2 (trivial) (hP.sub [0] rfl) (hK.sub [] rfl) (hD.sub [0] (by decide) rfl) hS (Nat.le_of_ble_eq_true rfl) (Nat.le_of_ble_eq_true rfl) hlocks dJx4a65c_add_9ea2d_24

def us_c_alAdd3I : List Cond := .code yJx4a65c_add_72be8 cJx4a65c_add_72be8 4 none :: (([.methodLink RJx4a65c 129 yJx4a65c_grow_d5877, .instanceMethod yJx4a65c_grow_d5877, .selects RJx4a65c yJx4a65c_grow_d5877 yJx4a65c_grow_d5877, .initialized RJx4a65c, .fieldLink RJx4a65c 48 "java/util/ArrayList" "size" "I"] : List Cond) ++ (us_c_alGrow0 ++ (wsJx4a65c0 ++ ([]))))
theorem gw_c_alAdd3I : ∀ w ∈ us_c_alAdd3I, goodWord w = true := gw_cons rfl (gw_app (by decide +kernel) (gw_app gw_c_alGrow0 (gw_app gwf_Jx4a65c (fun _ h => nomatch h))))
set_option maxHeartbeats 4000000 in
set_option maxRecDepth 100000 in
/-- add, of the first -/
theorem c_alAdd3I (l : Launch) (hst : l.stackTraces = false) (D : va_G) (b : Nat) (v : Int32) (y : Nat) (cy : ClassId) (fy : Nat → Int32) (sz : Nat) : Met l yJx4a65c_add_72be8 us_c_alAdd3I { frames := 3, cells := 1, slots := 10, locals := 59 } (pw D [.ref b, .ref y, .ref (D.1 1000), .int 0] [(cy, .int)] [(b, .inr (5, [.int v, .ref (D.1 1000), .int 0])), (y, .inl (cy, 6, .inl fy))] sz) (va_Qv (fun _ : Nat => True) (qb D (va_A [(b, .inr (5, [.int v, .ref (D.1 1000), .int 0])), (y, .inl (cy, 6, .inl fy))] sz) (fun u : Nat => [(b, .inr (5, [.int v, .ref u, .int 1]))]) (fun u : Nat => ([] : List (ClassId × FieldType)))) (va_A [(b, .inr (5, [.int v, .ref (D.1 1000), .int 0])), (y, .inl (cy, 6, .inl fy))] sz)) 1 10 (va_A [(b, .inr (5, [.int v, .ref (D.1 1000), .int 0])), (y, .inl (cy, 6, .inl fy))] sz) := by
  refine op_M (Qc := fun A => (va_Qv (fun _ : Nat => True) (qb D A (fun u : Nat => [(b, .inr (5, [.int v, .ref u, .int 1]))]) (fun u : Nat => ([] : List (ClassId × FieldType)))) A)) (by decide +kernel) rfl (Nat.le_of_ble_eq_true rfl) ?_
  intro p e s m args below meth c A ls hx hb hr hml hts hown hlocks hmn htab hA hD hS hP hK hE hsz hl
  have hown : s.vm.findClass RJx4a65c = some m.cls := hown
  have hl : lv_has ls 4 [(0, .ref b), (1, .ref y), (2, .ref (D.1 1000)), (3, .int 0)] := hl
  have hw_0 := hts (.methodLink RJx4a65c 129 yJx4a65c_grow_d5877) (List.mem_cons_of_mem _ (List.mem_append_left _ (List.mem_of_getElem? (i := 0) rfl)))
  have hw_1 := hts (.instanceMethod yJx4a65c_grow_d5877) (List.mem_cons_of_mem _ (List.mem_append_left _ (List.mem_of_getElem? (i := 1) rfl)))
  have hw_2 := hts (.selects RJx4a65c yJx4a65c_grow_d5877 yJx4a65c_grow_d5877) (List.mem_cons_of_mem _ (List.mem_append_left _ (List.mem_of_getElem? (i := 2) rfl)))
  have hw_3 := hts (.initialized RJx4a65c) (List.mem_cons_of_mem _ (List.mem_append_left _ (List.mem_of_getElem? (i := 3) rfl)))
  have hw_4 := hts (.fieldLink RJx4a65c 48 "java/util/ArrayList" "size" "I") (List.mem_cons_of_mem _ (List.mem_append_left _ (List.mem_of_getElem? (i := 4) rfl)))
  have hb_0 : ∀ w ∈ us_c_alGrow0, w ∈ us_c_alAdd3I := fun w h => List.mem_cons_of_mem _ (List.mem_append_right _ (List.mem_append_left _ h))
  have hb_1 : ∀ w ∈ wsJx4a65c0, w ∈ us_c_alAdd3I := fun w h => List.mem_cons_of_mem _ (List.mem_append_right _ (List.mem_append_right _ (List.mem_append_left _ h)))
  refine lv_iload_n hx hb dJx4a65c_add_72be8_0 rfl (lv_at hl 3 rfl) ?_
  refine lv_aload_n hx hb dJx4a65c_add_72be8_1 rfl (lv_at hl 2 rfl) ?_
  refine va_tlen (t := D.1 1000) (N := 0) (v := 0) hx hb hE.2.2.2.2.2.2.2.2.1 hS rfl dJx4a65c_add_72be8_2 ?_
  refine lv_icmp_ne (tgt := 11) hx hb dJx4a65c_add_72be8_3 (by decide) (fun h1 => absurd (by decide) h1) (fun h1 => ?_)
  refine lv_aload_n hx hb dJx4a65c_add_72be8_6 rfl (lv_at hl 0 rfl) ?_
  refine mc_q (wr := [(y, .inl (cy, 6, .inl fy))]) (va_runV (As := []) (rest := []) ⟨hx, hb, hml, hown, hts⟩ (c_alGrow0 l hst D b v s.heap.size) (cwV 0 hts (gi_c (List.mem_cons_of_mem _ (List.mem_append_left _ (List.mem_of_getElem? (i := 0) rfl))) rfl (gi_c (List.mem_cons_of_mem _ (List.mem_append_left _ (List.mem_of_getElem? (i := 1) rfl))) rfl (gi_c (List.mem_cons_of_mem _ (List.mem_append_left _ (List.mem_of_getElem? (i := 2) rfl))) rfl (gi_c (List.mem_cons_of_mem _ (List.mem_append_left _ (List.mem_of_getElem? (i := 3) rfl))) rfl (goodIn_sub hb_0 (List.all_eq_true.mpr gw_c_alGrow0)))))) rfl rfl rfl (by decide +kernel) ⟨Nat.le_of_ble_eq_true rfl, Nat.le_of_ble_eq_true rfl⟩) (pr_V (As := []) (b := b) (C := RJx4a65c) hP hD hK hS hA hE [0] [] rfl rfl rfl 0 5 rfl rfl rfl) rfl rfl hl.1 rfl (lv_room (Nat.le_of_ble_eq_true rfl)) dJx4a65c_add_72be8_7 ⟨Nat.le_of_ble_eq_true rfl, Nat.le_of_ble_eq_true rfl⟩) hP hD hK hS hA [0] [1] rfl rfl (by decide) (by decide) (fun r4 u2 H locs w3 hP hD hK hS => ?_)
  have hP : va_P D vwCl [(y, .inl (cy, 6, .inl fy)), (b, .inr (5, [.int v, .ref u2.1, .int 0])), (u2.1, .inl (u2.2, 10, .inr (.inr (.inr (.inr (fun _ => none))))))] H := hP
  have hD : va_D A [(y, .inl (cy, 6, .inl fy)), (b, .inr (5, [.int v, .ref u2.1, .int 0])), (u2.1, .inl (u2.2, 10, .inr (.inr (.inr (.inr (fun _ => none))))))] := hD
  have hK : va_K D vwCl [(cy, .int), (u2.2, .object "java/lang/Object")] s := hK
  obtain rfl := w3
  refine lv_astore_n (lv' := [(2, .ref u2.1), (0, .ref b), (1, .ref y), (3, .int 0)]) hx hb dJx4a65c_add_72be8_10 rfl hl (by decide) rfl (fun ls hl => ?_)
  refine lv_aload_n hx hb dJx4a65c_add_72be8_11 rfl (lv_at hl 0 rfl) ?_
  refine lv_iload_n hx hb dJx4a65c_add_72be8_12 rfl (lv_at hl 3 rfl) ?_
  refine lv_aload_n hx hb dJx4a65c_add_72be8_13 rfl (lv_at hl 2 rfl) ?_
  refine va_astqM hx hb hK hP hD hS 2 1 rfl rfl (any_arr hK hP (k := 0) (t := 0) rfl rfl (hE.2.2.2.2.2.1.1 _ (List.mem_of_getElem? (i := 13) rfl))) (vp_in_nI (n := 0) (by decide) (by decide)) dJx4a65c_add_72be8_14 (fun H locs hP hD hS => ?_)
  have hP : va_P D vwCl [(y, .inl (cy, 6, .inl fy)), (b, .inr (5, [.int v, .ref u2.1, .int 0])), (u2.1, .inl (u2.2, 10, .inr (.inr (.inr (.inr (va_up (fun _ => none) ((0 : Int32).toNatClampNeg) (some y)))))))] H := hP
  have hD : va_D A [(y, .inl (cy, 6, .inl fy)), (b, .inr (5, [.int v, .ref u2.1, .int 0])), (u2.1, .inl (u2.2, 10, .inr (.inr (.inr (.inr (va_up (fun _ => none) ((0 : Int32).toNatClampNeg) (some y)))))))] := hD
  refine lv_aload_n hx hb dJx4a65c_add_72be8_15 rfl (lv_at hl 1 rfl) ?_
  refine lv_iload_n hx hb dJx4a65c_add_72be8_16 rfl (lv_at hl 3 rfl) ?_
  refine lv_iconst (v := 1) hx hb dJx4a65c_add_72be8_17 (by decide) ?_
  refine lv_iadd hx hb dJx4a65c_add_72be8_18 ?_
  refine lv_topi (fun x5 e5 => ?_)
  obtain rfl : x5 = 1 := e5.trans (by decide)
  refine va_put (D := D) (ci := 5) (v := .int 1) (ty := .int) (C := RJx4a65c) (T := TJx4a65c) (N := 3) hx hb hts hb_1 tyJx4a65c tyJx4a65c_ok nmJx4a65c hown hK hP hD hS 1 rfl rfl 2 (by decide) hw_4 (fun _ h9 => h9) rfl (by decide +kernel) rfl rfl (Nat.le_of_ble_eq_true rfl) dJx4a65c_add_72be8_19 (fun H locs hP hD hS => ?_)
  have hP : va_P D vwCl [(y, .inl (cy, 6, .inl fy)), (b, .inr (5, [.int v, .ref u2.1, .int 1])), (u2.1, .inl (u2.2, 10, .inr (.inr (.inr (.inr (va_up (fun _ => none) ((0 : Int32).toNatClampNeg) (some y)))))))] H := hP
  have hD : va_D A [(y, .inl (cy, 6, .inl fy)), (b, .inr (5, [.int v, .ref u2.1, .int 1])), (u2.1, .inl (u2.2, 10, .inr (.inr (.inr (.inr (va_up (fun _ => none) ((0 : Int32).toNatClampNeg) (some y)))))))] := hD
  exact mr_v hx hb hr u2.1 (trivial) (hP.sub [1] rfl) (hK.sub [] rfl) (hD.sub [1] (by decide) rfl) hS (Nat.le_of_ble_eq_true rfl) (Nat.le_of_ble_eq_true rfl) hlocks dJx4a65c_add_72be8_22

def us_c_alAddI : List Cond := .code yJx4a65c_add_9ea2d cJx4a65c_add_9ea2d 2 (some .boolean) :: (([.sameField "java/util/ArrayList" "java/util/AbstractList" "modCount" "I", .fieldLink RJx4a65c 63 "java/util/ArrayList" "modCount" "I", .fieldLink RJx4a65c 9 "java/util/ArrayList" "elementData" "[Ljava/lang/Object;", .fieldLink RJx4a65c 48 "java/util/ArrayList" "size" "I", .methodLink RJx4a65c 131 yJx4a65c_add_72be8, .instanceMethod yJx4a65c_add_72be8, .selects RJx4a65c yJx4a65c_add_72be8 yJx4a65c_add_72be8, .initialized RJx4a65c] : List Cond) ++ (wsJx4a65c0 ++ (us_c_alAdd3I ++ ([]))))
theorem gw_c_alAddI : ∀ w ∈ us_c_alAddI, goodWord w = true := gw_cons rfl (gw_app (by decide +kernel) (gw_app gwf_Jx4a65c (gw_app gw_c_alAdd3I (fun _ h => nomatch h))))
set_option maxHeartbeats 4000000 in
set_option maxRecDepth 100000 in
/-- add, of the first -/
theorem c_alAddI (l : Launch) (hst : l.stackTraces = false) (D : va_G) (b : Nat) (v : Int32) (y : Nat) (cy : ClassId) (fy : Nat → Int32) (sz : Nat) : Met l yJx4a65c_add_9ea2d us_c_alAddI { frames := 4, cells := 1, slots := 10, locals := 82 } (pw D [.ref b, .ref y] [(cy, .int)] [(b, .inr (5, [.int v, .ref (D.1 1000), .int 0])), (y, .inl (cy, 6, .inl fy))] sz) (va_Qi (fun (_ : Int32) (_ : Nat) => True) (qb D (va_A [(b, .inr (5, [.int v, .ref (D.1 1000), .int 0])), (y, .inl (cy, 6, .inl fy))] sz) (fun u : Nat => [(b, .inr (5, [.int (v + 1), .ref u, .int 1]))]) (fun u : Nat => ([] : List (ClassId × FieldType)))) (va_A [(b, .inr (5, [.int v, .ref (D.1 1000), .int 0])), (y, .inl (cy, 6, .inl fy))] sz)) 1 10 (va_A [(b, .inr (5, [.int v, .ref (D.1 1000), .int 0])), (y, .inl (cy, 6, .inl fy))] sz) := by
  refine op_M (Qc := fun A => (va_Qi (fun (_ : Int32) (_ : Nat) => True) (qb D A (fun u : Nat => [(b, .inr (5, [.int (v + 1), .ref u, .int 1]))]) (fun u : Nat => ([] : List (ClassId × FieldType)))) A)) (by decide +kernel) rfl (Nat.le_of_ble_eq_true rfl) ?_
  intro p e s m args below meth c A ls hx hb hr hml hts hown hlocks hmn htab hA hD hS hP hK hE hsz hl
  have hown : s.vm.findClass RJx4a65c = some m.cls := hown
  have hl : lv_has ls 2 [(0, .ref b), (1, .ref y)] := hl
  have hw_0 := hts (.sameField "java/util/ArrayList" "java/util/AbstractList" "modCount" "I") (List.mem_cons_of_mem _ (List.mem_append_left _ (List.mem_of_getElem? (i := 0) rfl)))
  have hw_1 := hts (.fieldLink RJx4a65c 63 "java/util/ArrayList" "modCount" "I") (List.mem_cons_of_mem _ (List.mem_append_left _ (List.mem_of_getElem? (i := 1) rfl)))
  have hw_2 := hts (.fieldLink RJx4a65c 9 "java/util/ArrayList" "elementData" "[Ljava/lang/Object;") (List.mem_cons_of_mem _ (List.mem_append_left _ (List.mem_of_getElem? (i := 2) rfl)))
  have hw_3 := hts (.fieldLink RJx4a65c 48 "java/util/ArrayList" "size" "I") (List.mem_cons_of_mem _ (List.mem_append_left _ (List.mem_of_getElem? (i := 3) rfl)))
  have hw_4 := hts (.methodLink RJx4a65c 131 yJx4a65c_add_72be8) (List.mem_cons_of_mem _ (List.mem_append_left _ (List.mem_of_getElem? (i := 4) rfl)))
  have hw_5 := hts (.instanceMethod yJx4a65c_add_72be8) (List.mem_cons_of_mem _ (List.mem_append_left _ (List.mem_of_getElem? (i := 5) rfl)))
  have hw_6 := hts (.selects RJx4a65c yJx4a65c_add_72be8 yJx4a65c_add_72be8) (List.mem_cons_of_mem _ (List.mem_append_left _ (List.mem_of_getElem? (i := 6) rfl)))
  have hw_7 := hts (.initialized RJx4a65c) (List.mem_cons_of_mem _ (List.mem_append_left _ (List.mem_of_getElem? (i := 7) rfl)))
  have hb_0 : ∀ w ∈ wsJx4a65c0, w ∈ us_c_alAddI := fun w h => List.mem_cons_of_mem _ (List.mem_append_right _ (List.mem_append_left _ h))
  have hb_1 : ∀ w ∈ us_c_alAdd3I, w ∈ us_c_alAddI := fun w h => List.mem_cons_of_mem _ (List.mem_append_right _ (List.mem_append_right _ (List.mem_append_left _ h)))
  refine lv_aload_n hx hb dJx4a65c_add_9ea2d_0 rfl (lv_at hl 0 rfl) ?_
  refine lv_dup hx hb dJx4a65c_add_9ea2d_1 rfl ?_
  refine va_get (D := D) (ci := 5) (v := .int v) (C := RJx4a65c) (T := TJx4a65c) (N := 3) hx hb hts hb_0 hown hK hP 0 rfl rfl 0 (by decide) hw_1 (fun x9 h9 => u_same hw_0 x9 h9) rfl dJx4a65c_add_9ea2d_2 ?_
  refine lv_iconst (v := 1) hx hb dJx4a65c_add_9ea2d_5 (by decide) ?_
  refine lv_iadd hx hb dJx4a65c_add_9ea2d_6 ?_
  refine lv_topi (fun x1 e1 => ?_)
  obtain rfl : x1 = v + 1 := e1
  refine va_put (D := D) (ci := 5) (v := .int (v + 1)) (ty := .int) (C := RJx4a65c) (T := TJx4a65c) (N := 3) hx hb hts hb_0 tyJx4a65c tyJx4a65c_ok nmJx4a65c hown hK hP hD hS 0 rfl rfl 0 (by decide) hw_1 (fun x9 h9 => u_same hw_0 x9 h9) rfl (by decide +kernel) rfl rfl (Nat.le_of_ble_eq_true rfl) dJx4a65c_add_9ea2d_7 (fun H locs hP hD hS => ?_)
  have hP : va_P D vwCl [(b, .inr (5, [.int (v + 1), .ref (D.1 1000), .int 0])), (y, .inl (cy, 6, .inl fy))] H := hP
  have hD : va_D A [(b, .inr (5, [.int (v + 1), .ref (D.1 1000), .int 0])), (y, .inl (cy, 6, .inl fy))] := hD
  refine lv_aload_n hx hb dJx4a65c_add_9ea2d_10 rfl (lv_at hl 0 rfl) ?_
  refine lv_aload_n hx hb dJx4a65c_add_9ea2d_11 rfl (lv_at hl 1 rfl) ?_
  refine lv_aload_n hx hb dJx4a65c_add_9ea2d_12 rfl (lv_at hl 0 rfl) ?_
  refine va_get (D := D) (ci := 5) (v := .ref (D.1 1000)) (C := RJx4a65c) (T := TJx4a65c) (N := 3) hx hb hts hb_0 hown hK hP 0 rfl rfl 1 (by decide) hw_2 (fun _ h9 => h9) rfl dJx4a65c_add_9ea2d_13 ?_
  refine lv_aload_n hx hb dJx4a65c_add_9ea2d_16 rfl (lv_at hl 0 rfl) ?_
  refine va_get (D := D) (ci := 5) (v := .int 0) (C := RJx4a65c) (T := TJx4a65c) (N := 3) hx hb hts hb_0 hown hK hP 0 rfl rfl 2 (by decide) hw_3 (fun _ h9 => h9) rfl dJx4a65c_add_9ea2d_17 ?_
  refine mc_v (wr := []) (va_runV (As := [.ref y, .ref (D.1 1000), .int 0]) (rest := []) ⟨hx, hb, hml, hown, hts⟩ (c_alAdd3I l hst D b (v + 1) y cy fy H.size) (cwV 3 hts (gi_c (List.mem_cons_of_mem _ (List.mem_append_left _ (List.mem_of_getElem? (i := 4) rfl))) rfl (gi_c (List.mem_cons_of_mem _ (List.mem_append_left _ (List.mem_of_getElem? (i := 5) rfl))) rfl (gi_c (List.mem_cons_of_mem _ (List.mem_append_left _ (List.mem_of_getElem? (i := 6) rfl))) rfl (gi_c (List.mem_cons_of_mem _ (List.mem_append_left _ (List.mem_of_getElem? (i := 7) rfl))) rfl (goodIn_sub hb_1 (List.all_eq_true.mpr gw_c_alAdd3I)))))) rfl rfl rfl (by decide +kernel) ⟨Nat.le_of_ble_eq_true rfl, Nat.le_of_ble_eq_true rfl⟩) (pr_V (As := [.ref y, .ref (D.1 1000), .int 0]) (b := b) (C := RJx4a65c) hP hD hK hS hA hE [0, 1] [0] rfl rfl rfl 0 5 rfl rfl rfl) rfl rfl hl.1 rfl (lv_room (Nat.le_of_ble_eq_true rfl)) dJx4a65c_add_9ea2d_20 ⟨Nat.le_of_ble_eq_true rfl, Nat.le_of_ble_eq_true rfl⟩) hP hD hK hS hA [0, 1] [] rfl rfl (by decide) (by decide) (fun u2 H locs w3 hP hD hK hS => ?_)
  have hP : va_P D vwCl [(b, .inr (5, [.int (v + 1), .ref u2, .int 1]))] H := hP
  have hD : va_D A [(b, .inr (5, [.int (v + 1), .ref u2, .int 1]))] := hD
  have hK : va_K D vwCl [(cy, .int)] s := hK
  refine lv_iconst (v := 1) hx hb dJx4a65c_add_9ea2d_23 (by decide) ?_
  exact mr_z (rfl) hx hb hr u2 (trivial) (hP.sub [0] rfl) (hK.sub [] rfl) (hD.sub [0] (by decide) rfl) hS (Nat.le_of_ble_eq_true rfl) (Nat.le_of_ble_eq_true rfl) hlocks dJx4a65c_add_9ea2d_24

def us_c_X7_init : List Cond := .code yX7_init cX7_init 2 none :: (([.methodLink RX7 3 objectInit, .instanceMethod objectInit, .code objectInit ⟨#[0xb1]⟩ 1 none, .classLink RX7 9 RJx4a65c, .instantiable RJx4a65c 3, .initialized RJx4a65c, .methodLink RX7 11 yJx4a65c_init_da8c8, .instanceMethod yJx4a65c_init_da8c8, .fieldLink RX7 12 "ControlWoodModel$Course" "order" "Ljava/util/ArrayList;", .arrayClass .int, .fieldLink RX7 18 "ControlWoodModel$Course" "forks" "[I", .arrayClass .boolean, .fieldLink RX7 22 "ControlWoodModel$Course" "isVoid" "[Z", .fieldLink RX7 26 "ControlWoodModel$Course" "start" "I", .methodLink RX7 30 yJ7_fill_53178, .static yJ7_fill_53178, .initialized RJ7] : List Cond) ++ (wsJx4a65c0 ++ (us_c_alInit ++ (wsX70 ++ (us_c_fillI ++ ([]))))))
theorem gw_c_X7_init : ∀ w ∈ us_c_X7_init, goodWord w = true := gw_cons rfl (gw_app (by decide +kernel) (gw_app gwf_Jx4a65c (gw_app gw_c_alInit (gw_app gwf_X7 (gw_app gw_c_fillI (fun _ h => nomatch h))))))
set_option maxHeartbeats 4000000 in
set_option maxRecDepth 100000 in
/-- a new course of the reference -/
theorem c_X7_init (l : Launch) (hst : l.stackTraces = false) (D : va_G) (y : Nat) (p0 : Int32) (sz : Nat) : Met l yX7_init us_c_X7_init { frames := 4, cells := 3, slots := 22, locals := 75 } (pw D [.ref y, .int p0] [] [(y, .inr (14, [.int 0, .null, .null, .null]))] sz) (va_Qv (fun _ : Nat → Nat => True) (qb D (va_A [(y, .inr (14, [.int 0, .null, .null, .null]))] sz) (fun u : (Nat → Nat) => [(y, .inr (14, [.int p0, .ref (u 0), .ref (u 1), .ref (u 2)]))]) (fun u : (Nat → Nat) => ([] : List (ClassId × FieldType)))) (va_A [(y, .inr (14, [.int 0, .null, .null, .null]))] sz)) 3 22 (va_A [(y, .inr (14, [.int 0, .null, .null, .null]))] sz) := by
  refine op_M (Qc := fun A => (va_Qv (fun _ : Nat → Nat => True) (qb D A (fun u : (Nat → Nat) => [(y, .inr (14, [.int p0, .ref (u 0), .ref (u 1), .ref (u 2)]))]) (fun u : (Nat → Nat) => ([] : List (ClassId × FieldType)))) A)) (by decide +kernel) rfl (Nat.le_of_ble_eq_true rfl) ?_
  intro p e s m args below meth c A ls hx hb hr hml hts hown hlocks hmn htab hA hD hS hP hK hE hsz hl
  have hown : s.vm.findClass RX7 = some m.cls := hown
  have hl : lv_has ls 2 [(0, .ref y), (1, .int p0)] := hl
  have hw_0 := hts (.methodLink RX7 3 objectInit) (List.mem_cons_of_mem _ (List.mem_append_left _ (List.mem_of_getElem? (i := 0) rfl)))
  have hw_1 := hts (.instanceMethod objectInit) (List.mem_cons_of_mem _ (List.mem_append_left _ (List.mem_of_getElem? (i := 1) rfl)))
  have hw_2 := hts (.code objectInit ⟨#[0xb1]⟩ 1 none) (List.mem_cons_of_mem _ (List.mem_append_left _ (List.mem_of_getElem? (i := 2) rfl)))
  have hw_3 := hts (.classLink RX7 9 RJx4a65c) (List.mem_cons_of_mem _ (List.mem_append_left _ (List.mem_of_getElem? (i := 3) rfl)))
  have hw_4 := hts (.instantiable RJx4a65c 3) (List.mem_cons_of_mem _ (List.mem_append_left _ (List.mem_of_getElem? (i := 4) rfl)))
  have hw_5 := hts (.initialized RJx4a65c) (List.mem_cons_of_mem _ (List.mem_append_left _ (List.mem_of_getElem? (i := 5) rfl)))
  have hw_6 := hts (.methodLink RX7 11 yJx4a65c_init_da8c8) (List.mem_cons_of_mem _ (List.mem_append_left _ (List.mem_of_getElem? (i := 6) rfl)))
  have hw_7 := hts (.instanceMethod yJx4a65c_init_da8c8) (List.mem_cons_of_mem _ (List.mem_append_left _ (List.mem_of_getElem? (i := 7) rfl)))
  have hw_8 := hts (.fieldLink RX7 12 "ControlWoodModel$Course" "order" "Ljava/util/ArrayList;") (List.mem_cons_of_mem _ (List.mem_append_left _ (List.mem_of_getElem? (i := 8) rfl)))
  have hw_9 := hts (.arrayClass .int) (List.mem_cons_of_mem _ (List.mem_append_left _ (List.mem_of_getElem? (i := 9) rfl)))
  have hw_10 := hts (.fieldLink RX7 18 "ControlWoodModel$Course" "forks" "[I") (List.mem_cons_of_mem _ (List.mem_append_left _ (List.mem_of_getElem? (i := 10) rfl)))
  have hw_11 := hts (.arrayClass .boolean) (List.mem_cons_of_mem _ (List.mem_append_left _ (List.mem_of_getElem? (i := 11) rfl)))
  have hw_12 := hts (.fieldLink RX7 22 "ControlWoodModel$Course" "isVoid" "[Z") (List.mem_cons_of_mem _ (List.mem_append_left _ (List.mem_of_getElem? (i := 12) rfl)))
  have hw_13 := hts (.fieldLink RX7 26 "ControlWoodModel$Course" "start" "I") (List.mem_cons_of_mem _ (List.mem_append_left _ (List.mem_of_getElem? (i := 13) rfl)))
  have hw_14 := hts (.methodLink RX7 30 yJ7_fill_53178) (List.mem_cons_of_mem _ (List.mem_append_left _ (List.mem_of_getElem? (i := 14) rfl)))
  have hw_15 := hts (.static yJ7_fill_53178) (List.mem_cons_of_mem _ (List.mem_append_left _ (List.mem_of_getElem? (i := 15) rfl)))
  have hw_16 := hts (.initialized RJ7) (List.mem_cons_of_mem _ (List.mem_append_left _ (List.mem_of_getElem? (i := 16) rfl)))
  have hb_0 : ∀ w ∈ wsJx4a65c0, w ∈ us_c_X7_init := fun w h => List.mem_cons_of_mem _ (List.mem_append_right _ (List.mem_append_left _ h))
  have hb_1 : ∀ w ∈ us_c_alInit, w ∈ us_c_X7_init := fun w h => List.mem_cons_of_mem _ (List.mem_append_right _ (List.mem_append_right _ (List.mem_append_left _ h)))
  have hb_2 : ∀ w ∈ wsX70, w ∈ us_c_X7_init := fun w h => List.mem_cons_of_mem _ (List.mem_append_right _ (List.mem_append_right _ (List.mem_append_right _ (List.mem_append_left _ h))))
  have hb_3 : ∀ w ∈ us_c_fillI, w ∈ us_c_X7_init := fun w h => List.mem_cons_of_mem _ (List.mem_append_right _ (List.mem_append_right _ (List.mem_append_right _ (List.mem_append_right _ (List.mem_append_left _ h)))))
  refine lv_aload_n hx hb dX7_init_0 rfl (lv_at hl 0 rfl) ?_
  refine W.objInit hx hb hown hw_0 hw_1 hw_2 rfl (by rw [hml]; exact hl.1) rfl dX7_init_1 (Nat.le_of_ble_eq_true rfl) (Nat.le_of_ble_eq_true rfl) ?_
  refine W.eq (g2 := F0 m 4 ls []) rfl ?_
  refine lv_aload_n hx hb dX7_init_4 rfl (lv_at hl 0 rfl) ?_
  refine va_new (ci := 5) (fs := [.int 0, .null, .int 0]) (C := RJx4a65c) (T := TJx4a65c) (N := 3) hx hb hts hb_0 tyJx4a65c tyJx4a65c_ok hown hw_3 hw_4 hw_5 hK hP hD hS hA rfl (by decide +kernel) (Nat.le_of_ble_eq_true rfl) (Nat.le_of_ble_eq_true rfl) dX7_init_5 (fun q1 H hP hD hS => ?_)
  have hP : va_P D vwCl [(y, .inr (14, [.int 0, .null, .null, .null])), (q1, .inr (5, [.int 0, .null, .int 0]))] H := hP
  have hD : va_D A [(y, .inr (14, [.int 0, .null, .null, .null])), (q1, .inr (5, [.int 0, .null, .int 0]))] := hD
  refine W.widen (k := 1) (n := 3) (Nat.le_of_ble_eq_true rfl) (Nat.le_of_ble_eq_true rfl) ?_
  refine lv_dup hx hb dX7_init_8 rfl ?_
  refine mc_v (wr := [(y, .inr (14, [.int 0, .null, .null, .null]))]) (va_runI (As := []) (rest := [.ref q1, .ref y]) ⟨hx, hb, hml, hown, hts⟩ (c_alInit l hst D q1 0 0 H.size) (cwI 0 hts (goodIn_sub hb_1 (List.all_eq_true.mpr gw_c_alInit)) rfl rfl rfl hw_5 hw_6 hw_7 rfl (by decide +kernel) ⟨Nat.le_of_ble_eq_true rfl, Nat.le_of_ble_eq_true rfl⟩) (pr_S (As := [.ref q1]) hP hD hK hS hA hE [1] [] rfl rfl rfl) rfl rfl hl.1 rfl (lv_room (Nat.le_of_ble_eq_true rfl)) dX7_init_9 ⟨Nat.le_of_ble_eq_true rfl, Nat.le_of_ble_eq_true rfl⟩) hP hD hK hS hA [1] [0] rfl rfl (by decide) (by decide) (fun _ H locs w2 hP hD hK hS => ?_)
  have hP : va_P D vwCl [(y, .inr (14, [.int 0, .null, .null, .null])), (q1, .inr (5, [.int 0, .ref (D.1 1000), .int 0]))] H := hP
  have hD : va_D A [(y, .inr (14, [.int 0, .null, .null, .null])), (q1, .inr (5, [.int 0, .ref (D.1 1000), .int 0]))] := hD
  have hK : va_K D vwCl [] s := hK
  refine va_putF (D := D) (ci := 14) (v := .ref q1) (ty := (.object "java/util/ArrayList")) (C := RX7) (T := TX7) (N := 4) hx hb hts hb_2 tyX7 tyX7_ok nmX7 hown hK hP hD hS 0 rfl rfl 1 (by decide) hw_8 (fun _ h9 => h9) rfl hmn rfl (by decide +kernel) rfl rfl (Nat.le_of_ble_eq_true rfl) dX7_init_12 (fun H locs hP hD hS => ?_)
  have hP : va_P D vwCl [(y, .inr (14, [.int 0, .ref q1, .null, .null])), (q1, .inr (5, [.int 0, .ref (D.1 1000), .int 0]))] H := hP
  have hD : va_D A [(y, .inr (14, [.int 0, .ref q1, .null, .null])), (q1, .inr (5, [.int 0, .ref (D.1 1000), .int 0]))] := hD
  refine lv_aload_n hx hb dX7_init_15 rfl (lv_at hl 0 rfl) ?_
  refine lv_bipush (v := 9) hx hb dX7_init_16 (by decide) ?_
  refine va_newa (atype := .int) (ty := .int) (a0 := (9, .inl (fun _ => 0))) hx hb hw_9 rfl hK hP hD hS hA (N' := 9) (fun _ => rfl) (by decide) (by decide) (Nat.le_of_ble_eq_true rfl) (Nat.le_of_ble_eq_true rfl) (Nat.le_of_ble_eq_true rfl) dX7_init_18 (fun q4 cy5 H hK hP hD hS => ?_)
  have hK : va_K D vwCl [(cy5, .int)] s := hK
  have hP : va_P D vwCl [(y, .inr (14, [.int 0, .ref q1, .null, .null])), (q1, .inr (5, [.int 0, .ref (D.1 1000), .int 0])), (q4, .inl (cy5, 9, .inl (fun _ => 0)))] H := hP
  have hD : va_D A [(y, .inr (14, [.int 0, .ref q1, .null, .null])), (q1, .inr (5, [.int 0, .ref (D.1 1000), .int 0])), (q4, .inl (cy5, 9, .inl (fun _ => 0)))] := hD
  refine W.widen (k := 2) (n := 12) (Nat.le_of_ble_eq_true rfl) (Nat.le_of_ble_eq_true rfl) ?_
  refine va_putF (D := D) (ci := 14) (v := .ref q4) (ty := (.array .int)) (C := RX7) (T := TX7) (N := 4) hx hb hts hb_2 tyX7 tyX7_ok nmX7 hown hK hP hD hS 0 rfl rfl 2 (by decide) hw_10 (fun _ h9 => h9) rfl hmn rfl (by decide +kernel) rfl rfl (Nat.le_of_ble_eq_true rfl) dX7_init_20 (fun H locs hP hD hS => ?_)
  have hP : va_P D vwCl [(y, .inr (14, [.int 0, .ref q1, .ref q4, .null])), (q1, .inr (5, [.int 0, .ref (D.1 1000), .int 0])), (q4, .inl (cy5, 9, .inl (fun _ => 0)))] H := hP
  have hD : va_D A [(y, .inr (14, [.int 0, .ref q1, .ref q4, .null])), (q1, .inr (5, [.int 0, .ref (D.1 1000), .int 0])), (q4, .inl (cy5, 9, .inl (fun _ => 0)))] := hD
  refine lv_aload_n hx hb dX7_init_23 rfl (lv_at hl 0 rfl) ?_
  refine lv_bipush (v := 10) hx hb dX7_init_24 (by decide) ?_
  refine va_newa (atype := .boolean) (ty := .boolean) (a0 := (10, .inl (fun _ => 0))) hx hb hw_11 rfl hK hP hD hS hA (N' := 10) (fun _ => rfl) (by decide) (by decide) (Nat.le_of_ble_eq_true rfl) (Nat.le_of_ble_eq_true rfl) (Nat.le_of_ble_eq_true rfl) dX7_init_26 (fun q6 cy7 H hK hP hD hS => ?_)
  have hK : va_K D vwCl [(cy5, .int), (cy7, .boolean)] s := hK
  have hP : va_P D vwCl [(y, .inr (14, [.int 0, .ref q1, .ref q4, .null])), (q1, .inr (5, [.int 0, .ref (D.1 1000), .int 0])), (q4, .inl (cy5, 9, .inl (fun _ => 0))), (q6, .inl (cy7, 10, .inl (fun _ => 0)))] H := hP
  have hD : va_D A [(y, .inr (14, [.int 0, .ref q1, .ref q4, .null])), (q1, .inr (5, [.int 0, .ref (D.1 1000), .int 0])), (q4, .inl (cy5, 9, .inl (fun _ => 0))), (q6, .inl (cy7, 10, .inl (fun _ => 0)))] := hD
  refine W.widen (k := 3) (n := 22) (Nat.le_of_ble_eq_true rfl) (Nat.le_of_ble_eq_true rfl) ?_
  refine va_putF (D := D) (ci := 14) (v := .ref q6) (ty := (.array .boolean)) (C := RX7) (T := TX7) (N := 4) hx hb hts hb_2 tyX7 tyX7_ok nmX7 hown hK hP hD hS 0 rfl rfl 3 (by decide) hw_12 (fun _ h9 => h9) rfl hmn rfl (by decide +kernel) rfl rfl (Nat.le_of_ble_eq_true rfl) dX7_init_28 (fun H locs hP hD hS => ?_)
  have hP : va_P D vwCl [(y, .inr (14, [.int 0, .ref q1, .ref q4, .ref q6])), (q1, .inr (5, [.int 0, .ref (D.1 1000), .int 0])), (q4, .inl (cy5, 9, .inl (fun _ => 0))), (q6, .inl (cy7, 10, .inl (fun _ => 0)))] H := hP
  have hD : va_D A [(y, .inr (14, [.int 0, .ref q1, .ref q4, .ref q6])), (q1, .inr (5, [.int 0, .ref (D.1 1000), .int 0])), (q4, .inl (cy5, 9, .inl (fun _ => 0))), (q6, .inl (cy7, 10, .inl (fun _ => 0)))] := hD
  refine lv_aload_n hx hb dX7_init_31 rfl (lv_at hl 0 rfl) ?_
  refine lv_iload_n hx hb dX7_init_32 rfl (lv_at hl 1 rfl) ?_
  refine va_putF (D := D) (ci := 14) (v := .int p0) (ty := .int) (C := RX7) (T := TX7) (N := 4) hx hb hts hb_2 tyX7 tyX7_ok nmX7 hown hK hP hD hS 0 rfl rfl 0 (by decide) hw_13 (fun _ h9 => h9) rfl hmn rfl (by decide +kernel) rfl rfl (Nat.le_of_ble_eq_true rfl) dX7_init_33 (fun H locs hP hD hS => ?_)
  have hP : va_P D vwCl [(y, .inr (14, [.int p0, .ref q1, .ref q4, .ref q6])), (q1, .inr (5, [.int 0, .ref (D.1 1000), .int 0])), (q4, .inl (cy5, 9, .inl (fun _ => 0))), (q6, .inl (cy7, 10, .inl (fun _ => 0)))] H := hP
  have hD : va_D A [(y, .inr (14, [.int p0, .ref q1, .ref q4, .ref q6])), (q1, .inr (5, [.int 0, .ref (D.1 1000), .int 0])), (q4, .inl (cy5, 9, .inl (fun _ => 0))), (q6, .inl (cy7, 10, .inl (fun _ => 0)))] := hD
  refine lv_aload_n hx hb dX7_init_36 rfl (lv_at hl 0 rfl) ?_
  refine va_get (D := D) (ci := 14) (v := .ref q4) (C := RX7) (T := TX7) (N := 4) hx hb hts hb_2 hown hK hP 0 rfl rfl 2 (by decide) hw_10 (fun _ h9 => h9) rfl dX7_init_37 ?_
  refine lv_iconst (v := -1) hx hb dX7_init_40 (by decide) ?_
  refine mc_v (wr := [(y, .inr (14, [.int p0, .ref q1, .ref q4, .ref q6])), (q1, .inr (5, [.int 0, .ref (D.1 1000), .int 0])), (q6, .inl (cy7, 10, .inl (fun _ => 0)))]) (va_runS (As := [.ref q4, .int (-1)]) (rest := []) ⟨hx, hb, hml, hown, hts⟩ (c_fillI l hst D q4 cy5 9 (fun _ => 0) (-1) H.size (by decide)) (va_cwS 2 hts (gi_c (List.mem_cons_of_mem _ (List.mem_append_left _ (List.mem_of_getElem? (i := 14) rfl))) rfl (gi_c (List.mem_cons_of_mem _ (List.mem_append_left _ (List.mem_of_getElem? (i := 15) rfl))) rfl (gi_c (List.mem_cons_of_mem _ (List.mem_append_left _ (List.mem_of_getElem? (i := 16) rfl))) rfl (goodIn_sub hb_3 (List.all_eq_true.mpr gw_c_fillI))))) rfl rfl rfl (by decide +kernel) ⟨Nat.le_of_ble_eq_true rfl, Nat.le_of_ble_eq_true rfl⟩) (pr_S (As := [.ref q4, .int (-1)]) hP hD hK hS hA hE [2] [0] rfl rfl rfl) rfl rfl hl.1 rfl (lv_room (Nat.le_of_ble_eq_true rfl)) dX7_init_41 ⟨Nat.le_of_ble_eq_true rfl, Nat.le_of_ble_eq_true rfl⟩) hP hD hK hS hA [2] [0, 1, 3] rfl rfl (by decide) (by decide) (fun _ H locs w8 hP hD hK hS => ?_)
  have hP : va_P D vwCl [(y, .inr (14, [.int p0, .ref q1, .ref q4, .ref q6])), (q1, .inr (5, [.int 0, .ref (D.1 1000), .int 0])), (q6, .inl (cy7, 10, .inl (fun _ => 0))), (q4, .inl (cy5, 9, .inl (fa_fill (fun _ => (-1)) (fun _ => 0) 9)))] H := hP
  have hD : va_D A [(y, .inr (14, [.int p0, .ref q1, .ref q4, .ref q6])), (q1, .inr (5, [.int 0, .ref (D.1 1000), .int 0])), (q6, .inl (cy7, 10, .inl (fun _ => 0))), (q4, .inl (cy5, 9, .inl (fa_fill (fun _ => (-1)) (fun _ => 0) 9)))] := hD
  have hK : va_K D vwCl [(cy5, .int), (cy7, .boolean)] s := hK
  exact mr_v hx hb hr (fun k9 => [q1, q4, q6].getD k9 0) (trivial) (hP.sub [0] rfl) (hK.sub [] rfl) (hD.sub [0] (by decide) rfl) hS (Nat.le_of_ble_eq_true rfl) (Nat.le_of_ble_eq_true rfl) hlocks dX7_init_44

def us_c_mcourse : List Cond := .code yX9_course cX9_course 2 (some .int) :: (([.methodLink RX9 83 yX9_isCell, .instanceMethod yX9_isCell, .selects RX9 yX9_isCell yX9_isCell, .initialized RX9, .fieldLink RX9 43 "ControlWoodModel" "courses" "Ljava/util/ArrayList;", .methodLink RX9 135 yJx4a65c_size_8abf5, .instanceMethod yJx4a65c_size_8abf5, .selects RJx4a65c yJx4a65c_size_8abf5 yJx4a65c_size_8abf5, .initialized RJx4a65c, .classLink RX9 155 RX7, .instantiable RX7 4, .initialized RX7, .methodLink RX9 157 yX7_init, .instanceMethod yX7_init, .methodLink RX9 141 yJx4a65c_add_9ea2d, .instanceMethod yJx4a65c_add_9ea2d, .selects RJx4a65c yJx4a65c_add_9ea2d yJx4a65c_add_9ea2d, .methodLink RX9 80 yX9_tells, .instanceMethod yX9_tells, .selects RX9 yX9_tells yX9_tells, .methodLink RX9 76 yX9_fails, .instanceMethod yX9_fails, .selects RX9 yX9_fails yX9_fails] : List Cond) ++ (us_c_isCell ++ (wsX90 ++ (us_c_alSize ++ (wsX70 ++ (us_c_X7_init ++ (us_c_alAddC ++ (us_c_tells ++ (us_c_fails ++ ([]))))))))))
theorem gw_c_mcourse : ∀ w ∈ us_c_mcourse, goodWord w = true := gw_cons rfl (gw_app (by decide +kernel) (gw_app gw_c_isCell (gw_app gwf_X9 (gw_app gw_c_alSize (gw_app gwf_X7 (gw_app gw_c_X7_init (gw_app gw_c_alAddC (gw_app gw_c_tells (gw_app gw_c_fails (fun _ h => nomatch h))))))))))
set_option maxHeartbeats 4000000 in
set_option maxRecDepth 100000 in
/-- the reference: course -/
theorem c_mcourse (l : Launch) (hst : l.stackTraces = false) (D : va_G) (mo : Nat) (th : Int32) (m1 : Nat) (m2 : Nat) (m3 : Nat) (m4 : Nat) (m5 : Nat) (l1 : Nat) (l2 : Nat) (l3 : Nat) (l4 : Nat) (cm1 : ClassId) (p0 : Int32) (sz : Nat) : Met l yX9_course us_c_mcourse { frames := 5, cells := 5, slots := 36, locals := 103 } (pw D [.ref mo, .int p0] [(cm1, .int)] [(mo, .inr (16, [.int 5, .int 5, .int th, .ref m1, .ref m2, .ref m3, .ref m4, .ref m5, .ref l1, .ref l2, .ref l3, .int (-1), .ref l4])), (m1, .inl (cm1, 25, .inl (fun _ => 0))), (l2, .inr (5, [.int 1, .ref (D.1 1000), .int 0]))] sz) (va_Qi (fun (r : Int32) (u : (Int32 × (Nat → Nat) × (Nat → Int32))) => u.1 = kf_course p0 ∧ (kf_course p0 = 0 → r = rf_course p0)) (qb D (va_A [(mo, .inr (16, [.int 5, .int 5, .int th, .ref m1, .ref m2, .ref m3, .ref m4, .ref m5, .ref l1, .ref l2, .ref l3, .int (-1), .ref l4])), (m1, .inl (cm1, 25, .inl (fun _ => 0))), (l2, .inr (5, [.int 1, .ref (D.1 1000), .int 0]))] sz) (fun u : (Int32 × (Nat → Nat) × (Nat → Int32)) => [(mo, .inr (16, [.int (u.2.2 0), .int (u.2.2 1), .int u.1, .ref (u.2.1 0), .ref (u.2.1 1), .ref (u.2.1 2), .ref (u.2.1 3), .ref (u.2.1 4), .ref (u.2.1 5), .ref (u.2.1 6), .ref (u.2.1 7), .int (u.2.2 2), .ref (u.2.1 8)]))]) (fun u : (Int32 × (Nat → Nat) × (Nat → Int32)) => ([] : List (ClassId × FieldType)))) (va_A [(mo, .inr (16, [.int 5, .int 5, .int th, .ref m1, .ref m2, .ref m3, .ref m4, .ref m5, .ref l1, .ref l2, .ref l3, .int (-1), .ref l4])), (m1, .inl (cm1, 25, .inl (fun _ => 0))), (l2, .inr (5, [.int 1, .ref (D.1 1000), .int 0]))] sz)) 5 36 (va_A [(mo, .inr (16, [.int 5, .int 5, .int th, .ref m1, .ref m2, .ref m3, .ref m4, .ref m5, .ref l1, .ref l2, .ref l3, .int (-1), .ref l4])), (m1, .inl (cm1, 25, .inl (fun _ => 0))), (l2, .inr (5, [.int 1, .ref (D.1 1000), .int 0]))] sz) := by
  refine op_M (Qc := fun A => (va_Qi (fun (r : Int32) (u : (Int32 × (Nat → Nat) × (Nat → Int32))) => u.1 = kf_course p0 ∧ (kf_course p0 = 0 → r = rf_course p0)) (qb D A (fun u : (Int32 × (Nat → Nat) × (Nat → Int32)) => [(mo, .inr (16, [.int (u.2.2 0), .int (u.2.2 1), .int u.1, .ref (u.2.1 0), .ref (u.2.1 1), .ref (u.2.1 2), .ref (u.2.1 3), .ref (u.2.1 4), .ref (u.2.1 5), .ref (u.2.1 6), .ref (u.2.1 7), .int (u.2.2 2), .ref (u.2.1 8)]))]) (fun u : (Int32 × (Nat → Nat) × (Nat → Int32)) => ([] : List (ClassId × FieldType)))) A)) (by decide +kernel) rfl (Nat.le_of_ble_eq_true rfl) ?_
  intro p e s m args below meth c A ls hx hb hr hml hts hown hlocks hmn htab hA hD hS hP hK hE hsz hl
  have hown : s.vm.findClass RX9 = some m.cls := hown
  have hl : lv_has ls 2 [(0, .ref mo), (1, .int p0)] := hl
  have hw_0 := hts (.methodLink RX9 83 yX9_isCell) (List.mem_cons_of_mem _ (List.mem_append_left _ (List.mem_of_getElem? (i := 0) rfl)))
  have hw_1 := hts (.instanceMethod yX9_isCell) (List.mem_cons_of_mem _ (List.mem_append_left _ (List.mem_of_getElem? (i := 1) rfl)))
  have hw_2 := hts (.selects RX9 yX9_isCell yX9_isCell) (List.mem_cons_of_mem _ (List.mem_append_left _ (List.mem_of_getElem? (i := 2) rfl)))
  have hw_3 := hts (.initialized RX9) (List.mem_cons_of_mem _ (List.mem_append_left _ (List.mem_of_getElem? (i := 3) rfl)))
  have hw_4 := hts (.fieldLink RX9 43 "ControlWoodModel" "courses" "Ljava/util/ArrayList;") (List.mem_cons_of_mem _ (List.mem_append_left _ (List.mem_of_getElem? (i := 4) rfl)))
  have hw_5 := hts (.methodLink RX9 135 yJx4a65c_size_8abf5) (List.mem_cons_of_mem _ (List.mem_append_left _ (List.mem_of_getElem? (i := 5) rfl)))
  have hw_6 := hts (.instanceMethod yJx4a65c_size_8abf5) (List.mem_cons_of_mem _ (List.mem_append_left _ (List.mem_of_getElem? (i := 6) rfl)))
  have hw_7 := hts (.selects RJx4a65c yJx4a65c_size_8abf5 yJx4a65c_size_8abf5) (List.mem_cons_of_mem _ (List.mem_append_left _ (List.mem_of_getElem? (i := 7) rfl)))
  have hw_8 := hts (.initialized RJx4a65c) (List.mem_cons_of_mem _ (List.mem_append_left _ (List.mem_of_getElem? (i := 8) rfl)))
  have hw_9 := hts (.classLink RX9 155 RX7) (List.mem_cons_of_mem _ (List.mem_append_left _ (List.mem_of_getElem? (i := 9) rfl)))
  have hw_10 := hts (.instantiable RX7 4) (List.mem_cons_of_mem _ (List.mem_append_left _ (List.mem_of_getElem? (i := 10) rfl)))
  have hw_11 := hts (.initialized RX7) (List.mem_cons_of_mem _ (List.mem_append_left _ (List.mem_of_getElem? (i := 11) rfl)))
  have hw_12 := hts (.methodLink RX9 157 yX7_init) (List.mem_cons_of_mem _ (List.mem_append_left _ (List.mem_of_getElem? (i := 12) rfl)))
  have hw_13 := hts (.instanceMethod yX7_init) (List.mem_cons_of_mem _ (List.mem_append_left _ (List.mem_of_getElem? (i := 13) rfl)))
  have hw_14 := hts (.methodLink RX9 141 yJx4a65c_add_9ea2d) (List.mem_cons_of_mem _ (List.mem_append_left _ (List.mem_of_getElem? (i := 14) rfl)))
  have hw_15 := hts (.instanceMethod yJx4a65c_add_9ea2d) (List.mem_cons_of_mem _ (List.mem_append_left _ (List.mem_of_getElem? (i := 15) rfl)))
  have hw_16 := hts (.selects RJx4a65c yJx4a65c_add_9ea2d yJx4a65c_add_9ea2d) (List.mem_cons_of_mem _ (List.mem_append_left _ (List.mem_of_getElem? (i := 16) rfl)))
  have hw_17 := hts (.methodLink RX9 80 yX9_tells) (List.mem_cons_of_mem _ (List.mem_append_left _ (List.mem_of_getElem? (i := 17) rfl)))
  have hw_18 := hts (.instanceMethod yX9_tells) (List.mem_cons_of_mem _ (List.mem_append_left _ (List.mem_of_getElem? (i := 18) rfl)))
  have hw_19 := hts (.selects RX9 yX9_tells yX9_tells) (List.mem_cons_of_mem _ (List.mem_append_left _ (List.mem_of_getElem? (i := 19) rfl)))
  have hw_20 := hts (.methodLink RX9 76 yX9_fails) (List.mem_cons_of_mem _ (List.mem_append_left _ (List.mem_of_getElem? (i := 20) rfl)))
  have hw_21 := hts (.instanceMethod yX9_fails) (List.mem_cons_of_mem _ (List.mem_append_left _ (List.mem_of_getElem? (i := 21) rfl)))
  have hw_22 := hts (.selects RX9 yX9_fails yX9_fails) (List.mem_cons_of_mem _ (List.mem_append_left _ (List.mem_of_getElem? (i := 22) rfl)))
  have hb_0 : ∀ w ∈ us_c_isCell, w ∈ us_c_mcourse := fun w h => List.mem_cons_of_mem _ (List.mem_append_right _ (List.mem_append_left _ h))
  have hb_1 : ∀ w ∈ wsX90, w ∈ us_c_mcourse := fun w h => List.mem_cons_of_mem _ (List.mem_append_right _ (List.mem_append_right _ (List.mem_append_left _ h)))
  have hb_2 : ∀ w ∈ us_c_alSize, w ∈ us_c_mcourse := fun w h => List.mem_cons_of_mem _ (List.mem_append_right _ (List.mem_append_right _ (List.mem_append_right _ (List.mem_append_left _ h))))
  have hb_3 : ∀ w ∈ wsX70, w ∈ us_c_mcourse := fun w h => List.mem_cons_of_mem _ (List.mem_append_right _ (List.mem_append_right _ (List.mem_append_right _ (List.mem_append_right _ (List.mem_append_left _ h)))))
  have hb_4 : ∀ w ∈ us_c_X7_init, w ∈ us_c_mcourse := fun w h => List.mem_cons_of_mem _ (List.mem_append_right _ (List.mem_append_right _ (List.mem_append_right _ (List.mem_append_right _ (List.mem_append_right _ (List.mem_append_left _ h))))))
  have hb_5 : ∀ w ∈ us_c_alAddC, w ∈ us_c_mcourse := fun w h => List.mem_cons_of_mem _ (List.mem_append_right _ (List.mem_append_right _ (List.mem_append_right _ (List.mem_append_right _ (List.mem_append_right _ (List.mem_append_right _ (List.mem_append_left _ h)))))))
  have hb_6 : ∀ w ∈ us_c_tells, w ∈ us_c_mcourse := fun w h => List.mem_cons_of_mem _ (List.mem_append_right _ (List.mem_append_right _ (List.mem_append_right _ (List.mem_append_right _ (List.mem_append_right _ (List.mem_append_right _ (List.mem_append_right _ (List.mem_append_left _ h))))))))
  have hb_7 : ∀ w ∈ us_c_fails, w ∈ us_c_mcourse := fun w h => List.mem_cons_of_mem _ (List.mem_append_right _ (List.mem_append_right _ (List.mem_append_right _ (List.mem_append_right _ (List.mem_append_right _ (List.mem_append_right _ (List.mem_append_right _ (List.mem_append_right _ (List.mem_append_left _ h)))))))))
  refine lv_aload_n hx hb dX9_course_0 rfl (lv_at hl 0 rfl) ?_
  refine lv_iload_n hx hb dX9_course_1 rfl (lv_at hl 1 rfl) ?_
  refine mc_i (wr := [(l2, .inr (5, [.int 1, .ref (D.1 1000), .int 0]))]) (va_runV (As := [.int p0]) (rest := []) ⟨hx, hb, hml, hown, hts⟩ (c_isCell l hst D mo th m1 m2 m3 m4 m5 l1 l2 l3 l4 cm1 p0 s.heap.size) (cwV 1 hts (gi_c (List.mem_cons_of_mem _ (List.mem_append_left _ (List.mem_of_getElem? (i := 0) rfl))) rfl (gi_c (List.mem_cons_of_mem _ (List.mem_append_left _ (List.mem_of_getElem? (i := 1) rfl))) rfl (gi_c (List.mem_cons_of_mem _ (List.mem_append_left _ (List.mem_of_getElem? (i := 2) rfl))) rfl (gi_c (List.mem_cons_of_mem _ (List.mem_append_left _ (List.mem_of_getElem? (i := 3) rfl))) rfl (goodIn_sub hb_0 (List.all_eq_true.mpr gw_c_isCell)))))) rfl rfl rfl (by decide +kernel) ⟨Nat.le_of_ble_eq_true rfl, Nat.le_of_ble_eq_true rfl⟩) (pr_V (As := [.int p0]) (b := mo) (C := RX9) hP hD hK hS hA hE [0, 1] [0] rfl rfl rfl 0 16 rfl rfl rfl) rfl rfl hl.1 rfl (lv_room (Nat.le_of_ble_eq_true rfl)) dX9_course_2 ⟨Nat.le_of_ble_eq_true rfl, Nat.le_of_ble_eq_true rfl⟩) hP hD hK hS hA [0, 1] [2] rfl rfl (by decide) (by decide) (fun r2 _ H locs w1 hP hD hK hS => ?_)
  have hP : va_P D vwCl [(l2, .inr (5, [.int 1, .ref (D.1 1000), .int 0])), (mo, .inr (16, [.int 5, .int 5, .int th, .ref m1, .ref m2, .ref m3, .ref m4, .ref m5, .ref l1, .ref l2, .ref l3, .int (-1), .ref l4])), (m1, .inl (cm1, 25, .inl (fun _ => 0)))] H := hP
  have hD : va_D A [(l2, .inr (5, [.int 1, .ref (D.1 1000), .int 0])), (mo, .inr (16, [.int 5, .int 5, .int th, .ref m1, .ref m2, .ref m3, .ref m4, .ref m5, .ref l1, .ref l2, .ref l3, .int (-1), .ref l4])), (m1, .inl (cm1, 25, .inl (fun _ => 0)))] := hD
  have hK : va_K D vwCl [(cm1, .int)] s := hK
  obtain rfl : r2 = (if inI p0 25 then 1 else 0) := w1
  refine lv_if_ne (tgt := 14) hx hb dX9_course_5 (by decide) (fun h3 => ?_) (fun h3 => ?_)
  · obtain ⟨k0, hk0, rfl⟩ := inI_nI (ite01_1 h3)
    refine lv_aload_n hx hb dX9_course_14 rfl (lv_at hl 0 rfl) ?_
    refine va_get (D := D) (ci := 16) (v := .ref l2) (C := RX9) (T := TX9) (N := 13) hx hb hts hb_1 hown hK hP 1 rfl rfl 9 (by decide) hw_4 (fun _ h9 => h9) rfl dX9_course_15 ?_
    refine mc_i (wr := [(mo, .inr (16, [.int 5, .int 5, .int th, .ref m1, .ref m2, .ref m3, .ref m4, .ref m5, .ref l1, .ref l2, .ref l3, .int (-1), .ref l4])), (m1, .inl (cm1, 25, .inl (fun _ => 0)))]) (va_runV (As := []) (rest := []) ⟨hx, hb, hml, hown, hts⟩ (c_alSize l hst D l2 1 (D.1 1000) 0 H.size) (cwV 0 hts (gi_c (List.mem_cons_of_mem _ (List.mem_append_left _ (List.mem_of_getElem? (i := 5) rfl))) rfl (gi_c (List.mem_cons_of_mem _ (List.mem_append_left _ (List.mem_of_getElem? (i := 6) rfl))) rfl (gi_c (List.mem_cons_of_mem _ (List.mem_append_left _ (List.mem_of_getElem? (i := 7) rfl))) rfl (gi_c (List.mem_cons_of_mem _ (List.mem_append_left _ (List.mem_of_getElem? (i := 8) rfl))) rfl (goodIn_sub hb_2 (List.all_eq_true.mpr gw_c_alSize)))))) rfl rfl rfl (by decide +kernel) ⟨Nat.le_of_ble_eq_true rfl, Nat.le_of_ble_eq_true rfl⟩) (pr_V (As := []) (b := l2) (C := RJx4a65c) hP hD hK hS hA hE [0] [] rfl rfl rfl 0 5 rfl rfl rfl) rfl rfl hl.1 rfl (lv_room (Nat.le_of_ble_eq_true rfl)) dX9_course_18 ⟨Nat.le_of_ble_eq_true rfl, Nat.le_of_ble_eq_true rfl⟩) hP hD hK hS hA [0] [1, 2] rfl rfl (by decide) (by decide) (fun r5 _ H locs w4 hP hD hK hS => ?_)
    have hP : va_P D vwCl [(mo, .inr (16, [.int 5, .int 5, .int th, .ref m1, .ref m2, .ref m3, .ref m4, .ref m5, .ref l1, .ref l2, .ref l3, .int (-1), .ref l4])), (m1, .inl (cm1, 25, .inl (fun _ => 0))), (l2, .inr (5, [.int 1, .ref (D.1 1000), .int 0]))] H := hP
    have hD : va_D A [(mo, .inr (16, [.int 5, .int 5, .int th, .ref m1, .ref m2, .ref m3, .ref m4, .ref m5, .ref l1, .ref l2, .ref l3, .int (-1), .ref l4])), (m1, .inl (cm1, 25, .inl (fun _ => 0))), (l2, .inr (5, [.int 1, .ref (D.1 1000), .int 0]))] := hD
    have hK : va_K D vwCl [(cm1, .int)] s := hK
    obtain rfl : r5 = 0 := w4
    refine lv_bipush (v := 6) hx hb dX9_course_21 (by decide) ?_
    refine lv_icmp_ne (tgt := 32) hx hb dX9_course_23 (by decide) (fun h6 => ?_) (fun h6 => absurd h6 (by decide))
    refine lv_aload_n hx hb dX9_course_32 rfl (lv_at hl 0 rfl) ?_
    refine va_get (D := D) (ci := 16) (v := .ref l2) (C := RX9) (T := TX9) (N := 13) hx hb hts hb_1 hown hK hP 0 rfl rfl 9 (by decide) hw_4 (fun _ h9 => h9) rfl dX9_course_33 ?_
    refine va_new (ci := 14) (fs := [.int 0, .null, .null, .null]) (C := RX7) (T := TX7) (N := 4) hx hb hts hb_3 tyX7 tyX7_ok hown hw_9 hw_10 hw_11 hK hP hD hS hA rfl (by decide +kernel) (Nat.le_of_ble_eq_true rfl) (Nat.le_of_ble_eq_true rfl) dX9_course_36 (fun q7 H hP hD hS => ?_)
    have hP : va_P D vwCl [(mo, .inr (16, [.int 5, .int 5, .int th, .ref m1, .ref m2, .ref m3, .ref m4, .ref m5, .ref l1, .ref l2, .ref l3, .int (-1), .ref l4])), (m1, .inl (cm1, 25, .inl (fun _ => 0))), (l2, .inr (5, [.int 1, .ref (D.1 1000), .int 0])), (q7, .inr (14, [.int 0, .null, .null, .null]))] H := hP
    have hD : va_D A [(mo, .inr (16, [.int 5, .int 5, .int th, .ref m1, .ref m2, .ref m3, .ref m4, .ref m5, .ref l1, .ref l2, .ref l3, .int (-1), .ref l4])), (m1, .inl (cm1, 25, .inl (fun _ => 0))), (l2, .inr (5, [.int 1, .ref (D.1 1000), .int 0])), (q7, .inr (14, [.int 0, .null, .null, .null]))] := hD
    refine W.widen (k := 1) (n := 4) (Nat.le_of_ble_eq_true rfl) (Nat.le_of_ble_eq_true rfl) ?_
    refine lv_dup hx hb dX9_course_39 rfl ?_
    refine lv_iload_n hx hb dX9_course_40 rfl (lv_at hl 1 rfl) ?_
    refine mc_v (wr := [(mo, .inr (16, [.int 5, .int 5, .int th, .ref m1, .ref m2, .ref m3, .ref m4, .ref m5, .ref l1, .ref l2, .ref l3, .int (-1), .ref l4])), (m1, .inl (cm1, 25, .inl (fun _ => 0))), (l2, .inr (5, [.int 1, .ref (D.1 1000), .int 0]))]) (va_runI (As := [.int (nI k0)]) (rest := [.ref q7, .ref l2]) ⟨hx, hb, hml, hown, hts⟩ (c_X7_init l hst D q7 (nI k0) H.size) (cwI 1 hts (goodIn_sub hb_4 (List.all_eq_true.mpr gw_c_X7_init)) rfl rfl rfl hw_11 hw_12 hw_13 rfl (by decide +kernel) ⟨Nat.le_of_ble_eq_true rfl, Nat.le_of_ble_eq_true rfl⟩) (pr_S (As := [.ref q7, .int (nI k0)]) hP hD hK hS hA hE [3] [] rfl rfl rfl) rfl rfl hl.1 rfl (lv_room (Nat.le_of_ble_eq_true rfl)) dX9_course_41 ⟨Nat.le_of_ble_eq_true rfl, Nat.le_of_ble_eq_true rfl⟩) hP hD hK hS hA [3] [0, 1, 2] rfl rfl (by decide) (by decide) (fun u8 H locs w9 hP hD hK hS => ?_)
    have hP : va_P D vwCl [(mo, .inr (16, [.int 5, .int 5, .int th, .ref m1, .ref m2, .ref m3, .ref m4, .ref m5, .ref l1, .ref l2, .ref l3, .int (-1), .ref l4])), (m1, .inl (cm1, 25, .inl (fun _ => 0))), (l2, .inr (5, [.int 1, .ref (D.1 1000), .int 0])), (q7, .inr (14, [.int (nI k0), .ref (u8 0), .ref (u8 1), .ref (u8 2)]))] H := hP
    have hD : va_D A [(mo, .inr (16, [.int 5, .int 5, .int th, .ref m1, .ref m2, .ref m3, .ref m4, .ref m5, .ref l1, .ref l2, .ref l3, .int (-1), .ref l4])), (m1, .inl (cm1, 25, .inl (fun _ => 0))), (l2, .inr (5, [.int 1, .ref (D.1 1000), .int 0])), (q7, .inr (14, [.int (nI k0), .ref (u8 0), .ref (u8 1), .ref (u8 2)]))] := hD
    have hK : va_K D vwCl [(cm1, .int)] s := hK
    refine mc_i (wr := [(mo, .inr (16, [.int 5, .int 5, .int th, .ref m1, .ref m2, .ref m3, .ref m4, .ref m5, .ref l1, .ref l2, .ref l3, .int (-1), .ref l4])), (m1, .inl (cm1, 25, .inl (fun _ => 0)))]) (va_runV (As := [.ref q7]) (rest := []) ⟨hx, hb, hml, hown, hts⟩ (c_alAddC l hst D l2 1 q7 (nI k0) (u8 0) (u8 1) (u8 2) H.size) (cwV 1 hts (gi_c (List.mem_cons_of_mem _ (List.mem_append_left _ (List.mem_of_getElem? (i := 14) rfl))) rfl (gi_c (List.mem_cons_of_mem _ (List.mem_append_left _ (List.mem_of_getElem? (i := 15) rfl))) rfl (gi_c (List.mem_cons_of_mem _ (List.mem_append_left _ (List.mem_of_getElem? (i := 16) rfl))) rfl (gi_c (List.mem_cons_of_mem _ (List.mem_append_left _ (List.mem_of_getElem? (i := 8) rfl))) rfl (goodIn_sub hb_5 (List.all_eq_true.mpr gw_c_alAddC)))))) rfl rfl rfl (by decide +kernel) ⟨Nat.le_of_ble_eq_true rfl, Nat.le_of_ble_eq_true rfl⟩) (pr_V (As := [.ref q7]) (b := l2) (C := RJx4a65c) hP hD hK hS hA hE [2, 3] [] rfl rfl rfl 2 5 rfl rfl rfl) rfl rfl hl.1 rfl (lv_room (Nat.le_of_ble_eq_true rfl)) dX9_course_44 ⟨Nat.le_of_ble_eq_true rfl, Nat.le_of_ble_eq_true rfl⟩) hP hD hK hS hA [2, 3] [0, 1] rfl rfl (by decide) (by decide) (fun r13 u11 H locs w12 hP hD hK hS => ?_)
    have hP : va_P D vwCl [(mo, .inr (16, [.int 5, .int 5, .int th, .ref m1, .ref m2, .ref m3, .ref m4, .ref m5, .ref l1, .ref l2, .ref l3, .int (-1), .ref l4])), (m1, .inl (cm1, 25, .inl (fun _ => 0))), (l2, .inr (5, [.int (1 + 1), .ref u11, .int 1]))] H := hP
    have hD : va_D A [(mo, .inr (16, [.int 5, .int 5, .int th, .ref m1, .ref m2, .ref m3, .ref m4, .ref m5, .ref l1, .ref l2, .ref l3, .int (-1), .ref l4])), (m1, .inl (cm1, 25, .inl (fun _ => 0))), (l2, .inr (5, [.int (1 + 1), .ref u11, .int 1]))] := hD
    have hK : va_K D vwCl [(cm1, .int)] s := hK
    refine lv_pop hx hb dX9_course_47 rfl ?_
    refine lv_aload_n hx hb dX9_course_48 rfl (lv_at hl 0 rfl) ?_
    refine lv_aload_n hx hb dX9_course_49 rfl (lv_at hl 0 rfl) ?_
    refine va_get (D := D) (ci := 16) (v := .ref l2) (C := RX9) (T := TX9) (N := 13) hx hb hts hb_1 hown hK hP 0 rfl rfl 9 (by decide) hw_4 (fun _ h9 => h9) rfl dX9_course_50 ?_
    refine mc_i (wr := [(mo, .inr (16, [.int 5, .int 5, .int th, .ref m1, .ref m2, .ref m3, .ref m4, .ref m5, .ref l1, .ref l2, .ref l3, .int (-1), .ref l4])), (m1, .inl (cm1, 25, .inl (fun _ => 0)))]) (va_runV (As := []) (rest := [.ref mo]) ⟨hx, hb, hml, hown, hts⟩ (c_alSize l hst D l2 (1 + 1) u11 1 H.size) (cwV 0 hts (gi_c (List.mem_cons_of_mem _ (List.mem_append_left _ (List.mem_of_getElem? (i := 5) rfl))) rfl (gi_c (List.mem_cons_of_mem _ (List.mem_append_left _ (List.mem_of_getElem? (i := 6) rfl))) rfl (gi_c (List.mem_cons_of_mem _ (List.mem_append_left _ (List.mem_of_getElem? (i := 7) rfl))) rfl (gi_c (List.mem_cons_of_mem _ (List.mem_append_left _ (List.mem_of_getElem? (i := 8) rfl))) rfl (goodIn_sub hb_2 (List.all_eq_true.mpr gw_c_alSize)))))) rfl rfl rfl (by decide +kernel) ⟨Nat.le_of_ble_eq_true rfl, Nat.le_of_ble_eq_true rfl⟩) (pr_V (As := []) (b := l2) (C := RJx4a65c) hP hD hK hS hA hE [2] [] rfl rfl rfl 2 5 rfl rfl rfl) rfl rfl hl.1 rfl (lv_room (Nat.le_of_ble_eq_true rfl)) dX9_course_53 ⟨Nat.le_of_ble_eq_true rfl, Nat.le_of_ble_eq_true rfl⟩) hP hD hK hS hA [2] [0, 1] rfl rfl (by decide) (by decide) (fun r15 _ H locs w14 hP hD hK hS => ?_)
    have hP : va_P D vwCl [(mo, .inr (16, [.int 5, .int 5, .int th, .ref m1, .ref m2, .ref m3, .ref m4, .ref m5, .ref l1, .ref l2, .ref l3, .int (-1), .ref l4])), (m1, .inl (cm1, 25, .inl (fun _ => 0))), (l2, .inr (5, [.int (1 + 1), .ref u11, .int 1]))] H := hP
    have hD : va_D A [(mo, .inr (16, [.int 5, .int 5, .int th, .ref m1, .ref m2, .ref m3, .ref m4, .ref m5, .ref l1, .ref l2, .ref l3, .int (-1), .ref l4])), (m1, .inl (cm1, 25, .inl (fun _ => 0))), (l2, .inr (5, [.int (1 + 1), .ref u11, .int 1]))] := hD
    have hK : va_K D vwCl [(cm1, .int)] s := hK
    obtain rfl : r15 = 1 := w14
    refine lv_iconst (v := 1) hx hb dX9_course_56 (by decide) ?_
    refine lv_isub hx hb dX9_course_57 ?_
    refine lv_topi (fun x16 e16 => ?_)
    obtain rfl : x16 = 0 := e16.trans (by decide)
    refine mc_i (wr := [(m1, .inl (cm1, 25, .inl (fun _ => 0))), (l2, .inr (5, [.int (1 + 1), .ref u11, .int 1]))]) (va_runV (As := [.int 0]) (rest := []) ⟨hx, hb, hml, hown, hts⟩ (c_tells l hst D mo 5 5 th m1 m2 m3 m4 m5 l1 l2 l3 (-1) l4 0 H.size) (cwV 1 hts (gi_c (List.mem_cons_of_mem _ (List.mem_append_left _ (List.mem_of_getElem? (i := 17) rfl))) rfl (gi_c (List.mem_cons_of_mem _ (List.mem_append_left _ (List.mem_of_getElem? (i := 18) rfl))) rfl (gi_c (List.mem_cons_of_mem _ (List.mem_append_left _ (List.mem_of_getElem? (i := 19) rfl))) rfl (gi_c (List.mem_cons_of_mem _ (List.mem_append_left _ (List.mem_of_getElem? (i := 3) rfl))) rfl (goodIn_sub hb_6 (List.all_eq_true.mpr gw_c_tells)))))) rfl rfl rfl (by decide +kernel) ⟨Nat.le_of_ble_eq_true rfl, Nat.le_of_ble_eq_true rfl⟩) (pr_V (As := [.int 0]) (b := mo) (C := RX9) hP hD hK hS hA hE [0] [] rfl rfl rfl 0 16 rfl rfl rfl) rfl rfl hl.1 rfl (lv_room (Nat.le_of_ble_eq_true rfl)) dX9_course_58 ⟨Nat.le_of_ble_eq_true rfl, Nat.le_of_ble_eq_true rfl⟩) hP hD hK hS hA [0] [1, 2] rfl rfl (by decide) (by decide) (fun r18 _ H locs w17 hP hD hK hS => ?_)
    have hP : va_P D vwCl [(m1, .inl (cm1, 25, .inl (fun _ => 0))), (l2, .inr (5, [.int (1 + 1), .ref u11, .int 1])), (mo, .inr (16, [.int 5, .int 5, .int 0, .ref m1, .ref m2, .ref m3, .ref m4, .ref m5, .ref l1, .ref l2, .ref l3, .int (-1), .ref l4]))] H := hP
    have hD : va_D A [(m1, .inl (cm1, 25, .inl (fun _ => 0))), (l2, .inr (5, [.int (1 + 1), .ref u11, .int 1])), (mo, .inr (16, [.int 5, .int 5, .int 0, .ref m1, .ref m2, .ref m3, .ref m4, .ref m5, .ref l1, .ref l2, .ref l3, .int (-1), .ref l4]))] := hD
    have hK : va_K D vwCl [(cm1, .int)] s := hK
    obtain rfl : r18 = 0 := w17
    exact mr_i hx hb hr (0, fun k9 => [m1, m2, m3, m4, m5, l1, l2, l3, l4].getD k9 0, fun k9 => [5, 5, -1].getD k9 0) (⟨(if_pos (ite01_1 h3)).symm, fun _ => rfl⟩) (hP.sub [2] rfl) (hK.sub [] rfl) (hD.sub [2] (by decide) rfl) hS (Nat.le_of_ble_eq_true rfl) (Nat.le_of_ble_eq_true rfl) hlocks dX9_course_61
  · refine lv_aload_n hx hb dX9_course_8 rfl (lv_at hl 0 rfl) ?_
    refine lv_iconst (v := 1) hx hb dX9_course_9 (by decide) ?_
    refine mc_i (wr := [(l2, .inr (5, [.int 1, .ref (D.1 1000), .int 0])), (m1, .inl (cm1, 25, .inl (fun _ => 0)))]) (va_runV (As := [.int 1]) (rest := []) ⟨hx, hb, hml, hown, hts⟩ (c_fails l hst D mo 5 5 th m1 m2 m3 m4 m5 l1 l2 l3 (-1) l4 1 H.size) (cwV 1 hts (gi_c (List.mem_cons_of_mem _ (List.mem_append_left _ (List.mem_of_getElem? (i := 20) rfl))) rfl (gi_c (List.mem_cons_of_mem _ (List.mem_append_left _ (List.mem_of_getElem? (i := 21) rfl))) rfl (gi_c (List.mem_cons_of_mem _ (List.mem_append_left _ (List.mem_of_getElem? (i := 22) rfl))) rfl (gi_c (List.mem_cons_of_mem _ (List.mem_append_left _ (List.mem_of_getElem? (i := 3) rfl))) rfl (goodIn_sub hb_7 (List.all_eq_true.mpr gw_c_fails)))))) rfl rfl rfl (by decide +kernel) ⟨Nat.le_of_ble_eq_true rfl, Nat.le_of_ble_eq_true rfl⟩) (pr_V (As := [.int 1]) (b := mo) (C := RX9) hP hD hK hS hA hE [1] [] rfl rfl rfl 1 16 rfl rfl rfl) rfl rfl hl.1 rfl (lv_room (Nat.le_of_ble_eq_true rfl)) dX9_course_10 ⟨Nat.le_of_ble_eq_true rfl, Nat.le_of_ble_eq_true rfl⟩) hP hD hK hS hA [1] [0, 2] rfl rfl (by decide) (by decide) (fun r20 _ H locs w19 hP hD hK hS => ?_)
    have hP : va_P D vwCl [(l2, .inr (5, [.int 1, .ref (D.1 1000), .int 0])), (m1, .inl (cm1, 25, .inl (fun _ => 0))), (mo, .inr (16, [.int 5, .int 5, .int 1, .ref m1, .ref m2, .ref m3, .ref m4, .ref m5, .ref l1, .ref l2, .ref l3, .int (-1), .ref l4]))] H := hP
    have hD : va_D A [(l2, .inr (5, [.int 1, .ref (D.1 1000), .int 0])), (m1, .inl (cm1, 25, .inl (fun _ => 0))), (mo, .inr (16, [.int 5, .int 5, .int 1, .ref m1, .ref m2, .ref m3, .ref m4, .ref m5, .ref l1, .ref l2, .ref l3, .int (-1), .ref l4]))] := hD
    have hK : va_K D vwCl [(cm1, .int)] s := hK
    obtain rfl : r20 = 0 := w19
    exact mr_i hx hb hr (1, fun k9 => [m1, m2, m3, m4, m5, l1, l2, l3, l4].getD k9 0, fun k9 => [5, 5, -1].getD k9 0) (⟨(if_neg (ite01_0 h3)).symm, fun q9 => absurd ((if_neg (ite01_0 h3)).symm.trans q9) (by decide)⟩) (hP.sub [2] rfl) (hK.sub [] rfl) (hD.sub [2] (by decide) rfl) hS (Nat.le_of_ble_eq_true rfl) (Nat.le_of_ble_eq_true rfl) hlocks dX9_course_13

def us_c_mcontrol : List Cond := .code yX9_control cX9_control 4 (some .int) :: (([.methodLink RX9 83 yX9_isCell, .instanceMethod yX9_isCell, .selects RX9 yX9_isCell yX9_isCell, .initialized RX9, .constantLong RX9 68 (3), .methodLink RX9 72 yX9_in, .static yX9_in, .methodLink RX9 76 yX9_fails, .instanceMethod yX9_fails, .selects RX9 yX9_fails yX9_fails, .constantLong RX9 139 (99), .fieldLink RX9 29 "ControlWoodModel" "kind" "[C", .fieldLink RX9 39 "ControlWoodModel" "controls" "Ljava/util/ArrayList;", .methodLink RX9 135 yJx4a65c_size_8abf5, .instanceMethod yJx4a65c_size_8abf5, .selects RJx4a65c yJx4a65c_size_8abf5 yJx4a65c_size_8abf5, .initialized RJx4a65c, .arrayClass .int, .methodLink RX9 141 yJx4a65c_add_9ea2d, .instanceMethod yJx4a65c_add_9ea2d, .selects RJx4a65c yJx4a65c_add_9ea2d yJx4a65c_add_9ea2d, .methodLink RX9 80 yX9_tells, .instanceMethod yX9_tells, .selects RX9 yX9_tells yX9_tells] : List Cond) ++ (us_c_isCell ++ (us_c_in ++ (us_c_fails ++ (wsX90 ++ (us_c_alSize ++ (us_c_alAddI ++ (us_c_tells ++ ([])))))))))
theorem gw_c_mcontrol : ∀ w ∈ us_c_mcontrol, goodWord w = true := gw_cons rfl (gw_app (by decide +kernel) (gw_app gw_c_isCell (gw_app gw_c_in (gw_app gw_c_fails (gw_app gwf_X9 (gw_app gw_c_alSize (gw_app gw_c_alAddI (gw_app gw_c_tells (fun _ h => nomatch h)))))))))
set_option maxHeartbeats 4000000 in
set_option maxRecDepth 100000 in
/-- the reference: control -/
theorem c_mcontrol (l : Launch) (hst : l.stackTraces = false) (D : va_G) (mo : Nat) (th : Int32) (m1 : Nat) (m2 : Nat) (m3 : Nat) (m4 : Nat) (m5 : Nat) (l1 : Nat) (l2 : Nat) (l3 : Nat) (l4 : Nat) (cm1 : ClassId) (cm4 : ClassId) (p0 : Int32) (p1 : Int32) (p2 : Int32) (sz : Nat) : Met l yX9_control us_c_mcontrol { frames := 5, cells := 2, slots := 16, locals := 103 } (pw D [.ref mo, .int p0, .int p1, .int p2] [(cm1, .int), (cm4, .char)] [(mo, .inr (16, [.int 5, .int 5, .int th, .ref m1, .ref m2, .ref m3, .ref m4, .ref m5, .ref l1, .ref l2, .ref l3, .int (-1), .ref l4])), (m1, .inl (cm1, 25, .inl (fun _ => 0))), (m4, .inl (cm4, 25, .inl fK5)), (l1, .inr (5, [.int 1, .ref (D.1 1000), .int 0]))] sz) (va_Qi (fun (r : Int32) (u : (Int32 × (Nat → Nat) × (Nat → Int32))) => u.1 = kf_control p0 p1 p2 ∧ (kf_control p0 p1 p2 = 0 → r = rf_control p0 p1 p2)) (qb D (va_A [(mo, .inr (16, [.int 5, .int 5, .int th, .ref m1, .ref m2, .ref m3, .ref m4, .ref m5, .ref l1, .ref l2, .ref l3, .int (-1), .ref l4])), (m1, .inl (cm1, 25, .inl (fun _ => 0))), (m4, .inl (cm4, 25, .inl fK5)), (l1, .inr (5, [.int 1, .ref (D.1 1000), .int 0]))] sz) (fun u : (Int32 × (Nat → Nat) × (Nat → Int32)) => [(mo, .inr (16, [.int (u.2.2 0), .int (u.2.2 1), .int u.1, .ref (u.2.1 0), .ref (u.2.1 1), .ref (u.2.1 2), .ref (u.2.1 3), .ref (u.2.1 4), .ref (u.2.1 5), .ref (u.2.1 6), .ref (u.2.1 7), .int (u.2.2 2), .ref (u.2.1 8)]))]) (fun u : (Int32 × (Nat → Nat) × (Nat → Int32)) => ([] : List (ClassId × FieldType)))) (va_A [(mo, .inr (16, [.int 5, .int 5, .int th, .ref m1, .ref m2, .ref m3, .ref m4, .ref m5, .ref l1, .ref l2, .ref l3, .int (-1), .ref l4])), (m1, .inl (cm1, 25, .inl (fun _ => 0))), (m4, .inl (cm4, 25, .inl fK5)), (l1, .inr (5, [.int 1, .ref (D.1 1000), .int 0]))] sz)) 2 16 (va_A [(mo, .inr (16, [.int 5, .int 5, .int th, .ref m1, .ref m2, .ref m3, .ref m4, .ref m5, .ref l1, .ref l2, .ref l3, .int (-1), .ref l4])), (m1, .inl (cm1, 25, .inl (fun _ => 0))), (m4, .inl (cm4, 25, .inl fK5)), (l1, .inr (5, [.int 1, .ref (D.1 1000), .int 0]))] sz) := by
  refine op_M (Qc := fun A => (va_Qi (fun (r : Int32) (u : (Int32 × (Nat → Nat) × (Nat → Int32))) => u.1 = kf_control p0 p1 p2 ∧ (kf_control p0 p1 p2 = 0 → r = rf_control p0 p1 p2)) (qb D A (fun u : (Int32 × (Nat → Nat) × (Nat → Int32)) => [(mo, .inr (16, [.int (u.2.2 0), .int (u.2.2 1), .int u.1, .ref (u.2.1 0), .ref (u.2.1 1), .ref (u.2.1 2), .ref (u.2.1 3), .ref (u.2.1 4), .ref (u.2.1 5), .ref (u.2.1 6), .ref (u.2.1 7), .int (u.2.2 2), .ref (u.2.1 8)]))]) (fun u : (Int32 × (Nat → Nat) × (Nat → Int32)) => ([] : List (ClassId × FieldType)))) A)) (by decide +kernel) rfl (Nat.le_of_ble_eq_true rfl) ?_
  intro p e s m args below meth c A ls hx hb hr hml hts hown hlocks hmn htab hA hD hS hP hK hE hsz hl
  have hown : s.vm.findClass RX9 = some m.cls := hown
  have hl : lv_has ls 4 [(0, .ref mo), (1, .int p0), (2, .int p1), (3, .int p2)] := hl
  have hw_0 := hts (.methodLink RX9 83 yX9_isCell) (List.mem_cons_of_mem _ (List.mem_append_left _ (List.mem_of_getElem? (i := 0) rfl)))
  have hw_1 := hts (.instanceMethod yX9_isCell) (List.mem_cons_of_mem _ (List.mem_append_left _ (List.mem_of_getElem? (i := 1) rfl)))
  have hw_2 := hts (.selects RX9 yX9_isCell yX9_isCell) (List.mem_cons_of_mem _ (List.mem_append_left _ (List.mem_of_getElem? (i := 2) rfl)))
  have hw_3 := hts (.initialized RX9) (List.mem_cons_of_mem _ (List.mem_append_left _ (List.mem_of_getElem? (i := 3) rfl)))
  have hw_4 := hts (.constantLong RX9 68 (3)) (List.mem_cons_of_mem _ (List.mem_append_left _ (List.mem_of_getElem? (i := 4) rfl)))
  have hw_5 := hts (.methodLink RX9 72 yX9_in) (List.mem_cons_of_mem _ (List.mem_append_left _ (List.mem_of_getElem? (i := 5) rfl)))
  have hw_6 := hts (.static yX9_in) (List.mem_cons_of_mem _ (List.mem_append_left _ (List.mem_of_getElem? (i := 6) rfl)))
  have hw_7 := hts (.methodLink RX9 76 yX9_fails) (List.mem_cons_of_mem _ (List.mem_append_left _ (List.mem_of_getElem? (i := 7) rfl)))
  have hw_8 := hts (.instanceMethod yX9_fails) (List.mem_cons_of_mem _ (List.mem_append_left _ (List.mem_of_getElem? (i := 8) rfl)))
  have hw_9 := hts (.selects RX9 yX9_fails yX9_fails) (List.mem_cons_of_mem _ (List.mem_append_left _ (List.mem_of_getElem? (i := 9) rfl)))
  have hw_10 := hts (.constantLong RX9 139 (99)) (List.mem_cons_of_mem _ (List.mem_append_left _ (List.mem_of_getElem? (i := 10) rfl)))
  have hw_11 := hts (.fieldLink RX9 29 "ControlWoodModel" "kind" "[C") (List.mem_cons_of_mem _ (List.mem_append_left _ (List.mem_of_getElem? (i := 11) rfl)))
  have hw_12 := hts (.fieldLink RX9 39 "ControlWoodModel" "controls" "Ljava/util/ArrayList;") (List.mem_cons_of_mem _ (List.mem_append_left _ (List.mem_of_getElem? (i := 12) rfl)))
  have hw_13 := hts (.methodLink RX9 135 yJx4a65c_size_8abf5) (List.mem_cons_of_mem _ (List.mem_append_left _ (List.mem_of_getElem? (i := 13) rfl)))
  have hw_14 := hts (.instanceMethod yJx4a65c_size_8abf5) (List.mem_cons_of_mem _ (List.mem_append_left _ (List.mem_of_getElem? (i := 14) rfl)))
  have hw_15 := hts (.selects RJx4a65c yJx4a65c_size_8abf5 yJx4a65c_size_8abf5) (List.mem_cons_of_mem _ (List.mem_append_left _ (List.mem_of_getElem? (i := 15) rfl)))
  have hw_16 := hts (.initialized RJx4a65c) (List.mem_cons_of_mem _ (List.mem_append_left _ (List.mem_of_getElem? (i := 16) rfl)))
  have hw_17 := hts (.arrayClass .int) (List.mem_cons_of_mem _ (List.mem_append_left _ (List.mem_of_getElem? (i := 17) rfl)))
  have hw_18 := hts (.methodLink RX9 141 yJx4a65c_add_9ea2d) (List.mem_cons_of_mem _ (List.mem_append_left _ (List.mem_of_getElem? (i := 18) rfl)))
  have hw_19 := hts (.instanceMethod yJx4a65c_add_9ea2d) (List.mem_cons_of_mem _ (List.mem_append_left _ (List.mem_of_getElem? (i := 19) rfl)))
  have hw_20 := hts (.selects RJx4a65c yJx4a65c_add_9ea2d yJx4a65c_add_9ea2d) (List.mem_cons_of_mem _ (List.mem_append_left _ (List.mem_of_getElem? (i := 20) rfl)))
  have hw_21 := hts (.methodLink RX9 80 yX9_tells) (List.mem_cons_of_mem _ (List.mem_append_left _ (List.mem_of_getElem? (i := 21) rfl)))
  have hw_22 := hts (.instanceMethod yX9_tells) (List.mem_cons_of_mem _ (List.mem_append_left _ (List.mem_of_getElem? (i := 22) rfl)))
  have hw_23 := hts (.selects RX9 yX9_tells yX9_tells) (List.mem_cons_of_mem _ (List.mem_append_left _ (List.mem_of_getElem? (i := 23) rfl)))
  have hb_0 : ∀ w ∈ us_c_isCell, w ∈ us_c_mcontrol := fun w h => List.mem_cons_of_mem _ (List.mem_append_right _ (List.mem_append_left _ h))
  have hb_1 : ∀ w ∈ us_c_in, w ∈ us_c_mcontrol := fun w h => List.mem_cons_of_mem _ (List.mem_append_right _ (List.mem_append_right _ (List.mem_append_left _ h)))
  have hb_2 : ∀ w ∈ us_c_fails, w ∈ us_c_mcontrol := fun w h => List.mem_cons_of_mem _ (List.mem_append_right _ (List.mem_append_right _ (List.mem_append_right _ (List.mem_append_left _ h))))
  have hb_3 : ∀ w ∈ wsX90, w ∈ us_c_mcontrol := fun w h => List.mem_cons_of_mem _ (List.mem_append_right _ (List.mem_append_right _ (List.mem_append_right _ (List.mem_append_right _ (List.mem_append_left _ h)))))
  have hb_4 : ∀ w ∈ us_c_alSize, w ∈ us_c_mcontrol := fun w h => List.mem_cons_of_mem _ (List.mem_append_right _ (List.mem_append_right _ (List.mem_append_right _ (List.mem_append_right _ (List.mem_append_right _ (List.mem_append_left _ h))))))
  have hb_5 : ∀ w ∈ us_c_alAddI, w ∈ us_c_mcontrol := fun w h => List.mem_cons_of_mem _ (List.mem_append_right _ (List.mem_append_right _ (List.mem_append_right _ (List.mem_append_right _ (List.mem_append_right _ (List.mem_append_right _ (List.mem_append_left _ h)))))))
  have hb_6 : ∀ w ∈ us_c_tells, w ∈ us_c_mcontrol := fun w h => List.mem_cons_of_mem _ (List.mem_append_right _ (List.mem_append_right _ (List.mem_append_right _ (List.mem_append_right _ (List.mem_append_right _ (List.mem_append_right _ (List.mem_append_right _ (List.mem_append_left _ h))))))))
  refine lv_aload_n hx hb dX9_control_0 rfl (lv_at hl 0 rfl) ?_
  refine lv_iload_n hx hb dX9_control_1 rfl (lv_at hl 1 rfl) ?_
  refine mc_i (wr := [(m4, .inl (cm4, 25, .inl fK5)), (l1, .inr (5, [.int 1, .ref (D.1 1000), .int 0]))]) (va_runV (As := [.int p0]) (rest := []) ⟨hx, hb, hml, hown, hts⟩ (c_isCell l hst D mo th m1 m2 m3 m4 m5 l1 l2 l3 l4 cm1 p0 s.heap.size) (cwV 1 hts (gi_c (List.mem_cons_of_mem _ (List.mem_append_left _ (List.mem_of_getElem? (i := 0) rfl))) rfl (gi_c (List.mem_cons_of_mem _ (List.mem_append_left _ (List.mem_of_getElem? (i := 1) rfl))) rfl (gi_c (List.mem_cons_of_mem _ (List.mem_append_left _ (List.mem_of_getElem? (i := 2) rfl))) rfl (gi_c (List.mem_cons_of_mem _ (List.mem_append_left _ (List.mem_of_getElem? (i := 3) rfl))) rfl (goodIn_sub hb_0 (List.all_eq_true.mpr gw_c_isCell)))))) rfl rfl rfl (by decide +kernel) ⟨Nat.le_of_ble_eq_true rfl, Nat.le_of_ble_eq_true rfl⟩) (pr_V (As := [.int p0]) (b := mo) (C := RX9) hP hD hK hS hA hE [0, 1] [0] rfl rfl rfl 0 16 rfl rfl rfl) rfl rfl hl.1 rfl (lv_room (Nat.le_of_ble_eq_true rfl)) dX9_control_2 ⟨Nat.le_of_ble_eq_true rfl, Nat.le_of_ble_eq_true rfl⟩) hP hD hK hS hA [0, 1] [2, 3] rfl rfl (by decide) (by decide) (fun r2 _ H locs w1 hP hD hK hS => ?_)
  have hP : va_P D vwCl [(m4, .inl (cm4, 25, .inl fK5)), (l1, .inr (5, [.int 1, .ref (D.1 1000), .int 0])), (mo, .inr (16, [.int 5, .int 5, .int th, .ref m1, .ref m2, .ref m3, .ref m4, .ref m5, .ref l1, .ref l2, .ref l3, .int (-1), .ref l4])), (m1, .inl (cm1, 25, .inl (fun _ => 0)))] H := hP
  have hD : va_D A [(m4, .inl (cm4, 25, .inl fK5)), (l1, .inr (5, [.int 1, .ref (D.1 1000), .int 0])), (mo, .inr (16, [.int 5, .int 5, .int th, .ref m1, .ref m2, .ref m3, .ref m4, .ref m5, .ref l1, .ref l2, .ref l3, .int (-1), .ref l4])), (m1, .inl (cm1, 25, .inl (fun _ => 0)))] := hD
  have hK : va_K D vwCl [(cm1, .int), (cm4, .char)] s := hK
  obtain rfl : r2 = (if inI p0 25 then 1 else 0) := w1
  refine lv_if_ne (tgt := 14) hx hb dX9_control_5 (by decide) (fun h3 => ?_) (fun h3 => ?_)
  · refine lv_iload_n hx hb dX9_control_14 rfl (lv_at hl 2 rfl) ?_
    refine lv_i2l hx hb dX9_control_15 rfl ?_
    refine lv_topl (fun x4 e4 => ?_)
    obtain rfl : x4 = p1.toInt64 := e4
    refine lv_lconst (v := 0) hx hb dX9_control_16 (by decide) ?_
    refine lv_ldc2 hx hb hown hw_4 dX9_control_17 ?_
    refine mc_i (wr := [(m4, .inl (cm4, 25, .inl fK5)), (l1, .inr (5, [.int 1, .ref (D.1 1000), .int 0])), (mo, .inr (16, [.int 5, .int 5, .int th, .ref m1, .ref m2, .ref m3, .ref m4, .ref m5, .ref l1, .ref l2, .ref l3, .int (-1), .ref l4])), (m1, .inl (cm1, 25, .inl (fun _ => 0)))]) (va_runS (As := [.long p1.toInt64, .long 0, .long 3]) (rest := []) ⟨hx, hb, hml, hown, hts⟩ (c_in l hst D p1 0 3 0 3 H.size (by decide) (by decide)) (va_cwS 3 hts (gi_c (List.mem_cons_of_mem _ (List.mem_append_left _ (List.mem_of_getElem? (i := 5) rfl))) rfl (gi_c (List.mem_cons_of_mem _ (List.mem_append_left _ (List.mem_of_getElem? (i := 6) rfl))) rfl (gi_c (List.mem_cons_of_mem _ (List.mem_append_left _ (List.mem_of_getElem? (i := 3) rfl))) rfl (goodIn_sub hb_1 (List.all_eq_true.mpr gw_c_in))))) rfl rfl rfl (by decide +kernel) ⟨Nat.le_of_ble_eq_true rfl, Nat.le_of_ble_eq_true rfl⟩) (pr_S (As := [.long p1.toInt64, .long 0, .long 3]) hP hD hK hS hA hE [] [] rfl rfl rfl) rfl rfl hl.1 rfl (lv_room (Nat.le_of_ble_eq_true rfl)) dX9_control_20 ⟨Nat.le_of_ble_eq_true rfl, Nat.le_of_ble_eq_true rfl⟩) hP hD hK hS hA [] [0, 1, 2, 3] rfl rfl (by decide) (by decide) (fun r6 _ H locs w5 hP hD hK hS => ?_)
    have hP : va_P D vwCl [(m4, .inl (cm4, 25, .inl fK5)), (l1, .inr (5, [.int 1, .ref (D.1 1000), .int 0])), (mo, .inr (16, [.int 5, .int 5, .int th, .ref m1, .ref m2, .ref m3, .ref m4, .ref m5, .ref l1, .ref l2, .ref l3, .int (-1), .ref l4])), (m1, .inl (cm1, 25, .inl (fun _ => 0)))] H := hP
    have hD : va_D A [(m4, .inl (cm4, 25, .inl fK5)), (l1, .inr (5, [.int 1, .ref (D.1 1000), .int 0])), (mo, .inr (16, [.int 5, .int 5, .int th, .ref m1, .ref m2, .ref m3, .ref m4, .ref m5, .ref l1, .ref l2, .ref l3, .int (-1), .ref l4])), (m1, .inl (cm1, 25, .inl (fun _ => 0)))] := hD
    have hK : va_K D vwCl [(cm1, .int), (cm4, .char)] s := hK
    obtain rfl : r6 = (if inR p1 0 3 then 1 else 0) := w5
    refine lv_if_eq (tgt := 38) hx hb dX9_control_23 (by decide) (fun h7 => ?_) (fun h7 => ?_)
    · refine lv_aload_n hx hb dX9_control_38 rfl (lv_at hl 0 rfl) ?_
      refine lv_iconst (v := 2) hx hb dX9_control_39 (by decide) ?_
      refine mc_i (wr := [(m4, .inl (cm4, 25, .inl fK5)), (l1, .inr (5, [.int 1, .ref (D.1 1000), .int 0])), (m1, .inl (cm1, 25, .inl (fun _ => 0)))]) (va_runV (As := [.int 2]) (rest := []) ⟨hx, hb, hml, hown, hts⟩ (c_fails l hst D mo 5 5 th m1 m2 m3 m4 m5 l1 l2 l3 (-1) l4 2 H.size) (cwV 1 hts (gi_c (List.mem_cons_of_mem _ (List.mem_append_left _ (List.mem_of_getElem? (i := 7) rfl))) rfl (gi_c (List.mem_cons_of_mem _ (List.mem_append_left _ (List.mem_of_getElem? (i := 8) rfl))) rfl (gi_c (List.mem_cons_of_mem _ (List.mem_append_left _ (List.mem_of_getElem? (i := 9) rfl))) rfl (gi_c (List.mem_cons_of_mem _ (List.mem_append_left _ (List.mem_of_getElem? (i := 3) rfl))) rfl (goodIn_sub hb_2 (List.all_eq_true.mpr gw_c_fails)))))) rfl rfl rfl (by decide +kernel) ⟨Nat.le_of_ble_eq_true rfl, Nat.le_of_ble_eq_true rfl⟩) (pr_V (As := [.int 2]) (b := mo) (C := RX9) hP hD hK hS hA hE [2] [] rfl rfl rfl 2 16 rfl rfl rfl) rfl rfl hl.1 rfl (lv_room (Nat.le_of_ble_eq_true rfl)) dX9_control_40 ⟨Nat.le_of_ble_eq_true rfl, Nat.le_of_ble_eq_true rfl⟩) hP hD hK hS hA [2] [0, 1, 3] rfl rfl (by decide) (by decide) (fun r9 _ H locs w8 hP hD hK hS => ?_)
      have hP : va_P D vwCl [(m4, .inl (cm4, 25, .inl fK5)), (l1, .inr (5, [.int 1, .ref (D.1 1000), .int 0])), (m1, .inl (cm1, 25, .inl (fun _ => 0))), (mo, .inr (16, [.int 5, .int 5, .int 2, .ref m1, .ref m2, .ref m3, .ref m4, .ref m5, .ref l1, .ref l2, .ref l3, .int (-1), .ref l4]))] H := hP
      have hD : va_D A [(m4, .inl (cm4, 25, .inl fK5)), (l1, .inr (5, [.int 1, .ref (D.1 1000), .int 0])), (m1, .inl (cm1, 25, .inl (fun _ => 0))), (mo, .inr (16, [.int 5, .int 5, .int 2, .ref m1, .ref m2, .ref m3, .ref m4, .ref m5, .ref l1, .ref l2, .ref l3, .int (-1), .ref l4]))] := hD
      have hK : va_K D vwCl [(cm1, .int), (cm4, .char)] s := hK
      obtain rfl : r9 = 0 := w8
      exact mr_i hx hb hr (2, fun k9 => [m1, m2, m3, m4, m5, l1, l2, l3, l4].getD k9 0, fun k9 => [5, 5, -1].getD k9 0) (⟨((if_pos (ite01_1 h3)).trans (if_neg (ite01_0 h7))).symm, fun q9 => absurd (((if_pos (ite01_1 h3)).trans (if_neg (ite01_0 h7))).symm.trans q9) (by decide)⟩) (hP.sub [3] rfl) (hK.sub [] rfl) (hD.sub [3] (by decide) rfl) hS (Nat.le_of_ble_eq_true rfl) (Nat.le_of_ble_eq_true rfl) hlocks dX9_control_43
    · refine lv_iload_n hx hb dX9_control_26 rfl (lv_at hl 3 rfl) ?_
      refine lv_i2l hx hb dX9_control_27 rfl ?_
      refine lv_topl (fun x10 e10 => ?_)
      obtain rfl : x10 = p2.toInt64 := e10
      refine lv_lconst (v := 0) hx hb dX9_control_28 (by decide) ?_
      refine lv_ldc2 hx hb hown hw_10 dX9_control_29 ?_
      refine mc_i (wr := [(m4, .inl (cm4, 25, .inl fK5)), (l1, .inr (5, [.int 1, .ref (D.1 1000), .int 0])), (mo, .inr (16, [.int 5, .int 5, .int th, .ref m1, .ref m2, .ref m3, .ref m4, .ref m5, .ref l1, .ref l2, .ref l3, .int (-1), .ref l4])), (m1, .inl (cm1, 25, .inl (fun _ => 0)))]) (va_runS (As := [.long p2.toInt64, .long 0, .long 99]) (rest := []) ⟨hx, hb, hml, hown, hts⟩ (c_in l hst D p2 0 99 0 99 H.size (by decide) (by decide)) (va_cwS 3 hts (gi_c (List.mem_cons_of_mem _ (List.mem_append_left _ (List.mem_of_getElem? (i := 5) rfl))) rfl (gi_c (List.mem_cons_of_mem _ (List.mem_append_left _ (List.mem_of_getElem? (i := 6) rfl))) rfl (gi_c (List.mem_cons_of_mem _ (List.mem_append_left _ (List.mem_of_getElem? (i := 3) rfl))) rfl (goodIn_sub hb_1 (List.all_eq_true.mpr gw_c_in))))) rfl rfl rfl (by decide +kernel) ⟨Nat.le_of_ble_eq_true rfl, Nat.le_of_ble_eq_true rfl⟩) (pr_S (As := [.long p2.toInt64, .long 0, .long 99]) hP hD hK hS hA hE [] [] rfl rfl rfl) rfl rfl hl.1 rfl (lv_room (Nat.le_of_ble_eq_true rfl)) dX9_control_32 ⟨Nat.le_of_ble_eq_true rfl, Nat.le_of_ble_eq_true rfl⟩) hP hD hK hS hA [] [0, 1, 2, 3] rfl rfl (by decide) (by decide) (fun r12 _ H locs w11 hP hD hK hS => ?_)
      have hP : va_P D vwCl [(m4, .inl (cm4, 25, .inl fK5)), (l1, .inr (5, [.int 1, .ref (D.1 1000), .int 0])), (mo, .inr (16, [.int 5, .int 5, .int th, .ref m1, .ref m2, .ref m3, .ref m4, .ref m5, .ref l1, .ref l2, .ref l3, .int (-1), .ref l4])), (m1, .inl (cm1, 25, .inl (fun _ => 0)))] H := hP
      have hD : va_D A [(m4, .inl (cm4, 25, .inl fK5)), (l1, .inr (5, [.int 1, .ref (D.1 1000), .int 0])), (mo, .inr (16, [.int 5, .int 5, .int th, .ref m1, .ref m2, .ref m3, .ref m4, .ref m5, .ref l1, .ref l2, .ref l3, .int (-1), .ref l4])), (m1, .inl (cm1, 25, .inl (fun _ => 0)))] := hD
      have hK : va_K D vwCl [(cm1, .int), (cm4, .char)] s := hK
      obtain rfl : r12 = (if inR p2 0 99 then 1 else 0) := w11
      refine lv_if_ne (tgt := 44) hx hb dX9_control_35 (by decide) (fun h13 => ?_) (fun h13 => ?_)
      · obtain ⟨k0, hk0, rfl⟩ := inI_nI (ite01_1 h3)
        refine lv_aload_n hx hb dX9_control_44 rfl (lv_at hl 0 rfl) ?_
        refine va_get (D := D) (ci := 16) (v := .ref m4) (C := RX9) (T := TX9) (N := 13) hx hb hts hb_3 hown hK hP 2 rfl rfl 6 (by decide) hw_11 (fun _ h9 => h9) rfl dX9_control_45 ?_
        refine lv_iload_n hx hb dX9_control_48 rfl (lv_at hl 1 rfl) ?_
        refine va_cald hx hb hK hP 0 1 rfl rfl (vp_in_nI (n := k0) (by omega) (by decide)) dX9_control_49 ?_
        refine lv_topi (fun x14 e14 => ?_)
        obtain rfl : x14 = 46 := e14.trans (fK5_at (by omega))
        refine lv_bipush (v := 119) hx hb dX9_control_50 (by decide) ?_
        refine lv_icmp_ne (tgt := 61) hx hb dX9_control_52 (by decide) (fun h15 => ?_) (fun h15 => absurd h15 (by decide))
        refine lv_aload_n hx hb dX9_control_61 rfl (lv_at hl 0 rfl) ?_
        refine va_get (D := D) (ci := 16) (v := .ref l1) (C := RX9) (T := TX9) (N := 13) hx hb hts hb_3 hown hK hP 2 rfl rfl 8 (by decide) hw_12 (fun _ h9 => h9) rfl dX9_control_62 ?_
        refine mc_i (wr := [(m4, .inl (cm4, 25, .inl fK5)), (mo, .inr (16, [.int 5, .int 5, .int th, .ref m1, .ref m2, .ref m3, .ref m4, .ref m5, .ref l1, .ref l2, .ref l3, .int (-1), .ref l4])), (m1, .inl (cm1, 25, .inl (fun _ => 0)))]) (va_runV (As := []) (rest := []) ⟨hx, hb, hml, hown, hts⟩ (c_alSize l hst D l1 1 (D.1 1000) 0 H.size) (cwV 0 hts (gi_c (List.mem_cons_of_mem _ (List.mem_append_left _ (List.mem_of_getElem? (i := 13) rfl))) rfl (gi_c (List.mem_cons_of_mem _ (List.mem_append_left _ (List.mem_of_getElem? (i := 14) rfl))) rfl (gi_c (List.mem_cons_of_mem _ (List.mem_append_left _ (List.mem_of_getElem? (i := 15) rfl))) rfl (gi_c (List.mem_cons_of_mem _ (List.mem_append_left _ (List.mem_of_getElem? (i := 16) rfl))) rfl (goodIn_sub hb_4 (List.all_eq_true.mpr gw_c_alSize)))))) rfl rfl rfl (by decide +kernel) ⟨Nat.le_of_ble_eq_true rfl, Nat.le_of_ble_eq_true rfl⟩) (pr_V (As := []) (b := l1) (C := RJx4a65c) hP hD hK hS hA hE [1] [] rfl rfl rfl 1 5 rfl rfl rfl) rfl rfl hl.1 rfl (lv_room (Nat.le_of_ble_eq_true rfl)) dX9_control_65 ⟨Nat.le_of_ble_eq_true rfl, Nat.le_of_ble_eq_true rfl⟩) hP hD hK hS hA [1] [0, 2, 3] rfl rfl (by decide) (by decide) (fun r17 _ H locs w16 hP hD hK hS => ?_)
        have hP : va_P D vwCl [(m4, .inl (cm4, 25, .inl fK5)), (mo, .inr (16, [.int 5, .int 5, .int th, .ref m1, .ref m2, .ref m3, .ref m4, .ref m5, .ref l1, .ref l2, .ref l3, .int (-1), .ref l4])), (m1, .inl (cm1, 25, .inl (fun _ => 0))), (l1, .inr (5, [.int 1, .ref (D.1 1000), .int 0]))] H := hP
        have hD : va_D A [(m4, .inl (cm4, 25, .inl fK5)), (mo, .inr (16, [.int 5, .int 5, .int th, .ref m1, .ref m2, .ref m3, .ref m4, .ref m5, .ref l1, .ref l2, .ref l3, .int (-1), .ref l4])), (m1, .inl (cm1, 25, .inl (fun _ => 0))), (l1, .inr (5, [.int 1, .ref (D.1 1000), .int 0]))] := hD
        have hK : va_K D vwCl [(cm1, .int), (cm4, .char)] s := hK
        obtain rfl : r17 = 0 := w16
        refine lv_bipush (v := 12) hx hb dX9_control_68 (by decide) ?_
        refine lv_icmp_ne (tgt := 79) hx hb dX9_control_70 (by decide) (fun h18 => ?_) (fun h18 => absurd h18 (by decide))
        refine lv_aload_n hx hb dX9_control_79 rfl (lv_at hl 0 rfl) ?_
        refine va_get (D := D) (ci := 16) (v := .ref l1) (C := RX9) (T := TX9) (N := 13) hx hb hts hb_3 hown hK hP 1 rfl rfl 8 (by decide) hw_12 (fun _ h9 => h9) rfl dX9_control_80 ?_
        refine lv_bipush (v := 6) hx hb dX9_control_83 (by decide) ?_
        refine va_newa (atype := .int) (ty := .int) (a0 := (6, .inl (fun _ => 0))) hx hb hw_17 rfl hK hP hD hS hA (N' := 6) (fun _ => rfl) (by decide) (by decide) (Nat.le_of_ble_eq_true rfl) (Nat.le_of_ble_eq_true rfl) (Nat.le_of_ble_eq_true rfl) dX9_control_85 (fun q19 cy20 H hK hP hD hS => ?_)
        have hK : va_K D vwCl [(cm1, .int), (cm4, .char), (cy20, .int)] s := hK
        have hP : va_P D vwCl [(m4, .inl (cm4, 25, .inl fK5)), (mo, .inr (16, [.int 5, .int 5, .int th, .ref m1, .ref m2, .ref m3, .ref m4, .ref m5, .ref l1, .ref l2, .ref l3, .int (-1), .ref l4])), (m1, .inl (cm1, 25, .inl (fun _ => 0))), (l1, .inr (5, [.int 1, .ref (D.1 1000), .int 0])), (q19, .inl (cy20, 6, .inl (fun _ => 0)))] H := hP
        have hD : va_D A [(m4, .inl (cm4, 25, .inl fK5)), (mo, .inr (16, [.int 5, .int 5, .int th, .ref m1, .ref m2, .ref m3, .ref m4, .ref m5, .ref l1, .ref l2, .ref l3, .int (-1), .ref l4])), (m1, .inl (cm1, 25, .inl (fun _ => 0))), (l1, .inr (5, [.int 1, .ref (D.1 1000), .int 0])), (q19, .inl (cy20, 6, .inl (fun _ => 0)))] := hD
        refine W.widen (k := 1) (n := 6) (Nat.le_of_ble_eq_true rfl) (Nat.le_of_ble_eq_true rfl) ?_
        refine lv_dup hx hb dX9_control_87 rfl ?_
        refine lv_iconst (v := 0) hx hb dX9_control_88 (by decide) ?_
        refine lv_iload_n hx hb dX9_control_89 rfl (lv_at hl 1 rfl) ?_
        refine va_iast hx hb hK hP hD hS 4 2 rfl rfl (vp_in_nI (n := 0) (by decide) (by decide)) dX9_control_90 (fun H locs hP hD hS => ?_)
        have hP : va_P D vwCl [(m4, .inl (cm4, 25, .inl fK5)), (mo, .inr (16, [.int 5, .int 5, .int th, .ref m1, .ref m2, .ref m3, .ref m4, .ref m5, .ref l1, .ref l2, .ref l3, .int (-1), .ref l4])), (m1, .inl (cm1, 25, .inl (fun _ => 0))), (l1, .inr (5, [.int 1, .ref (D.1 1000), .int 0])), (q19, .inl (cy20, 6, .inl (upd (fun _ => 0) ((0 : Int32).toNatClampNeg) (nI k0))))] H := hP
        have hD : va_D A [(m4, .inl (cm4, 25, .inl fK5)), (mo, .inr (16, [.int 5, .int 5, .int th, .ref m1, .ref m2, .ref m3, .ref m4, .ref m5, .ref l1, .ref l2, .ref l3, .int (-1), .ref l4])), (m1, .inl (cm1, 25, .inl (fun _ => 0))), (l1, .inr (5, [.int 1, .ref (D.1 1000), .int 0])), (q19, .inl (cy20, 6, .inl (upd (fun _ => 0) ((0 : Int32).toNatClampNeg) (nI k0))))] := hD
        refine lv_dup hx hb dX9_control_91 rfl ?_
        refine lv_iconst (v := 1) hx hb dX9_control_92 (by decide) ?_
        refine lv_iload_n hx hb dX9_control_93 rfl (lv_at hl 2 rfl) ?_
        refine va_iast hx hb hK hP hD hS 4 2 rfl rfl (vp_in_nI (n := 1) (by decide) (by decide)) dX9_control_94 (fun H locs hP hD hS => ?_)
        have hP : va_P D vwCl [(m4, .inl (cm4, 25, .inl fK5)), (mo, .inr (16, [.int 5, .int 5, .int th, .ref m1, .ref m2, .ref m3, .ref m4, .ref m5, .ref l1, .ref l2, .ref l3, .int (-1), .ref l4])), (m1, .inl (cm1, 25, .inl (fun _ => 0))), (l1, .inr (5, [.int 1, .ref (D.1 1000), .int 0])), (q19, .inl (cy20, 6, .inl (upd (upd (fun _ => 0) ((0 : Int32).toNatClampNeg) (nI k0)) ((1 : Int32).toNatClampNeg) p1)))] H := hP
        have hD : va_D A [(m4, .inl (cm4, 25, .inl fK5)), (mo, .inr (16, [.int 5, .int 5, .int th, .ref m1, .ref m2, .ref m3, .ref m4, .ref m5, .ref l1, .ref l2, .ref l3, .int (-1), .ref l4])), (m1, .inl (cm1, 25, .inl (fun _ => 0))), (l1, .inr (5, [.int 1, .ref (D.1 1000), .int 0])), (q19, .inl (cy20, 6, .inl (upd (upd (fun _ => 0) ((0 : Int32).toNatClampNeg) (nI k0)) ((1 : Int32).toNatClampNeg) p1)))] := hD
        refine lv_dup hx hb dX9_control_95 rfl ?_
        refine lv_iconst (v := 2) hx hb dX9_control_96 (by decide) ?_
        refine lv_iload_n hx hb dX9_control_97 rfl (lv_at hl 3 rfl) ?_
        refine va_iast hx hb hK hP hD hS 4 2 rfl rfl (vp_in_nI (n := 2) (by decide) (by decide)) dX9_control_98 (fun H locs hP hD hS => ?_)
        have hP : va_P D vwCl [(m4, .inl (cm4, 25, .inl fK5)), (mo, .inr (16, [.int 5, .int 5, .int th, .ref m1, .ref m2, .ref m3, .ref m4, .ref m5, .ref l1, .ref l2, .ref l3, .int (-1), .ref l4])), (m1, .inl (cm1, 25, .inl (fun _ => 0))), (l1, .inr (5, [.int 1, .ref (D.1 1000), .int 0])), (q19, .inl (cy20, 6, .inl (upd (upd (upd (fun _ => 0) ((0 : Int32).toNatClampNeg) (nI k0)) ((1 : Int32).toNatClampNeg) p1) ((2 : Int32).toNatClampNeg) p2)))] H := hP
        have hD : va_D A [(m4, .inl (cm4, 25, .inl fK5)), (mo, .inr (16, [.int 5, .int 5, .int th, .ref m1, .ref m2, .ref m3, .ref m4, .ref m5, .ref l1, .ref l2, .ref l3, .int (-1), .ref l4])), (m1, .inl (cm1, 25, .inl (fun _ => 0))), (l1, .inr (5, [.int 1, .ref (D.1 1000), .int 0])), (q19, .inl (cy20, 6, .inl (upd (upd (upd (fun _ => 0) ((0 : Int32).toNatClampNeg) (nI k0)) ((1 : Int32).toNatClampNeg) p1) ((2 : Int32).toNatClampNeg) p2)))] := hD
        refine lv_dup hx hb dX9_control_99 rfl ?_
        refine lv_iconst (v := 3) hx hb dX9_control_100 (by decide) ?_
        refine lv_iconst (v := -1) hx hb dX9_control_101 (by decide) ?_
        refine va_iast hx hb hK hP hD hS 4 2 rfl rfl (vp_in_nI (n := 3) (by decide) (by decide)) dX9_control_102 (fun H locs hP hD hS => ?_)
        have hP : va_P D vwCl [(m4, .inl (cm4, 25, .inl fK5)), (mo, .inr (16, [.int 5, .int 5, .int th, .ref m1, .ref m2, .ref m3, .ref m4, .ref m5, .ref l1, .ref l2, .ref l3, .int (-1), .ref l4])), (m1, .inl (cm1, 25, .inl (fun _ => 0))), (l1, .inr (5, [.int 1, .ref (D.1 1000), .int 0])), (q19, .inl (cy20, 6, .inl (upd (upd (upd (upd (fun _ => 0) ((0 : Int32).toNatClampNeg) (nI k0)) ((1 : Int32).toNatClampNeg) p1) ((2 : Int32).toNatClampNeg) p2) ((3 : Int32).toNatClampNeg) (-1))))] H := hP
        have hD : va_D A [(m4, .inl (cm4, 25, .inl fK5)), (mo, .inr (16, [.int 5, .int 5, .int th, .ref m1, .ref m2, .ref m3, .ref m4, .ref m5, .ref l1, .ref l2, .ref l3, .int (-1), .ref l4])), (m1, .inl (cm1, 25, .inl (fun _ => 0))), (l1, .inr (5, [.int 1, .ref (D.1 1000), .int 0])), (q19, .inl (cy20, 6, .inl (upd (upd (upd (upd (fun _ => 0) ((0 : Int32).toNatClampNeg) (nI k0)) ((1 : Int32).toNatClampNeg) p1) ((2 : Int32).toNatClampNeg) p2) ((3 : Int32).toNatClampNeg) (-1))))] := hD
        refine lv_dup hx hb dX9_control_103 rfl ?_
        refine lv_iconst (v := 4) hx hb dX9_control_104 (by decide) ?_
        refine lv_iconst (v := -1) hx hb dX9_control_105 (by decide) ?_
        refine va_iast hx hb hK hP hD hS 4 2 rfl rfl (vp_in_nI (n := 4) (by decide) (by decide)) dX9_control_106 (fun H locs hP hD hS => ?_)
        have hP : va_P D vwCl [(m4, .inl (cm4, 25, .inl fK5)), (mo, .inr (16, [.int 5, .int 5, .int th, .ref m1, .ref m2, .ref m3, .ref m4, .ref m5, .ref l1, .ref l2, .ref l3, .int (-1), .ref l4])), (m1, .inl (cm1, 25, .inl (fun _ => 0))), (l1, .inr (5, [.int 1, .ref (D.1 1000), .int 0])), (q19, .inl (cy20, 6, .inl (upd (upd (upd (upd (upd (fun _ => 0) ((0 : Int32).toNatClampNeg) (nI k0)) ((1 : Int32).toNatClampNeg) p1) ((2 : Int32).toNatClampNeg) p2) ((3 : Int32).toNatClampNeg) (-1)) ((4 : Int32).toNatClampNeg) (-1))))] H := hP
        have hD : va_D A [(m4, .inl (cm4, 25, .inl fK5)), (mo, .inr (16, [.int 5, .int 5, .int th, .ref m1, .ref m2, .ref m3, .ref m4, .ref m5, .ref l1, .ref l2, .ref l3, .int (-1), .ref l4])), (m1, .inl (cm1, 25, .inl (fun _ => 0))), (l1, .inr (5, [.int 1, .ref (D.1 1000), .int 0])), (q19, .inl (cy20, 6, .inl (upd (upd (upd (upd (upd (fun _ => 0) ((0 : Int32).toNatClampNeg) (nI k0)) ((1 : Int32).toNatClampNeg) p1) ((2 : Int32).toNatClampNeg) p2) ((3 : Int32).toNatClampNeg) (-1)) ((4 : Int32).toNatClampNeg) (-1))))] := hD
        refine lv_dup hx hb dX9_control_107 rfl ?_
        refine lv_iconst (v := 5) hx hb dX9_control_108 (by decide) ?_
        refine lv_iconst (v := -1) hx hb dX9_control_109 (by decide) ?_
        refine va_iast hx hb hK hP hD hS 4 2 rfl rfl (vp_in_nI (n := 5) (by decide) (by decide)) dX9_control_110 (fun H locs hP hD hS => ?_)
        have hP : va_P D vwCl [(m4, .inl (cm4, 25, .inl fK5)), (mo, .inr (16, [.int 5, .int 5, .int th, .ref m1, .ref m2, .ref m3, .ref m4, .ref m5, .ref l1, .ref l2, .ref l3, .int (-1), .ref l4])), (m1, .inl (cm1, 25, .inl (fun _ => 0))), (l1, .inr (5, [.int 1, .ref (D.1 1000), .int 0])), (q19, .inl (cy20, 6, .inl (upd (upd (upd (upd (upd (upd (fun _ => 0) ((0 : Int32).toNatClampNeg) (nI k0)) ((1 : Int32).toNatClampNeg) p1) ((2 : Int32).toNatClampNeg) p2) ((3 : Int32).toNatClampNeg) (-1)) ((4 : Int32).toNatClampNeg) (-1)) ((5 : Int32).toNatClampNeg) (-1))))] H := hP
        have hD : va_D A [(m4, .inl (cm4, 25, .inl fK5)), (mo, .inr (16, [.int 5, .int 5, .int th, .ref m1, .ref m2, .ref m3, .ref m4, .ref m5, .ref l1, .ref l2, .ref l3, .int (-1), .ref l4])), (m1, .inl (cm1, 25, .inl (fun _ => 0))), (l1, .inr (5, [.int 1, .ref (D.1 1000), .int 0])), (q19, .inl (cy20, 6, .inl (upd (upd (upd (upd (upd (upd (fun _ => 0) ((0 : Int32).toNatClampNeg) (nI k0)) ((1 : Int32).toNatClampNeg) p1) ((2 : Int32).toNatClampNeg) p2) ((3 : Int32).toNatClampNeg) (-1)) ((4 : Int32).toNatClampNeg) (-1)) ((5 : Int32).toNatClampNeg) (-1))))] := hD
        refine mc_i (wr := [(m4, .inl (cm4, 25, .inl fK5)), (mo, .inr (16, [.int 5, .int 5, .int th, .ref m1, .ref m2, .ref m3, .ref m4, .ref m5, .ref l1, .ref l2, .ref l3, .int (-1), .ref l4])), (m1, .inl (cm1, 25, .inl (fun _ => 0)))]) (va_runV (As := [.ref q19]) (rest := []) ⟨hx, hb, hml, hown, hts⟩ (c_alAddI l hst D l1 1 q19 cy20 (upd (upd (upd (upd (upd (upd (fun _ => 0) ((0 : Int32).toNatClampNeg) (nI k0)) ((1 : Int32).toNatClampNeg) p1) ((2 : Int32).toNatClampNeg) p2) ((3 : Int32).toNatClampNeg) (-1)) ((4 : Int32).toNatClampNeg) (-1)) ((5 : Int32).toNatClampNeg) (-1)) H.size) (cwV 1 hts (gi_c (List.mem_cons_of_mem _ (List.mem_append_left _ (List.mem_of_getElem? (i := 18) rfl))) rfl (gi_c (List.mem_cons_of_mem _ (List.mem_append_left _ (List.mem_of_getElem? (i := 19) rfl))) rfl (gi_c (List.mem_cons_of_mem _ (List.mem_append_left _ (List.mem_of_getElem? (i := 20) rfl))) rfl (gi_c (List.mem_cons_of_mem _ (List.mem_append_left _ (List.mem_of_getElem? (i := 16) rfl))) rfl (goodIn_sub hb_5 (List.all_eq_true.mpr gw_c_alAddI)))))) rfl rfl rfl (by decide +kernel) ⟨Nat.le_of_ble_eq_true rfl, Nat.le_of_ble_eq_true rfl⟩) (pr_V (As := [.ref q19]) (b := l1) (C := RJx4a65c) hP hD hK hS hA hE [3, 4] [2] rfl rfl rfl 3 5 rfl rfl rfl) rfl rfl hl.1 rfl (lv_room (Nat.le_of_ble_eq_true rfl)) dX9_control_111 ⟨Nat.le_of_ble_eq_true rfl, Nat.le_of_ble_eq_true rfl⟩) hP hD hK hS hA [3, 4] [0, 1, 2] rfl rfl (by decide) (by decide) (fun r23 u21 H locs w22 hP hD hK hS => ?_)
        have hP : va_P D vwCl [(m4, .inl (cm4, 25, .inl fK5)), (mo, .inr (16, [.int 5, .int 5, .int th, .ref m1, .ref m2, .ref m3, .ref m4, .ref m5, .ref l1, .ref l2, .ref l3, .int (-1), .ref l4])), (m1, .inl (cm1, 25, .inl (fun _ => 0))), (l1, .inr (5, [.int (1 + 1), .ref u21, .int 1]))] H := hP
        have hD : va_D A [(m4, .inl (cm4, 25, .inl fK5)), (mo, .inr (16, [.int 5, .int 5, .int th, .ref m1, .ref m2, .ref m3, .ref m4, .ref m5, .ref l1, .ref l2, .ref l3, .int (-1), .ref l4])), (m1, .inl (cm1, 25, .inl (fun _ => 0))), (l1, .inr (5, [.int (1 + 1), .ref u21, .int 1]))] := hD
        have hK : va_K D vwCl [(cm1, .int), (cm4, .char), (cy20, .int)] s := hK
        refine lv_pop hx hb dX9_control_114 rfl ?_
        refine lv_aload_n hx hb dX9_control_115 rfl (lv_at hl 0 rfl) ?_
        refine lv_aload_n hx hb dX9_control_116 rfl (lv_at hl 0 rfl) ?_
        refine va_get (D := D) (ci := 16) (v := .ref l1) (C := RX9) (T := TX9) (N := 13) hx hb hts hb_3 hown hK hP 1 rfl rfl 8 (by decide) hw_12 (fun _ h9 => h9) rfl dX9_control_117 ?_
        refine mc_i (wr := [(m4, .inl (cm4, 25, .inl fK5)), (mo, .inr (16, [.int 5, .int 5, .int th, .ref m1, .ref m2, .ref m3, .ref m4, .ref m5, .ref l1, .ref l2, .ref l3, .int (-1), .ref l4])), (m1, .inl (cm1, 25, .inl (fun _ => 0)))]) (va_runV (As := []) (rest := [.ref mo]) ⟨hx, hb, hml, hown, hts⟩ (c_alSize l hst D l1 (1 + 1) u21 1 H.size) (cwV 0 hts (gi_c (List.mem_cons_of_mem _ (List.mem_append_left _ (List.mem_of_getElem? (i := 13) rfl))) rfl (gi_c (List.mem_cons_of_mem _ (List.mem_append_left _ (List.mem_of_getElem? (i := 14) rfl))) rfl (gi_c (List.mem_cons_of_mem _ (List.mem_append_left _ (List.mem_of_getElem? (i := 15) rfl))) rfl (gi_c (List.mem_cons_of_mem _ (List.mem_append_left _ (List.mem_of_getElem? (i := 16) rfl))) rfl (goodIn_sub hb_4 (List.all_eq_true.mpr gw_c_alSize)))))) rfl rfl rfl (by decide +kernel) ⟨Nat.le_of_ble_eq_true rfl, Nat.le_of_ble_eq_true rfl⟩) (pr_V (As := []) (b := l1) (C := RJx4a65c) hP hD hK hS hA hE [3] [] rfl rfl rfl 3 5 rfl rfl rfl) rfl rfl hl.1 rfl (lv_room (Nat.le_of_ble_eq_true rfl)) dX9_control_120 ⟨Nat.le_of_ble_eq_true rfl, Nat.le_of_ble_eq_true rfl⟩) hP hD hK hS hA [3] [0, 1, 2] rfl rfl (by decide) (by decide) (fun r25 _ H locs w24 hP hD hK hS => ?_)
        have hP : va_P D vwCl [(m4, .inl (cm4, 25, .inl fK5)), (mo, .inr (16, [.int 5, .int 5, .int th, .ref m1, .ref m2, .ref m3, .ref m4, .ref m5, .ref l1, .ref l2, .ref l3, .int (-1), .ref l4])), (m1, .inl (cm1, 25, .inl (fun _ => 0))), (l1, .inr (5, [.int (1 + 1), .ref u21, .int 1]))] H := hP
        have hD : va_D A [(m4, .inl (cm4, 25, .inl fK5)), (mo, .inr (16, [.int 5, .int 5, .int th, .ref m1, .ref m2, .ref m3, .ref m4, .ref m5, .ref l1, .ref l2, .ref l3, .int (-1), .ref l4])), (m1, .inl (cm1, 25, .inl (fun _ => 0))), (l1, .inr (5, [.int (1 + 1), .ref u21, .int 1]))] := hD
        have hK : va_K D vwCl [(cm1, .int), (cm4, .char), (cy20, .int)] s := hK
        obtain rfl : r25 = 1 := w24
        refine lv_iconst (v := 1) hx hb dX9_control_123 (by decide) ?_
        refine lv_isub hx hb dX9_control_124 ?_
        refine lv_topi (fun x26 e26 => ?_)
        obtain rfl : x26 = 0 := e26.trans (by decide)
        refine mc_i (wr := [(m4, .inl (cm4, 25, .inl fK5)), (m1, .inl (cm1, 25, .inl (fun _ => 0))), (l1, .inr (5, [.int (1 + 1), .ref u21, .int 1]))]) (va_runV (As := [.int 0]) (rest := []) ⟨hx, hb, hml, hown, hts⟩ (c_tells l hst D mo 5 5 th m1 m2 m3 m4 m5 l1 l2 l3 (-1) l4 0 H.size) (cwV 1 hts (gi_c (List.mem_cons_of_mem _ (List.mem_append_left _ (List.mem_of_getElem? (i := 21) rfl))) rfl (gi_c (List.mem_cons_of_mem _ (List.mem_append_left _ (List.mem_of_getElem? (i := 22) rfl))) rfl (gi_c (List.mem_cons_of_mem _ (List.mem_append_left _ (List.mem_of_getElem? (i := 23) rfl))) rfl (gi_c (List.mem_cons_of_mem _ (List.mem_append_left _ (List.mem_of_getElem? (i := 3) rfl))) rfl (goodIn_sub hb_6 (List.all_eq_true.mpr gw_c_tells)))))) rfl rfl rfl (by decide +kernel) ⟨Nat.le_of_ble_eq_true rfl, Nat.le_of_ble_eq_true rfl⟩) (pr_V (As := [.int 0]) (b := mo) (C := RX9) hP hD hK hS hA hE [1] [] rfl rfl rfl 1 16 rfl rfl rfl) rfl rfl hl.1 rfl (lv_room (Nat.le_of_ble_eq_true rfl)) dX9_control_125 ⟨Nat.le_of_ble_eq_true rfl, Nat.le_of_ble_eq_true rfl⟩) hP hD hK hS hA [1] [0, 2, 3] rfl rfl (by decide) (by decide) (fun r28 _ H locs w27 hP hD hK hS => ?_)
        have hP : va_P D vwCl [(m4, .inl (cm4, 25, .inl fK5)), (m1, .inl (cm1, 25, .inl (fun _ => 0))), (l1, .inr (5, [.int (1 + 1), .ref u21, .int 1])), (mo, .inr (16, [.int 5, .int 5, .int 0, .ref m1, .ref m2, .ref m3, .ref m4, .ref m5, .ref l1, .ref l2, .ref l3, .int (-1), .ref l4]))] H := hP
        have hD : va_D A [(m4, .inl (cm4, 25, .inl fK5)), (m1, .inl (cm1, 25, .inl (fun _ => 0))), (l1, .inr (5, [.int (1 + 1), .ref u21, .int 1])), (mo, .inr (16, [.int 5, .int 5, .int 0, .ref m1, .ref m2, .ref m3, .ref m4, .ref m5, .ref l1, .ref l2, .ref l3, .int (-1), .ref l4]))] := hD
        have hK : va_K D vwCl [(cm1, .int), (cm4, .char), (cy20, .int)] s := hK
        obtain rfl : r28 = 0 := w27
        exact mr_i hx hb hr (0, fun k9 => [m1, m2, m3, m4, m5, l1, l2, l3, l4].getD k9 0, fun k9 => [5, 5, -1].getD k9 0) (⟨((if_pos (ite01_1 h3)).trans ((if_pos (ite01_1 h7)).trans (if_pos (ite01_1 h13)))).symm, fun _ => rfl⟩) (hP.sub [3] rfl) (hK.sub [] rfl) (hD.sub [3] (by decide) rfl) hS (Nat.le_of_ble_eq_true rfl) (Nat.le_of_ble_eq_true rfl) hlocks dX9_control_128
      · refine lv_aload_n hx hb dX9_control_38 rfl (lv_at hl 0 rfl) ?_
        refine lv_iconst (v := 2) hx hb dX9_control_39 (by decide) ?_
        refine mc_i (wr := [(m4, .inl (cm4, 25, .inl fK5)), (l1, .inr (5, [.int 1, .ref (D.1 1000), .int 0])), (m1, .inl (cm1, 25, .inl (fun _ => 0)))]) (va_runV (As := [.int 2]) (rest := []) ⟨hx, hb, hml, hown, hts⟩ (c_fails l hst D mo 5 5 th m1 m2 m3 m4 m5 l1 l2 l3 (-1) l4 2 H.size) (cwV 1 hts (gi_c (List.mem_cons_of_mem _ (List.mem_append_left _ (List.mem_of_getElem? (i := 7) rfl))) rfl (gi_c (List.mem_cons_of_mem _ (List.mem_append_left _ (List.mem_of_getElem? (i := 8) rfl))) rfl (gi_c (List.mem_cons_of_mem _ (List.mem_append_left _ (List.mem_of_getElem? (i := 9) rfl))) rfl (gi_c (List.mem_cons_of_mem _ (List.mem_append_left _ (List.mem_of_getElem? (i := 3) rfl))) rfl (goodIn_sub hb_2 (List.all_eq_true.mpr gw_c_fails)))))) rfl rfl rfl (by decide +kernel) ⟨Nat.le_of_ble_eq_true rfl, Nat.le_of_ble_eq_true rfl⟩) (pr_V (As := [.int 2]) (b := mo) (C := RX9) hP hD hK hS hA hE [2] [] rfl rfl rfl 2 16 rfl rfl rfl) rfl rfl hl.1 rfl (lv_room (Nat.le_of_ble_eq_true rfl)) dX9_control_40 ⟨Nat.le_of_ble_eq_true rfl, Nat.le_of_ble_eq_true rfl⟩) hP hD hK hS hA [2] [0, 1, 3] rfl rfl (by decide) (by decide) (fun r30 _ H locs w29 hP hD hK hS => ?_)
        have hP : va_P D vwCl [(m4, .inl (cm4, 25, .inl fK5)), (l1, .inr (5, [.int 1, .ref (D.1 1000), .int 0])), (m1, .inl (cm1, 25, .inl (fun _ => 0))), (mo, .inr (16, [.int 5, .int 5, .int 2, .ref m1, .ref m2, .ref m3, .ref m4, .ref m5, .ref l1, .ref l2, .ref l3, .int (-1), .ref l4]))] H := hP
        have hD : va_D A [(m4, .inl (cm4, 25, .inl fK5)), (l1, .inr (5, [.int 1, .ref (D.1 1000), .int 0])), (m1, .inl (cm1, 25, .inl (fun _ => 0))), (mo, .inr (16, [.int 5, .int 5, .int 2, .ref m1, .ref m2, .ref m3, .ref m4, .ref m5, .ref l1, .ref l2, .ref l3, .int (-1), .ref l4]))] := hD
        have hK : va_K D vwCl [(cm1, .int), (cm4, .char)] s := hK
        obtain rfl : r30 = 0 := w29
        exact mr_i hx hb hr (2, fun k9 => [m1, m2, m3, m4, m5, l1, l2, l3, l4].getD k9 0, fun k9 => [5, 5, -1].getD k9 0) (⟨((if_pos (ite01_1 h3)).trans ((if_pos (ite01_1 h7)).trans (if_neg (ite01_0 h13)))).symm, fun q9 => absurd (((if_pos (ite01_1 h3)).trans ((if_pos (ite01_1 h7)).trans (if_neg (ite01_0 h13)))).symm.trans q9) (by decide)⟩) (hP.sub [3] rfl) (hK.sub [] rfl) (hD.sub [3] (by decide) rfl) hS (Nat.le_of_ble_eq_true rfl) (Nat.le_of_ble_eq_true rfl) hlocks dX9_control_43
  · refine lv_aload_n hx hb dX9_control_8 rfl (lv_at hl 0 rfl) ?_
    refine lv_iconst (v := 1) hx hb dX9_control_9 (by decide) ?_
    refine mc_i (wr := [(m4, .inl (cm4, 25, .inl fK5)), (l1, .inr (5, [.int 1, .ref (D.1 1000), .int 0])), (m1, .inl (cm1, 25, .inl (fun _ => 0)))]) (va_runV (As := [.int 1]) (rest := []) ⟨hx, hb, hml, hown, hts⟩ (c_fails l hst D mo 5 5 th m1 m2 m3 m4 m5 l1 l2 l3 (-1) l4 1 H.size) (cwV 1 hts (gi_c (List.mem_cons_of_mem _ (List.mem_append_left _ (List.mem_of_getElem? (i := 7) rfl))) rfl (gi_c (List.mem_cons_of_mem _ (List.mem_append_left _ (List.mem_of_getElem? (i := 8) rfl))) rfl (gi_c (List.mem_cons_of_mem _ (List.mem_append_left _ (List.mem_of_getElem? (i := 9) rfl))) rfl (gi_c (List.mem_cons_of_mem _ (List.mem_append_left _ (List.mem_of_getElem? (i := 3) rfl))) rfl (goodIn_sub hb_2 (List.all_eq_true.mpr gw_c_fails)))))) rfl rfl rfl (by decide +kernel) ⟨Nat.le_of_ble_eq_true rfl, Nat.le_of_ble_eq_true rfl⟩) (pr_V (As := [.int 1]) (b := mo) (C := RX9) hP hD hK hS hA hE [2] [] rfl rfl rfl 2 16 rfl rfl rfl) rfl rfl hl.1 rfl (lv_room (Nat.le_of_ble_eq_true rfl)) dX9_control_10 ⟨Nat.le_of_ble_eq_true rfl, Nat.le_of_ble_eq_true rfl⟩) hP hD hK hS hA [2] [0, 1, 3] rfl rfl (by decide) (by decide) (fun r32 _ H locs w31 hP hD hK hS => ?_)
    have hP : va_P D vwCl [(m4, .inl (cm4, 25, .inl fK5)), (l1, .inr (5, [.int 1, .ref (D.1 1000), .int 0])), (m1, .inl (cm1, 25, .inl (fun _ => 0))), (mo, .inr (16, [.int 5, .int 5, .int 1, .ref m1, .ref m2, .ref m3, .ref m4, .ref m5, .ref l1, .ref l2, .ref l3, .int (-1), .ref l4]))] H := hP
    have hD : va_D A [(m4, .inl (cm4, 25, .inl fK5)), (l1, .inr (5, [.int 1, .ref (D.1 1000), .int 0])), (m1, .inl (cm1, 25, .inl (fun _ => 0))), (mo, .inr (16, [.int 5, .int 5, .int 1, .ref m1, .ref m2, .ref m3, .ref m4, .ref m5, .ref l1, .ref l2, .ref l3, .int (-1), .ref l4]))] := hD
    have hK : va_K D vwCl [(cm1, .int), (cm4, .char)] s := hK
    obtain rfl : r32 = 0 := w31
    exact mr_i hx hb hr (1, fun k9 => [m1, m2, m3, m4, m5, l1, l2, l3, l4].getD k9 0, fun k9 => [5, 5, -1].getD k9 0) (⟨(if_neg (ite01_0 h3)).symm, fun q9 => absurd ((if_neg (ite01_0 h3)).symm.trans q9) (by decide)⟩) (hP.sub [3] rfl) (hK.sub [] rfl) (hD.sub [3] (by decide) rfl) hS (Nat.le_of_ble_eq_true rfl) (Nat.le_of_ble_eq_true rfl) hlocks dX9_control_13

def us_c_misSound : List Cond := .code yX9_isSound cX9_isSound 1 (some .boolean) :: (([.fieldLink RX9 16 "ControlWoodModel" "thrown" "I"] : List Cond) ++ (wsX90 ++ ([])))
theorem gw_c_misSound : ∀ w ∈ us_c_misSound, goodWord w = true := gw_cons rfl (gw_app (by decide +kernel) (gw_app gwf_X9 (fun _ h => nomatch h)))
set_option maxHeartbeats 4000000 in
set_option maxRecDepth 100000 in
/-- the reference: isSound -/
theorem c_misSound (l : Launch) (hst : l.stackTraces = false) (D : va_G) (mo : Nat) (th : Int32) (m1 : Nat) (m2 : Nat) (m3 : Nat) (m4 : Nat) (m5 : Nat) (l1 : Nat) (l2 : Nat) (l3 : Nat) (l4 : Nat) (sz : Nat) : Met l yX9_isSound us_c_misSound { frames := 0, cells := 0, slots := 0, locals := 0 } (pw D [.ref mo] [] [(mo, .inr (16, [.int 5, .int 5, .int th, .ref m1, .ref m2, .ref m3, .ref m4, .ref m5, .ref l1, .ref l2, .ref l3, .int (-1), .ref l4]))] sz) (va_Qi (fun (r : Int32) (_ : Unit) => r = 1) (qb D (va_A [(mo, .inr (16, [.int 5, .int 5, .int th, .ref m1, .ref m2, .ref m3, .ref m4, .ref m5, .ref l1, .ref l2, .ref l3, .int (-1), .ref l4]))] sz) (fun _ : Unit => []) (fun _ : Unit => ([] : List (ClassId × FieldType)))) (va_A [(mo, .inr (16, [.int 5, .int 5, .int th, .ref m1, .ref m2, .ref m3, .ref m4, .ref m5, .ref l1, .ref l2, .ref l3, .int (-1), .ref l4]))] sz)) 0 0 (va_A [(mo, .inr (16, [.int 5, .int 5, .int th, .ref m1, .ref m2, .ref m3, .ref m4, .ref m5, .ref l1, .ref l2, .ref l3, .int (-1), .ref l4]))] sz) := by
  refine op_M (Qc := fun A => (va_Qi (fun (r : Int32) (_ : Unit) => r = 1) (qb D A (fun _ : Unit => []) (fun _ : Unit => ([] : List (ClassId × FieldType)))) A)) (by decide +kernel) rfl (Nat.le_of_ble_eq_true rfl) ?_
  intro p e s m args below meth c A ls hx hb hr hml hts hown hlocks hmn htab hA hD hS hP hK hE hsz hl
  have hown : s.vm.findClass RX9 = some m.cls := hown
  have hl : lv_has ls 1 [(0, .ref mo)] := hl
  have hw_0 := hts (.fieldLink RX9 16 "ControlWoodModel" "thrown" "I") (List.mem_cons_of_mem _ (List.mem_append_left _ (List.mem_of_getElem? (i := 0) rfl)))
  have hb_0 : ∀ w ∈ wsX90, w ∈ us_c_misSound := fun w h => List.mem_cons_of_mem _ (List.mem_append_right _ (List.mem_append_left _ h))
  refine lv_aload_n hx hb dX9_isSound_0 rfl (lv_at hl 0 rfl) ?_
  refine lv_iconst (v := 0) hx hb dX9_isSound_1 (by decide) ?_
  refine va_put (D := D) (ci := 16) (v := .int 0) (ty := .int) (C := RX9) (T := TX9) (N := 13) hx hb hts hb_0 tyX9 tyX9_ok nmX9 hown hK hP hD hS 0 rfl rfl 2 (by decide) hw_0 (fun _ h9 => h9) rfl (by decide +kernel) rfl rfl (Nat.le_of_ble_eq_true rfl) dX9_isSound_2 (fun H locs hP hD hS => ?_)
  have hP : va_P D vwCl [(mo, .inr (16, [.int 5, .int 5, .int 0, .ref m1, .ref m2, .ref m3, .ref m4, .ref m5, .ref l1, .ref l2, .ref l3, .int (-1), .ref l4]))] H := hP
  have hD : va_D A [(mo, .inr (16, [.int 5, .int 5, .int 0, .ref m1, .ref m2, .ref m3, .ref m4, .ref m5, .ref l1, .ref l2, .ref l3, .int (-1), .ref l4]))] := hD
  refine lv_iconst (v := 1) hx hb dX9_isSound_5 (by decide) ?_
  exact mr_z (rfl) hx hb hr () (rfl) (hP.sub [] rfl) (hK.sub [] rfl) (hD.sub [] (by decide) rfl) hS (Nat.le_of_ble_eq_true rfl) (Nat.le_of_ble_eq_true rfl) hlocks dX9_isSound_6

def us_c_mchecksum : List Cond := .code yX9_checksum cX9_checksum 7 (some .long) :: (([.fieldLink RX9 16 "ControlWoodModel" "thrown" "I", .constantLong RX9 361 (7), .fieldLink RX9 46 "ControlWoodModel" "runners" "Ljava/util/ArrayList;", .methodLink RX9 160 yJx4a65c_iterator_32c93, .instanceMethod yJx4a65c_iterator_32c93, .selects RJx4a65c yJx4a65c_iterator_32c93 yJx4a65c_iterator_32c93, .initialized RJx4a65c, .methodLink RX9 164 ⟨"java/util/Iterator", "hasNext", "()Z"⟩, .selects RJx35411 ⟨"java/util/Iterator", "hasNext", "()Z"⟩ yJx35411_hasNext_aae02, .instanceMethod yJx35411_hasNext_aae02, .initialized RJx35411] : List Cond) ++ (wsX90 ++ (us_c_alIter ++ (us_c_itHas ++ ([])))))
theorem gw_c_mchecksum : ∀ w ∈ us_c_mchecksum, goodWord w = true := gw_cons rfl (gw_app (by decide +kernel) (gw_app gwf_X9 (gw_app gw_c_alIter (gw_app gw_c_itHas (fun _ h => nomatch h)))))
set_option maxHeartbeats 4000000 in
set_option maxRecDepth 100000 in
/-- the reference: checksum -/
theorem c_mchecksum (l : Launch) (hst : l.stackTraces = false) (D : va_G) (mo : Nat) (th : Int32) (m1 : Nat) (m2 : Nat) (m3 : Nat) (m4 : Nat) (m5 : Nat) (l1 : Nat) (l2 : Nat) (l3 : Nat) (l4 : Nat) (sz : Nat) : Met l yX9_checksum us_c_mchecksum { frames := 3, cells := 1, slots := 4, locals := 56 } (pw D [.ref mo] [] [(mo, .inr (16, [.int 5, .int 5, .int th, .ref m1, .ref m2, .ref m3, .ref m4, .ref m5, .ref l1, .ref l2, .ref l3, .int (-1), .ref l4])), (l3, .inr (5, [.int 1, .ref (D.1 1000), .int 0]))] sz) (va_Ql (fun (r : Int64) (_ : Unit) => r = 7) (qb D (va_A [(mo, .inr (16, [.int 5, .int 5, .int th, .ref m1, .ref m2, .ref m3, .ref m4, .ref m5, .ref l1, .ref l2, .ref l3, .int (-1), .ref l4])), (l3, .inr (5, [.int 1, .ref (D.1 1000), .int 0]))] sz) (fun _ : Unit => []) (fun _ : Unit => ([] : List (ClassId × FieldType)))) (va_A [(mo, .inr (16, [.int 5, .int 5, .int th, .ref m1, .ref m2, .ref m3, .ref m4, .ref m5, .ref l1, .ref l2, .ref l3, .int (-1), .ref l4])), (l3, .inr (5, [.int 1, .ref (D.1 1000), .int 0]))] sz)) 1 4 (va_A [(mo, .inr (16, [.int 5, .int 5, .int th, .ref m1, .ref m2, .ref m3, .ref m4, .ref m5, .ref l1, .ref l2, .ref l3, .int (-1), .ref l4])), (l3, .inr (5, [.int 1, .ref (D.1 1000), .int 0]))] sz) := by
  refine op_M (Qc := fun A => (va_Ql (fun (r : Int64) (_ : Unit) => r = 7) (qb D A (fun _ : Unit => []) (fun _ : Unit => ([] : List (ClassId × FieldType)))) A)) (by decide +kernel) rfl (Nat.le_of_ble_eq_true rfl) ?_
  intro p e s m args below meth c A ls hx hb hr hml hts hown hlocks hmn htab hA hD hS hP hK hE hsz hl
  have hown : s.vm.findClass RX9 = some m.cls := hown
  have hl : lv_has ls 7 [(0, .ref mo)] := hl
  have hw_0 := hts (.fieldLink RX9 16 "ControlWoodModel" "thrown" "I") (List.mem_cons_of_mem _ (List.mem_append_left _ (List.mem_of_getElem? (i := 0) rfl)))
  have hw_1 := hts (.constantLong RX9 361 (7)) (List.mem_cons_of_mem _ (List.mem_append_left _ (List.mem_of_getElem? (i := 1) rfl)))
  have hw_2 := hts (.fieldLink RX9 46 "ControlWoodModel" "runners" "Ljava/util/ArrayList;") (List.mem_cons_of_mem _ (List.mem_append_left _ (List.mem_of_getElem? (i := 2) rfl)))
  have hw_3 := hts (.methodLink RX9 160 yJx4a65c_iterator_32c93) (List.mem_cons_of_mem _ (List.mem_append_left _ (List.mem_of_getElem? (i := 3) rfl)))
  have hw_4 := hts (.instanceMethod yJx4a65c_iterator_32c93) (List.mem_cons_of_mem _ (List.mem_append_left _ (List.mem_of_getElem? (i := 4) rfl)))
  have hw_5 := hts (.selects RJx4a65c yJx4a65c_iterator_32c93 yJx4a65c_iterator_32c93) (List.mem_cons_of_mem _ (List.mem_append_left _ (List.mem_of_getElem? (i := 5) rfl)))
  have hw_6 := hts (.initialized RJx4a65c) (List.mem_cons_of_mem _ (List.mem_append_left _ (List.mem_of_getElem? (i := 6) rfl)))
  have hw_7 := hts (.methodLink RX9 164 ⟨"java/util/Iterator", "hasNext", "()Z"⟩) (List.mem_cons_of_mem _ (List.mem_append_left _ (List.mem_of_getElem? (i := 7) rfl)))
  have hw_8 := hts (.selects RJx35411 ⟨"java/util/Iterator", "hasNext", "()Z"⟩ yJx35411_hasNext_aae02) (List.mem_cons_of_mem _ (List.mem_append_left _ (List.mem_of_getElem? (i := 8) rfl)))
  have hw_9 := hts (.instanceMethod yJx35411_hasNext_aae02) (List.mem_cons_of_mem _ (List.mem_append_left _ (List.mem_of_getElem? (i := 9) rfl)))
  have hw_10 := hts (.initialized RJx35411) (List.mem_cons_of_mem _ (List.mem_append_left _ (List.mem_of_getElem? (i := 10) rfl)))
  have hb_0 : ∀ w ∈ wsX90, w ∈ us_c_mchecksum := fun w h => List.mem_cons_of_mem _ (List.mem_append_right _ (List.mem_append_left _ h))
  have hb_1 : ∀ w ∈ us_c_alIter, w ∈ us_c_mchecksum := fun w h => List.mem_cons_of_mem _ (List.mem_append_right _ (List.mem_append_right _ (List.mem_append_left _ h)))
  have hb_2 : ∀ w ∈ us_c_itHas, w ∈ us_c_mchecksum := fun w h => List.mem_cons_of_mem _ (List.mem_append_right _ (List.mem_append_right _ (List.mem_append_right _ (List.mem_append_left _ h))))
  refine lv_aload_n hx hb dX9_checksum_0 rfl (lv_at hl 0 rfl) ?_
  refine lv_iconst (v := 0) hx hb dX9_checksum_1 (by decide) ?_
  refine va_put (D := D) (ci := 16) (v := .int 0) (ty := .int) (C := RX9) (T := TX9) (N := 13) hx hb hts hb_0 tyX9 tyX9_ok nmX9 hown hK hP hD hS 0 rfl rfl 2 (by decide) hw_0 (fun _ h9 => h9) rfl (by decide +kernel) rfl rfl (Nat.le_of_ble_eq_true rfl) dX9_checksum_2 (fun H locs hP hD hS => ?_)
  have hP : va_P D vwCl [(mo, .inr (16, [.int 5, .int 5, .int 0, .ref m1, .ref m2, .ref m3, .ref m4, .ref m5, .ref l1, .ref l2, .ref l3, .int (-1), .ref l4])), (l3, .inr (5, [.int 1, .ref (D.1 1000), .int 0]))] H := hP
  have hD : va_D A [(mo, .inr (16, [.int 5, .int 5, .int 0, .ref m1, .ref m2, .ref m3, .ref m4, .ref m5, .ref l1, .ref l2, .ref l3, .int (-1), .ref l4])), (l3, .inr (5, [.int 1, .ref (D.1 1000), .int 0]))] := hD
  refine lv_ldc2 hx hb hown hw_1 dX9_checksum_5 ?_
  refine lv_lstore_n (lv' := [(1, .long 7), (0, .ref mo)]) hx hb dX9_checksum_8 rfl hl (by decide) rfl (fun ls hl => ?_)
  refine lv_aload_n hx hb dX9_checksum_9 rfl (lv_at hl 1 rfl) ?_
  refine va_get (D := D) (ci := 16) (v := .ref l3) (C := RX9) (T := TX9) (N := 13) hx hb hts hb_0 hown hK hP 0 rfl rfl 10 (by decide) hw_2 (fun _ h9 => h9) rfl dX9_checksum_10 ?_
  refine mc_q (wr := [(mo, .inr (16, [.int 5, .int 5, .int 0, .ref m1, .ref m2, .ref m3, .ref m4, .ref m5, .ref l1, .ref l2, .ref l3, .int (-1), .ref l4]))]) (va_runV (As := []) (rest := []) ⟨hx, hb, hml, hown, hts⟩ (c_alIter l hst D l3 1 (D.1 1000) 0 H.size) (cwV 0 hts (gi_c (List.mem_cons_of_mem _ (List.mem_append_left _ (List.mem_of_getElem? (i := 3) rfl))) rfl (gi_c (List.mem_cons_of_mem _ (List.mem_append_left _ (List.mem_of_getElem? (i := 4) rfl))) rfl (gi_c (List.mem_cons_of_mem _ (List.mem_append_left _ (List.mem_of_getElem? (i := 5) rfl))) rfl (gi_c (List.mem_cons_of_mem _ (List.mem_append_left _ (List.mem_of_getElem? (i := 6) rfl))) rfl (goodIn_sub hb_1 (List.all_eq_true.mpr gw_c_alIter)))))) rfl rfl rfl (by decide +kernel) ⟨Nat.le_of_ble_eq_true rfl, Nat.le_of_ble_eq_true rfl⟩) (pr_V (As := []) (b := l3) (C := RJx4a65c) hP hD hK hS hA hE [1] [] rfl rfl rfl 1 5 rfl rfl rfl) rfl rfl hl.1 rfl (lv_room (Nat.le_of_ble_eq_true rfl)) dX9_checksum_13 ⟨Nat.le_of_ble_eq_true rfl, Nat.le_of_ble_eq_true rfl⟩) hP hD hK hS hA [1] [0] rfl rfl (by decide) (by decide) (fun r3 u1 H locs w2 hP hD hK hS => ?_)
  have hP : va_P D vwCl [(mo, .inr (16, [.int 5, .int 5, .int 0, .ref m1, .ref m2, .ref m3, .ref m4, .ref m5, .ref l1, .ref l2, .ref l3, .int (-1), .ref l4])), (u1, .inr (4, [.int 0, .int (-1), .int 1, .ref l3])), (l3, .inr (5, [.int 1, .ref (D.1 1000), .int 0]))] H := hP
  have hD : va_D A [(mo, .inr (16, [.int 5, .int 5, .int 0, .ref m1, .ref m2, .ref m3, .ref m4, .ref m5, .ref l1, .ref l2, .ref l3, .int (-1), .ref l4])), (u1, .inr (4, [.int 0, .int (-1), .int 1, .ref l3])), (l3, .inr (5, [.int 1, .ref (D.1 1000), .int 0]))] := hD
  have hK : va_K D vwCl [] s := hK
  obtain rfl := w2
  refine lv_astore_n (lv' := [(3, .ref u1), (1, .long 7), (0, .ref mo)]) hx hb dX9_checksum_16 rfl hl (by decide) rfl (fun ls hl => ?_)
  refine lv_aload_n hx hb dX9_checksum_17 rfl (lv_at hl 0 rfl) ?_
  refine mc5_i (wr := [(mo, .inr (16, [.int 5, .int 5, .int 0, .ref m1, .ref m2, .ref m3, .ref m4, .ref m5, .ref l1, .ref l2, .ref l3, .int (-1), .ref l4]))]) (va_runF (As := []) (rest := []) (hK.1 4 _ rfl).2 ⟨hx, hb, hml, hown, hts⟩ (c_itHas l hst D u1 l3 1 1 (D.1 1000) H.size) (va_cwF 0 hts (gi_c (List.mem_cons_of_mem _ (List.mem_append_left _ (List.mem_of_getElem? (i := 7) rfl))) rfl (gi_c (List.mem_cons_of_mem _ (List.mem_append_left _ (List.mem_of_getElem? (i := 8) rfl))) rfl (gi_c (List.mem_cons_of_mem _ (List.mem_append_left _ (List.mem_of_getElem? (i := 9) rfl))) rfl (gi_c (List.mem_cons_of_mem _ (List.mem_append_left _ (List.mem_of_getElem? (i := 10) rfl))) rfl (goodIn_sub hb_2 (List.all_eq_true.mpr gw_c_itHas)))))) rfl rfl rfl hE.2.2.2.2.2.2.2.2.2.2.2.2.1 (by decide +kernel) ⟨Nat.le_of_ble_eq_true rfl, Nat.le_of_ble_eq_true rfl⟩) (pr_V (As := []) (b := u1) (C := RJx35411) hP hD hK hS hA hE [1, 2] [] rfl rfl rfl 1 4 rfl rfl rfl) rfl rfl hl.1 rfl (lv_room (Nat.le_of_ble_eq_true rfl)) dX9_checksum_18 ⟨Nat.le_of_ble_eq_true rfl, Nat.le_of_ble_eq_true rfl⟩) hP hD hK hS hA [1, 2] [0] rfl rfl (by decide) (by decide) (fun r5 _ H locs w4 hP hD hK hS => ?_)
  have hP : va_P D vwCl [(mo, .inr (16, [.int 5, .int 5, .int 0, .ref m1, .ref m2, .ref m3, .ref m4, .ref m5, .ref l1, .ref l2, .ref l3, .int (-1), .ref l4])), (u1, .inr (4, [.int 0, .int (-1), .int 1, .ref l3])), (l3, .inr (5, [.int 1, .ref (D.1 1000), .int 0]))] H := hP
  have hD : va_D A [(mo, .inr (16, [.int 5, .int 5, .int 0, .ref m1, .ref m2, .ref m3, .ref m4, .ref m5, .ref l1, .ref l2, .ref l3, .int (-1), .ref l4])), (u1, .inr (4, [.int 0, .int (-1), .int 1, .ref l3])), (l3, .inr (5, [.int 1, .ref (D.1 1000), .int 0]))] := hD
  have hK : va_K D vwCl [] s := hK
  obtain rfl : r5 = 0 := w4
  refine lv_if_eq (tgt := 97) hx hb dX9_checksum_23 (by decide) (fun h6 => ?_) (fun h6 => absurd (by decide) h6)
  refine lv_lload_n hx hb dX9_checksum_97 rfl (lv_at hl 1 rfl) ?_
  exact mr_l hx hb hr () (rfl) (hP.sub [] rfl) (hK.sub [] rfl) (hD.sub [] (by decide) rfl) hS (Nat.le_of_ble_eq_true rfl) (Nat.le_of_ble_eq_true rfl) hlocks dX9_checksum_98

def us_c_misFairOf : List Cond := .code yX9_isFairOf cX9_isFairOf 3 (some .boolean) :: (([.fieldLink RX9 52 "ControlWoodModel" "teams" "Ljava/util/ArrayList;", .methodLink RX9 160 yJx4a65c_iterator_32c93, .instanceMethod yJx4a65c_iterator_32c93, .selects RJx4a65c yJx4a65c_iterator_32c93 yJx4a65c_iterator_32c93, .initialized RJx4a65c, .methodLink RX9 164 ⟨"java/util/Iterator", "hasNext", "()Z"⟩, .selects RJx35411 ⟨"java/util/Iterator", "hasNext", "()Z"⟩ yJx35411_hasNext_aae02, .instanceMethod yJx35411_hasNext_aae02, .initialized RJx35411] : List Cond) ++ (wsX90 ++ (us_c_alIter ++ (us_c_itHas ++ ([])))))
theorem gw_c_misFairOf : ∀ w ∈ us_c_misFairOf, goodWord w = true := gw_cons rfl (gw_app (by decide +kernel) (gw_app gwf_X9 (gw_app gw_c_alIter (gw_app gw_c_itHas (fun _ h => nomatch h)))))
set_option maxHeartbeats 4000000 in
set_option maxRecDepth 100000 in
/-- the reference: isFairOf -/
theorem c_misFairOf (l : Launch) (hst : l.stackTraces = false) (D : va_G) (mo : Nat) (th : Int32) (m1 : Nat) (m2 : Nat) (m3 : Nat) (m4 : Nat) (m5 : Nat) (l1 : Nat) (l2 : Nat) (l3 : Nat) (l4 : Nat) (sz : Nat) : Met l yX9_isFairOf us_c_misFairOf { frames := 3, cells := 1, slots := 4, locals := 56 } (pw D [.ref mo] [] [(mo, .inr (16, [.int 5, .int 5, .int th, .ref m1, .ref m2, .ref m3, .ref m4, .ref m5, .ref l1, .ref l2, .ref l3, .int (-1), .ref l4])), (l4, .inr (5, [.int 1, .ref (D.1 1000), .int 0]))] sz) (va_Qi (fun (r : Int32) (_ : Unit) => r = 1) (qb D (va_A [(mo, .inr (16, [.int 5, .int 5, .int th, .ref m1, .ref m2, .ref m3, .ref m4, .ref m5, .ref l1, .ref l2, .ref l3, .int (-1), .ref l4])), (l4, .inr (5, [.int 1, .ref (D.1 1000), .int 0]))] sz) (fun _ : Unit => []) (fun _ : Unit => ([] : List (ClassId × FieldType)))) (va_A [(mo, .inr (16, [.int 5, .int 5, .int th, .ref m1, .ref m2, .ref m3, .ref m4, .ref m5, .ref l1, .ref l2, .ref l3, .int (-1), .ref l4])), (l4, .inr (5, [.int 1, .ref (D.1 1000), .int 0]))] sz)) 1 4 (va_A [(mo, .inr (16, [.int 5, .int 5, .int th, .ref m1, .ref m2, .ref m3, .ref m4, .ref m5, .ref l1, .ref l2, .ref l3, .int (-1), .ref l4])), (l4, .inr (5, [.int 1, .ref (D.1 1000), .int 0]))] sz) := by
  refine op_M (Qc := fun A => (va_Qi (fun (r : Int32) (_ : Unit) => r = 1) (qb D A (fun _ : Unit => []) (fun _ : Unit => ([] : List (ClassId × FieldType)))) A)) (by decide +kernel) rfl (Nat.le_of_ble_eq_true rfl) ?_
  intro p e s m args below meth c A ls hx hb hr hml hts hown hlocks hmn htab hA hD hS hP hK hE hsz hl
  have hown : s.vm.findClass RX9 = some m.cls := hown
  have hl : lv_has ls 3 [(0, .ref mo)] := hl
  have hw_0 := hts (.fieldLink RX9 52 "ControlWoodModel" "teams" "Ljava/util/ArrayList;") (List.mem_cons_of_mem _ (List.mem_append_left _ (List.mem_of_getElem? (i := 0) rfl)))
  have hw_1 := hts (.methodLink RX9 160 yJx4a65c_iterator_32c93) (List.mem_cons_of_mem _ (List.mem_append_left _ (List.mem_of_getElem? (i := 1) rfl)))
  have hw_2 := hts (.instanceMethod yJx4a65c_iterator_32c93) (List.mem_cons_of_mem _ (List.mem_append_left _ (List.mem_of_getElem? (i := 2) rfl)))
  have hw_3 := hts (.selects RJx4a65c yJx4a65c_iterator_32c93 yJx4a65c_iterator_32c93) (List.mem_cons_of_mem _ (List.mem_append_left _ (List.mem_of_getElem? (i := 3) rfl)))
  have hw_4 := hts (.initialized RJx4a65c) (List.mem_cons_of_mem _ (List.mem_append_left _ (List.mem_of_getElem? (i := 4) rfl)))
  have hw_5 := hts (.methodLink RX9 164 ⟨"java/util/Iterator", "hasNext", "()Z"⟩) (List.mem_cons_of_mem _ (List.mem_append_left _ (List.mem_of_getElem? (i := 5) rfl)))
  have hw_6 := hts (.selects RJx35411 ⟨"java/util/Iterator", "hasNext", "()Z"⟩ yJx35411_hasNext_aae02) (List.mem_cons_of_mem _ (List.mem_append_left _ (List.mem_of_getElem? (i := 6) rfl)))
  have hw_7 := hts (.instanceMethod yJx35411_hasNext_aae02) (List.mem_cons_of_mem _ (List.mem_append_left _ (List.mem_of_getElem? (i := 7) rfl)))
  have hw_8 := hts (.initialized RJx35411) (List.mem_cons_of_mem _ (List.mem_append_left _ (List.mem_of_getElem? (i := 8) rfl)))
  have hb_0 : ∀ w ∈ wsX90, w ∈ us_c_misFairOf := fun w h => List.mem_cons_of_mem _ (List.mem_append_right _ (List.mem_append_left _ h))
  have hb_1 : ∀ w ∈ us_c_alIter, w ∈ us_c_misFairOf := fun w h => List.mem_cons_of_mem _ (List.mem_append_right _ (List.mem_append_right _ (List.mem_append_left _ h)))
  have hb_2 : ∀ w ∈ us_c_itHas, w ∈ us_c_misFairOf := fun w h => List.mem_cons_of_mem _ (List.mem_append_right _ (List.mem_append_right _ (List.mem_append_right _ (List.mem_append_left _ h))))
  refine lv_aload_n hx hb dX9_isFairOf_0 rfl (lv_at hl 0 rfl) ?_
  refine va_get (D := D) (ci := 16) (v := .ref l4) (C := RX9) (T := TX9) (N := 13) hx hb hts hb_0 hown hK hP 0 rfl rfl 12 (by decide) hw_0 (fun _ h9 => h9) rfl dX9_isFairOf_1 ?_
  refine mc_q (wr := [(mo, .inr (16, [.int 5, .int 5, .int th, .ref m1, .ref m2, .ref m3, .ref m4, .ref m5, .ref l1, .ref l2, .ref l3, .int (-1), .ref l4]))]) (va_runV (As := []) (rest := []) ⟨hx, hb, hml, hown, hts⟩ (c_alIter l hst D l4 1 (D.1 1000) 0 s.heap.size) (cwV 0 hts (gi_c (List.mem_cons_of_mem _ (List.mem_append_left _ (List.mem_of_getElem? (i := 1) rfl))) rfl (gi_c (List.mem_cons_of_mem _ (List.mem_append_left _ (List.mem_of_getElem? (i := 2) rfl))) rfl (gi_c (List.mem_cons_of_mem _ (List.mem_append_left _ (List.mem_of_getElem? (i := 3) rfl))) rfl (gi_c (List.mem_cons_of_mem _ (List.mem_append_left _ (List.mem_of_getElem? (i := 4) rfl))) rfl (goodIn_sub hb_1 (List.all_eq_true.mpr gw_c_alIter)))))) rfl rfl rfl (by decide +kernel) ⟨Nat.le_of_ble_eq_true rfl, Nat.le_of_ble_eq_true rfl⟩) (pr_V (As := []) (b := l4) (C := RJx4a65c) hP hD hK hS hA hE [1] [] rfl rfl rfl 1 5 rfl rfl rfl) rfl rfl hl.1 rfl (lv_room (Nat.le_of_ble_eq_true rfl)) dX9_isFairOf_4 ⟨Nat.le_of_ble_eq_true rfl, Nat.le_of_ble_eq_true rfl⟩) hP hD hK hS hA [1] [0] rfl rfl (by decide) (by decide) (fun r3 u1 H locs w2 hP hD hK hS => ?_)
  have hP : va_P D vwCl [(mo, .inr (16, [.int 5, .int 5, .int th, .ref m1, .ref m2, .ref m3, .ref m4, .ref m5, .ref l1, .ref l2, .ref l3, .int (-1), .ref l4])), (u1, .inr (4, [.int 0, .int (-1), .int 1, .ref l4])), (l4, .inr (5, [.int 1, .ref (D.1 1000), .int 0]))] H := hP
  have hD : va_D A [(mo, .inr (16, [.int 5, .int 5, .int th, .ref m1, .ref m2, .ref m3, .ref m4, .ref m5, .ref l1, .ref l2, .ref l3, .int (-1), .ref l4])), (u1, .inr (4, [.int 0, .int (-1), .int 1, .ref l4])), (l4, .inr (5, [.int 1, .ref (D.1 1000), .int 0]))] := hD
  have hK : va_K D vwCl [] s := hK
  obtain rfl := w2
  refine lv_astore_n (lv' := [(1, .ref u1), (0, .ref mo)]) hx hb dX9_isFairOf_7 rfl hl (by decide) rfl (fun ls hl => ?_)
  refine lv_aload_n hx hb dX9_isFairOf_8 rfl (lv_at hl 0 rfl) ?_
  refine mc5_i (wr := [(mo, .inr (16, [.int 5, .int 5, .int th, .ref m1, .ref m2, .ref m3, .ref m4, .ref m5, .ref l1, .ref l2, .ref l3, .int (-1), .ref l4]))]) (va_runF (As := []) (rest := []) (hK.1 4 _ rfl).2 ⟨hx, hb, hml, hown, hts⟩ (c_itHas l hst D u1 l4 1 1 (D.1 1000) H.size) (va_cwF 0 hts (gi_c (List.mem_cons_of_mem _ (List.mem_append_left _ (List.mem_of_getElem? (i := 5) rfl))) rfl (gi_c (List.mem_cons_of_mem _ (List.mem_append_left _ (List.mem_of_getElem? (i := 6) rfl))) rfl (gi_c (List.mem_cons_of_mem _ (List.mem_append_left _ (List.mem_of_getElem? (i := 7) rfl))) rfl (gi_c (List.mem_cons_of_mem _ (List.mem_append_left _ (List.mem_of_getElem? (i := 8) rfl))) rfl (goodIn_sub hb_2 (List.all_eq_true.mpr gw_c_itHas)))))) rfl rfl rfl hE.2.2.2.2.2.2.2.2.2.2.2.2.1 (by decide +kernel) ⟨Nat.le_of_ble_eq_true rfl, Nat.le_of_ble_eq_true rfl⟩) (pr_V (As := []) (b := u1) (C := RJx35411) hP hD hK hS hA hE [1, 2] [] rfl rfl rfl 1 4 rfl rfl rfl) rfl rfl hl.1 rfl (lv_room (Nat.le_of_ble_eq_true rfl)) dX9_isFairOf_9 ⟨Nat.le_of_ble_eq_true rfl, Nat.le_of_ble_eq_true rfl⟩) hP hD hK hS hA [1, 2] [0] rfl rfl (by decide) (by decide) (fun r5 _ H locs w4 hP hD hK hS => ?_)
  have hP : va_P D vwCl [(mo, .inr (16, [.int 5, .int 5, .int th, .ref m1, .ref m2, .ref m3, .ref m4, .ref m5, .ref l1, .ref l2, .ref l3, .int (-1), .ref l4])), (u1, .inr (4, [.int 0, .int (-1), .int 1, .ref l4])), (l4, .inr (5, [.int 1, .ref (D.1 1000), .int 0]))] H := hP
  have hD : va_D A [(mo, .inr (16, [.int 5, .int 5, .int th, .ref m1, .ref m2, .ref m3, .ref m4, .ref m5, .ref l1, .ref l2, .ref l3, .int (-1), .ref l4])), (u1, .inr (4, [.int 0, .int (-1), .int 1, .ref l4])), (l4, .inr (5, [.int 1, .ref (D.1 1000), .int 0]))] := hD
  have hK : va_K D vwCl [] s := hK
  obtain rfl : r5 = 0 := w4
  refine lv_if_eq (tgt := 75) hx hb dX9_isFairOf_14 (by decide) (fun h6 => ?_) (fun h6 => absurd (by decide) h6)
  refine lv_iconst (v := 1) hx hb dX9_isFairOf_75 (by decide) ?_
  exact mr_z (rfl) hx hb hr () (rfl) (hP.sub [] rfl) (hK.sub [] rfl) (hD.sub [] (by decide) rfl) hS (Nat.le_of_ble_eq_true rfl) (Nat.le_of_ble_eq_true rfl) hlocks dX9_isFairOf_76

def us_c_misFair : List Cond := .code yX9_isFair cX9_isFair 1 (some .boolean) :: (([.fieldLink RX9 16 "ControlWoodModel" "thrown" "I", .methodLink RX9 331 yX9_isFairOf, .instanceMethod yX9_isFairOf, .selects RX9 yX9_isFairOf yX9_isFairOf, .initialized RX9] : List Cond) ++ (wsX90 ++ (us_c_misFairOf ++ ([]))))
theorem gw_c_misFair : ∀ w ∈ us_c_misFair, goodWord w = true := gw_cons rfl (gw_app (by decide +kernel) (gw_app gwf_X9 (gw_app gw_c_misFairOf (fun _ h => nomatch h))))
set_option maxHeartbeats 4000000 in
set_option maxRecDepth 100000 in
/-- the reference: isFair -/
theorem c_misFair (l : Launch) (hst : l.stackTraces = false) (D : va_G) (mo : Nat) (th : Int32) (m1 : Nat) (m2 : Nat) (m3 : Nat) (m4 : Nat) (m5 : Nat) (l1 : Nat) (l2 : Nat) (l3 : Nat) (l4 : Nat) (sz : Nat) : Met l yX9_isFair us_c_misFair { frames := 4, cells := 1, slots := 4, locals := 78 } (pw D [.ref mo] [] [(mo, .inr (16, [.int 5, .int 5, .int th, .ref m1, .ref m2, .ref m3, .ref m4, .ref m5, .ref l1, .ref l2, .ref l3, .int (-1), .ref l4])), (l4, .inr (5, [.int 1, .ref (D.1 1000), .int 0]))] sz) (va_Qi (fun (r : Int32) (_ : Unit) => r = 1) (qb D (va_A [(mo, .inr (16, [.int 5, .int 5, .int th, .ref m1, .ref m2, .ref m3, .ref m4, .ref m5, .ref l1, .ref l2, .ref l3, .int (-1), .ref l4])), (l4, .inr (5, [.int 1, .ref (D.1 1000), .int 0]))] sz) (fun _ : Unit => []) (fun _ : Unit => ([] : List (ClassId × FieldType)))) (va_A [(mo, .inr (16, [.int 5, .int 5, .int th, .ref m1, .ref m2, .ref m3, .ref m4, .ref m5, .ref l1, .ref l2, .ref l3, .int (-1), .ref l4])), (l4, .inr (5, [.int 1, .ref (D.1 1000), .int 0]))] sz)) 1 4 (va_A [(mo, .inr (16, [.int 5, .int 5, .int th, .ref m1, .ref m2, .ref m3, .ref m4, .ref m5, .ref l1, .ref l2, .ref l3, .int (-1), .ref l4])), (l4, .inr (5, [.int 1, .ref (D.1 1000), .int 0]))] sz) := by
  refine op_M (Qc := fun A => (va_Qi (fun (r : Int32) (_ : Unit) => r = 1) (qb D A (fun _ : Unit => []) (fun _ : Unit => ([] : List (ClassId × FieldType)))) A)) (by decide +kernel) rfl (Nat.le_of_ble_eq_true rfl) ?_
  intro p e s m args below meth c A ls hx hb hr hml hts hown hlocks hmn htab hA hD hS hP hK hE hsz hl
  have hown : s.vm.findClass RX9 = some m.cls := hown
  have hl : lv_has ls 1 [(0, .ref mo)] := hl
  have hw_0 := hts (.fieldLink RX9 16 "ControlWoodModel" "thrown" "I") (List.mem_cons_of_mem _ (List.mem_append_left _ (List.mem_of_getElem? (i := 0) rfl)))
  have hw_1 := hts (.methodLink RX9 331 yX9_isFairOf) (List.mem_cons_of_mem _ (List.mem_append_left _ (List.mem_of_getElem? (i := 1) rfl)))
  have hw_2 := hts (.instanceMethod yX9_isFairOf) (List.mem_cons_of_mem _ (List.mem_append_left _ (List.mem_of_getElem? (i := 2) rfl)))
  have hw_3 := hts (.selects RX9 yX9_isFairOf yX9_isFairOf) (List.mem_cons_of_mem _ (List.mem_append_left _ (List.mem_of_getElem? (i := 3) rfl)))
  have hw_4 := hts (.initialized RX9) (List.mem_cons_of_mem _ (List.mem_append_left _ (List.mem_of_getElem? (i := 4) rfl)))
  have hb_0 : ∀ w ∈ wsX90, w ∈ us_c_misFair := fun w h => List.mem_cons_of_mem _ (List.mem_append_right _ (List.mem_append_left _ h))
  have hb_1 : ∀ w ∈ us_c_misFairOf, w ∈ us_c_misFair := fun w h => List.mem_cons_of_mem _ (List.mem_append_right _ (List.mem_append_right _ (List.mem_append_left _ h)))
  refine lv_aload_n hx hb dX9_isFair_0 rfl (lv_at hl 0 rfl) ?_
  refine lv_iconst (v := 0) hx hb dX9_isFair_1 (by decide) ?_
  refine va_put (D := D) (ci := 16) (v := .int 0) (ty := .int) (C := RX9) (T := TX9) (N := 13) hx hb hts hb_0 tyX9 tyX9_ok nmX9 hown hK hP hD hS 0 rfl rfl 2 (by decide) hw_0 (fun _ h9 => h9) rfl (by decide +kernel) rfl rfl (Nat.le_of_ble_eq_true rfl) dX9_isFair_2 (fun H locs hP hD hS => ?_)
  have hP : va_P D vwCl [(mo, .inr (16, [.int 5, .int 5, .int 0, .ref m1, .ref m2, .ref m3, .ref m4, .ref m5, .ref l1, .ref l2, .ref l3, .int (-1), .ref l4])), (l4, .inr (5, [.int 1, .ref (D.1 1000), .int 0]))] H := hP
  have hD : va_D A [(mo, .inr (16, [.int 5, .int 5, .int 0, .ref m1, .ref m2, .ref m3, .ref m4, .ref m5, .ref l1, .ref l2, .ref l3, .int (-1), .ref l4])), (l4, .inr (5, [.int 1, .ref (D.1 1000), .int 0]))] := hD
  refine lv_aload_n hx hb dX9_isFair_5 rfl (lv_at hl 0 rfl) ?_
  refine mc_i (wr := []) (va_runV (As := []) (rest := []) ⟨hx, hb, hml, hown, hts⟩ (c_misFairOf l hst D mo 0 m1 m2 m3 m4 m5 l1 l2 l3 l4 H.size) (cwV 0 hts (gi_c (List.mem_cons_of_mem _ (List.mem_append_left _ (List.mem_of_getElem? (i := 1) rfl))) rfl (gi_c (List.mem_cons_of_mem _ (List.mem_append_left _ (List.mem_of_getElem? (i := 2) rfl))) rfl (gi_c (List.mem_cons_of_mem _ (List.mem_append_left _ (List.mem_of_getElem? (i := 3) rfl))) rfl (gi_c (List.mem_cons_of_mem _ (List.mem_append_left _ (List.mem_of_getElem? (i := 4) rfl))) rfl (goodIn_sub hb_1 (List.all_eq_true.mpr gw_c_misFairOf)))))) rfl rfl rfl (by decide +kernel) ⟨Nat.le_of_ble_eq_true rfl, Nat.le_of_ble_eq_true rfl⟩) (pr_V (As := []) (b := mo) (C := RX9) hP hD hK hS hA hE [0, 1] [] rfl rfl rfl 0 16 rfl rfl rfl) rfl rfl hl.1 rfl (lv_room (Nat.le_of_ble_eq_true rfl)) dX9_isFair_6 ⟨Nat.le_of_ble_eq_true rfl, Nat.le_of_ble_eq_true rfl⟩) hP hD hK hS hA [0, 1] [] rfl rfl (by decide) (by decide) (fun r2 _ H locs w1 hP hD hK hS => ?_)
  have hP : va_P D vwCl [] H := hP
  have hD : va_D A [] := hD
  have hK : va_K D vwCl [] s := hK
  obtain rfl := w1
  exact mr_z (rfl) hx hb hr () (rfl) (hP.sub [] rfl) (hK.sub [] rfl) (hD.sub [] (by decide) rfl) hS (Nat.le_of_ble_eq_true rfl) (Nat.le_of_ble_eq_true rfl) hlocks dX9_isFair_9

def us_c_mprint : List Cond := .code yX9_print cX9_print 3 (some .int) :: (([.fieldLink RX9 19 "ControlWoodModel" "growth" "[I", .methodLink RX9 93 ⟨"[I", "clone", "()Ljava/lang/Object;"⟩, .sameMethod "[I" "java/lang/Object" "clone" "()Ljava/lang/Object;", .native ⟨"java/lang/Object", "clone", "()Ljava/lang/Object;"⟩, .instanceMethod ⟨"java/lang/Object", "clone", "()Ljava/lang/Object;"⟩, .selects "[I" ⟨"[I", "clone", "()Ljava/lang/Object;"⟩ ⟨"java/lang/Object", "clone", "()Ljava/lang/Object;"⟩, .classLink RX9 94 "[I", .fieldLink RX9 26 "ControlWoodModel" "shown" "[I", .fieldLink RX9 29 "ControlWoodModel" "kind" "[C", .methodLink RX9 98 ⟨"[C", "clone", "()Ljava/lang/Object;"⟩, .sameMethod "[C" "java/lang/Object" "clone" "()Ljava/lang/Object;", .selects "[C" ⟨"[C", "clone", "()Ljava/lang/Object;"⟩ ⟨"java/lang/Object", "clone", "()Ljava/lang/Object;"⟩, .classLink RX9 99 "[C", .fieldLink RX9 33 "ControlWoodModel" "shownKind" "[C", .methodLink RX9 80 yX9_tells, .instanceMethod yX9_tells, .selects RX9 yX9_tells yX9_tells, .initialized RX9] : List Cond) ++ (wsX90 ++ (us_c_tells ++ ([]))))
theorem gw_c_mprint : ∀ w ∈ us_c_mprint, goodWord w = true := gw_cons rfl (gw_app (by decide +kernel) (gw_app gwf_X9 (gw_app gw_c_tells (fun _ h => nomatch h))))
set_option maxHeartbeats 4000000 in
set_option maxRecDepth 100000 in
/-- the reference: print -/
theorem c_mprint (l : Launch) (hst : l.stackTraces = false) (D : va_G) (mo : Nat) (th : Int32) (m1 : Nat) (m2 : Nat) (m3 : Nat) (m4 : Nat) (m5 : Nat) (l1 : Nat) (l2 : Nat) (l3 : Nat) (l4 : Nat) (cm1 : ClassId) (cm2 : ClassId) (cm3 : ClassId) (cm4 : ClassId) (cm5 : ClassId) (sz : Nat) : Met l yX9_print us_c_mprint { frames := 1, cells := 2, slots := 50, locals := 21 } (pw D [.ref mo] [(cm1, .int), (cm2, .int), (cm3, .int), (cm4, .char), (cm5, .char)] [(mo, .inr (16, [.int 5, .int 5, .int th, .ref m1, .ref m2, .ref m3, .ref m4, .ref m5, .ref l1, .ref l2, .ref l3, .int (-1), .ref l4])), (m1, .inl (cm1, 25, .inl (fun _ => 0))), (m2, .inl (cm2, 25, .inl (fun _ => 0))), (m3, .inl (cm3, 25, .inl (fun _ => 0))), (m4, .inl (cm4, 25, .inl fK5)), (m5, .inl (cm5, 25, .inl fK5))] sz) (va_Qi (fun (r : Int32) (_ : Unit) => r = 0) (qb D (va_A [(mo, .inr (16, [.int 5, .int 5, .int th, .ref m1, .ref m2, .ref m3, .ref m4, .ref m5, .ref l1, .ref l2, .ref l3, .int (-1), .ref l4])), (m1, .inl (cm1, 25, .inl (fun _ => 0))), (m2, .inl (cm2, 25, .inl (fun _ => 0))), (m3, .inl (cm3, 25, .inl (fun _ => 0))), (m4, .inl (cm4, 25, .inl fK5)), (m5, .inl (cm5, 25, .inl fK5))] sz) (fun _ : Unit => []) (fun _ : Unit => ([] : List (ClassId × FieldType)))) (va_A [(mo, .inr (16, [.int 5, .int 5, .int th, .ref m1, .ref m2, .ref m3, .ref m4, .ref m5, .ref l1, .ref l2, .ref l3, .int (-1), .ref l4])), (m1, .inl (cm1, 25, .inl (fun _ => 0))), (m2, .inl (cm2, 25, .inl (fun _ => 0))), (m3, .inl (cm3, 25, .inl (fun _ => 0))), (m4, .inl (cm4, 25, .inl fK5)), (m5, .inl (cm5, 25, .inl fK5))] sz)) 2 50 (va_A [(mo, .inr (16, [.int 5, .int 5, .int th, .ref m1, .ref m2, .ref m3, .ref m4, .ref m5, .ref l1, .ref l2, .ref l3, .int (-1), .ref l4])), (m1, .inl (cm1, 25, .inl (fun _ => 0))), (m2, .inl (cm2, 25, .inl (fun _ => 0))), (m3, .inl (cm3, 25, .inl (fun _ => 0))), (m4, .inl (cm4, 25, .inl fK5)), (m5, .inl (cm5, 25, .inl fK5))] sz) := by
  refine op_M (Qc := fun A => (va_Qi (fun (r : Int32) (_ : Unit) => r = 0) (qb D A (fun _ : Unit => []) (fun _ : Unit => ([] : List (ClassId × FieldType)))) A)) (by decide +kernel) rfl (Nat.le_of_ble_eq_true rfl) ?_
  intro p e s m args below meth c A ls hx hb hr hml hts hown hlocks hmn htab hA hD hS hP hK hE hsz hl
  have hown : s.vm.findClass RX9 = some m.cls := hown
  have hl : lv_has ls 3 [(0, .ref mo)] := hl
  have hw_0 := hts (.fieldLink RX9 19 "ControlWoodModel" "growth" "[I") (List.mem_cons_of_mem _ (List.mem_append_left _ (List.mem_of_getElem? (i := 0) rfl)))
  have hw_1 := hts (.methodLink RX9 93 ⟨"[I", "clone", "()Ljava/lang/Object;"⟩) (List.mem_cons_of_mem _ (List.mem_append_left _ (List.mem_of_getElem? (i := 1) rfl)))
  have hw_2 := hts (.sameMethod "[I" "java/lang/Object" "clone" "()Ljava/lang/Object;") (List.mem_cons_of_mem _ (List.mem_append_left _ (List.mem_of_getElem? (i := 2) rfl)))
  have hw_3 := hts (.native ⟨"java/lang/Object", "clone", "()Ljava/lang/Object;"⟩) (List.mem_cons_of_mem _ (List.mem_append_left _ (List.mem_of_getElem? (i := 3) rfl)))
  have hw_4 := hts (.instanceMethod ⟨"java/lang/Object", "clone", "()Ljava/lang/Object;"⟩) (List.mem_cons_of_mem _ (List.mem_append_left _ (List.mem_of_getElem? (i := 4) rfl)))
  have hw_5 := hts (.selects "[I" ⟨"[I", "clone", "()Ljava/lang/Object;"⟩ ⟨"java/lang/Object", "clone", "()Ljava/lang/Object;"⟩) (List.mem_cons_of_mem _ (List.mem_append_left _ (List.mem_of_getElem? (i := 5) rfl)))
  have hw_6 := hts (.classLink RX9 94 "[I") (List.mem_cons_of_mem _ (List.mem_append_left _ (List.mem_of_getElem? (i := 6) rfl)))
  have hw_7 := hts (.fieldLink RX9 26 "ControlWoodModel" "shown" "[I") (List.mem_cons_of_mem _ (List.mem_append_left _ (List.mem_of_getElem? (i := 7) rfl)))
  have hw_8 := hts (.fieldLink RX9 29 "ControlWoodModel" "kind" "[C") (List.mem_cons_of_mem _ (List.mem_append_left _ (List.mem_of_getElem? (i := 8) rfl)))
  have hw_9 := hts (.methodLink RX9 98 ⟨"[C", "clone", "()Ljava/lang/Object;"⟩) (List.mem_cons_of_mem _ (List.mem_append_left _ (List.mem_of_getElem? (i := 9) rfl)))
  have hw_10 := hts (.sameMethod "[C" "java/lang/Object" "clone" "()Ljava/lang/Object;") (List.mem_cons_of_mem _ (List.mem_append_left _ (List.mem_of_getElem? (i := 10) rfl)))
  have hw_11 := hts (.selects "[C" ⟨"[C", "clone", "()Ljava/lang/Object;"⟩ ⟨"java/lang/Object", "clone", "()Ljava/lang/Object;"⟩) (List.mem_cons_of_mem _ (List.mem_append_left _ (List.mem_of_getElem? (i := 11) rfl)))
  have hw_12 := hts (.classLink RX9 99 "[C") (List.mem_cons_of_mem _ (List.mem_append_left _ (List.mem_of_getElem? (i := 12) rfl)))
  have hw_13 := hts (.fieldLink RX9 33 "ControlWoodModel" "shownKind" "[C") (List.mem_cons_of_mem _ (List.mem_append_left _ (List.mem_of_getElem? (i := 13) rfl)))
  have hw_14 := hts (.methodLink RX9 80 yX9_tells) (List.mem_cons_of_mem _ (List.mem_append_left _ (List.mem_of_getElem? (i := 14) rfl)))
  have hw_15 := hts (.instanceMethod yX9_tells) (List.mem_cons_of_mem _ (List.mem_append_left _ (List.mem_of_getElem? (i := 15) rfl)))
  have hw_16 := hts (.selects RX9 yX9_tells yX9_tells) (List.mem_cons_of_mem _ (List.mem_append_left _ (List.mem_of_getElem? (i := 16) rfl)))
  have hw_17 := hts (.initialized RX9) (List.mem_cons_of_mem _ (List.mem_append_left _ (List.mem_of_getElem? (i := 17) rfl)))
  have hb_0 : ∀ w ∈ wsX90, w ∈ us_c_mprint := fun w h => List.mem_cons_of_mem _ (List.mem_append_right _ (List.mem_append_left _ h))
  have hb_1 : ∀ w ∈ us_c_tells, w ∈ us_c_mprint := fun w h => List.mem_cons_of_mem _ (List.mem_append_right _ (List.mem_append_right _ (List.mem_append_left _ h)))
  refine lv_iconst (v := 0) hx hb dX9_print_0 (by decide) ?_
  refine lv_istore_n (lv' := [(1, .int 0), (0, .ref mo)]) hx hb dX9_print_1 rfl hl (by decide) rfl (fun ls hl => ?_)
  refine lv_iconst (v := 0) hx hb dX9_print_2 (by decide) ?_
  refine lv_istore_n (lv' := [(2, .int 0), (1, .int 0), (0, .ref mo)]) hx hb dX9_print_3 rfl hl (by decide) rfl (fun ls hl => ?_)
  have lp : ∀ (fu : Nat) (i : Nat) (H : Heap) (locs : List Loc) (ls : Array Slot), (i + fu = 25) → lv_has ls 3 [(2, .int (nI i)), (1, .int 0), (0, .ref mo)] → va_P D vwCl [(mo, .inr (16, [.int 5, .int 5, .int th, .ref m1, .ref m2, .ref m3, .ref m4, .ref m5, .ref l1, .ref l2, .ref l3, .int (-1), .ref l4])), (m1, .inl (cm1, 25, .inl (fun _ => 0))), (m2, .inl (cm2, 25, .inl (fun _ => 0))), (m3, .inl (cm3, 25, .inl (fun _ => 0))), (m4, .inl (cm4, 25, .inl fK5)), (m5, .inl (cm5, 25, .inl fK5))] H → va_D A [(mo, .inr (16, [.int 5, .int 5, .int th, .ref m1, .ref m2, .ref m3, .ref m4, .ref m5, .ref l1, .ref l2, .ref l3, .int (-1), .ref l4])), (m1, .inl (cm1, 25, .inl (fun _ => 0))), (m2, .inl (cm2, 25, .inl (fun _ => 0))), (m3, .inl (cm3, 25, .inl (fun _ => 0))), (m4, .inl (cm4, 25, .inl fK5)), (m5, .inl (cm5, 25, .inl fK5))] → va_S A s.heap H locs → W p l e { frames := 1, cells := 2, slots := 50, locals := 21 } s m args below meth c H locs 0 0 (MQ below (va_Qi (fun (r : Int32) (_ : Unit) => r = 0) (qb D A (fun _ : Unit => []) (fun _ : Unit => ([] : List (ClassId × FieldType)))) A) args s 2 50 A) (F0 m 4 ls []) := by
    intro fu
    induction fu with
    | zero =>
      intro i H locs ls hi hl hP hD hS
      have hi : i + 0 = 25 := hi
      refine lv_iload_n hx hb dX9_print_4 rfl (lv_at hl 0 rfl) ?_
      refine lv_aload_n hx hb dX9_print_5 rfl (lv_at hl 2 rfl) ?_
      refine va_get (D := D) (ci := 16) (v := .ref m1) (C := RX9) (T := TX9) (N := 13) hx hb hts hb_0 hown hK hP 0 rfl rfl 3 (by decide) hw_0 (fun _ h9 => h9) rfl dX9_print_6 ?_
      refine va_alen hx hb hK hP 1 0 rfl rfl (v := 25) rfl dX9_print_9 ?_
      refine lv_icmp_ge (tgt := 57) hx hb dX9_print_10 (by decide) (fun h1 => ?_) (fun h1 => absurd (by exact (nI_leI (a := 25) (b := i) (by omega) (by omega)).mpr (by omega)) h1)
      refine lv_aload_n hx hb dX9_print_57 rfl (lv_at hl 2 rfl) ?_
      refine lv_aload_n hx hb dX9_print_58 rfl (lv_at hl 2 rfl) ?_
      refine va_get (D := D) (ci := 16) (v := .ref m1) (C := RX9) (T := TX9) (N := 13) hx hb hts hb_0 hown hK hP 0 rfl rfl 3 (by decide) hw_0 (fun _ h9 => h9) rfl dX9_print_59 ?_
      refine va_clone (ad := "[I") hx hb (by rw [hml]; exact hl.1.symm) hown hw_1 hw_2 hw_3 hw_4 hw_5 (hE.2.2.2.2.2.1.1 _ (List.mem_of_getElem? (i := 14) rfl)) hK hP hD hS hA 1 0 rfl rfl ((hK.2 0 _ rfl).2) (fun i v9 h9 => fits_i h9) (Nat.le_of_ble_eq_true rfl) (Nat.le_of_ble_eq_true rfl) (Nat.le_of_ble_eq_true rfl) (Nat.le_of_ble_eq_true rfl) dX9_print_62 (fun q2 H hK hP hD hS => ?_)
      have hK : va_K D vwCl [(cm1, .int), (cm2, .int), (cm3, .int), (cm4, .char), (cm5, .char), (cm1, .int)] s := hK
      have hP : va_P D vwCl [(mo, .inr (16, [.int 5, .int 5, .int th, .ref m1, .ref m2, .ref m3, .ref m4, .ref m5, .ref l1, .ref l2, .ref l3, .int (-1), .ref l4])), (m1, .inl (cm1, 25, .inl (fun _ => 0))), (m2, .inl (cm2, 25, .inl (fun _ => 0))), (m3, .inl (cm3, 25, .inl (fun _ => 0))), (m4, .inl (cm4, 25, .inl fK5)), (m5, .inl (cm5, 25, .inl fK5)), (q2, .inl (cm1, 25, .inl (fun _ => 0)))] H := hP
      have hD : va_D A [(mo, .inr (16, [.int 5, .int 5, .int th, .ref m1, .ref m2, .ref m3, .ref m4, .ref m5, .ref l1, .ref l2, .ref l3, .int (-1), .ref l4])), (m1, .inl (cm1, 25, .inl (fun _ => 0))), (m2, .inl (cm2, 25, .inl (fun _ => 0))), (m3, .inl (cm3, 25, .inl (fun _ => 0))), (m4, .inl (cm4, 25, .inl fK5)), (m5, .inl (cm5, 25, .inl fK5)), (q2, .inl (cm1, 25, .inl (fun _ => 0)))] := hD
      refine W.widen (k := 1) (n := 25) (Nat.le_of_ble_eq_true rfl) (Nat.le_of_ble_eq_true rfl) ?_
      refine va_castA hx hb hown hw_6 hP 6 rfl ((hK.2 0 _ rfl).2) dX9_print_65 ?_
      refine va_put (D := D) (ci := 16) (v := .ref q2) (ty := (.array .int)) (C := RX9) (T := TX9) (N := 13) hx hb hts hb_0 tyX9 tyX9_ok nmX9 hown hK hP hD hS 0 rfl rfl 5 (by decide) hw_7 (fun _ h9 => h9) rfl (by decide +kernel) rfl rfl (Nat.le_of_ble_eq_true rfl) dX9_print_68 (fun H locs hP hD hS => ?_)
      have hP : va_P D vwCl [(mo, .inr (16, [.int 5, .int 5, .int th, .ref m1, .ref m2, .ref q2, .ref m4, .ref m5, .ref l1, .ref l2, .ref l3, .int (-1), .ref l4])), (m1, .inl (cm1, 25, .inl (fun _ => 0))), (m2, .inl (cm2, 25, .inl (fun _ => 0))), (m3, .inl (cm3, 25, .inl (fun _ => 0))), (m4, .inl (cm4, 25, .inl fK5)), (m5, .inl (cm5, 25, .inl fK5)), (q2, .inl (cm1, 25, .inl (fun _ => 0)))] H := hP
      have hD : va_D A [(mo, .inr (16, [.int 5, .int 5, .int th, .ref m1, .ref m2, .ref q2, .ref m4, .ref m5, .ref l1, .ref l2, .ref l3, .int (-1), .ref l4])), (m1, .inl (cm1, 25, .inl (fun _ => 0))), (m2, .inl (cm2, 25, .inl (fun _ => 0))), (m3, .inl (cm3, 25, .inl (fun _ => 0))), (m4, .inl (cm4, 25, .inl fK5)), (m5, .inl (cm5, 25, .inl fK5)), (q2, .inl (cm1, 25, .inl (fun _ => 0)))] := hD
      refine lv_aload_n hx hb dX9_print_71 rfl (lv_at hl 2 rfl) ?_
      refine lv_aload_n hx hb dX9_print_72 rfl (lv_at hl 2 rfl) ?_
      refine va_get (D := D) (ci := 16) (v := .ref m4) (C := RX9) (T := TX9) (N := 13) hx hb hts hb_0 hown hK hP 0 rfl rfl 6 (by decide) hw_8 (fun _ h9 => h9) rfl dX9_print_73 ?_
      refine va_clone (ad := "[C") hx hb (by rw [hml]; exact hl.1.symm) hown hw_9 hw_10 hw_3 hw_4 hw_11 (hE.2.2.2.2.2.1.1 _ (List.mem_of_getElem? (i := 15) rfl)) hK hP hD hS hA 4 3 rfl rfl ((hK.2 3 _ rfl).2) (fun i v9 h9 => fits_c h9) (Nat.le_of_ble_eq_true rfl) (Nat.le_of_ble_eq_true rfl) (Nat.le_of_ble_eq_true rfl) (Nat.le_of_ble_eq_true rfl) dX9_print_76 (fun q3 H hK hP hD hS => ?_)
      have hK : va_K D vwCl [(cm1, .int), (cm2, .int), (cm3, .int), (cm4, .char), (cm5, .char), (cm1, .int), (cm4, .char)] s := hK
      have hP : va_P D vwCl [(mo, .inr (16, [.int 5, .int 5, .int th, .ref m1, .ref m2, .ref q2, .ref m4, .ref m5, .ref l1, .ref l2, .ref l3, .int (-1), .ref l4])), (m1, .inl (cm1, 25, .inl (fun _ => 0))), (m2, .inl (cm2, 25, .inl (fun _ => 0))), (m3, .inl (cm3, 25, .inl (fun _ => 0))), (m4, .inl (cm4, 25, .inl fK5)), (m5, .inl (cm5, 25, .inl fK5)), (q2, .inl (cm1, 25, .inl (fun _ => 0))), (q3, .inl (cm4, 25, .inl fK5))] H := hP
      have hD : va_D A [(mo, .inr (16, [.int 5, .int 5, .int th, .ref m1, .ref m2, .ref q2, .ref m4, .ref m5, .ref l1, .ref l2, .ref l3, .int (-1), .ref l4])), (m1, .inl (cm1, 25, .inl (fun _ => 0))), (m2, .inl (cm2, 25, .inl (fun _ => 0))), (m3, .inl (cm3, 25, .inl (fun _ => 0))), (m4, .inl (cm4, 25, .inl fK5)), (m5, .inl (cm5, 25, .inl fK5)), (q2, .inl (cm1, 25, .inl (fun _ => 0))), (q3, .inl (cm4, 25, .inl fK5))] := hD
      refine W.widen (k := 2) (n := 50) (Nat.le_of_ble_eq_true rfl) (Nat.le_of_ble_eq_true rfl) ?_
      refine va_castA hx hb hown hw_12 hP 7 rfl ((hK.2 3 _ rfl).2) dX9_print_79 ?_
      refine va_put (D := D) (ci := 16) (v := .ref q3) (ty := (.array .char)) (C := RX9) (T := TX9) (N := 13) hx hb hts hb_0 tyX9 tyX9_ok nmX9 hown hK hP hD hS 0 rfl rfl 7 (by decide) hw_13 (fun _ h9 => h9) rfl (by decide +kernel) rfl rfl (Nat.le_of_ble_eq_true rfl) dX9_print_82 (fun H locs hP hD hS => ?_)
      have hP : va_P D vwCl [(mo, .inr (16, [.int 5, .int 5, .int th, .ref m1, .ref m2, .ref q2, .ref m4, .ref q3, .ref l1, .ref l2, .ref l3, .int (-1), .ref l4])), (m1, .inl (cm1, 25, .inl (fun _ => 0))), (m2, .inl (cm2, 25, .inl (fun _ => 0))), (m3, .inl (cm3, 25, .inl (fun _ => 0))), (m4, .inl (cm4, 25, .inl fK5)), (m5, .inl (cm5, 25, .inl fK5)), (q2, .inl (cm1, 25, .inl (fun _ => 0))), (q3, .inl (cm4, 25, .inl fK5))] H := hP
      have hD : va_D A [(mo, .inr (16, [.int 5, .int 5, .int th, .ref m1, .ref m2, .ref q2, .ref m4, .ref q3, .ref l1, .ref l2, .ref l3, .int (-1), .ref l4])), (m1, .inl (cm1, 25, .inl (fun _ => 0))), (m2, .inl (cm2, 25, .inl (fun _ => 0))), (m3, .inl (cm3, 25, .inl (fun _ => 0))), (m4, .inl (cm4, 25, .inl fK5)), (m5, .inl (cm5, 25, .inl fK5)), (q2, .inl (cm1, 25, .inl (fun _ => 0))), (q3, .inl (cm4, 25, .inl fK5))] := hD
      refine lv_aload_n hx hb dX9_print_85 rfl (lv_at hl 2 rfl) ?_
      refine lv_iload_n hx hb dX9_print_86 rfl (lv_at hl 1 rfl) ?_
      refine mc_i (wr := [(m1, .inl (cm1, 25, .inl (fun _ => 0))), (m2, .inl (cm2, 25, .inl (fun _ => 0))), (m3, .inl (cm3, 25, .inl (fun _ => 0))), (m4, .inl (cm4, 25, .inl fK5)), (m5, .inl (cm5, 25, .inl fK5)), (q2, .inl (cm1, 25, .inl (fun _ => 0))), (q3, .inl (cm4, 25, .inl fK5))]) (va_runV (As := [.int 0]) (rest := []) ⟨hx, hb, hml, hown, hts⟩ (c_tells l hst D mo 5 5 th m1 m2 q2 m4 q3 l1 l2 l3 (-1) l4 0 H.size) (cwV 1 hts (gi_c (List.mem_cons_of_mem _ (List.mem_append_left _ (List.mem_of_getElem? (i := 14) rfl))) rfl (gi_c (List.mem_cons_of_mem _ (List.mem_append_left _ (List.mem_of_getElem? (i := 15) rfl))) rfl (gi_c (List.mem_cons_of_mem _ (List.mem_append_left _ (List.mem_of_getElem? (i := 16) rfl))) rfl (gi_c (List.mem_cons_of_mem _ (List.mem_append_left _ (List.mem_of_getElem? (i := 17) rfl))) rfl (goodIn_sub hb_1 (List.all_eq_true.mpr gw_c_tells)))))) rfl rfl rfl (by decide +kernel) ⟨Nat.le_of_ble_eq_true rfl, Nat.le_of_ble_eq_true rfl⟩) (pr_V (As := [.int 0]) (b := mo) (C := RX9) hP hD hK hS hA hE [0] [] rfl rfl rfl 0 16 rfl rfl rfl) rfl rfl hl.1 rfl (lv_room (Nat.le_of_ble_eq_true rfl)) dX9_print_87 ⟨Nat.le_of_ble_eq_true rfl, Nat.le_of_ble_eq_true rfl⟩) hP hD hK hS hA [0] [1, 2, 3, 4, 5, 6, 7] rfl rfl (by decide) (by decide) (fun r5 _ H locs w4 hP hD hK hS => ?_)
      have hP : va_P D vwCl [(m1, .inl (cm1, 25, .inl (fun _ => 0))), (m2, .inl (cm2, 25, .inl (fun _ => 0))), (m3, .inl (cm3, 25, .inl (fun _ => 0))), (m4, .inl (cm4, 25, .inl fK5)), (m5, .inl (cm5, 25, .inl fK5)), (q2, .inl (cm1, 25, .inl (fun _ => 0))), (q3, .inl (cm4, 25, .inl fK5)), (mo, .inr (16, [.int 5, .int 5, .int 0, .ref m1, .ref m2, .ref q2, .ref m4, .ref q3, .ref l1, .ref l2, .ref l3, .int (-1), .ref l4]))] H := hP
      have hD : va_D A [(m1, .inl (cm1, 25, .inl (fun _ => 0))), (m2, .inl (cm2, 25, .inl (fun _ => 0))), (m3, .inl (cm3, 25, .inl (fun _ => 0))), (m4, .inl (cm4, 25, .inl fK5)), (m5, .inl (cm5, 25, .inl fK5)), (q2, .inl (cm1, 25, .inl (fun _ => 0))), (q3, .inl (cm4, 25, .inl fK5)), (mo, .inr (16, [.int 5, .int 5, .int 0, .ref m1, .ref m2, .ref q2, .ref m4, .ref q3, .ref l1, .ref l2, .ref l3, .int (-1), .ref l4]))] := hD
      have hK : va_K D vwCl [(cm1, .int), (cm2, .int), (cm3, .int), (cm4, .char), (cm5, .char), (cm1, .int), (cm4, .char)] s := hK
      obtain rfl : r5 = 0 := w4
      exact mr_i hx hb hr () (rfl) (hP.sub [] rfl) (hK.sub [] rfl) (hD.sub [] (by decide) rfl) hS (Nat.le_of_ble_eq_true rfl) (Nat.le_of_ble_eq_true rfl) hlocks dX9_print_90
    | succ fu ih =>
      intro i H locs ls hi hl hP hD hS
      have hi : i + (fu + 1) = 25 := hi
      refine lv_iload_n hx hb dX9_print_4 rfl (lv_at hl 0 rfl) ?_
      refine lv_aload_n hx hb dX9_print_5 rfl (lv_at hl 2 rfl) ?_
      refine va_get (D := D) (ci := 16) (v := .ref m1) (C := RX9) (T := TX9) (N := 13) hx hb hts hb_0 hown hK hP 0 rfl rfl 3 (by decide) hw_0 (fun _ h9 => h9) rfl dX9_print_6 ?_
      refine va_alen hx hb hK hP 1 0 rfl rfl (v := 25) rfl dX9_print_9 ?_
      refine lv_icmp_ge (tgt := 57) hx hb dX9_print_10 (by decide) (fun h6 => absurd h6 (by exact fun q9 => absurd ((nI_leI (a := 25) (b := i) (by omega) (by omega)).mp q9) (by omega))) (fun h6 => ?_)
      refine lv_iload_n hx hb dX9_print_13 rfl (lv_at hl 1 rfl) ?_
      refine lv_aload_n hx hb dX9_print_14 rfl (lv_at hl 2 rfl) ?_
      refine va_get (D := D) (ci := 16) (v := .ref m3) (C := RX9) (T := TX9) (N := 13) hx hb hts hb_0 hown hK hP 0 rfl rfl 5 (by decide) hw_7 (fun _ h9 => h9) rfl dX9_print_15 ?_
      refine lv_iload_n hx hb dX9_print_18 rfl (lv_at hl 0 rfl) ?_
      refine va_iald hx hb hK hP 3 2 rfl rfl (vp_in_nI (n := i) (by omega) (by decide)) dX9_print_19 ?_
      refine lv_topi (fun x7 e7 => ?_)
      obtain rfl : x7 = 0 := e7
      refine lv_aload_n hx hb dX9_print_20 rfl (lv_at hl 2 rfl) ?_
      refine va_get (D := D) (ci := 16) (v := .ref m1) (C := RX9) (T := TX9) (N := 13) hx hb hts hb_0 hown hK hP 0 rfl rfl 3 (by decide) hw_0 (fun _ h9 => h9) rfl dX9_print_21 ?_
      refine lv_iload_n hx hb dX9_print_24 rfl (lv_at hl 0 rfl) ?_
      refine va_iald hx hb hK hP 1 0 rfl rfl (vp_in_nI (n := i) (by omega) (by decide)) dX9_print_25 ?_
      refine lv_topi (fun x8 e8 => ?_)
      obtain rfl : x8 = 0 := e8
      refine lv_icmp_ne (tgt := 44) hx hb dX9_print_26 (by decide) (fun h9 => absurd (by decide) h9) (fun h9 => ?_)
      refine lv_aload_n hx hb dX9_print_29 rfl (lv_at hl 2 rfl) ?_
      refine va_get (D := D) (ci := 16) (v := .ref m5) (C := RX9) (T := TX9) (N := 13) hx hb hts hb_0 hown hK hP 0 rfl rfl 7 (by decide) hw_13 (fun _ h9 => h9) rfl dX9_print_30 ?_
      refine lv_iload_n hx hb dX9_print_33 rfl (lv_at hl 0 rfl) ?_
      refine va_cald hx hb hK hP 5 4 rfl rfl (vp_in_nI (n := i) (by omega) (by decide)) dX9_print_34 ?_
      refine lv_topi (fun x10 e10 => ?_)
      obtain rfl : x10 = 46 := e10.trans (fK5_at (by omega))
      refine lv_aload_n hx hb dX9_print_35 rfl (lv_at hl 2 rfl) ?_
      refine va_get (D := D) (ci := 16) (v := .ref m4) (C := RX9) (T := TX9) (N := 13) hx hb hts hb_0 hown hK hP 0 rfl rfl 6 (by decide) hw_8 (fun _ h9 => h9) rfl dX9_print_36 ?_
      refine lv_iload_n hx hb dX9_print_39 rfl (lv_at hl 0 rfl) ?_
      refine va_cald hx hb hK hP 4 3 rfl rfl (vp_in_nI (n := i) (by omega) (by decide)) dX9_print_40 ?_
      refine lv_topi (fun x11 e11 => ?_)
      obtain rfl : x11 = 46 := e11.trans (fK5_at (by omega))
      refine lv_icmp_eq (tgt := 48) hx hb dX9_print_41 (by decide) (fun h12 => ?_) (fun h12 => absurd (by decide) h12)
      refine lv_iconst (v := 0) hx hb dX9_print_48 (by decide) ?_
      refine lv_iadd hx hb dX9_print_49 ?_
      refine lv_topi (fun x13 e13 => ?_)
      obtain rfl : x13 = 0 := e13.trans (by decide)
      refine lv_istore_n (lv' := [(1, .int 0), (2, .int (nI i)), (0, .ref mo)]) hx hb dX9_print_50 rfl hl (by decide) rfl (fun ls hl => ?_)
      obtain ⟨x14, e14⟩ : ∃ z : Int32, z = nI i + 1 := ⟨_, rfl⟩
      refine lv_iinc (v := x14) (lv' := [(2, .int x14), (1, .int 0), (0, .ref mo)]) hx hb dX9_print_51 hl (k := 1) rfl (by rw [e14]; rfl) (by decide) rfl (fun ls hl => ?_)
      obtain rfl : x14 = nI (i + 1) := e14.trans (nI_add i 1)
      refine lv_goto (tgt := 4) hx hb dX9_print_54 (by decide) ?_
      exact ih  (i + 1) _ _ _ (by omega) (lv_sub hl [0, 1, 2] rfl) (hP.sub [0, 1, 2, 3, 4, 5] rfl) (hD.sub [0, 1, 2, 3, 4, 5] (by decide) rfl) hS
  exact lp 25 0 _ _ _ rfl (lv_sub hl [0, 1, 2] rfl) (hP.sub [0, 1, 2, 3, 4, 5] rfl) (hD.sub [0, 1, 2, 3, 4, 5] (by decide) rfl) hS
