theorem dX8_init_0 : decode cX8_init 0 = .ok (.aload_n 0, 1) := by decide +kernel
theorem dX8_init_1 : decode cX8_init 1 = .ok (.invokespecial 1, 3) := by decide +kernel
theorem dX8_init_4 : decode cX8_init 4 = .ok (.aload_n 0, 1) := by decide +kernel
theorem dX8_init_5 : decode cX8_init 5 = .ok (.new 7, 3) := by decide +kernel
theorem dX8_init_8 : decode cX8_init 8 = .ok (.dup, 1) := by decide +kernel
theorem dX8_init_9 : decode cX8_init 9 = .ok (.invokespecial 9, 3) := by decide +kernel
theorem dX8_init_12 : decode cX8_init 12 = .ok (.putfield 10, 3) := by decide +kernel
theorem dX8_init_15 : decode cX8_init 15 = .ok (.aload_n 0, 1) := by decide +kernel
theorem dX8_init_16 : decode cX8_init 16 = .ok (.new 16, 3) := by decide +kernel
theorem dX8_init_19 : decode cX8_init 19 = .ok (.dup, 1) := by decide +kernel
theorem dX8_init_20 : decode cX8_init 20 = .ok (.bipush 20, 2) := by decide +kernel
theorem dX8_init_22 : decode cX8_init 22 = .ok (.invokespecial 18, 3) := by decide +kernel
theorem dX8_init_25 : decode cX8_init 25 = .ok (.putfield 21, 3) := by decide +kernel
theorem dX8_init_28 : decode cX8_init 28 = .ok (.aload_n 0, 1) := by decide +kernel
theorem dX8_init_29 : decode cX8_init 29 = .ok (.new 25, 3) := by decide +kernel
theorem dX8_init_32 : decode cX8_init 32 = .ok (.dup, 1) := by decide +kernel
theorem dX8_init_33 : decode cX8_init 33 = .ok (.invokespecial 27, 3) := by decide +kernel
theorem dX8_init_36 : decode cX8_init 36 = .ok (.putfield 28, 3) := by decide +kernel
theorem dX8_init_39 : decode cX8_init 39 = .ok (.aload_n 0, 1) := by decide +kernel
theorem dX8_init_40 : decode cX8_init 40 = .ok (.new 32, 3) := by decide +kernel
theorem dX8_init_43 : decode cX8_init 43 = .ok (.dup, 1) := by decide +kernel
theorem dX8_init_44 : decode cX8_init 44 = .ok (.invokespecial 34, 3) := by decide +kernel
theorem dX8_init_47 : decode cX8_init 47 = .ok (.putfield 35, 3) := by decide +kernel
theorem dX8_init_50 : decode cX8_init 50 = .ok (.aload_n 0, 1) := by decide +kernel
theorem dX8_init_51 : decode cX8_init 51 = .ok (.bipush 6, 2) := by decide +kernel
theorem dX8_init_53 : decode cX8_init 53 = .ok (.anewarray 39, 3) := by decide +kernel
theorem dX8_init_56 : decode cX8_init 56 = .ok (.putfield 41, 3) := by decide +kernel
theorem dX8_init_59 : decode cX8_init 59 = .ok (.iconst 0, 1) := by decide +kernel
theorem dX8_init_60 : decode cX8_init 60 = .ok (.istore_n 1, 1) := by decide +kernel
theorem dX8_init_61 : decode cX8_init 61 = .ok (.iload_n 1, 1) := by decide +kernel
theorem dX8_init_62 : decode cX8_init 62 = .ok (.aload_n 0, 1) := by decide +kernel
theorem dX8_init_63 : decode cX8_init 63 = .ok (.getfield 41, 3) := by decide +kernel
theorem dX8_init_66 : decode cX8_init 66 = .ok (.arraylength, 1) := by decide +kernel
theorem dX8_init_67 : decode cX8_init 67 = .ok (.if_icmp .ge 22, 3) := by decide +kernel
theorem dX8_init_70 : decode cX8_init 70 = .ok (.aload_n 0, 1) := by decide +kernel
theorem dX8_init_71 : decode cX8_init 71 = .ok (.getfield 41, 3) := by decide +kernel
theorem dX8_init_74 : decode cX8_init 74 = .ok (.iload_n 1, 1) := by decide +kernel
theorem dX8_init_75 : decode cX8_init 75 = .ok (.new 39, 3) := by decide +kernel
theorem dX8_init_78 : decode cX8_init 78 = .ok (.dup, 1) := by decide +kernel
theorem dX8_init_79 : decode cX8_init 79 = .ok (.invokespecial 45, 3) := by decide +kernel
theorem dX8_init_82 : decode cX8_init 82 = .ok (.aastore, 1) := by decide +kernel
theorem dX8_init_83 : decode cX8_init 83 = .ok (.iinc 1 1, 3) := by decide +kernel
theorem dX8_init_86 : decode cX8_init 86 = .ok (.goto (-25), 3) := by decide +kernel
theorem dX8_init_89 : decode cX8_init 89 = .ok (.aload_n 0, 1) := by decide +kernel
theorem dX8_init_90 : decode cX8_init 90 = .ok (.iconst 4, 1) := by decide +kernel
theorem dX8_init_91 : decode cX8_init 91 = .ok (.anewarray 46, 3) := by decide +kernel
theorem dX8_init_94 : decode cX8_init 94 = .ok (.putfield 48, 3) := by decide +kernel
theorem dX8_init_97 : decode cX8_init 97 = .ok (.iconst 0, 1) := by decide +kernel
theorem dX8_init_98 : decode cX8_init 98 = .ok (.istore_n 1, 1) := by decide +kernel
theorem dX8_init_99 : decode cX8_init 99 = .ok (.iload_n 1, 1) := by decide +kernel
theorem dX8_init_100 : decode cX8_init 100 = .ok (.aload_n 0, 1) := by decide +kernel
theorem dX8_init_101 : decode cX8_init 101 = .ok (.getfield 48, 3) := by decide +kernel
theorem dX8_init_104 : decode cX8_init 104 = .ok (.arraylength, 1) := by decide +kernel
theorem dX8_init_105 : decode cX8_init 105 = .ok (.if_icmp .ge 22, 3) := by decide +kernel
theorem dX8_init_108 : decode cX8_init 108 = .ok (.aload_n 0, 1) := by decide +kernel
theorem dX8_init_109 : decode cX8_init 109 = .ok (.getfield 48, 3) := by decide +kernel
theorem dX8_init_112 : decode cX8_init 112 = .ok (.iload_n 1, 1) := by decide +kernel
theorem dX8_init_113 : decode cX8_init 113 = .ok (.new 46, 3) := by decide +kernel
theorem dX8_init_116 : decode cX8_init 116 = .ok (.dup, 1) := by decide +kernel
theorem dX8_init_117 : decode cX8_init 117 = .ok (.invokespecial 52, 3) := by decide +kernel
theorem dX8_init_120 : decode cX8_init 120 = .ok (.aastore, 1) := by decide +kernel
theorem dX8_init_121 : decode cX8_init 121 = .ok (.iinc 1 1, 3) := by decide +kernel
theorem dX8_init_124 : decode cX8_init 124 = .ok (.goto (-25), 3) := by decide +kernel
theorem dX8_init_127 : decode cX8_init 127 = .ok (.aload_n 0, 1) := by decide +kernel
theorem dX8_init_128 : decode cX8_init 128 = .ok (.iconst 3, 1) := by decide +kernel
theorem dX8_init_129 : decode cX8_init 129 = .ok (.anewarray 53, 3) := by decide +kernel
theorem dX8_init_132 : decode cX8_init 132 = .ok (.putfield 55, 3) := by decide +kernel
theorem dX8_init_135 : decode cX8_init 135 = .ok (.iconst 0, 1) := by decide +kernel
theorem dX8_init_136 : decode cX8_init 136 = .ok (.istore_n 1, 1) := by decide +kernel
theorem dX8_init_137 : decode cX8_init 137 = .ok (.iload_n 1, 1) := by decide +kernel
theorem dX8_init_138 : decode cX8_init 138 = .ok (.aload_n 0, 1) := by decide +kernel
theorem dX8_init_139 : decode cX8_init 139 = .ok (.getfield 55, 3) := by decide +kernel
theorem dX8_init_142 : decode cX8_init 142 = .ok (.arraylength, 1) := by decide +kernel
theorem dX8_init_143 : decode cX8_init 143 = .ok (.if_icmp .ge 22, 3) := by decide +kernel
theorem dX8_init_146 : decode cX8_init 146 = .ok (.aload_n 0, 1) := by decide +kernel
theorem dX8_init_147 : decode cX8_init 147 = .ok (.getfield 55, 3) := by decide +kernel
theorem dX8_init_150 : decode cX8_init 150 = .ok (.iload_n 1, 1) := by decide +kernel
theorem dX8_init_151 : decode cX8_init 151 = .ok (.new 53, 3) := by decide +kernel
theorem dX8_init_154 : decode cX8_init 154 = .ok (.dup, 1) := by decide +kernel
theorem dX8_init_155 : decode cX8_init 155 = .ok (.invokespecial 59, 3) := by decide +kernel
theorem dX8_init_158 : decode cX8_init 158 = .ok (.aastore, 1) := by decide +kernel
theorem dX8_init_159 : decode cX8_init 159 = .ok (.iinc 1 1, 3) := by decide +kernel
theorem dX8_init_162 : decode cX8_init 162 = .ok (.goto (-25), 3) := by decide +kernel
theorem dX8_init_165 : decode cX8_init 165 = .ok (.aload_n 0, 1) := by decide +kernel
theorem dX8_init_166 : decode cX8_init 166 = .ok (.iconst 0, 1) := by decide +kernel
theorem dX8_init_167 : decode cX8_init 167 = .ok (.putfield 60, 3) := by decide +kernel
theorem dX8_init_170 : decode cX8_init 170 = .ok (.aload_n 0, 1) := by decide +kernel
theorem dX8_init_171 : decode cX8_init 171 = .ok (.iconst (-1), 1) := by decide +kernel
theorem dX8_init_172 : decode cX8_init 172 = .ok (.putfield 64, 3) := by decide +kernel
theorem dX8_init_175 : decode cX8_init 175 = .ok (.aload_n 0, 1) := by decide +kernel
theorem dX8_init_176 : decode cX8_init 176 = .ok (.new 25, 3) := by decide +kernel
theorem dX8_init_179 : decode cX8_init 179 = .ok (.dup, 1) := by decide +kernel
theorem dX8_init_180 : decode cX8_init 180 = .ok (.invokespecial 27, 3) := by decide +kernel
theorem dX8_init_183 : decode cX8_init 183 = .ok (.putfield 67, 3) := by decide +kernel
theorem dX8_init_186 : decode cX8_init 186 = .ok (.aload_n 0, 1) := by decide +kernel
theorem dX8_init_187 : decode cX8_init 187 = .ok (.new 16, 3) := by decide +kernel
theorem dX8_init_190 : decode cX8_init 190 = .ok (.dup, 1) := by decide +kernel
theorem dX8_init_191 : decode cX8_init 191 = .ok (.bipush 20, 2) := by decide +kernel
theorem dX8_init_193 : decode cX8_init 193 = .ok (.invokespecial 18, 3) := by decide +kernel
theorem dX8_init_196 : decode cX8_init 196 = .ok (.putfield 70, 3) := by decide +kernel
theorem dX8_init_199 : decode cX8_init 199 = .ok (.return_, 1) := by decide +kernel
theorem dX8_step_0 : decode cX8_step 0 = .ok (.iload_n 1, 1) := by decide +kernel
theorem dX8_step_1 : decode cX8_step 1 = .ok (.iload_n 2, 1) := by decide +kernel
theorem dX8_step_2 : decode cX8_step 2 = .ok (.invokestatic 73, 3) := by decide +kernel
theorem dX8_step_5 : decode cX8_step 5 = .ok (.ifCond .ne 13, 3) := by decide +kernel
theorem dX8_step_8 : decode cX8_step 8 = .ok (.new 77, 3) := by decide +kernel
theorem dX8_step_11 : decode cX8_step 11 = .ok (.dup, 1) := by decide +kernel
theorem dX8_step_12 : decode cX8_step 12 = .ok (.ldc 79, 2) := by decide +kernel
theorem dX8_step_14 : decode cX8_step 14 = .ok (.invokespecial 81, 3) := by decide +kernel
theorem dX8_step_17 : decode cX8_step 17 = .ok (.athrow, 1) := by decide +kernel
theorem dX8_step_18 : decode cX8_step 18 = .ok (.aload_n 0, 1) := by decide +kernel
theorem dX8_step_19 : decode cX8_step 19 = .ok (.getfield 10, 3) := by decide +kernel
theorem dX8_step_22 : decode cX8_step 22 = .ok (.invokevirtual 84, 3) := by decide +kernel
theorem dX8_step_25 : decode cX8_step 25 = .ok (.ifCond .eq 13, 3) := by decide +kernel
theorem dX8_step_28 : decode cX8_step 28 = .ok (.new 88, 3) := by decide +kernel
theorem dX8_step_31 : decode cX8_step 31 = .ok (.dup, 1) := by decide +kernel
theorem dX8_step_32 : decode cX8_step 32 = .ok (.ldc 90, 2) := by decide +kernel
theorem dX8_step_34 : decode cX8_step 34 = .ok (.invokespecial 92, 3) := by decide +kernel
theorem dX8_step_37 : decode cX8_step 37 = .ok (.athrow, 1) := by decide +kernel
theorem dX8_step_38 : decode cX8_step 38 = .ok (.aload_n 0, 1) := by decide +kernel
theorem dX8_step_39 : decode cX8_step 39 = .ok (.getfield 10, 3) := by decide +kernel
theorem dX8_step_42 : decode cX8_step 42 = .ok (.iload_n 1, 1) := by decide +kernel
theorem dX8_step_43 : decode cX8_step 43 = .ok (.iload_n 2, 1) := by decide +kernel
theorem dX8_step_44 : decode cX8_step 44 = .ok (.invokevirtual 93, 3) := by decide +kernel
theorem dX8_step_47 : decode cX8_step 47 = .ok (.aload_n 0, 1) := by decide +kernel
theorem dX8_step_48 : decode cX8_step 48 = .ok (.getfield 10, 3) := by decide +kernel
theorem dX8_step_51 : decode cX8_step 51 = .ok (.invokevirtual 97, 3) := by decide +kernel
theorem dX8_step_54 : decode cX8_step 54 = .ok (.iconst 1, 1) := by decide +kernel
theorem dX8_step_55 : decode cX8_step 55 = .ok (.isub, 1) := by decide +kernel
theorem dX8_step_56 : decode cX8_step 56 = .ok (.ireturn, 1) := by decide +kernel
theorem dX8_give_0 : decode cX8_give 0 = .ok (.aload_n 0, 1) := by decide +kernel
theorem dX8_give_1 : decode cX8_give 1 = .ok (.getfield 21, 3) := by decide +kernel
theorem dX8_give_4 : decode cX8_give 4 = .ok (.invokevirtual 118, 3) := by decide +kernel
theorem dX8_give_7 : decode cX8_give 7 = .ok (.ifCond .eq 13, 3) := by decide +kernel
theorem dX8_give_10 : decode cX8_give 10 = .ok (.new 88, 3) := by decide +kernel
theorem dX8_give_13 : decode cX8_give 13 = .ok (.dup, 1) := by decide +kernel
theorem dX8_give_14 : decode cX8_give 14 = .ok (.ldc 119, 2) := by decide +kernel
theorem dX8_give_16 : decode cX8_give 16 = .ok (.invokespecial 92, 3) := by decide +kernel
theorem dX8_give_19 : decode cX8_give 19 = .ok (.athrow, 1) := by decide +kernel
theorem dX8_give_20 : decode cX8_give 20 = .ok (.aload_n 0, 1) := by decide +kernel
theorem dX8_give_21 : decode cX8_give 21 = .ok (.getfield 21, 3) := by decide +kernel
theorem dX8_give_24 : decode cX8_give 24 = .ok (.iload_n 1, 1) := by decide +kernel
theorem dX8_give_25 : decode cX8_give 25 = .ok (.invokevirtual 121, 3) := by decide +kernel
theorem dX8_give_28 : decode cX8_give 28 = .ok (.aload_n 0, 1) := by decide +kernel
theorem dX8_give_29 : decode cX8_give 29 = .ok (.getfield 21, 3) := by decide +kernel
theorem dX8_give_32 : decode cX8_give 32 = .ok (.invokevirtual 124, 3) := by decide +kernel
theorem dX8_give_35 : decode cX8_give 35 = .ok (.ireturn, 1) := by decide +kernel
theorem dX8_restart_0 : decode cX8_restart 0 = .ok (.aload_n 0, 1) := by decide +kernel
theorem dX8_restart_1 : decode cX8_restart 1 = .ok (.invokevirtual 125, 3) := by decide +kernel
theorem dX8_restart_4 : decode cX8_restart 4 = .ok (.aload_n 0, 1) := by decide +kernel
theorem dX8_restart_5 : decode cX8_restart 5 = .ok (.getfield 10, 3) := by decide +kernel
theorem dX8_restart_8 : decode cX8_restart 8 = .ok (.invokevirtual 97, 3) := by decide +kernel
theorem dX8_restart_11 : decode cX8_restart 11 = .ok (.ireturn, 1) := by decide +kernel
theorem dX8_start_0 : decode cX8_start 0 = .ok (.aload_n 0, 1) := by decide +kernel
theorem dX8_start_1 : decode cX8_start 1 = .ok (.getfield 28, 3) := by decide +kernel
theorem dX8_start_4 : decode cX8_start 4 = .ok (.invokevirtual 128, 3) := by decide +kernel
theorem dX8_start_7 : decode cX8_start 7 = .ok (.aload_n 0, 1) := by decide +kernel
theorem dX8_start_8 : decode cX8_start 8 = .ok (.getfield 35, 3) := by decide +kernel
theorem dX8_start_11 : decode cX8_start 11 = .ok (.invokevirtual 131, 3) := by decide +kernel
theorem dX8_start_14 : decode cX8_start 14 = .ok (.aload_n 0, 1) := by decide +kernel
theorem dX8_start_15 : decode cX8_start 15 = .ok (.getfield 10, 3) := by decide +kernel
theorem dX8_start_18 : decode cX8_start 18 = .ok (.invokevirtual 132, 3) := by decide +kernel
theorem dX8_start_21 : decode cX8_start 21 = .ok (.aload_n 0, 1) := by decide +kernel
theorem dX8_start_22 : decode cX8_start 22 = .ok (.iconst 0, 1) := by decide +kernel
theorem dX8_start_23 : decode cX8_start 23 = .ok (.iconst (-1), 1) := by decide +kernel
theorem dX8_start_24 : decode cX8_start 24 = .ok (.invokevirtual 135, 3) := by decide +kernel
theorem dX8_start_27 : decode cX8_start 27 = .ok (.return_, 1) := by decide +kernel
theorem dX8_point_0 : decode cX8_point 0 = .ok (.iload_n 1, 1) := by decide +kernel
theorem dX8_point_1 : decode cX8_point 1 = .ok (.ifCond .lt 16, 3) := by decide +kernel
theorem dX8_point_4 : decode cX8_point 4 = .ok (.iload_n 1, 1) := by decide +kernel
theorem dX8_point_5 : decode cX8_point 5 = .ok (.bipush 80, 2) := by decide +kernel
theorem dX8_point_7 : decode cX8_point 7 = .ok (.if_icmp .ge 10, 3) := by decide +kernel
theorem dX8_point_10 : decode cX8_point 10 = .ok (.iload_n 2, 1) := by decide +kernel
theorem dX8_point_11 : decode cX8_point 11 = .ok (.invokestatic 138, 3) := by decide +kernel
theorem dX8_point_14 : decode cX8_point 14 = .ok (.ifCond .ne 13, 3) := by decide +kernel
theorem dX8_point_17 : decode cX8_point 17 = .ok (.new 77, 3) := by decide +kernel
theorem dX8_point_20 : decode cX8_point 20 = .ok (.dup, 1) := by decide +kernel
theorem dX8_point_21 : decode cX8_point 21 = .ok (.ldc 141, 2) := by decide +kernel
theorem dX8_point_23 : decode cX8_point 23 = .ok (.invokespecial 81, 3) := by decide +kernel
theorem dX8_point_26 : decode cX8_point 26 = .ok (.athrow, 1) := by decide +kernel
theorem dX8_point_27 : decode cX8_point 27 = .ok (.aload_n 0, 1) := by decide +kernel
theorem dX8_point_28 : decode cX8_point 28 = .ok (.getfield 143, 3) := by decide +kernel
theorem dX8_point_31 : decode cX8_point 31 = .ok (.aload_n 0, 1) := by decide +kernel
theorem dX8_point_32 : decode cX8_point 32 = .ok (.getfield 41, 3) := by decide +kernel
theorem dX8_point_35 : decode cX8_point 35 = .ok (.arraylength, 1) := by decide +kernel
theorem dX8_point_36 : decode cX8_point 36 = .ok (.if_icmp .lt 13, 3) := by decide +kernel
theorem dX8_point_39 : decode cX8_point 39 = .ok (.new 88, 3) := by decide +kernel
theorem dX8_point_42 : decode cX8_point 42 = .ok (.dup, 1) := by decide +kernel
theorem dX8_point_43 : decode cX8_point 43 = .ok (.ldc 146, 2) := by decide +kernel
theorem dX8_point_45 : decode cX8_point 45 = .ok (.invokespecial 92, 3) := by decide +kernel
theorem dX8_point_48 : decode cX8_point 48 = .ok (.athrow, 1) := by decide +kernel
theorem dX8_point_49 : decode cX8_point 49 = .ok (.aload_n 0, 1) := by decide +kernel
theorem dX8_point_50 : decode cX8_point 50 = .ok (.getfield 41, 3) := by decide +kernel
theorem dX8_point_53 : decode cX8_point 53 = .ok (.aload_n 0, 1) := by decide +kernel
theorem dX8_point_54 : decode cX8_point 54 = .ok (.getfield 143, 3) := by decide +kernel
theorem dX8_point_57 : decode cX8_point 57 = .ok (.aaload, 1) := by decide +kernel
theorem dX8_point_58 : decode cX8_point 58 = .ok (.iload_n 1, 1) := by decide +kernel
theorem dX8_point_59 : decode cX8_point 59 = .ok (.iload_n 2, 1) := by decide +kernel
theorem dX8_point_60 : decode cX8_point 60 = .ok (.invokevirtual 148, 3) := by decide +kernel
theorem dX8_point_63 : decode cX8_point 63 = .ok (.aload_n 0, 1) := by decide +kernel
theorem dX8_point_64 : decode cX8_point 64 = .ok (.dup, 1) := by decide +kernel
theorem dX8_point_65 : decode cX8_point 65 = .ok (.getfield 143, 3) := by decide +kernel
theorem dX8_point_68 : decode cX8_point 68 = .ok (.iconst 1, 1) := by decide +kernel
theorem dX8_point_69 : decode cX8_point 69 = .ok (.iadd, 1) := by decide +kernel
theorem dX8_point_70 : decode cX8_point 70 = .ok (.putfield 143, 3) := by decide +kernel
theorem dX8_point_73 : decode cX8_point 73 = .ok (.aload_n 0, 1) := by decide +kernel
theorem dX8_point_74 : decode cX8_point 74 = .ok (.getfield 143, 3) := by decide +kernel
theorem dX8_point_77 : decode cX8_point 77 = .ok (.iconst 1, 1) := by decide +kernel
theorem dX8_point_78 : decode cX8_point 78 = .ok (.isub, 1) := by decide +kernel
theorem dX8_point_79 : decode cX8_point 79 = .ok (.ireturn, 1) := by decide +kernel
theorem dX8_isCell_0 : decode cX8_isCell 0 = .ok (.iload_n 0, 1) := by decide +kernel
theorem dX8_isCell_1 : decode cX8_isCell 1 = .ok (.ifCond .lt 13, 3) := by decide +kernel
theorem dX8_isCell_4 : decode cX8_isCell 4 = .ok (.iload_n 0, 1) := by decide +kernel
theorem dX8_isCell_5 : decode cX8_isCell 5 = .ok (.bipush 12, 2) := by decide +kernel
theorem dX8_isCell_7 : decode cX8_isCell 7 = .ok (.if_icmp .ge 7, 3) := by decide +kernel
theorem dX8_isCell_10 : decode cX8_isCell 10 = .ok (.iconst 1, 1) := by decide +kernel
theorem dX8_isCell_11 : decode cX8_isCell 11 = .ok (.goto 4, 3) := by decide +kernel
theorem dX8_isCell_14 : decode cX8_isCell 14 = .ok (.iconst 0, 1) := by decide +kernel
theorem dX8_isCell_15 : decode cX8_isCell 15 = .ok (.ireturn, 1) := by decide +kernel
theorem dX8_isPass_0 : decode cX8_isPass 0 = .ok (.iload_n 0, 1) := by decide +kernel
theorem dX8_isPass_1 : decode cX8_isPass 1 = .ok (.ifCond .lt 13, 3) := by decide +kernel
theorem dX8_isPass_4 : decode cX8_isPass 4 = .ok (.iload_n 0, 1) := by decide +kernel
theorem dX8_isPass_5 : decode cX8_isPass 5 = .ok (.bipush 99, 2) := by decide +kernel
theorem dX8_isPass_7 : decode cX8_isPass 7 = .ok (.if_icmp .gt 7, 3) := by decide +kernel
theorem dX8_isPass_10 : decode cX8_isPass 10 = .ok (.iconst 1, 1) := by decide +kernel
theorem dX8_isPass_11 : decode cX8_isPass 11 = .ok (.goto 4, 3) := by decide +kernel
theorem dX8_isPass_14 : decode cX8_isPass 14 = .ok (.iconst 0, 1) := by decide +kernel
theorem dX8_isPass_15 : decode cX8_isPass 15 = .ok (.ireturn, 1) := by decide +kernel
theorem dX8_pointNumbered_0 : decode cX8_pointNumbered 0 = .ok (.iload_n 1, 1) := by decide +kernel
theorem dX8_pointNumbered_1 : decode cX8_pointNumbered 1 = .ok (.ifCond .lt 29, 3) := by decide +kernel
theorem dX8_pointNumbered_4 : decode cX8_pointNumbered 4 = .ok (.iload_n 1, 1) := by decide +kernel
theorem dX8_pointNumbered_5 : decode cX8_pointNumbered 5 = .ok (.aload_n 0, 1) := by decide +kernel
theorem dX8_pointNumbered_6 : decode cX8_pointNumbered 6 = .ok (.getfield 143, 3) := by decide +kernel
theorem dX8_pointNumbered_9 : decode cX8_pointNumbered 9 = .ok (.if_icmp .ge 21, 3) := by decide +kernel
theorem dX8_pointNumbered_12 : decode cX8_pointNumbered 12 = .ok (.iload_n 1, 1) := by decide +kernel
theorem dX8_pointNumbered_13 : decode cX8_pointNumbered 13 = .ok (.aload_n 0, 1) := by decide +kernel
theorem dX8_pointNumbered_14 : decode cX8_pointNumbered 14 = .ok (.getfield 41, 3) := by decide +kernel
theorem dX8_pointNumbered_17 : decode cX8_pointNumbered 17 = .ok (.arraylength, 1) := by decide +kernel
theorem dX8_pointNumbered_18 : decode cX8_pointNumbered 18 = .ok (.if_icmp .ge 12, 3) := by decide +kernel
theorem dX8_pointNumbered_21 : decode cX8_pointNumbered 21 = .ok (.aload_n 0, 1) := by decide +kernel
theorem dX8_pointNumbered_22 : decode cX8_pointNumbered 22 = .ok (.getfield 41, 3) := by decide +kernel
theorem dX8_pointNumbered_25 : decode cX8_pointNumbered 25 = .ok (.iload_n 1, 1) := by decide +kernel
theorem dX8_pointNumbered_26 : decode cX8_pointNumbered 26 = .ok (.aaload, 1) := by decide +kernel
theorem dX8_pointNumbered_27 : decode cX8_pointNumbered 27 = .ok (.goto 4, 3) := by decide +kernel
theorem dX8_pointNumbered_30 : decode cX8_pointNumbered 30 = .ok (.aconst_null, 1) := by decide +kernel
theorem dX8_pointNumbered_31 : decode cX8_pointNumbered 31 = .ok (.areturn, 1) := by decide +kernel
theorem dX8_watchNumbered_0 : decode cX8_watchNumbered 0 = .ok (.iload_n 1, 1) := by decide +kernel
theorem dX8_watchNumbered_1 : decode cX8_watchNumbered 1 = .ok (.ifCond .lt 29, 3) := by decide +kernel
theorem dX8_watchNumbered_4 : decode cX8_watchNumbered 4 = .ok (.iload_n 1, 1) := by decide +kernel
theorem dX8_watchNumbered_5 : decode cX8_watchNumbered 5 = .ok (.aload_n 0, 1) := by decide +kernel
theorem dX8_watchNumbered_6 : decode cX8_watchNumbered 6 = .ok (.getfield 182, 3) := by decide +kernel
theorem dX8_watchNumbered_9 : decode cX8_watchNumbered 9 = .ok (.if_icmp .ge 21, 3) := by decide +kernel
theorem dX8_watchNumbered_12 : decode cX8_watchNumbered 12 = .ok (.iload_n 1, 1) := by decide +kernel
theorem dX8_watchNumbered_13 : decode cX8_watchNumbered 13 = .ok (.aload_n 0, 1) := by decide +kernel
theorem dX8_watchNumbered_14 : decode cX8_watchNumbered 14 = .ok (.getfield 48, 3) := by decide +kernel
theorem dX8_watchNumbered_17 : decode cX8_watchNumbered 17 = .ok (.arraylength, 1) := by decide +kernel
theorem dX8_watchNumbered_18 : decode cX8_watchNumbered 18 = .ok (.if_icmp .ge 12, 3) := by decide +kernel
theorem dX8_watchNumbered_21 : decode cX8_watchNumbered 21 = .ok (.aload_n 0, 1) := by decide +kernel
theorem dX8_watchNumbered_22 : decode cX8_watchNumbered 22 = .ok (.getfield 48, 3) := by decide +kernel
theorem dX8_watchNumbered_25 : decode cX8_watchNumbered 25 = .ok (.iload_n 1, 1) := by decide +kernel
theorem dX8_watchNumbered_26 : decode cX8_watchNumbered 26 = .ok (.aaload, 1) := by decide +kernel
theorem dX8_watchNumbered_27 : decode cX8_watchNumbered 27 = .ok (.goto 4, 3) := by decide +kernel
theorem dX8_watchNumbered_30 : decode cX8_watchNumbered 30 = .ok (.aconst_null, 1) := by decide +kernel
theorem dX8_watchNumbered_31 : decode cX8_watchNumbered 31 = .ok (.areturn, 1) := by decide +kernel
theorem dX8_run_0 : decode cX8_run 0 = .ok (.iload_n 1, 1) := by decide +kernel
theorem dX8_run_1 : decode cX8_run 1 = .ok (.invokestatic 189, 3) := by decide +kernel
theorem dX8_run_4 : decode cX8_run 4 = .ok (.ifCond .ne 13, 3) := by decide +kernel
theorem dX8_run_7 : decode cX8_run 7 = .ok (.new 77, 3) := by decide +kernel
theorem dX8_run_10 : decode cX8_run 10 = .ok (.dup, 1) := by decide +kernel
theorem dX8_run_11 : decode cX8_run 11 = .ok (.ldc 192, 2) := by decide +kernel
theorem dX8_run_13 : decode cX8_run 13 = .ok (.invokespecial 81, 3) := by decide +kernel
theorem dX8_run_16 : decode cX8_run 16 = .ok (.athrow, 1) := by decide +kernel
theorem dX8_run_17 : decode cX8_run 17 = .ok (.aload_n 0, 1) := by decide +kernel
theorem dX8_run_18 : decode cX8_run 18 = .ok (.iload_n 1, 1) := by decide +kernel
theorem dX8_run_19 : decode cX8_run 19 = .ok (.iconst (-1), 1) := by decide +kernel
theorem dX8_run_20 : decode cX8_run 20 = .ok (.invokevirtual 194, 3) := by decide +kernel
theorem dX8_run_23 : decode cX8_run 23 = .ok (.ireturn, 1) := by decide +kernel
theorem dX8_back_0 : decode cX8_back 0 = .ok (.iload_n 1, 1) := by decide +kernel
theorem dX8_back_1 : decode cX8_back 1 = .ok (.iconst 1, 1) := by decide +kernel
theorem dX8_back_2 : decode cX8_back 2 = .ok (.if_icmp .lt 10, 3) := by decide +kernel
theorem dX8_back_5 : decode cX8_back 5 = .ok (.iload_n 1, 1) := by decide +kernel
theorem dX8_back_6 : decode cX8_back 6 = .ok (.sipush 200, 3) := by decide +kernel
theorem dX8_back_9 : decode cX8_back 9 = .ok (.if_icmp .le 13, 3) := by decide +kernel
theorem dX8_back_12 : decode cX8_back 12 = .ok (.new 77, 3) := by decide +kernel
theorem dX8_back_15 : decode cX8_back 15 = .ok (.dup, 1) := by decide +kernel
theorem dX8_back_16 : decode cX8_back 16 = .ok (.ldc 203, 2) := by decide +kernel
theorem dX8_back_18 : decode cX8_back 18 = .ok (.invokespecial 81, 3) := by decide +kernel
theorem dX8_back_21 : decode cX8_back 21 = .ok (.athrow, 1) := by decide +kernel
theorem dX8_back_22 : decode cX8_back 22 = .ok (.iconst 0, 1) := by decide +kernel
theorem dX8_back_23 : decode cX8_back 23 = .ok (.istore_n 2, 1) := by decide +kernel
theorem dX8_back_24 : decode cX8_back 24 = .ok (.iload_n 2, 1) := by decide +kernel
theorem dX8_back_25 : decode cX8_back 25 = .ok (.iload_n 1, 1) := by decide +kernel
theorem dX8_back_26 : decode cX8_back 26 = .ok (.if_icmp .ge 16, 3) := by decide +kernel
theorem dX8_back_29 : decode cX8_back 29 = .ok (.aload_n 0, 1) := by decide +kernel
theorem dX8_back_30 : decode cX8_back 30 = .ok (.invokevirtual 205, 3) := by decide +kernel
theorem dX8_back_33 : decode cX8_back 33 = .ok (.ifnull 9, 3) := by decide +kernel
theorem dX8_back_36 : decode cX8_back 36 = .ok (.iinc 2 1, 3) := by decide +kernel
theorem dX8_back_39 : decode cX8_back 39 = .ok (.goto (-15), 3) := by decide +kernel
theorem dX8_back_42 : decode cX8_back 42 = .ok (.aload_n 0, 1) := by decide +kernel
theorem dX8_back_43 : decode cX8_back 43 = .ok (.bipush 7, 2) := by decide +kernel
theorem dX8_back_45 : decode cX8_back 45 = .ok (.iconst (-1), 1) := by decide +kernel
theorem dX8_back_46 : decode cX8_back 46 = .ok (.invokevirtual 135, 3) := by decide +kernel
theorem dX8_back_49 : decode cX8_back 49 = .ok (.iload_n 2, 1) := by decide +kernel
theorem dX8_back_50 : decode cX8_back 50 = .ok (.ireturn, 1) := by decide +kernel
theorem dX8_isRunLength_0 : decode cX8_isRunLength 0 = .ok (.iload_n 0, 1) := by decide +kernel
theorem dX8_isRunLength_1 : decode cX8_isRunLength 1 = .ok (.iconst 1, 1) := by decide +kernel
theorem dX8_isRunLength_2 : decode cX8_isRunLength 2 = .ok (.if_icmp .lt 14, 3) := by decide +kernel
theorem dX8_isRunLength_5 : decode cX8_isRunLength 5 = .ok (.iload_n 0, 1) := by decide +kernel
theorem dX8_isRunLength_6 : decode cX8_isRunLength 6 = .ok (.sipush 500, 3) := by decide +kernel
theorem dX8_isRunLength_9 : decode cX8_isRunLength 9 = .ok (.if_icmp .gt 7, 3) := by decide +kernel
theorem dX8_isRunLength_12 : decode cX8_isRunLength 12 = .ok (.iconst 1, 1) := by decide +kernel
theorem dX8_isRunLength_13 : decode cX8_isRunLength 13 = .ok (.goto 4, 3) := by decide +kernel
theorem dX8_isRunLength_16 : decode cX8_isRunLength 16 = .ok (.iconst 0, 1) := by decide +kernel
theorem dX8_isRunLength_17 : decode cX8_isRunLength 17 = .ok (.ireturn, 1) := by decide +kernel
theorem dX8_stopBy_0 : decode cX8_stopBy 0 = .ok (.aload_n 0, 1) := by decide +kernel
theorem dX8_stopBy_1 : decode cX8_stopBy 1 = .ok (.iload_n 1, 1) := by decide +kernel
theorem dX8_stopBy_2 : decode cX8_stopBy 2 = .ok (.putfield 60, 3) := by decide +kernel
theorem dX8_stopBy_5 : decode cX8_stopBy 5 = .ok (.aload_n 0, 1) := by decide +kernel
theorem dX8_stopBy_6 : decode cX8_stopBy 6 = .ok (.iload_n 2, 1) := by decide +kernel
theorem dX8_stopBy_7 : decode cX8_stopBy 7 = .ok (.putfield 64, 3) := by decide +kernel
theorem dX8_stopBy_10 : decode cX8_stopBy 10 = .ok (.return_, 1) := by decide +kernel
theorem dX8_runTill_0 : decode cX8_runTill 0 = .ok (.iconst 0, 1) := by decide +kernel
theorem dX8_runTill_1 : decode cX8_runTill 1 = .ok (.istore_n 3, 1) := by decide +kernel
theorem dX8_runTill_2 : decode cX8_runTill 2 = .ok (.iload_n 3, 1) := by decide +kernel
theorem dX8_runTill_3 : decode cX8_runTill 3 = .ok (.iload_n 1, 1) := by decide +kernel
theorem dX8_runTill_4 : decode cX8_runTill 4 = .ok (.if_icmp .ge 51, 3) := by decide +kernel
theorem dX8_runTill_7 : decode cX8_runTill 7 = .ok (.aload_n 0, 1) := by decide +kernel
theorem dX8_runTill_8 : decode cX8_runTill 8 = .ok (.invokevirtual 213, 3) := by decide +kernel
theorem dX8_runTill_11 : decode cX8_runTill 11 = .ok (.ifCond .ne 26, 3) := by decide +kernel
theorem dX8_runTill_14 : decode cX8_runTill 14 = .ok (.aload_n 0, 1) := by decide +kernel
theorem dX8_runTill_15 : decode cX8_runTill 15 = .ok (.aload_n 0, 1) := by decide +kernel
theorem dX8_runTill_16 : decode cX8_runTill 16 = .ok (.getfield 28, 3) := by decide +kernel
theorem dX8_runTill_19 : decode cX8_runTill 19 = .ok (.getfield 216, 3) := by decide +kernel
theorem dX8_runTill_22 : decode cX8_runTill 22 = .ok (.iconst 1, 1) := by decide +kernel
theorem dX8_runTill_23 : decode cX8_runTill 23 = .ok (.if_icmp .ne 7, 3) := by decide +kernel
theorem dX8_runTill_26 : decode cX8_runTill 26 = .ok (.iconst 1, 1) := by decide +kernel
theorem dX8_runTill_27 : decode cX8_runTill 27 = .ok (.goto 4, 3) := by decide +kernel
theorem dX8_runTill_30 : decode cX8_runTill 30 = .ok (.iconst 2, 1) := by decide +kernel
theorem dX8_runTill_31 : decode cX8_runTill 31 = .ok (.iconst (-1), 1) := by decide +kernel
theorem dX8_runTill_32 : decode cX8_runTill 32 = .ok (.invokevirtual 135, 3) := by decide +kernel
theorem dX8_runTill_35 : decode cX8_runTill 35 = .ok (.iload_n 3, 1) := by decide +kernel
theorem dX8_runTill_36 : decode cX8_runTill 36 = .ok (.ireturn, 1) := by decide +kernel
theorem dX8_runTill_37 : decode cX8_runTill 37 = .ok (.aload_n 0, 1) := by decide +kernel
theorem dX8_runTill_38 : decode cX8_runTill 38 = .ok (.iload_n 2, 1) := by decide +kernel
theorem dX8_runTill_39 : decode cX8_runTill 39 = .ok (.invokevirtual 219, 3) := by decide +kernel
theorem dX8_runTill_42 : decode cX8_runTill 42 = .ok (.ifCond .eq 7, 3) := by decide +kernel
theorem dX8_runTill_45 : decode cX8_runTill 45 = .ok (.iload_n 3, 1) := by decide +kernel
theorem dX8_runTill_46 : decode cX8_runTill 46 = .ok (.iconst 1, 1) := by decide +kernel
theorem dX8_runTill_47 : decode cX8_runTill 47 = .ok (.iadd, 1) := by decide +kernel
theorem dX8_runTill_48 : decode cX8_runTill 48 = .ok (.ireturn, 1) := by decide +kernel
theorem dX8_runTill_49 : decode cX8_runTill 49 = .ok (.iinc 3 1, 3) := by decide +kernel
theorem dX8_runTill_52 : decode cX8_runTill 52 = .ok (.goto (-50), 3) := by decide +kernel
theorem dX8_runTill_55 : decode cX8_runTill 55 = .ok (.aload_n 0, 1) := by decide +kernel
theorem dX8_runTill_56 : decode cX8_runTill 56 = .ok (.bipush 6, 2) := by decide +kernel
theorem dX8_runTill_58 : decode cX8_runTill 58 = .ok (.iconst (-1), 1) := by decide +kernel
theorem dX8_runTill_59 : decode cX8_runTill 59 = .ok (.invokevirtual 135, 3) := by decide +kernel
theorem dX8_runTill_62 : decode cX8_runTill 62 = .ok (.iload_n 1, 1) := by decide +kernel
theorem dX8_runTill_63 : decode cX8_runTill 63 = .ok (.ireturn, 1) := by decide +kernel
theorem dX8_doStep_0 : decode cX8_doStep 0 = .ok (.aload_n 0, 1) := by decide +kernel
theorem dX8_doStep_1 : decode cX8_doStep 1 = .ok (.getfield 28, 3) := by decide +kernel
theorem dX8_doStep_4 : decode cX8_doStep 4 = .ok (.aload_n 0, 1) := by decide +kernel
theorem dX8_doStep_5 : decode cX8_doStep 5 = .ok (.getfield 10, 3) := by decide +kernel
theorem dX8_doStep_8 : decode cX8_doStep 8 = .ok (.invokevirtual 222, 3) := by decide +kernel
theorem dX8_doStep_11 : decode cX8_doStep 11 = .ok (.ifCond .ne 5, 3) := by decide +kernel
theorem dX8_doStep_14 : decode cX8_doStep 14 = .ok (.iconst 0, 1) := by decide +kernel
theorem dX8_doStep_15 : decode cX8_doStep 15 = .ok (.ireturn, 1) := by decide +kernel
theorem dX8_doStep_16 : decode cX8_doStep 16 = .ok (.aload_n 0, 1) := by decide +kernel
theorem dX8_doStep_17 : decode cX8_doStep 17 = .ok (.getfield 10, 3) := by decide +kernel
theorem dX8_doStep_20 : decode cX8_doStep 20 = .ok (.aload_n 0, 1) := by decide +kernel
theorem dX8_doStep_21 : decode cX8_doStep 21 = .ok (.getfield 28, 3) := by decide +kernel
theorem dX8_doStep_24 : decode cX8_doStep 24 = .ok (.getfield 226, 3) := by decide +kernel
theorem dX8_doStep_27 : decode cX8_doStep 27 = .ok (.invokevirtual 229, 3) := by decide +kernel
theorem dX8_doStep_30 : decode cX8_doStep 30 = .ok (.aload_n 0, 1) := by decide +kernel
theorem dX8_doStep_31 : decode cX8_doStep 31 = .ok (.getfield 28, 3) := by decide +kernel
theorem dX8_doStep_34 : decode cX8_doStep 34 = .ok (.aload_n 0, 1) := by decide +kernel
theorem dX8_doStep_35 : decode cX8_doStep 35 = .ok (.getfield 35, 3) := by decide +kernel
theorem dX8_doStep_38 : decode cX8_doStep 38 = .ok (.invokevirtual 232, 3) := by decide +kernel
theorem dX8_doStep_41 : decode cX8_doStep 41 = .ok (.aload_n 0, 1) := by decide +kernel
theorem dX8_doStep_42 : decode cX8_doStep 42 = .ok (.getfield 10, 3) := by decide +kernel
theorem dX8_doStep_45 : decode cX8_doStep 45 = .ok (.invokevirtual 235, 3) := by decide +kernel
theorem dX8_doStep_48 : decode cX8_doStep 48 = .ok (.aload_n 0, 1) := by decide +kernel
theorem dX8_doStep_49 : decode cX8_doStep 49 = .ok (.getfield 28, 3) := by decide +kernel
theorem dX8_doStep_52 : decode cX8_doStep 52 = .ok (.aload_n 0, 1) := by decide +kernel
theorem dX8_doStep_53 : decode cX8_doStep 53 = .ok (.getfield 10, 3) := by decide +kernel
theorem dX8_doStep_56 : decode cX8_doStep 56 = .ok (.aload_n 0, 1) := by decide +kernel
theorem dX8_doStep_57 : decode cX8_doStep 57 = .ok (.getfield 21, 3) := by decide +kernel
theorem dX8_doStep_60 : decode cX8_doStep 60 = .ok (.invokevirtual 239, 3) := by decide +kernel
theorem dX8_doStep_63 : decode cX8_doStep 63 = .ok (.iconst 1, 1) := by decide +kernel
theorem dX8_doStep_64 : decode cX8_doStep 64 = .ok (.ireturn, 1) := by decide +kernel
theorem dX8_stopsRun_0 : decode cX8_stopsRun 0 = .ok (.aload_n 0, 1) := by decide +kernel
theorem dX8_stopsRun_1 : decode cX8_stopsRun 1 = .ok (.getfield 28, 3) := by decide +kernel
theorem dX8_stopsRun_4 : decode cX8_stopsRun 4 = .ok (.getfield 216, 3) := by decide +kernel
theorem dX8_stopsRun_7 : decode cX8_stopsRun 7 = .ok (.iconst 1, 1) := by decide +kernel
theorem dX8_stopsRun_8 : decode cX8_stopsRun 8 = .ok (.if_icmp .ne 11, 3) := by decide +kernel
theorem dX8_stopsRun_11 : decode cX8_stopsRun 11 = .ok (.aload_n 0, 1) := by decide +kernel
theorem dX8_stopsRun_12 : decode cX8_stopsRun 12 = .ok (.iconst 1, 1) := by decide +kernel
theorem dX8_stopsRun_13 : decode cX8_stopsRun 13 = .ok (.iconst (-1), 1) := by decide +kernel
theorem dX8_stopsRun_14 : decode cX8_stopsRun 14 = .ok (.invokevirtual 135, 3) := by decide +kernel
theorem dX8_stopsRun_17 : decode cX8_stopsRun 17 = .ok (.iconst 1, 1) := by decide +kernel
theorem dX8_stopsRun_18 : decode cX8_stopsRun 18 = .ok (.ireturn, 1) := by decide +kernel
theorem dX8_stopsRun_19 : decode cX8_stopsRun 19 = .ok (.aload_n 0, 1) := by decide +kernel
theorem dX8_stopsRun_20 : decode cX8_stopsRun 20 = .ok (.invokevirtual 243, 3) := by decide +kernel
theorem dX8_stopsRun_23 : decode cX8_stopsRun 23 = .ok (.istore_n 2, 1) := by decide +kernel
theorem dX8_stopsRun_24 : decode cX8_stopsRun 24 = .ok (.iload_n 2, 1) := by decide +kernel
theorem dX8_stopsRun_25 : decode cX8_stopsRun 25 = .ok (.iconst (-1), 1) := by decide +kernel
theorem dX8_stopsRun_26 : decode cX8_stopsRun 26 = .ok (.if_icmp .eq 11, 3) := by decide +kernel
theorem dX8_stopsRun_29 : decode cX8_stopsRun 29 = .ok (.aload_n 0, 1) := by decide +kernel
theorem dX8_stopsRun_30 : decode cX8_stopsRun 30 = .ok (.iconst 3, 1) := by decide +kernel
theorem dX8_stopsRun_31 : decode cX8_stopsRun 31 = .ok (.iload_n 2, 1) := by decide +kernel
theorem dX8_stopsRun_32 : decode cX8_stopsRun 32 = .ok (.invokevirtual 135, 3) := by decide +kernel
theorem dX8_stopsRun_35 : decode cX8_stopsRun 35 = .ok (.iconst 1, 1) := by decide +kernel
theorem dX8_stopsRun_36 : decode cX8_stopsRun 36 = .ok (.ireturn, 1) := by decide +kernel
theorem dX8_stopsRun_37 : decode cX8_stopsRun 37 = .ok (.aload_n 0, 1) := by decide +kernel
theorem dX8_stopsRun_38 : decode cX8_stopsRun 38 = .ok (.getfield 28, 3) := by decide +kernel
theorem dX8_stopsRun_41 : decode cX8_stopsRun 41 = .ok (.getfield 198, 3) := by decide +kernel
theorem dX8_stopsRun_44 : decode cX8_stopsRun 44 = .ok (.invokevirtual 124, 3) := by decide +kernel
theorem dX8_stopsRun_47 : decode cX8_stopsRun 47 = .ok (.iload_n 1, 1) := by decide +kernel
theorem dX8_stopsRun_48 : decode cX8_stopsRun 48 = .ok (.if_icmp .gt 11, 3) := by decide +kernel
theorem dX8_stopsRun_51 : decode cX8_stopsRun 51 = .ok (.aload_n 0, 1) := by decide +kernel
theorem dX8_stopsRun_52 : decode cX8_stopsRun 52 = .ok (.iconst 4, 1) := by decide +kernel
theorem dX8_stopsRun_53 : decode cX8_stopsRun 53 = .ok (.iconst (-1), 1) := by decide +kernel
theorem dX8_stopsRun_54 : decode cX8_stopsRun 54 = .ok (.invokevirtual 135, 3) := by decide +kernel
theorem dX8_stopsRun_57 : decode cX8_stopsRun 57 = .ok (.iconst 1, 1) := by decide +kernel
theorem dX8_stopsRun_58 : decode cX8_stopsRun 58 = .ok (.ireturn, 1) := by decide +kernel
theorem dX8_stopsRun_59 : decode cX8_stopsRun 59 = .ok (.aload_n 0, 1) := by decide +kernel
theorem dX8_stopsRun_60 : decode cX8_stopsRun 60 = .ok (.invokevirtual 246, 3) := by decide +kernel
theorem dX8_stopsRun_63 : decode cX8_stopsRun 63 = .ok (.istore_n 3, 1) := by decide +kernel
theorem dX8_stopsRun_64 : decode cX8_stopsRun 64 = .ok (.aload_n 0, 1) := by decide +kernel
theorem dX8_stopsRun_65 : decode cX8_stopsRun 65 = .ok (.iload_n 3, 1) := by decide +kernel
theorem dX8_stopsRun_66 : decode cX8_stopsRun 66 = .ok (.invokevirtual 151, 3) := by decide +kernel
theorem dX8_stopsRun_69 : decode cX8_stopsRun 69 = .ok (.astore 4, 2) := by decide +kernel
theorem dX8_stopsRun_71 : decode cX8_stopsRun 71 = .ok (.aload 4, 2) := by decide +kernel
theorem dX8_stopsRun_73 : decode cX8_stopsRun 73 = .ok (.ifnull 22, 3) := by decide +kernel
theorem dX8_stopsRun_76 : decode cX8_stopsRun 76 = .ok (.aload_n 0, 1) := by decide +kernel
theorem dX8_stopsRun_77 : decode cX8_stopsRun 77 = .ok (.iconst 5, 1) := by decide +kernel
theorem dX8_stopsRun_78 : decode cX8_stopsRun 78 = .ok (.iload_n 3, 1) := by decide +kernel
theorem dX8_stopsRun_79 : decode cX8_stopsRun 79 = .ok (.invokevirtual 135, 3) := by decide +kernel
theorem dX8_stopsRun_82 : decode cX8_stopsRun 82 = .ok (.aload 4, 2) := by decide +kernel
theorem dX8_stopsRun_84 : decode cX8_stopsRun 84 = .ok (.dup, 1) := by decide +kernel
theorem dX8_stopsRun_85 : decode cX8_stopsRun 85 = .ok (.getfield 249, 3) := by decide +kernel
theorem dX8_stopsRun_88 : decode cX8_stopsRun 88 = .ok (.iconst 1, 1) := by decide +kernel
theorem dX8_stopsRun_89 : decode cX8_stopsRun 89 = .ok (.iadd, 1) := by decide +kernel
theorem dX8_stopsRun_90 : decode cX8_stopsRun 90 = .ok (.putfield 249, 3) := by decide +kernel
theorem dX8_stopsRun_93 : decode cX8_stopsRun 93 = .ok (.iconst 1, 1) := by decide +kernel
theorem dX8_stopsRun_94 : decode cX8_stopsRun 94 = .ok (.ireturn, 1) := by decide +kernel
theorem dX8_stopsRun_95 : decode cX8_stopsRun 95 = .ok (.iconst 0, 1) := by decide +kernel
theorem dX8_stopsRun_96 : decode cX8_stopsRun 96 = .ok (.ireturn, 1) := by decide +kernel
theorem dX8_watchMet_0 : decode cX8_watchMet 0 = .ok (.aload_n 0, 1) := by decide +kernel
theorem dX8_watchMet_1 : decode cX8_watchMet 1 = .ok (.getfield 35, 3) := by decide +kernel
theorem dX8_watchMet_4 : decode cX8_watchMet 4 = .ok (.iconst 1, 1) := by decide +kernel
theorem dX8_watchMet_5 : decode cX8_watchMet 5 = .ok (.invokevirtual 252, 3) := by decide +kernel
theorem dX8_watchMet_8 : decode cX8_watchMet 8 = .ok (.astore_n 1, 1) := by decide +kernel
theorem dX8_watchMet_9 : decode cX8_watchMet 9 = .ok (.aload_n 1, 1) := by decide +kernel
theorem dX8_watchMet_10 : decode cX8_watchMet 10 = .ok (.ifnonnull 5, 3) := by decide +kernel
theorem dX8_watchMet_13 : decode cX8_watchMet 13 = .ok (.iconst (-1), 1) := by decide +kernel
theorem dX8_watchMet_14 : decode cX8_watchMet 14 = .ok (.ireturn, 1) := by decide +kernel
theorem dX8_watchMet_15 : decode cX8_watchMet 15 = .ok (.iconst 0, 1) := by decide +kernel
theorem dX8_watchMet_16 : decode cX8_watchMet 16 = .ok (.istore_n 2, 1) := by decide +kernel
theorem dX8_watchMet_17 : decode cX8_watchMet 17 = .ok (.iload_n 2, 1) := by decide +kernel
theorem dX8_watchMet_18 : decode cX8_watchMet 18 = .ok (.aload_n 0, 1) := by decide +kernel
theorem dX8_watchMet_19 : decode cX8_watchMet 19 = .ok (.getfield 182, 3) := by decide +kernel
theorem dX8_watchMet_22 : decode cX8_watchMet 22 = .ok (.if_icmp .ge 29, 3) := by decide +kernel
theorem dX8_watchMet_25 : decode cX8_watchMet 25 = .ok (.aload_n 0, 1) := by decide +kernel
theorem dX8_watchMet_26 : decode cX8_watchMet 26 = .ok (.iload_n 2, 1) := by decide +kernel
theorem dX8_watchMet_27 : decode cX8_watchMet 27 = .ok (.invokevirtual 256, 3) := by decide +kernel
theorem dX8_watchMet_30 : decode cX8_watchMet 30 = .ok (.astore_n 3, 1) := by decide +kernel
theorem dX8_watchMet_31 : decode cX8_watchMet 31 = .ok (.aload_n 3, 1) := by decide +kernel
theorem dX8_watchMet_32 : decode cX8_watchMet 32 = .ok (.ifnull 13, 3) := by decide +kernel
theorem dX8_watchMet_35 : decode cX8_watchMet 35 = .ok (.aload_n 3, 1) := by decide +kernel
theorem dX8_watchMet_36 : decode cX8_watchMet 36 = .ok (.aload_n 1, 1) := by decide +kernel
theorem dX8_watchMet_37 : decode cX8_watchMet 37 = .ok (.invokevirtual 260, 3) := by decide +kernel
theorem dX8_watchMet_40 : decode cX8_watchMet 40 = .ok (.ifCond .eq 5, 3) := by decide +kernel
theorem dX8_watchMet_43 : decode cX8_watchMet 43 = .ok (.iload_n 2, 1) := by decide +kernel
theorem dX8_watchMet_44 : decode cX8_watchMet 44 = .ok (.ireturn, 1) := by decide +kernel
theorem dX8_watchMet_45 : decode cX8_watchMet 45 = .ok (.iinc 2 1, 3) := by decide +kernel
theorem dX8_watchMet_48 : decode cX8_watchMet 48 = .ok (.goto (-31), 3) := by decide +kernel
theorem dX8_watchMet_51 : decode cX8_watchMet 51 = .ok (.iconst (-1), 1) := by decide +kernel
theorem dX8_watchMet_52 : decode cX8_watchMet 52 = .ok (.ireturn, 1) := by decide +kernel
theorem dX8_pointStopping_0 : decode cX8_pointStopping 0 = .ok (.iconst (-1), 1) := by decide +kernel
theorem dX8_pointStopping_1 : decode cX8_pointStopping 1 = .ok (.istore_n 1, 1) := by decide +kernel
theorem dX8_pointStopping_2 : decode cX8_pointStopping 2 = .ok (.iconst 0, 1) := by decide +kernel
theorem dX8_pointStopping_3 : decode cX8_pointStopping 3 = .ok (.istore_n 2, 1) := by decide +kernel
theorem dX8_pointStopping_4 : decode cX8_pointStopping 4 = .ok (.iload_n 2, 1) := by decide +kernel
theorem dX8_pointStopping_5 : decode cX8_pointStopping 5 = .ok (.aload_n 0, 1) := by decide +kernel
theorem dX8_pointStopping_6 : decode cX8_pointStopping 6 = .ok (.getfield 143, 3) := by decide +kernel
theorem dX8_pointStopping_9 : decode cX8_pointStopping 9 = .ok (.if_icmp .ge 44, 3) := by decide +kernel
theorem dX8_pointStopping_12 : decode cX8_pointStopping 12 = .ok (.aload_n 0, 1) := by decide +kernel
theorem dX8_pointStopping_13 : decode cX8_pointStopping 13 = .ok (.iload_n 2, 1) := by decide +kernel
theorem dX8_pointStopping_14 : decode cX8_pointStopping 14 = .ok (.invokevirtual 151, 3) := by decide +kernel
theorem dX8_pointStopping_17 : decode cX8_pointStopping 17 = .ok (.astore_n 3, 1) := by decide +kernel
theorem dX8_pointStopping_18 : decode cX8_pointStopping 18 = .ok (.aload_n 3, 1) := by decide +kernel
theorem dX8_pointStopping_19 : decode cX8_pointStopping 19 = .ok (.ifnull 28, 3) := by decide +kernel
theorem dX8_pointStopping_22 : decode cX8_pointStopping 22 = .ok (.aload_n 3, 1) := by decide +kernel
theorem dX8_pointStopping_23 : decode cX8_pointStopping 23 = .ok (.aload_n 0, 1) := by decide +kernel
theorem dX8_pointStopping_24 : decode cX8_pointStopping 24 = .ok (.getfield 28, 3) := by decide +kernel
theorem dX8_pointStopping_27 : decode cX8_pointStopping 27 = .ok (.invokevirtual 263, 3) := by decide +kernel
theorem dX8_pointStopping_30 : decode cX8_pointStopping 30 = .ok (.ifCond .eq 17, 3) := by decide +kernel
theorem dX8_pointStopping_33 : decode cX8_pointStopping 33 = .ok (.aload_n 3, 1) := by decide +kernel
theorem dX8_pointStopping_34 : decode cX8_pointStopping 34 = .ok (.invokevirtual 267, 3) := by decide +kernel
theorem dX8_pointStopping_37 : decode cX8_pointStopping 37 = .ok (.ifCond .ne 10, 3) := by decide +kernel
theorem dX8_pointStopping_40 : decode cX8_pointStopping 40 = .ok (.iload_n 1, 1) := by decide +kernel
theorem dX8_pointStopping_41 : decode cX8_pointStopping 41 = .ok (.iconst (-1), 1) := by decide +kernel
theorem dX8_pointStopping_42 : decode cX8_pointStopping 42 = .ok (.if_icmp .ne 5, 3) := by decide +kernel
theorem dX8_pointStopping_45 : decode cX8_pointStopping 45 = .ok (.iload_n 2, 1) := by decide +kernel
theorem dX8_pointStopping_46 : decode cX8_pointStopping 46 = .ok (.istore_n 1, 1) := by decide +kernel
theorem dX8_pointStopping_47 : decode cX8_pointStopping 47 = .ok (.iinc 2 1, 3) := by decide +kernel
theorem dX8_pointStopping_50 : decode cX8_pointStopping 50 = .ok (.goto (-46), 3) := by decide +kernel
theorem dX8_pointStopping_53 : decode cX8_pointStopping 53 = .ok (.iload_n 1, 1) := by decide +kernel
theorem dX8_pointStopping_54 : decode cX8_pointStopping 54 = .ok (.ireturn, 1) := by decide +kernel
theorem dX8_goBack_0 : decode cX8_goBack 0 = .ok (.aload_n 0, 1) := by decide +kernel
theorem dX8_goBack_1 : decode cX8_goBack 1 = .ok (.getfield 35, 3) := by decide +kernel
theorem dX8_goBack_4 : decode cX8_goBack 4 = .ok (.iconst 1, 1) := by decide +kernel
theorem dX8_goBack_5 : decode cX8_goBack 5 = .ok (.invokevirtual 252, 3) := by decide +kernel
theorem dX8_goBack_8 : decode cX8_goBack 8 = .ok (.astore_n 1, 1) := by decide +kernel
theorem dX8_goBack_9 : decode cX8_goBack 9 = .ok (.aload_n 1, 1) := by decide +kernel
theorem dX8_goBack_10 : decode cX8_goBack 10 = .ok (.ifnull 18, 3) := by decide +kernel
theorem dX8_goBack_13 : decode cX8_goBack 13 = .ok (.aload_n 0, 1) := by decide +kernel
theorem dX8_goBack_14 : decode cX8_goBack 14 = .ok (.getfield 28, 3) := by decide +kernel
theorem dX8_goBack_17 : decode cX8_goBack 17 = .ok (.aload_n 1, 1) := by decide +kernel
theorem dX8_goBack_18 : decode cX8_goBack 18 = .ok (.invokevirtual 270, 3) := by decide +kernel
theorem dX8_goBack_21 : decode cX8_goBack 21 = .ok (.aload_n 0, 1) := by decide +kernel
theorem dX8_goBack_22 : decode cX8_goBack 22 = .ok (.getfield 35, 3) := by decide +kernel
theorem dX8_goBack_25 : decode cX8_goBack 25 = .ok (.invokevirtual 274, 3) := by decide +kernel
theorem dX8_goBack_28 : decode cX8_goBack 28 = .ok (.aload_n 1, 1) := by decide +kernel
theorem dX8_goBack_29 : decode cX8_goBack 29 = .ok (.areturn, 1) := by decide +kernel
theorem dX8_told_0 : decode cX8_told 0 = .ok (.iload_n 1, 1) := by decide +kernel
theorem dX8_told_1 : decode cX8_told 1 = .ok (.tableswitch 138 0 9 #[55, 63, 71, 79, 90, 101, 109, 120, 128, 133], 55) := by decide +kernel
theorem dX8_told_56 : decode cX8_told 56 = .ok (.aload_n 0, 1) := by decide +kernel
theorem dX8_told_57 : decode cX8_told 57 = .ok (.getfield 28, 3) := by decide +kernel
theorem dX8_told_60 : decode cX8_told 60 = .ok (.getfield 226, 3) := by decide +kernel
theorem dX8_told_63 : decode cX8_told 63 = .ok (.ireturn, 1) := by decide +kernel
theorem dX8_told_64 : decode cX8_told 64 = .ok (.aload_n 0, 1) := by decide +kernel
theorem dX8_told_65 : decode cX8_told 65 = .ok (.getfield 28, 3) := by decide +kernel
theorem dX8_told_68 : decode cX8_told 68 = .ok (.getfield 216, 3) := by decide +kernel
theorem dX8_told_71 : decode cX8_told 71 = .ok (.ireturn, 1) := by decide +kernel
theorem dX8_told_72 : decode cX8_told 72 = .ok (.aload_n 0, 1) := by decide +kernel
theorem dX8_told_73 : decode cX8_told 73 = .ok (.getfield 28, 3) := by decide +kernel
theorem dX8_told_76 : decode cX8_told 76 = .ok (.getfield 283, 3) := by decide +kernel
theorem dX8_told_79 : decode cX8_told 79 = .ok (.ireturn, 1) := by decide +kernel
theorem dX8_told_80 : decode cX8_told 80 = .ok (.aload_n 0, 1) := by decide +kernel
theorem dX8_told_81 : decode cX8_told 81 = .ok (.getfield 28, 3) := by decide +kernel
theorem dX8_told_84 : decode cX8_told 84 = .ok (.getfield 286, 3) := by decide +kernel
theorem dX8_told_87 : decode cX8_told 87 = .ok (.invokevirtual 124, 3) := by decide +kernel
theorem dX8_told_90 : decode cX8_told 90 = .ok (.ireturn, 1) := by decide +kernel
theorem dX8_told_91 : decode cX8_told 91 = .ok (.aload_n 0, 1) := by decide +kernel
theorem dX8_told_92 : decode cX8_told 92 = .ok (.getfield 28, 3) := by decide +kernel
theorem dX8_told_95 : decode cX8_told 95 = .ok (.getfield 198, 3) := by decide +kernel
theorem dX8_told_98 : decode cX8_told 98 = .ok (.invokevirtual 124, 3) := by decide +kernel
theorem dX8_told_101 : decode cX8_told 101 = .ok (.ireturn, 1) := by decide +kernel
theorem dX8_told_102 : decode cX8_told 102 = .ok (.aload_n 0, 1) := by decide +kernel
theorem dX8_told_103 : decode cX8_told 103 = .ok (.getfield 28, 3) := by decide +kernel
theorem dX8_told_106 : decode cX8_told 106 = .ok (.getfield 289, 3) := by decide +kernel
theorem dX8_told_109 : decode cX8_told 109 = .ok (.ireturn, 1) := by decide +kernel
theorem dX8_told_110 : decode cX8_told 110 = .ok (.aload_n 0, 1) := by decide +kernel
theorem dX8_told_111 : decode cX8_told 111 = .ok (.getfield 28, 3) := by decide +kernel
theorem dX8_told_114 : decode cX8_told 114 = .ok (.getfield 292, 3) := by decide +kernel
theorem dX8_told_117 : decode cX8_told 117 = .ok (.invokevirtual 124, 3) := by decide +kernel
theorem dX8_told_120 : decode cX8_told 120 = .ok (.ireturn, 1) := by decide +kernel
theorem dX8_told_121 : decode cX8_told 121 = .ok (.aload_n 0, 1) := by decide +kernel
theorem dX8_told_122 : decode cX8_told 122 = .ok (.getfield 35, 3) := by decide +kernel
theorem dX8_told_125 : decode cX8_told 125 = .ok (.invokevirtual 295, 3) := by decide +kernel
theorem dX8_told_128 : decode cX8_told 128 = .ok (.ireturn, 1) := by decide +kernel
theorem dX8_told_129 : decode cX8_told 129 = .ok (.aload_n 0, 1) := by decide +kernel
theorem dX8_told_130 : decode cX8_told 130 = .ok (.getfield 60, 3) := by decide +kernel
theorem dX8_told_133 : decode cX8_told 133 = .ok (.ireturn, 1) := by decide +kernel
theorem dX8_told_134 : decode cX8_told 134 = .ok (.aload_n 0, 1) := by decide +kernel
theorem dX8_told_135 : decode cX8_told 135 = .ok (.getfield 64, 3) := by decide +kernel
theorem dX8_told_138 : decode cX8_told 138 = .ok (.ireturn, 1) := by decide +kernel
theorem dX8_told_139 : decode cX8_told 139 = .ok (.new 77, 3) := by decide +kernel
theorem dX8_told_142 : decode cX8_told 142 = .ok (.dup, 1) := by decide +kernel
theorem dX8_told_143 : decode cX8_told 143 = .ok (.ldc_w 296, 3) := by decide +kernel
theorem dX8_told_146 : decode cX8_told 146 = .ok (.invokespecial 81, 3) := by decide +kernel
theorem dX8_told_149 : decode cX8_told 149 = .ok (.athrow, 1) := by decide +kernel
theorem dX8_stack_0 : decode cX8_stack 0 = .ok (.aload_n 0, 1) := by decide +kernel
theorem dX8_stack_1 : decode cX8_stack 1 = .ok (.getfield 28, 3) := by decide +kernel
theorem dX8_stack_4 : decode cX8_stack 4 = .ok (.getfield 286, 3) := by decide +kernel
theorem dX8_stack_7 : decode cX8_stack 7 = .ok (.iload_n 1, 1) := by decide +kernel
theorem dX8_stack_8 : decode cX8_stack 8 = .ok (.invokevirtual 298, 3) := by decide +kernel
theorem dX8_stack_11 : decode cX8_stack 11 = .ok (.ifCond .ne 14, 3) := by decide +kernel
theorem dX8_stack_14 : decode cX8_stack 14 = .ok (.new 105, 3) := by decide +kernel
theorem dX8_stack_17 : decode cX8_stack 17 = .ok (.dup, 1) := by decide +kernel
theorem dX8_stack_18 : decode cX8_stack 18 = .ok (.ldc_w 299, 3) := by decide +kernel
theorem dX8_stack_21 : decode cX8_stack 21 = .ok (.invokespecial 109, 3) := by decide +kernel
theorem dX8_stack_24 : decode cX8_stack 24 = .ok (.athrow, 1) := by decide +kernel
theorem dX8_stack_25 : decode cX8_stack 25 = .ok (.aload_n 0, 1) := by decide +kernel
theorem dX8_stack_26 : decode cX8_stack 26 = .ok (.getfield 28, 3) := by decide +kernel
theorem dX8_stack_29 : decode cX8_stack 29 = .ok (.getfield 286, 3) := by decide +kernel
theorem dX8_stack_32 : decode cX8_stack 32 = .ok (.iload_n 1, 1) := by decide +kernel
theorem dX8_stack_33 : decode cX8_stack 33 = .ok (.invokevirtual 301, 3) := by decide +kernel
theorem dX8_stack_36 : decode cX8_stack 36 = .ok (.ireturn, 1) := by decide +kernel
theorem dX8_cell_0 : decode cX8_cell 0 = .ok (.iload_n 1, 1) := by decide +kernel
theorem dX8_cell_1 : decode cX8_cell 1 = .ok (.invokestatic 157, 3) := by decide +kernel
theorem dX8_cell_4 : decode cX8_cell 4 = .ok (.ifCond .ne 14, 3) := by decide +kernel
theorem dX8_cell_7 : decode cX8_cell 7 = .ok (.new 105, 3) := by decide +kernel
theorem dX8_cell_10 : decode cX8_cell 10 = .ok (.dup, 1) := by decide +kernel
theorem dX8_cell_11 : decode cX8_cell 11 = .ok (.ldc_w 304, 3) := by decide +kernel
theorem dX8_cell_14 : decode cX8_cell 14 = .ok (.invokespecial 109, 3) := by decide +kernel
theorem dX8_cell_17 : decode cX8_cell 17 = .ok (.athrow, 1) := by decide +kernel
theorem dX8_cell_18 : decode cX8_cell 18 = .ok (.aload_n 0, 1) := by decide +kernel
theorem dX8_cell_19 : decode cX8_cell 19 = .ok (.getfield 28, 3) := by decide +kernel
theorem dX8_cell_22 : decode cX8_cell 22 = .ok (.getfield 306, 3) := by decide +kernel
theorem dX8_cell_25 : decode cX8_cell 25 = .ok (.iload_n 1, 1) := by decide +kernel
theorem dX8_cell_26 : decode cX8_cell 26 = .ok (.invokevirtual 309, 3) := by decide +kernel
theorem dX8_cell_29 : decode cX8_cell 29 = .ok (.ireturn, 1) := by decide +kernel
theorem dX8_frame_0 : decode cX8_frame 0 = .ok (.aload_n 0, 1) := by decide +kernel
theorem dX8_frame_1 : decode cX8_frame 1 = .ok (.getfield 28, 3) := by decide +kernel
theorem dX8_frame_4 : decode cX8_frame 4 = .ok (.getfield 198, 3) := by decide +kernel
theorem dX8_frame_7 : decode cX8_frame 7 = .ok (.iload_n 1, 1) := by decide +kernel
theorem dX8_frame_8 : decode cX8_frame 8 = .ok (.invokevirtual 298, 3) := by decide +kernel
theorem dX8_frame_11 : decode cX8_frame 11 = .ok (.ifCond .ne 14, 3) := by decide +kernel
theorem dX8_frame_14 : decode cX8_frame 14 = .ok (.new 105, 3) := by decide +kernel
theorem dX8_frame_17 : decode cX8_frame 17 = .ok (.dup, 1) := by decide +kernel
theorem dX8_frame_18 : decode cX8_frame 18 = .ok (.ldc_w 312, 3) := by decide +kernel
theorem dX8_frame_21 : decode cX8_frame 21 = .ok (.invokespecial 109, 3) := by decide +kernel
theorem dX8_frame_24 : decode cX8_frame 24 = .ok (.athrow, 1) := by decide +kernel
theorem dX8_frame_25 : decode cX8_frame 25 = .ok (.aload_n 0, 1) := by decide +kernel
theorem dX8_frame_26 : decode cX8_frame 26 = .ok (.getfield 28, 3) := by decide +kernel
theorem dX8_frame_29 : decode cX8_frame 29 = .ok (.getfield 198, 3) := by decide +kernel
theorem dX8_frame_32 : decode cX8_frame 32 = .ok (.iload_n 1, 1) := by decide +kernel
theorem dX8_frame_33 : decode cX8_frame 33 = .ok (.invokevirtual 301, 3) := by decide +kernel
theorem dX8_frame_36 : decode cX8_frame 36 = .ok (.ireturn, 1) := by decide +kernel
theorem dX8_output_0 : decode cX8_output 0 = .ok (.aload_n 0, 1) := by decide +kernel
theorem dX8_output_1 : decode cX8_output 1 = .ok (.getfield 28, 3) := by decide +kernel
theorem dX8_output_4 : decode cX8_output 4 = .ok (.getfield 292, 3) := by decide +kernel
theorem dX8_output_7 : decode cX8_output 7 = .ok (.iload_n 1, 1) := by decide +kernel
theorem dX8_output_8 : decode cX8_output 8 = .ok (.invokevirtual 298, 3) := by decide +kernel
theorem dX8_output_11 : decode cX8_output 11 = .ok (.ifCond .ne 14, 3) := by decide +kernel
theorem dX8_output_14 : decode cX8_output 14 = .ok (.new 105, 3) := by decide +kernel
theorem dX8_output_17 : decode cX8_output 17 = .ok (.dup, 1) := by decide +kernel
theorem dX8_output_18 : decode cX8_output 18 = .ok (.ldc_w 314, 3) := by decide +kernel
theorem dX8_output_21 : decode cX8_output 21 = .ok (.invokespecial 109, 3) := by decide +kernel
theorem dX8_output_24 : decode cX8_output 24 = .ok (.athrow, 1) := by decide +kernel
theorem dX8_output_25 : decode cX8_output 25 = .ok (.aload_n 0, 1) := by decide +kernel
theorem dX8_output_26 : decode cX8_output 26 = .ok (.getfield 28, 3) := by decide +kernel
theorem dX8_output_29 : decode cX8_output 29 = .ok (.getfield 292, 3) := by decide +kernel
theorem dX8_output_32 : decode cX8_output 32 = .ok (.iload_n 1, 1) := by decide +kernel
theorem dX8_output_33 : decode cX8_output 33 = .ok (.invokevirtual 309, 3) := by decide +kernel
theorem dX8_output_36 : decode cX8_output 36 = .ok (.ireturn, 1) := by decide +kernel
theorem dX8_ofStep_0 : decode cX8_ofStep 0 = .ok (.aload_n 0, 1) := by decide +kernel
theorem dX8_ofStep_1 : decode cX8_ofStep 1 = .ok (.getfield 10, 3) := by decide +kernel
theorem dX8_ofStep_4 : decode cX8_ofStep 4 = .ok (.iload_n 1, 1) := by decide +kernel
theorem dX8_ofStep_5 : decode cX8_ofStep 5 = .ok (.invokevirtual 101, 3) := by decide +kernel
theorem dX8_ofStep_8 : decode cX8_ofStep 8 = .ok (.ifCond .ne 13, 3) := by decide +kernel
theorem dX8_ofStep_11 : decode cX8_ofStep 11 = .ok (.new 105, 3) := by decide +kernel
theorem dX8_ofStep_14 : decode cX8_ofStep 14 = .ok (.dup, 1) := by decide +kernel
theorem dX8_ofStep_15 : decode cX8_ofStep 15 = .ok (.ldc 107, 2) := by decide +kernel
theorem dX8_ofStep_17 : decode cX8_ofStep 17 = .ok (.invokespecial 109, 3) := by decide +kernel
theorem dX8_ofStep_20 : decode cX8_ofStep 20 = .ok (.athrow, 1) := by decide +kernel
theorem dX8_ofStep_21 : decode cX8_ofStep 21 = .ok (.iload_n 2, 1) := by decide +kernel
theorem dX8_ofStep_22 : decode cX8_ofStep 22 = .ok (.tableswitch 53 0 2 #[26, 35, 44], 26) := by decide +kernel
theorem dX8_ofStep_48 : decode cX8_ofStep 48 = .ok (.aload_n 0, 1) := by decide +kernel
theorem dX8_ofStep_49 : decode cX8_ofStep 49 = .ok (.getfield 10, 3) := by decide +kernel
theorem dX8_ofStep_52 : decode cX8_ofStep 52 = .ok (.iload_n 1, 1) := by decide +kernel
theorem dX8_ofStep_53 : decode cX8_ofStep 53 = .ok (.invokevirtual 110, 3) := by decide +kernel
theorem dX8_ofStep_56 : decode cX8_ofStep 56 = .ok (.ireturn, 1) := by decide +kernel
theorem dX8_ofStep_57 : decode cX8_ofStep 57 = .ok (.aload_n 0, 1) := by decide +kernel
theorem dX8_ofStep_58 : decode cX8_ofStep 58 = .ok (.getfield 10, 3) := by decide +kernel
theorem dX8_ofStep_61 : decode cX8_ofStep 61 = .ok (.iload_n 1, 1) := by decide +kernel
theorem dX8_ofStep_62 : decode cX8_ofStep 62 = .ok (.invokevirtual 316, 3) := by decide +kernel
theorem dX8_ofStep_65 : decode cX8_ofStep 65 = .ok (.ireturn, 1) := by decide +kernel
theorem dX8_ofStep_66 : decode cX8_ofStep 66 = .ok (.aload_n 0, 1) := by decide +kernel
theorem dX8_ofStep_67 : decode cX8_ofStep 67 = .ok (.getfield 10, 3) := by decide +kernel
theorem dX8_ofStep_70 : decode cX8_ofStep 70 = .ok (.iload_n 1, 1) := by decide +kernel
theorem dX8_ofStep_71 : decode cX8_ofStep 71 = .ok (.invokevirtual 319, 3) := by decide +kernel
theorem dX8_ofStep_74 : decode cX8_ofStep 74 = .ok (.ireturn, 1) := by decide +kernel
theorem dX8_ofStep_75 : decode cX8_ofStep 75 = .ok (.new 77, 3) := by decide +kernel
theorem dX8_ofStep_78 : decode cX8_ofStep 78 = .ok (.dup, 1) := by decide +kernel
theorem dX8_ofStep_79 : decode cX8_ofStep 79 = .ok (.ldc_w 322, 3) := by decide +kernel
theorem dX8_ofStep_82 : decode cX8_ofStep 82 = .ok (.invokespecial 81, 3) := by decide +kernel
theorem dX8_ofStep_85 : decode cX8_ofStep 85 = .ok (.athrow, 1) := by decide +kernel
theorem dX8_ofPoint_0 : decode cX8_ofPoint 0 = .ok (.aload_n 0, 1) := by decide +kernel
theorem dX8_ofPoint_1 : decode cX8_ofPoint 1 = .ok (.iload_n 1, 1) := by decide +kernel
theorem dX8_ofPoint_2 : decode cX8_ofPoint 2 = .ok (.invokevirtual 151, 3) := by decide +kernel
theorem dX8_ofPoint_5 : decode cX8_ofPoint 5 = .ok (.astore_n 3, 1) := by decide +kernel
theorem dX8_ofPoint_6 : decode cX8_ofPoint 6 = .ok (.aload_n 3, 1) := by decide +kernel
theorem dX8_ofPoint_7 : decode cX8_ofPoint 7 = .ok (.ifnonnull 13, 3) := by decide +kernel
theorem dX8_ofPoint_10 : decode cX8_ofPoint 10 = .ok (.new 105, 3) := by decide +kernel
theorem dX8_ofPoint_13 : decode cX8_ofPoint 13 = .ok (.dup, 1) := by decide +kernel
theorem dX8_ofPoint_14 : decode cX8_ofPoint 14 = .ok (.ldc 155, 2) := by decide +kernel
theorem dX8_ofPoint_16 : decode cX8_ofPoint 16 = .ok (.invokespecial 109, 3) := by decide +kernel
theorem dX8_ofPoint_19 : decode cX8_ofPoint 19 = .ok (.athrow, 1) := by decide +kernel
theorem dX8_ofPoint_20 : decode cX8_ofPoint 20 = .ok (.iload_n 2, 1) := by decide +kernel
theorem dX8_ofPoint_21 : decode cX8_ofPoint 21 = .ok (.tableswitch 54 0 3 #[31, 36, 44, 49], 31) := by decide +kernel
theorem dX8_ofPoint_52 : decode cX8_ofPoint 52 = .ok (.aload_n 3, 1) := by decide +kernel
theorem dX8_ofPoint_53 : decode cX8_ofPoint 53 = .ok (.getfield 324, 3) := by decide +kernel
theorem dX8_ofPoint_56 : decode cX8_ofPoint 56 = .ok (.ireturn, 1) := by decide +kernel
theorem dX8_ofPoint_57 : decode cX8_ofPoint 57 = .ok (.aload_n 3, 1) := by decide +kernel
theorem dX8_ofPoint_58 : decode cX8_ofPoint 58 = .ok (.getfield 176, 3) := by decide +kernel
theorem dX8_ofPoint_61 : decode cX8_ofPoint 61 = .ok (.invokestatic 327, 3) := by decide +kernel
theorem dX8_ofPoint_64 : decode cX8_ofPoint 64 = .ok (.ireturn, 1) := by decide +kernel
theorem dX8_ofPoint_65 : decode cX8_ofPoint 65 = .ok (.aload_n 3, 1) := by decide +kernel
theorem dX8_ofPoint_66 : decode cX8_ofPoint 66 = .ok (.getfield 173, 3) := by decide +kernel
theorem dX8_ofPoint_69 : decode cX8_ofPoint 69 = .ok (.ireturn, 1) := by decide +kernel
theorem dX8_ofPoint_70 : decode cX8_ofPoint 70 = .ok (.aload_n 3, 1) := by decide +kernel
theorem dX8_ofPoint_71 : decode cX8_ofPoint 71 = .ok (.getfield 249, 3) := by decide +kernel
theorem dX8_ofPoint_74 : decode cX8_ofPoint 74 = .ok (.ireturn, 1) := by decide +kernel
theorem dX8_ofPoint_75 : decode cX8_ofPoint 75 = .ok (.new 77, 3) := by decide +kernel
theorem dX8_ofPoint_78 : decode cX8_ofPoint 78 = .ok (.dup, 1) := by decide +kernel
theorem dX8_ofPoint_79 : decode cX8_ofPoint 79 = .ok (.ldc_w 331, 3) := by decide +kernel
theorem dX8_ofPoint_82 : decode cX8_ofPoint 82 = .ok (.invokespecial 81, 3) := by decide +kernel
theorem dX8_ofPoint_85 : decode cX8_ofPoint 85 = .ok (.athrow, 1) := by decide +kernel
theorem dX8_then_0 : decode cX8_then 0 = .ok (.iload_n 1, 1) := by decide +kernel
theorem dX8_then_1 : decode cX8_then 1 = .ok (.ifCond .lt 14, 3) := by decide +kernel
theorem dX8_then_4 : decode cX8_then 4 = .ok (.iload_n 1, 1) := by decide +kernel
theorem dX8_then_5 : decode cX8_then 5 = .ok (.aload_n 0, 1) := by decide +kernel
theorem dX8_then_6 : decode cX8_then 6 = .ok (.getfield 35, 3) := by decide +kernel
theorem dX8_then_9 : decode cX8_then 9 = .ok (.invokevirtual 295, 3) := by decide +kernel
theorem dX8_then_12 : decode cX8_then 12 = .ok (.if_icmp .le 14, 3) := by decide +kernel
theorem dX8_then_15 : decode cX8_then 15 = .ok (.new 105, 3) := by decide +kernel
theorem dX8_then_18 : decode cX8_then 18 = .ok (.dup, 1) := by decide +kernel
theorem dX8_then_19 : decode cX8_then 19 = .ok (.ldc_w 333, 3) := by decide +kernel
theorem dX8_then_22 : decode cX8_then 22 = .ok (.invokespecial 109, 3) := by decide +kernel
theorem dX8_then_25 : decode cX8_then 25 = .ok (.athrow, 1) := by decide +kernel
theorem dX8_then_26 : decode cX8_then 26 = .ok (.iload_n 2, 1) := by decide +kernel
theorem dX8_then_27 : decode cX8_then 27 = .ok (.ifCond .lt 9, 3) := by decide +kernel
theorem dX8_then_30 : decode cX8_then 30 = .ok (.iload_n 2, 1) := by decide +kernel
theorem dX8_then_31 : decode cX8_then 31 = .ok (.bipush 15, 2) := by decide +kernel
theorem dX8_then_33 : decode cX8_then 33 = .ok (.if_icmp .le 14, 3) := by decide +kernel
theorem dX8_then_36 : decode cX8_then 36 = .ok (.new 77, 3) := by decide +kernel
theorem dX8_then_39 : decode cX8_then 39 = .ok (.dup, 1) := by decide +kernel
theorem dX8_then_40 : decode cX8_then 40 = .ok (.ldc_w 335, 3) := by decide +kernel
theorem dX8_then_43 : decode cX8_then 43 = .ok (.invokespecial 81, 3) := by decide +kernel
theorem dX8_then_46 : decode cX8_then 46 = .ok (.athrow, 1) := by decide +kernel
theorem dX8_then_47 : decode cX8_then 47 = .ok (.iload_n 2, 1) := by decide +kernel
theorem dX8_then_48 : decode cX8_then 48 = .ok (.iconst 3, 1) := by decide +kernel
theorem dX8_then_49 : decode cX8_then 49 = .ok (.if_icmp .le 28, 3) := by decide +kernel
theorem dX8_then_52 : decode cX8_then 52 = .ok (.aload_n 0, 1) := by decide +kernel
theorem dX8_then_53 : decode cX8_then 53 = .ok (.getfield 35, 3) := by decide +kernel
theorem dX8_then_56 : decode cX8_then 56 = .ok (.iload_n 2, 1) := by decide +kernel
theorem dX8_then_57 : decode cX8_then 57 = .ok (.iconst 4, 1) := by decide +kernel
theorem dX8_then_58 : decode cX8_then 58 = .ok (.isub, 1) := by decide +kernel
theorem dX8_then_59 : decode cX8_then 59 = .ok (.iload_n 1, 1) := by decide +kernel
theorem dX8_then_60 : decode cX8_then 60 = .ok (.aload_n 0, 1) := by decide +kernel
theorem dX8_then_61 : decode cX8_then 61 = .ok (.getfield 28, 3) := by decide +kernel
theorem dX8_then_64 : decode cX8_then 64 = .ok (.getfield 306, 3) := by decide +kernel
theorem dX8_then_67 : decode cX8_then 67 = .ok (.iload_n 2, 1) := by decide +kernel
theorem dX8_then_68 : decode cX8_then 68 = .ok (.iconst 4, 1) := by decide +kernel
theorem dX8_then_69 : decode cX8_then 69 = .ok (.isub, 1) := by decide +kernel
theorem dX8_then_70 : decode cX8_then 70 = .ok (.invokevirtual 309, 3) := by decide +kernel
theorem dX8_then_73 : decode cX8_then 73 = .ok (.invokevirtual 337, 3) := by decide +kernel
theorem dX8_then_76 : decode cX8_then 76 = .ok (.ireturn, 1) := by decide +kernel
theorem dX8_then_77 : decode cX8_then 77 = .ok (.aload_n 0, 1) := by decide +kernel
theorem dX8_then_78 : decode cX8_then 78 = .ok (.getfield 35, 3) := by decide +kernel
theorem dX8_then_81 : decode cX8_then 81 = .ok (.iload_n 1, 1) := by decide +kernel
theorem dX8_then_82 : decode cX8_then 82 = .ok (.invokevirtual 252, 3) := by decide +kernel
theorem dX8_then_85 : decode cX8_then 85 = .ok (.astore_n 3, 1) := by decide +kernel
theorem dX8_then_86 : decode cX8_then 86 = .ok (.aload_n 3, 1) := by decide +kernel
theorem dX8_then_87 : decode cX8_then 87 = .ok (.ifnonnull 11, 3) := by decide +kernel
theorem dX8_then_90 : decode cX8_then 90 = .ok (.aload_n 0, 1) := by decide +kernel
theorem dX8_then_91 : decode cX8_then 91 = .ok (.iload_n 2, 1) := by decide +kernel
theorem dX8_then_92 : decode cX8_then 92 = .ok (.invokevirtual 341, 3) := by decide +kernel
theorem dX8_then_95 : decode cX8_then 95 = .ok (.goto 8, 3) := by decide +kernel
theorem dX8_then_98 : decode cX8_then 98 = .ok (.aload_n 3, 1) := by decide +kernel
theorem dX8_then_99 : decode cX8_then 99 = .ok (.iload_n 2, 1) := by decide +kernel
theorem dX8_then_100 : decode cX8_then 100 = .ok (.invokevirtual 344, 3) := by decide +kernel
theorem dX8_then_103 : decode cX8_then 103 = .ok (.ireturn, 1) := by decide +kernel
theorem dX8_wroteAgo_0 : decode cX8_wroteAgo 0 = .ok (.iload_n 1, 1) := by decide +kernel
theorem dX8_wroteAgo_1 : decode cX8_wroteAgo 1 = .ok (.invokestatic 157, 3) := by decide +kernel
theorem dX8_wroteAgo_4 : decode cX8_wroteAgo 4 = .ok (.ifCond .ne 14, 3) := by decide +kernel
theorem dX8_wroteAgo_7 : decode cX8_wroteAgo 7 = .ok (.new 105, 3) := by decide +kernel
theorem dX8_wroteAgo_10 : decode cX8_wroteAgo 10 = .ok (.dup, 1) := by decide +kernel
theorem dX8_wroteAgo_11 : decode cX8_wroteAgo 11 = .ok (.ldc_w 304, 3) := by decide +kernel
theorem dX8_wroteAgo_14 : decode cX8_wroteAgo 14 = .ok (.invokespecial 109, 3) := by decide +kernel
theorem dX8_wroteAgo_17 : decode cX8_wroteAgo 17 = .ok (.athrow, 1) := by decide +kernel
theorem dX8_wroteAgo_18 : decode cX8_wroteAgo 18 = .ok (.aload_n 0, 1) := by decide +kernel
theorem dX8_wroteAgo_19 : decode cX8_wroteAgo 19 = .ok (.getfield 35, 3) := by decide +kernel
theorem dX8_wroteAgo_22 : decode cX8_wroteAgo 22 = .ok (.iload_n 1, 1) := by decide +kernel
theorem dX8_wroteAgo_23 : decode cX8_wroteAgo 23 = .ok (.invokevirtual 347, 3) := by decide +kernel
theorem dX8_wroteAgo_26 : decode cX8_wroteAgo 26 = .ok (.ireturn, 1) := by decide +kernel
theorem dX8_ofNow_0 : decode cX8_ofNow 0 = .ok (.iload_n 1, 1) := by decide +kernel
theorem dX8_ofNow_1 : decode cX8_ofNow 1 = .ok (.tableswitch 58 0 2 #[27, 35, 46], 27) := by decide +kernel
theorem dX8_ofNow_28 : decode cX8_ofNow 28 = .ok (.aload_n 0, 1) := by decide +kernel
theorem dX8_ofNow_29 : decode cX8_ofNow 29 = .ok (.getfield 28, 3) := by decide +kernel
theorem dX8_ofNow_32 : decode cX8_ofNow 32 = .ok (.getfield 226, 3) := by decide +kernel
theorem dX8_ofNow_35 : decode cX8_ofNow 35 = .ok (.ireturn, 1) := by decide +kernel
theorem dX8_ofNow_36 : decode cX8_ofNow 36 = .ok (.aload_n 0, 1) := by decide +kernel
theorem dX8_ofNow_37 : decode cX8_ofNow 37 = .ok (.getfield 28, 3) := by decide +kernel
theorem dX8_ofNow_40 : decode cX8_ofNow 40 = .ok (.getfield 286, 3) := by decide +kernel
theorem dX8_ofNow_43 : decode cX8_ofNow 43 = .ok (.invokevirtual 124, 3) := by decide +kernel
theorem dX8_ofNow_46 : decode cX8_ofNow 46 = .ok (.ireturn, 1) := by decide +kernel
theorem dX8_ofNow_47 : decode cX8_ofNow 47 = .ok (.aload_n 0, 1) := by decide +kernel
theorem dX8_ofNow_48 : decode cX8_ofNow 48 = .ok (.getfield 28, 3) := by decide +kernel
theorem dX8_ofNow_51 : decode cX8_ofNow 51 = .ok (.getfield 286, 3) := by decide +kernel
theorem dX8_ofNow_54 : decode cX8_ofNow 54 = .ok (.iconst 0, 1) := by decide +kernel
theorem dX8_ofNow_55 : decode cX8_ofNow 55 = .ok (.invokevirtual 301, 3) := by decide +kernel
theorem dX8_ofNow_58 : decode cX8_ofNow 58 = .ok (.ireturn, 1) := by decide +kernel
theorem dX8_ofNow_59 : decode cX8_ofNow 59 = .ok (.aload_n 0, 1) := by decide +kernel
theorem dX8_ofNow_60 : decode cX8_ofNow 60 = .ok (.getfield 28, 3) := by decide +kernel
theorem dX8_ofNow_63 : decode cX8_ofNow 63 = .ok (.getfield 198, 3) := by decide +kernel
theorem dX8_ofNow_66 : decode cX8_ofNow 66 = .ok (.invokevirtual 124, 3) := by decide +kernel
theorem dX8_ofNow_69 : decode cX8_ofNow 69 = .ok (.ireturn, 1) := by decide +kernel
theorem dX8_truth_0 : decode cX8_truth 0 = .ok (.iload_n 0, 1) := by decide +kernel
theorem dX8_truth_1 : decode cX8_truth 1 = .ok (.ifCond .eq 7, 3) := by decide +kernel
theorem dX8_truth_4 : decode cX8_truth 4 = .ok (.iconst 1, 1) := by decide +kernel
theorem dX8_truth_5 : decode cX8_truth 5 = .ok (.goto 4, 3) := by decide +kernel
theorem dX8_truth_8 : decode cX8_truth 8 = .ok (.iconst 0, 1) := by decide +kernel
theorem dX8_truth_9 : decode cX8_truth 9 = .ok (.ireturn, 1) := by decide +kernel
theorem dX8_record_0 : decode cX8_record 0 = .ok (.aload_n 0, 1) := by decide +kernel
theorem dX8_record_1 : decode cX8_record 1 = .ok (.iload_n 1, 1) := by decide +kernel
theorem dX8_record_2 : decode cX8_record 2 = .ok (.invokevirtual 350, 3) := by decide +kernel
theorem dX8_record_5 : decode cX8_record 5 = .ok (.astore_n 2, 1) := by decide +kernel
theorem dX8_record_6 : decode cX8_record 6 = .ok (.aload_n 2, 1) := by decide +kernel
theorem dX8_record_7 : decode cX8_record 7 = .ok (.ifnonnull 14, 3) := by decide +kernel
theorem dX8_record_10 : decode cX8_record 10 = .ok (.new 105, 3) := by decide +kernel
theorem dX8_record_13 : decode cX8_record 13 = .ok (.dup, 1) := by decide +kernel
theorem dX8_record_14 : decode cX8_record 14 = .ok (.ldc_w 354, 3) := by decide +kernel
theorem dX8_record_17 : decode cX8_record 17 = .ok (.invokespecial 109, 3) := by decide +kernel
theorem dX8_record_20 : decode cX8_record 20 = .ok (.athrow, 1) := by decide +kernel
theorem dX8_record_21 : decode cX8_record 21 = .ok (.aload_n 0, 1) := by decide +kernel
theorem dX8_record_22 : decode cX8_record 22 = .ok (.invokevirtual 356, 3) := by decide +kernel
theorem dX8_record_25 : decode cX8_record 25 = .ok (.ifCond .ne 14, 3) := by decide +kernel
theorem dX8_record_28 : decode cX8_record 28 = .ok (.new 88, 3) := by decide +kernel
theorem dX8_record_31 : decode cX8_record 31 = .ok (.dup, 1) := by decide +kernel
theorem dX8_record_32 : decode cX8_record 32 = .ok (.ldc_w 359, 3) := by decide +kernel
theorem dX8_record_35 : decode cX8_record 35 = .ok (.invokespecial 92, 3) := by decide +kernel
theorem dX8_record_38 : decode cX8_record 38 = .ok (.athrow, 1) := by decide +kernel
theorem dX8_record_39 : decode cX8_record 39 = .ok (.aload_n 2, 1) := by decide +kernel
theorem dX8_record_40 : decode cX8_record 40 = .ok (.iconst 1, 1) := by decide +kernel
theorem dX8_record_41 : decode cX8_record 41 = .ok (.putfield 361, 3) := by decide +kernel
theorem dX8_record_44 : decode cX8_record 44 = .ok (.aload_n 2, 1) := by decide +kernel
theorem dX8_record_45 : decode cX8_record 45 = .ok (.getfield 364, 3) := by decide +kernel
theorem dX8_record_48 : decode cX8_record 48 = .ok (.aload_n 0, 1) := by decide +kernel
theorem dX8_record_49 : decode cX8_record 49 = .ok (.getfield 21, 3) := by decide +kernel
theorem dX8_record_52 : decode cX8_record 52 = .ok (.invokevirtual 365, 3) := by decide +kernel
theorem dX8_record_55 : decode cX8_record 55 = .ok (.aload_n 0, 1) := by decide +kernel
theorem dX8_record_56 : decode cX8_record 56 = .ok (.getfield 35, 3) := by decide +kernel
theorem dX8_record_59 : decode cX8_record 59 = .ok (.aload_n 2, 1) := by decide +kernel
theorem dX8_record_60 : decode cX8_record 60 = .ok (.getfield 369, 3) := by decide +kernel
theorem dX8_record_63 : decode cX8_record 63 = .ok (.invokevirtual 372, 3) := by decide +kernel
theorem dX8_record_66 : decode cX8_record 66 = .ok (.aload_n 2, 1) := by decide +kernel
theorem dX8_record_67 : decode cX8_record 67 = .ok (.getfield 369, 3) := by decide +kernel
theorem dX8_record_70 : decode cX8_record 70 = .ok (.invokevirtual 124, 3) := by decide +kernel
theorem dX8_record_73 : decode cX8_record 73 = .ok (.ireturn, 1) := by decide +kernel
theorem dX8_replay_0 : decode cX8_replay 0 = .ok (.aload_n 0, 1) := by decide +kernel
theorem dX8_replay_1 : decode cX8_replay 1 = .ok (.iload_n 1, 1) := by decide +kernel
theorem dX8_replay_2 : decode cX8_replay 2 = .ok (.invokevirtual 350, 3) := by decide +kernel
theorem dX8_replay_5 : decode cX8_replay 5 = .ok (.astore_n 2, 1) := by decide +kernel
theorem dX8_replay_6 : decode cX8_replay 6 = .ok (.aload_n 2, 1) := by decide +kernel
theorem dX8_replay_7 : decode cX8_replay 7 = .ok (.ifnonnull 14, 3) := by decide +kernel
theorem dX8_replay_10 : decode cX8_replay 10 = .ok (.new 105, 3) := by decide +kernel
theorem dX8_replay_13 : decode cX8_replay 13 = .ok (.dup, 1) := by decide +kernel
theorem dX8_replay_14 : decode cX8_replay 14 = .ok (.ldc_w 354, 3) := by decide +kernel
theorem dX8_replay_17 : decode cX8_replay 17 = .ok (.invokespecial 109, 3) := by decide +kernel
theorem dX8_replay_20 : decode cX8_replay 20 = .ok (.athrow, 1) := by decide +kernel
theorem dX8_replay_21 : decode cX8_replay 21 = .ok (.aload_n 2, 1) := by decide +kernel
theorem dX8_replay_22 : decode cX8_replay 22 = .ok (.getfield 361, 3) := by decide +kernel
theorem dX8_replay_25 : decode cX8_replay 25 = .ok (.ifCond .ne 14, 3) := by decide +kernel
theorem dX8_replay_28 : decode cX8_replay 28 = .ok (.new 88, 3) := by decide +kernel
theorem dX8_replay_31 : decode cX8_replay 31 = .ok (.dup, 1) := by decide +kernel
theorem dX8_replay_32 : decode cX8_replay 32 = .ok (.ldc_w 375, 3) := by decide +kernel
theorem dX8_replay_35 : decode cX8_replay 35 = .ok (.invokespecial 92, 3) := by decide +kernel
theorem dX8_replay_38 : decode cX8_replay 38 = .ok (.athrow, 1) := by decide +kernel
theorem dX8_replay_39 : decode cX8_replay 39 = .ok (.aload_n 0, 1) := by decide +kernel
theorem dX8_replay_40 : decode cX8_replay 40 = .ok (.getfield 21, 3) := by decide +kernel
theorem dX8_replay_43 : decode cX8_replay 43 = .ok (.aload_n 2, 1) := by decide +kernel
theorem dX8_replay_44 : decode cX8_replay 44 = .ok (.getfield 364, 3) := by decide +kernel
theorem dX8_replay_47 : decode cX8_replay 47 = .ok (.invokevirtual 365, 3) := by decide +kernel
theorem dX8_replay_50 : decode cX8_replay 50 = .ok (.aload_n 0, 1) := by decide +kernel
theorem dX8_replay_51 : decode cX8_replay 51 = .ok (.invokevirtual 125, 3) := by decide +kernel
theorem dX8_replay_54 : decode cX8_replay 54 = .ok (.iconst 0, 1) := by decide +kernel
theorem dX8_replay_55 : decode cX8_replay 55 = .ok (.istore_n 3, 1) := by decide +kernel
theorem dX8_replay_56 : decode cX8_replay 56 = .ok (.iload_n 3, 1) := by decide +kernel
theorem dX8_replay_57 : decode cX8_replay 57 = .ok (.aload_n 2, 1) := by decide +kernel
theorem dX8_replay_58 : decode cX8_replay 58 = .ok (.getfield 369, 3) := by decide +kernel
theorem dX8_replay_61 : decode cX8_replay 61 = .ok (.invokevirtual 124, 3) := by decide +kernel
theorem dX8_replay_64 : decode cX8_replay 64 = .ok (.if_icmp .ge 16, 3) := by decide +kernel
theorem dX8_replay_67 : decode cX8_replay 67 = .ok (.aload_n 0, 1) := by decide +kernel
theorem dX8_replay_68 : decode cX8_replay 68 = .ok (.invokevirtual 213, 3) := by decide +kernel
theorem dX8_replay_71 : decode cX8_replay 71 = .ok (.ifCond .eq 9, 3) := by decide +kernel
theorem dX8_replay_74 : decode cX8_replay 74 = .ok (.iinc 3 1, 3) := by decide +kernel
theorem dX8_replay_77 : decode cX8_replay 77 = .ok (.goto (-21), 3) := by decide +kernel
theorem dX8_replay_80 : decode cX8_replay 80 = .ok (.aload_n 0, 1) := by decide +kernel
theorem dX8_replay_81 : decode cX8_replay 81 = .ok (.bipush 8, 2) := by decide +kernel
theorem dX8_replay_83 : decode cX8_replay 83 = .ok (.iconst (-1), 1) := by decide +kernel
theorem dX8_replay_84 : decode cX8_replay 84 = .ok (.invokevirtual 135, 3) := by decide +kernel
theorem dX8_replay_87 : decode cX8_replay 87 = .ok (.iload_n 3, 1) := by decide +kernel
theorem dX8_replay_88 : decode cX8_replay 88 = .ok (.ireturn, 1) := by decide +kernel
theorem dX8_parts_0 : decode cX8_parts 0 = .ok (.aload_n 0, 1) := by decide +kernel
theorem dX8_parts_1 : decode cX8_parts 1 = .ok (.iload_n 1, 1) := by decide +kernel
theorem dX8_parts_2 : decode cX8_parts 2 = .ok (.invokevirtual 350, 3) := by decide +kernel
theorem dX8_parts_5 : decode cX8_parts 5 = .ok (.astore_n 2, 1) := by decide +kernel
theorem dX8_parts_6 : decode cX8_parts 6 = .ok (.aload_n 2, 1) := by decide +kernel
theorem dX8_parts_7 : decode cX8_parts 7 = .ok (.ifnonnull 14, 3) := by decide +kernel
theorem dX8_parts_10 : decode cX8_parts 10 = .ok (.new 105, 3) := by decide +kernel
theorem dX8_parts_13 : decode cX8_parts 13 = .ok (.dup, 1) := by decide +kernel
theorem dX8_parts_14 : decode cX8_parts 14 = .ok (.ldc_w 354, 3) := by decide +kernel
theorem dX8_parts_17 : decode cX8_parts 17 = .ok (.invokespecial 109, 3) := by decide +kernel
theorem dX8_parts_20 : decode cX8_parts 20 = .ok (.athrow, 1) := by decide +kernel
theorem dX8_parts_21 : decode cX8_parts 21 = .ok (.aload_n 2, 1) := by decide +kernel
theorem dX8_parts_22 : decode cX8_parts 22 = .ok (.getfield 361, 3) := by decide +kernel
theorem dX8_parts_25 : decode cX8_parts 25 = .ok (.ifCond .eq 10, 3) := by decide +kernel
theorem dX8_parts_28 : decode cX8_parts 28 = .ok (.aload_n 0, 1) := by decide +kernel
theorem dX8_parts_29 : decode cX8_parts 29 = .ok (.invokevirtual 356, 3) := by decide +kernel
theorem dX8_parts_32 : decode cX8_parts 32 = .ok (.ifCond .ne 14, 3) := by decide +kernel
theorem dX8_parts_35 : decode cX8_parts 35 = .ok (.new 88, 3) := by decide +kernel
theorem dX8_parts_38 : decode cX8_parts 38 = .ok (.dup, 1) := by decide +kernel
theorem dX8_parts_39 : decode cX8_parts 39 = .ok (.ldc_w 377, 3) := by decide +kernel
theorem dX8_parts_42 : decode cX8_parts 42 = .ok (.invokespecial 92, 3) := by decide +kernel
theorem dX8_parts_45 : decode cX8_parts 45 = .ok (.athrow, 1) := by decide +kernel
theorem dX8_parts_46 : decode cX8_parts 46 = .ok (.aload_n 0, 1) := by decide +kernel
theorem dX8_parts_47 : decode cX8_parts 47 = .ok (.getfield 35, 3) := by decide +kernel
theorem dX8_parts_50 : decode cX8_parts 50 = .ok (.aload_n 2, 1) := by decide +kernel
theorem dX8_parts_51 : decode cX8_parts 51 = .ok (.getfield 369, 3) := by decide +kernel
theorem dX8_parts_54 : decode cX8_parts 54 = .ok (.invokevirtual 379, 3) := by decide +kernel
theorem dX8_parts_57 : decode cX8_parts 57 = .ok (.ireturn, 1) := by decide +kernel
theorem dX8_tapeAt_0 : decode cX8_tapeAt 0 = .ok (.iload_n 1, 1) := by decide +kernel
theorem dX8_tapeAt_1 : decode cX8_tapeAt 1 = .ok (.ifCond .lt 21, 3) := by decide +kernel
theorem dX8_tapeAt_4 : decode cX8_tapeAt 4 = .ok (.iload_n 1, 1) := by decide +kernel
theorem dX8_tapeAt_5 : decode cX8_tapeAt 5 = .ok (.aload_n 0, 1) := by decide +kernel
theorem dX8_tapeAt_6 : decode cX8_tapeAt 6 = .ok (.getfield 55, 3) := by decide +kernel
theorem dX8_tapeAt_9 : decode cX8_tapeAt 9 = .ok (.arraylength, 1) := by decide +kernel
theorem dX8_tapeAt_10 : decode cX8_tapeAt 10 = .ok (.if_icmp .ge 12, 3) := by decide +kernel
theorem dX8_tapeAt_13 : decode cX8_tapeAt 13 = .ok (.aload_n 0, 1) := by decide +kernel
theorem dX8_tapeAt_14 : decode cX8_tapeAt 14 = .ok (.getfield 55, 3) := by decide +kernel
theorem dX8_tapeAt_17 : decode cX8_tapeAt 17 = .ok (.iload_n 1, 1) := by decide +kernel
theorem dX8_tapeAt_18 : decode cX8_tapeAt 18 = .ok (.aaload, 1) := by decide +kernel
theorem dX8_tapeAt_19 : decode cX8_tapeAt 19 = .ok (.goto 4, 3) := by decide +kernel
theorem dX8_tapeAt_22 : decode cX8_tapeAt 22 = .ok (.aconst_null, 1) := by decide +kernel
theorem dX8_tapeAt_23 : decode cX8_tapeAt 23 = .ok (.areturn, 1) := by decide +kernel
theorem dX8_beginsAtStart_0 : decode cX8_beginsAtStart 0 = .ok (.aload_n 0, 1) := by decide +kernel
theorem dX8_beginsAtStart_1 : decode cX8_beginsAtStart 1 = .ok (.getfield 28, 3) := by decide +kernel
theorem dX8_beginsAtStart_4 : decode cX8_beginsAtStart 4 = .ok (.getfield 283, 3) := by decide +kernel
theorem dX8_beginsAtStart_7 : decode cX8_beginsAtStart 7 = .ok (.aload_n 0, 1) := by decide +kernel
theorem dX8_beginsAtStart_8 : decode cX8_beginsAtStart 8 = .ok (.getfield 35, 3) := by decide +kernel
theorem dX8_beginsAtStart_11 : decode cX8_beginsAtStart 11 = .ok (.invokevirtual 295, 3) := by decide +kernel
theorem dX8_beginsAtStart_14 : decode cX8_beginsAtStart 14 = .ok (.if_icmp .ne 7, 3) := by decide +kernel
theorem dX8_beginsAtStart_17 : decode cX8_beginsAtStart 17 = .ok (.iconst 1, 1) := by decide +kernel
theorem dX8_beginsAtStart_18 : decode cX8_beginsAtStart 18 = .ok (.goto 4, 3) := by decide +kernel
theorem dX8_beginsAtStart_21 : decode cX8_beginsAtStart 21 = .ok (.iconst 0, 1) := by decide +kernel
theorem dX8_beginsAtStart_22 : decode cX8_beginsAtStart 22 = .ok (.ireturn, 1) := by decide +kernel
theorem dX8_endsIn_0 : decode cX8_endsIn 0 = .ok (.iload_n 1, 1) := by decide +kernel
theorem dX8_endsIn_1 : decode cX8_endsIn 1 = .ok (.invokestatic 189, 3) := by decide +kernel
theorem dX8_endsIn_4 : decode cX8_endsIn 4 = .ok (.ifCond .ne 13, 3) := by decide +kernel
theorem dX8_endsIn_7 : decode cX8_endsIn 7 = .ok (.new 77, 3) := by decide +kernel
theorem dX8_endsIn_10 : decode cX8_endsIn 10 = .ok (.dup, 1) := by decide +kernel
theorem dX8_endsIn_11 : decode cX8_endsIn 11 = .ok (.ldc 192, 2) := by decide +kernel
theorem dX8_endsIn_13 : decode cX8_endsIn 13 = .ok (.invokespecial 81, 3) := by decide +kernel
theorem dX8_endsIn_16 : decode cX8_endsIn 16 = .ok (.athrow, 1) := by decide +kernel
theorem dX8_endsIn_17 : decode cX8_endsIn 17 = .ok (.aload_n 0, 1) := by decide +kernel
theorem dX8_endsIn_18 : decode cX8_endsIn 18 = .ok (.getfield 67, 3) := by decide +kernel
theorem dX8_endsIn_21 : decode cX8_endsIn 21 = .ok (.aload_n 0, 1) := by decide +kernel
theorem dX8_endsIn_22 : decode cX8_endsIn 22 = .ok (.getfield 28, 3) := by decide +kernel
theorem dX8_endsIn_25 : decode cX8_endsIn 25 = .ok (.invokevirtual 383, 3) := by decide +kernel
theorem dX8_endsIn_28 : decode cX8_endsIn 28 = .ok (.aload_n 0, 1) := by decide +kernel
theorem dX8_endsIn_29 : decode cX8_endsIn 29 = .ok (.iload_n 1, 1) := by decide +kernel
theorem dX8_endsIn_30 : decode cX8_endsIn 30 = .ok (.aload_n 0, 1) := by decide +kernel
theorem dX8_endsIn_31 : decode cX8_endsIn 31 = .ok (.getfield 21, 3) := by decide +kernel
theorem dX8_endsIn_34 : decode cX8_endsIn 34 = .ok (.invokevirtual 386, 3) := by decide +kernel
theorem dX8_endsIn_37 : decode cX8_endsIn 37 = .ok (.istore_n 2, 1) := by decide +kernel
theorem dX8_endsIn_38 : decode cX8_endsIn 38 = .ok (.iload_n 2, 1) := by decide +kernel
theorem dX8_endsIn_39 : decode cX8_endsIn 39 = .ok (.iload_n 1, 1) := by decide +kernel
theorem dX8_endsIn_40 : decode cX8_endsIn 40 = .ok (.if_icmp .lt 14, 3) := by decide +kernel
theorem dX8_endsIn_43 : decode cX8_endsIn 43 = .ok (.aload_n 0, 1) := by decide +kernel
theorem dX8_endsIn_44 : decode cX8_endsIn 44 = .ok (.getfield 67, 3) := by decide +kernel
theorem dX8_endsIn_47 : decode cX8_endsIn 47 = .ok (.getfield 216, 3) := by decide +kernel
theorem dX8_endsIn_50 : decode cX8_endsIn 50 = .ok (.iconst 1, 1) := by decide +kernel
theorem dX8_endsIn_51 : decode cX8_endsIn 51 = .ok (.if_icmp .ne 7, 3) := by decide +kernel
theorem dX8_endsIn_54 : decode cX8_endsIn 54 = .ok (.iload_n 2, 1) := by decide +kernel
theorem dX8_endsIn_55 : decode cX8_endsIn 55 = .ok (.goto 4, 3) := by decide +kernel
theorem dX8_endsIn_58 : decode cX8_endsIn 58 = .ok (.iconst (-1), 1) := by decide +kernel
theorem dX8_endsIn_59 : decode cX8_endsIn 59 = .ok (.ireturn, 1) := by decide +kernel
theorem dX8_cellIn_0 : decode cX8_cellIn 0 = .ok (.iload_n 1, 1) := by decide +kernel
theorem dX8_cellIn_1 : decode cX8_cellIn 1 = .ok (.invokestatic 157, 3) := by decide +kernel
theorem dX8_cellIn_4 : decode cX8_cellIn 4 = .ok (.ifCond .ne 14, 3) := by decide +kernel
theorem dX8_cellIn_7 : decode cX8_cellIn 7 = .ok (.new 105, 3) := by decide +kernel
theorem dX8_cellIn_10 : decode cX8_cellIn 10 = .ok (.dup, 1) := by decide +kernel
theorem dX8_cellIn_11 : decode cX8_cellIn 11 = .ok (.ldc_w 304, 3) := by decide +kernel
theorem dX8_cellIn_14 : decode cX8_cellIn 14 = .ok (.invokespecial 109, 3) := by decide +kernel
theorem dX8_cellIn_17 : decode cX8_cellIn 17 = .ok (.athrow, 1) := by decide +kernel
theorem dX8_cellIn_18 : decode cX8_cellIn 18 = .ok (.iload_n 2, 1) := by decide +kernel
theorem dX8_cellIn_19 : decode cX8_cellIn 19 = .ok (.invokestatic 189, 3) := by decide +kernel
theorem dX8_cellIn_22 : decode cX8_cellIn 22 = .ok (.ifCond .ne 13, 3) := by decide +kernel
theorem dX8_cellIn_25 : decode cX8_cellIn 25 = .ok (.new 77, 3) := by decide +kernel
theorem dX8_cellIn_28 : decode cX8_cellIn 28 = .ok (.dup, 1) := by decide +kernel
theorem dX8_cellIn_29 : decode cX8_cellIn 29 = .ok (.ldc 192, 2) := by decide +kernel
theorem dX8_cellIn_31 : decode cX8_cellIn 31 = .ok (.invokespecial 81, 3) := by decide +kernel
theorem dX8_cellIn_34 : decode cX8_cellIn 34 = .ok (.athrow, 1) := by decide +kernel
theorem dX8_cellIn_35 : decode cX8_cellIn 35 = .ok (.aload_n 0, 1) := by decide +kernel
theorem dX8_cellIn_36 : decode cX8_cellIn 36 = .ok (.getfield 67, 3) := by decide +kernel
theorem dX8_cellIn_39 : decode cX8_cellIn 39 = .ok (.aload_n 0, 1) := by decide +kernel
theorem dX8_cellIn_40 : decode cX8_cellIn 40 = .ok (.getfield 28, 3) := by decide +kernel
theorem dX8_cellIn_43 : decode cX8_cellIn 43 = .ok (.invokevirtual 383, 3) := by decide +kernel
theorem dX8_cellIn_46 : decode cX8_cellIn 46 = .ok (.aload_n 0, 1) := by decide +kernel
theorem dX8_cellIn_47 : decode cX8_cellIn 47 = .ok (.iload_n 2, 1) := by decide +kernel
theorem dX8_cellIn_48 : decode cX8_cellIn 48 = .ok (.aload_n 0, 1) := by decide +kernel
theorem dX8_cellIn_49 : decode cX8_cellIn 49 = .ok (.getfield 21, 3) := by decide +kernel
theorem dX8_cellIn_52 : decode cX8_cellIn 52 = .ok (.invokevirtual 386, 3) := by decide +kernel
theorem dX8_cellIn_55 : decode cX8_cellIn 55 = .ok (.pop, 1) := by decide +kernel
theorem dX8_cellIn_56 : decode cX8_cellIn 56 = .ok (.aload_n 0, 1) := by decide +kernel
theorem dX8_cellIn_57 : decode cX8_cellIn 57 = .ok (.getfield 67, 3) := by decide +kernel
theorem dX8_cellIn_60 : decode cX8_cellIn 60 = .ok (.getfield 306, 3) := by decide +kernel
theorem dX8_cellIn_63 : decode cX8_cellIn 63 = .ok (.iload_n 1, 1) := by decide +kernel
theorem dX8_cellIn_64 : decode cX8_cellIn 64 = .ok (.invokevirtual 309, 3) := by decide +kernel
theorem dX8_cellIn_67 : decode cX8_cellIn 67 = .ok (.ireturn, 1) := by decide +kernel
theorem dX8_heat_0 : decode cX8_heat 0 = .ok (.iconst 0, 1) := by decide +kernel
theorem dX8_heat_1 : decode cX8_heat 1 = .ok (.istore_n 1, 1) := by decide +kernel
theorem dX8_heat_2 : decode cX8_heat 2 = .ok (.iconst 0, 1) := by decide +kernel
theorem dX8_heat_3 : decode cX8_heat 3 = .ok (.istore_n 2, 1) := by decide +kernel
theorem dX8_heat_4 : decode cX8_heat 4 = .ok (.iconst 0, 1) := by decide +kernel
theorem dX8_heat_5 : decode cX8_heat 5 = .ok (.istore_n 3, 1) := by decide +kernel
theorem dX8_heat_6 : decode cX8_heat 6 = .ok (.iload_n 3, 1) := by decide +kernel
theorem dX8_heat_7 : decode cX8_heat 7 = .ok (.aload_n 0, 1) := by decide +kernel
theorem dX8_heat_8 : decode cX8_heat 8 = .ok (.getfield 10, 3) := by decide +kernel
theorem dX8_heat_11 : decode cX8_heat 11 = .ok (.invokevirtual 97, 3) := by decide +kernel
theorem dX8_heat_14 : decode cX8_heat 14 = .ok (.if_icmp .ge 34, 3) := by decide +kernel
theorem dX8_heat_17 : decode cX8_heat 17 = .ok (.aload_n 0, 1) := by decide +kernel
theorem dX8_heat_18 : decode cX8_heat 18 = .ok (.getfield 10, 3) := by decide +kernel
theorem dX8_heat_21 : decode cX8_heat 21 = .ok (.iload_n 3, 1) := by decide +kernel
theorem dX8_heat_22 : decode cX8_heat 22 = .ok (.invokevirtual 319, 3) := by decide +kernel
theorem dX8_heat_25 : decode cX8_heat 25 = .ok (.ifCond .le 17, 3) := by decide +kernel
theorem dX8_heat_28 : decode cX8_heat 28 = .ok (.iinc 1 1, 3) := by decide +kernel
theorem dX8_heat_31 : decode cX8_heat 31 = .ok (.iload_n 2, 1) := by decide +kernel
theorem dX8_heat_32 : decode cX8_heat 32 = .ok (.aload_n 0, 1) := by decide +kernel
theorem dX8_heat_33 : decode cX8_heat 33 = .ok (.getfield 10, 3) := by decide +kernel
theorem dX8_heat_36 : decode cX8_heat 36 = .ok (.iload_n 3, 1) := by decide +kernel
theorem dX8_heat_37 : decode cX8_heat 37 = .ok (.invokevirtual 319, 3) := by decide +kernel
theorem dX8_heat_40 : decode cX8_heat 40 = .ok (.iadd, 1) := by decide +kernel
theorem dX8_heat_41 : decode cX8_heat 41 = .ok (.istore_n 2, 1) := by decide +kernel
theorem dX8_heat_42 : decode cX8_heat 42 = .ok (.iinc 3 1, 3) := by decide +kernel
theorem dX8_heat_45 : decode cX8_heat 45 = .ok (.goto (-39), 3) := by decide +kernel
theorem dX8_heat_48 : decode cX8_heat 48 = .ok (.iload_n 1, 1) := by decide +kernel
theorem dX8_heat_49 : decode cX8_heat 49 = .ok (.ifCond .ne 7, 3) := by decide +kernel
theorem dX8_heat_52 : decode cX8_heat 52 = .ok (.dconst 0, 1) := by decide +kernel
theorem dX8_heat_53 : decode cX8_heat 53 = .ok (.goto 8, 3) := by decide +kernel
theorem dX8_heat_56 : decode cX8_heat 56 = .ok (.iload_n 2, 1) := by decide +kernel
theorem dX8_heat_57 : decode cX8_heat 57 = .ok (.i2d, 1) := by decide +kernel
theorem dX8_heat_58 : decode cX8_heat 58 = .ok (.iload_n 1, 1) := by decide +kernel
theorem dX8_heat_59 : decode cX8_heat 59 = .ok (.i2d, 1) := by decide +kernel
theorem dX8_heat_60 : decode cX8_heat 60 = .ok (.ddiv, 1) := by decide +kernel
theorem dX8_heat_61 : decode cX8_heat 61 = .ok (.dreturn, 1) := by decide +kernel
theorem dX8_digest_0 : decode cX8_digest 0 = .ok (.ldc2_w 398, 3) := by decide +kernel
theorem dX8_digest_3 : decode cX8_digest 3 = .ok (.lstore_n 1, 1) := by decide +kernel
theorem dX8_digest_4 : decode cX8_digest 4 = .ok (.iconst 0, 1) := by decide +kernel
theorem dX8_digest_5 : decode cX8_digest 5 = .ok (.istore_n 3, 1) := by decide +kernel
theorem dX8_digest_6 : decode cX8_digest 6 = .ok (.iload_n 3, 1) := by decide +kernel
theorem dX8_digest_7 : decode cX8_digest 7 = .ok (.bipush 9, 2) := by decide +kernel
theorem dX8_digest_9 : decode cX8_digest 9 = .ok (.if_icmp .gt 19, 3) := by decide +kernel
theorem dX8_digest_12 : decode cX8_digest 12 = .ok (.lload_n 1, 1) := by decide +kernel
theorem dX8_digest_13 : decode cX8_digest 13 = .ok (.aload_n 0, 1) := by decide +kernel
theorem dX8_digest_14 : decode cX8_digest 14 = .ok (.iload_n 3, 1) := by decide +kernel
theorem dX8_digest_15 : decode cX8_digest 15 = .ok (.invokevirtual 400, 3) := by decide +kernel
theorem dX8_digest_18 : decode cX8_digest 18 = .ok (.invokestatic 403, 3) := by decide +kernel
theorem dX8_digest_21 : decode cX8_digest 21 = .ok (.lstore_n 1, 1) := by decide +kernel
theorem dX8_digest_22 : decode cX8_digest 22 = .ok (.iinc 3 1, 3) := by decide +kernel
theorem dX8_digest_25 : decode cX8_digest 25 = .ok (.goto (-19), 3) := by decide +kernel
theorem dX8_digest_28 : decode cX8_digest 28 = .ok (.aload_n 0, 1) := by decide +kernel
theorem dX8_digest_29 : decode cX8_digest 29 = .ok (.getfield 28, 3) := by decide +kernel
theorem dX8_digest_32 : decode cX8_digest 32 = .ok (.lload_n 1, 1) := by decide +kernel
theorem dX8_digest_33 : decode cX8_digest 33 = .ok (.invokevirtual 407, 3) := by decide +kernel
theorem dX8_digest_36 : decode cX8_digest 36 = .ok (.lstore_n 1, 1) := by decide +kernel
theorem dX8_digest_37 : decode cX8_digest 37 = .ok (.aload_n 0, 1) := by decide +kernel
theorem dX8_digest_38 : decode cX8_digest 38 = .ok (.lload_n 1, 1) := by decide +kernel
theorem dX8_digest_39 : decode cX8_digest 39 = .ok (.invokevirtual 411, 3) := by decide +kernel
theorem dX8_digest_42 : decode cX8_digest 42 = .ok (.lstore_n 1, 1) := by decide +kernel
theorem dX8_digest_43 : decode cX8_digest 43 = .ok (.aload_n 0, 1) := by decide +kernel
theorem dX8_digest_44 : decode cX8_digest 44 = .ok (.lload_n 1, 1) := by decide +kernel
theorem dX8_digest_45 : decode cX8_digest 45 = .ok (.invokevirtual 414, 3) := by decide +kernel
theorem dX8_digest_48 : decode cX8_digest 48 = .ok (.lstore_n 1, 1) := by decide +kernel
theorem dX8_digest_49 : decode cX8_digest 49 = .ok (.iconst 0, 1) := by decide +kernel
theorem dX8_digest_50 : decode cX8_digest 50 = .ok (.istore_n 3, 1) := by decide +kernel
theorem dX8_digest_51 : decode cX8_digest 51 = .ok (.iload_n 3, 1) := by decide +kernel
theorem dX8_digest_52 : decode cX8_digest 52 = .ok (.bipush 12, 2) := by decide +kernel
theorem dX8_digest_54 : decode cX8_digest 54 = .ok (.if_icmp .ge 22, 3) := by decide +kernel
theorem dX8_digest_57 : decode cX8_digest 57 = .ok (.lload_n 1, 1) := by decide +kernel
theorem dX8_digest_58 : decode cX8_digest 58 = .ok (.aload_n 0, 1) := by decide +kernel
theorem dX8_digest_59 : decode cX8_digest 59 = .ok (.getfield 35, 3) := by decide +kernel
theorem dX8_digest_62 : decode cX8_digest 62 = .ok (.iload_n 3, 1) := by decide +kernel
theorem dX8_digest_63 : decode cX8_digest 63 = .ok (.invokevirtual 347, 3) := by decide +kernel
theorem dX8_digest_66 : decode cX8_digest 66 = .ok (.invokestatic 403, 3) := by decide +kernel
theorem dX8_digest_69 : decode cX8_digest 69 = .ok (.lstore_n 1, 1) := by decide +kernel
theorem dX8_digest_70 : decode cX8_digest 70 = .ok (.iinc 3 1, 3) := by decide +kernel
theorem dX8_digest_73 : decode cX8_digest 73 = .ok (.goto (-22), 3) := by decide +kernel
theorem dX8_digest_76 : decode cX8_digest 76 = .ok (.aload_n 0, 1) := by decide +kernel
theorem dX8_digest_77 : decode cX8_digest 77 = .ok (.lload_n 1, 1) := by decide +kernel
theorem dX8_digest_78 : decode cX8_digest 78 = .ok (.iconst 1, 1) := by decide +kernel
theorem dX8_digest_79 : decode cX8_digest 79 = .ok (.invokevirtual 417, 3) := by decide +kernel
theorem dX8_digest_82 : decode cX8_digest 82 = .ok (.lstore_n 1, 1) := by decide +kernel
theorem dX8_digest_83 : decode cX8_digest 83 = .ok (.aload_n 0, 1) := by decide +kernel
theorem dX8_digest_84 : decode cX8_digest 84 = .ok (.lload_n 1, 1) := by decide +kernel
theorem dX8_digest_85 : decode cX8_digest 85 = .ok (.iconst 5, 1) := by decide +kernel
theorem dX8_digest_86 : decode cX8_digest 86 = .ok (.invokevirtual 417, 3) := by decide +kernel
theorem dX8_digest_89 : decode cX8_digest 89 = .ok (.lstore_n 1, 1) := by decide +kernel
theorem dX8_digest_90 : decode cX8_digest 90 = .ok (.lload_n 1, 1) := by decide +kernel
theorem dX8_digest_91 : decode cX8_digest 91 = .ok (.aload_n 0, 1) := by decide +kernel
theorem dX8_digest_92 : decode cX8_digest 92 = .ok (.bipush 50, 2) := by decide +kernel
theorem dX8_digest_94 : decode cX8_digest 94 = .ok (.invokevirtual 420, 3) := by decide +kernel
theorem dX8_digest_97 : decode cX8_digest 97 = .ok (.invokestatic 403, 3) := by decide +kernel
theorem dX8_digest_100 : decode cX8_digest 100 = .ok (.lreturn, 1) := by decide +kernel
theorem dX8_tryOut_0 : decode cX8_tryOut 0 = .ok (.iconst 0, 1) := by decide +kernel
theorem dX8_tryOut_1 : decode cX8_tryOut 1 = .ok (.istore_n 3, 1) := by decide +kernel
theorem dX8_tryOut_2 : decode cX8_tryOut 2 = .ok (.iload_n 3, 1) := by decide +kernel
theorem dX8_tryOut_3 : decode cX8_tryOut 3 = .ok (.iload_n 1, 1) := by decide +kernel
theorem dX8_tryOut_4 : decode cX8_tryOut 4 = .ok (.if_icmp .ge 35, 3) := by decide +kernel
theorem dX8_tryOut_7 : decode cX8_tryOut 7 = .ok (.aload_n 0, 1) := by decide +kernel
theorem dX8_tryOut_8 : decode cX8_tryOut 8 = .ok (.getfield 67, 3) := by decide +kernel
theorem dX8_tryOut_11 : decode cX8_tryOut 11 = .ok (.aload_n 0, 1) := by decide +kernel
theorem dX8_tryOut_12 : decode cX8_tryOut 12 = .ok (.getfield 10, 3) := by decide +kernel
theorem dX8_tryOut_15 : decode cX8_tryOut 15 = .ok (.invokevirtual 222, 3) := by decide +kernel
theorem dX8_tryOut_18 : decode cX8_tryOut 18 = .ok (.ifCond .eq 21, 3) := by decide +kernel
theorem dX8_tryOut_21 : decode cX8_tryOut 21 = .ok (.aload_n 0, 1) := by decide +kernel
theorem dX8_tryOut_22 : decode cX8_tryOut 22 = .ok (.getfield 67, 3) := by decide +kernel
theorem dX8_tryOut_25 : decode cX8_tryOut 25 = .ok (.aload_n 0, 1) := by decide +kernel
theorem dX8_tryOut_26 : decode cX8_tryOut 26 = .ok (.getfield 10, 3) := by decide +kernel
theorem dX8_tryOut_29 : decode cX8_tryOut 29 = .ok (.aload_n 2, 1) := by decide +kernel
theorem dX8_tryOut_30 : decode cX8_tryOut 30 = .ok (.invokevirtual 239, 3) := by decide +kernel
theorem dX8_tryOut_33 : decode cX8_tryOut 33 = .ok (.iinc 3 1, 3) := by decide +kernel
theorem dX8_tryOut_36 : decode cX8_tryOut 36 = .ok (.goto (-34), 3) := by decide +kernel
theorem dX8_tryOut_39 : decode cX8_tryOut 39 = .ok (.iload_n 3, 1) := by decide +kernel
theorem dX8_tryOut_40 : decode cX8_tryOut 40 = .ok (.ireturn, 1) := by decide +kernel
theorem dX8_mixed_0 : decode cX8_mixed 0 = .ok (.lload_n 0, 1) := by decide +kernel
theorem dX8_mixed_1 : decode cX8_mixed 1 = .ok (.ldc2_w 423, 3) := by decide +kernel
theorem dX8_mixed_4 : decode cX8_mixed 4 = .ok (.lmul, 1) := by decide +kernel
theorem dX8_mixed_5 : decode cX8_mixed 5 = .ok (.iload_n 2, 1) := by decide +kernel
theorem dX8_mixed_6 : decode cX8_mixed 6 = .ok (.i2l, 1) := by decide +kernel
theorem dX8_mixed_7 : decode cX8_mixed 7 = .ok (.ladd, 1) := by decide +kernel
theorem dX8_mixed_8 : decode cX8_mixed 8 = .ok (.lreturn, 1) := by decide +kernel
theorem dX8_mixedProgram_0 : decode cX8_mixedProgram 0 = .ok (.lload_n 1, 1) := by decide +kernel
theorem dX8_mixedProgram_1 : decode cX8_mixedProgram 1 = .ok (.lstore_n 3, 1) := by decide +kernel
theorem dX8_mixedProgram_2 : decode cX8_mixedProgram 2 = .ok (.iconst 0, 1) := by decide +kernel
theorem dX8_mixedProgram_3 : decode cX8_mixedProgram 3 = .ok (.istore 5, 2) := by decide +kernel
theorem dX8_mixedProgram_5 : decode cX8_mixedProgram 5 = .ok (.iload 5, 2) := by decide +kernel
theorem dX8_mixedProgram_7 : decode cX8_mixedProgram 7 = .ok (.aload_n 0, 1) := by decide +kernel
theorem dX8_mixedProgram_8 : decode cX8_mixedProgram 8 = .ok (.getfield 10, 3) := by decide +kernel
theorem dX8_mixedProgram_11 : decode cX8_mixedProgram 11 = .ok (.invokevirtual 97, 3) := by decide +kernel
theorem dX8_mixedProgram_14 : decode cX8_mixedProgram 14 = .ok (.if_icmp .ge 51, 3) := by decide +kernel
theorem dX8_mixedProgram_17 : decode cX8_mixedProgram 17 = .ok (.lload_n 3, 1) := by decide +kernel
theorem dX8_mixedProgram_18 : decode cX8_mixedProgram 18 = .ok (.aload_n 0, 1) := by decide +kernel
theorem dX8_mixedProgram_19 : decode cX8_mixedProgram 19 = .ok (.getfield 10, 3) := by decide +kernel
theorem dX8_mixedProgram_22 : decode cX8_mixedProgram 22 = .ok (.iload 5, 2) := by decide +kernel
theorem dX8_mixedProgram_24 : decode cX8_mixedProgram 24 = .ok (.invokevirtual 110, 3) := by decide +kernel
theorem dX8_mixedProgram_27 : decode cX8_mixedProgram 27 = .ok (.invokestatic 403, 3) := by decide +kernel
theorem dX8_mixedProgram_30 : decode cX8_mixedProgram 30 = .ok (.lstore_n 3, 1) := by decide +kernel
theorem dX8_mixedProgram_31 : decode cX8_mixedProgram 31 = .ok (.lload_n 3, 1) := by decide +kernel
theorem dX8_mixedProgram_32 : decode cX8_mixedProgram 32 = .ok (.aload_n 0, 1) := by decide +kernel
theorem dX8_mixedProgram_33 : decode cX8_mixedProgram 33 = .ok (.getfield 10, 3) := by decide +kernel
theorem dX8_mixedProgram_36 : decode cX8_mixedProgram 36 = .ok (.iload 5, 2) := by decide +kernel
theorem dX8_mixedProgram_38 : decode cX8_mixedProgram 38 = .ok (.invokevirtual 316, 3) := by decide +kernel
theorem dX8_mixedProgram_41 : decode cX8_mixedProgram 41 = .ok (.invokestatic 403, 3) := by decide +kernel
theorem dX8_mixedProgram_44 : decode cX8_mixedProgram 44 = .ok (.lstore_n 3, 1) := by decide +kernel
theorem dX8_mixedProgram_45 : decode cX8_mixedProgram 45 = .ok (.lload_n 3, 1) := by decide +kernel
theorem dX8_mixedProgram_46 : decode cX8_mixedProgram 46 = .ok (.aload_n 0, 1) := by decide +kernel
theorem dX8_mixedProgram_47 : decode cX8_mixedProgram 47 = .ok (.getfield 10, 3) := by decide +kernel
theorem dX8_mixedProgram_50 : decode cX8_mixedProgram 50 = .ok (.iload 5, 2) := by decide +kernel
theorem dX8_mixedProgram_52 : decode cX8_mixedProgram 52 = .ok (.invokevirtual 319, 3) := by decide +kernel
theorem dX8_mixedProgram_55 : decode cX8_mixedProgram 55 = .ok (.invokestatic 403, 3) := by decide +kernel
theorem dX8_mixedProgram_58 : decode cX8_mixedProgram 58 = .ok (.lstore_n 3, 1) := by decide +kernel
theorem dX8_mixedProgram_59 : decode cX8_mixedProgram 59 = .ok (.iinc 5 1, 3) := by decide +kernel
theorem dX8_mixedProgram_62 : decode cX8_mixedProgram 62 = .ok (.goto (-57), 3) := by decide +kernel
theorem dX8_mixedProgram_65 : decode cX8_mixedProgram 65 = .ok (.lload_n 3, 1) := by decide +kernel
theorem dX8_mixedProgram_66 : decode cX8_mixedProgram 66 = .ok (.lreturn, 1) := by decide +kernel
theorem dX8_mixedPoints_0 : decode cX8_mixedPoints 0 = .ok (.lload_n 1, 1) := by decide +kernel
theorem dX8_mixedPoints_1 : decode cX8_mixedPoints 1 = .ok (.lstore_n 3, 1) := by decide +kernel
theorem dX8_mixedPoints_2 : decode cX8_mixedPoints 2 = .ok (.iconst 0, 1) := by decide +kernel
theorem dX8_mixedPoints_3 : decode cX8_mixedPoints 3 = .ok (.istore 5, 2) := by decide +kernel
theorem dX8_mixedPoints_5 : decode cX8_mixedPoints 5 = .ok (.iload 5, 2) := by decide +kernel
theorem dX8_mixedPoints_7 : decode cX8_mixedPoints 7 = .ok (.aload_n 0, 1) := by decide +kernel
theorem dX8_mixedPoints_8 : decode cX8_mixedPoints 8 = .ok (.getfield 143, 3) := by decide +kernel
theorem dX8_mixedPoints_11 : decode cX8_mixedPoints 11 = .ok (.if_icmp .ge 65, 3) := by decide +kernel
theorem dX8_mixedPoints_14 : decode cX8_mixedPoints 14 = .ok (.aload_n 0, 1) := by decide +kernel
theorem dX8_mixedPoints_15 : decode cX8_mixedPoints 15 = .ok (.iload 5, 2) := by decide +kernel
theorem dX8_mixedPoints_17 : decode cX8_mixedPoints 17 = .ok (.invokevirtual 151, 3) := by decide +kernel
theorem dX8_mixedPoints_20 : decode cX8_mixedPoints 20 = .ok (.astore 6, 2) := by decide +kernel
theorem dX8_mixedPoints_22 : decode cX8_mixedPoints 22 = .ok (.aload 6, 2) := by decide +kernel
theorem dX8_mixedPoints_24 : decode cX8_mixedPoints 24 = .ok (.ifnull 46, 3) := by decide +kernel
theorem dX8_mixedPoints_27 : decode cX8_mixedPoints 27 = .ok (.lload_n 3, 1) := by decide +kernel
theorem dX8_mixedPoints_28 : decode cX8_mixedPoints 28 = .ok (.aload 6, 2) := by decide +kernel
theorem dX8_mixedPoints_30 : decode cX8_mixedPoints 30 = .ok (.getfield 324, 3) := by decide +kernel
theorem dX8_mixedPoints_33 : decode cX8_mixedPoints 33 = .ok (.invokestatic 403, 3) := by decide +kernel
theorem dX8_mixedPoints_36 : decode cX8_mixedPoints 36 = .ok (.lstore_n 3, 1) := by decide +kernel
theorem dX8_mixedPoints_37 : decode cX8_mixedPoints 37 = .ok (.lload_n 3, 1) := by decide +kernel
theorem dX8_mixedPoints_38 : decode cX8_mixedPoints 38 = .ok (.aload 6, 2) := by decide +kernel
theorem dX8_mixedPoints_40 : decode cX8_mixedPoints 40 = .ok (.getfield 176, 3) := by decide +kernel
theorem dX8_mixedPoints_43 : decode cX8_mixedPoints 43 = .ok (.invokestatic 327, 3) := by decide +kernel
theorem dX8_mixedPoints_46 : decode cX8_mixedPoints 46 = .ok (.invokestatic 403, 3) := by decide +kernel
theorem dX8_mixedPoints_49 : decode cX8_mixedPoints 49 = .ok (.lstore_n 3, 1) := by decide +kernel
theorem dX8_mixedPoints_50 : decode cX8_mixedPoints 50 = .ok (.lload_n 3, 1) := by decide +kernel
theorem dX8_mixedPoints_51 : decode cX8_mixedPoints 51 = .ok (.aload 6, 2) := by decide +kernel
theorem dX8_mixedPoints_53 : decode cX8_mixedPoints 53 = .ok (.getfield 173, 3) := by decide +kernel
theorem dX8_mixedPoints_56 : decode cX8_mixedPoints 56 = .ok (.invokestatic 403, 3) := by decide +kernel
theorem dX8_mixedPoints_59 : decode cX8_mixedPoints 59 = .ok (.lstore_n 3, 1) := by decide +kernel
theorem dX8_mixedPoints_60 : decode cX8_mixedPoints 60 = .ok (.lload_n 3, 1) := by decide +kernel
theorem dX8_mixedPoints_61 : decode cX8_mixedPoints 61 = .ok (.aload 6, 2) := by decide +kernel
theorem dX8_mixedPoints_63 : decode cX8_mixedPoints 63 = .ok (.getfield 249, 3) := by decide +kernel
theorem dX8_mixedPoints_66 : decode cX8_mixedPoints 66 = .ok (.invokestatic 403, 3) := by decide +kernel
theorem dX8_mixedPoints_69 : decode cX8_mixedPoints 69 = .ok (.lstore_n 3, 1) := by decide +kernel
theorem dX8_mixedPoints_70 : decode cX8_mixedPoints 70 = .ok (.iinc 5 1, 3) := by decide +kernel
theorem dX8_mixedPoints_73 : decode cX8_mixedPoints 73 = .ok (.goto (-68), 3) := by decide +kernel
theorem dX8_mixedPoints_76 : decode cX8_mixedPoints 76 = .ok (.lload_n 3, 1) := by decide +kernel
theorem dX8_mixedPoints_77 : decode cX8_mixedPoints 77 = .ok (.lreturn, 1) := by decide +kernel
theorem dX8_mixedThen_0 : decode cX8_mixedThen 0 = .ok (.iload_n 3, 1) := by decide +kernel
theorem dX8_mixedThen_1 : decode cX8_mixedThen 1 = .ok (.aload_n 0, 1) := by decide +kernel
theorem dX8_mixedThen_2 : decode cX8_mixedThen 2 = .ok (.getfield 35, 3) := by decide +kernel
theorem dX8_mixedThen_5 : decode cX8_mixedThen 5 = .ok (.invokevirtual 295, 3) := by decide +kernel
theorem dX8_mixedThen_8 : decode cX8_mixedThen 8 = .ok (.if_icmp .le 5, 3) := by decide +kernel
theorem dX8_mixedThen_11 : decode cX8_mixedThen 11 = .ok (.lload_n 1, 1) := by decide +kernel
theorem dX8_mixedThen_12 : decode cX8_mixedThen 12 = .ok (.lreturn, 1) := by decide +kernel
theorem dX8_mixedThen_13 : decode cX8_mixedThen 13 = .ok (.lload_n 1, 1) := by decide +kernel
theorem dX8_mixedThen_14 : decode cX8_mixedThen 14 = .ok (.lstore 4, 2) := by decide +kernel
theorem dX8_mixedThen_16 : decode cX8_mixedThen 16 = .ok (.iconst 0, 1) := by decide +kernel
theorem dX8_mixedThen_17 : decode cX8_mixedThen 17 = .ok (.istore 6, 2) := by decide +kernel
theorem dX8_mixedThen_19 : decode cX8_mixedThen 19 = .ok (.iload 6, 2) := by decide +kernel
theorem dX8_mixedThen_21 : decode cX8_mixedThen 21 = .ok (.iconst 4, 1) := by decide +kernel
theorem dX8_mixedThen_22 : decode cX8_mixedThen 22 = .ok (.if_icmp .gt 23, 3) := by decide +kernel
theorem dX8_mixedThen_25 : decode cX8_mixedThen 25 = .ok (.lload 4, 2) := by decide +kernel
theorem dX8_mixedThen_27 : decode cX8_mixedThen 27 = .ok (.aload_n 0, 1) := by decide +kernel
theorem dX8_mixedThen_28 : decode cX8_mixedThen 28 = .ok (.iload_n 3, 1) := by decide +kernel
theorem dX8_mixedThen_29 : decode cX8_mixedThen 29 = .ok (.iload 6, 2) := by decide +kernel
theorem dX8_mixedThen_31 : decode cX8_mixedThen 31 = .ok (.invokevirtual 425, 3) := by decide +kernel
theorem dX8_mixedThen_34 : decode cX8_mixedThen 34 = .ok (.invokestatic 403, 3) := by decide +kernel
theorem dX8_mixedThen_37 : decode cX8_mixedThen 37 = .ok (.lstore 4, 2) := by decide +kernel
theorem dX8_mixedThen_39 : decode cX8_mixedThen 39 = .ok (.iinc 6 2, 3) := by decide +kernel
theorem dX8_mixedThen_42 : decode cX8_mixedThen 42 = .ok (.goto (-23), 3) := by decide +kernel
theorem dX8_mixedThen_45 : decode cX8_mixedThen 45 = .ok (.lload 4, 2) := by decide +kernel
theorem dX8_mixedThen_47 : decode cX8_mixedThen 47 = .ok (.lreturn, 1) := by decide +kernel
