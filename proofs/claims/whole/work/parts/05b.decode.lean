theorem d_X9_init_0 : decode cX9_init 0 = .ok (.aload_n 0, 1) := by decide +kernel
theorem d_X9_init_1 : decode cX9_init 1 = .ok (.invokespecial 3, 3) := by decide +kernel
theorem d_X9_init_4 : decode cX9_init 4 = .ok (.aload_n 0, 1) := by decide +kernel
theorem d_X9_init_5 : decode cX9_init 5 = .ok (.new 9, 3) := by decide +kernel
theorem d_X9_init_8 : decode cX9_init 8 = .ok (.dup, 1) := by decide +kernel
theorem d_X9_init_9 : decode cX9_init 9 = .ok (.invokespecial 11, 3) := by decide +kernel
theorem d_X9_init_12 : decode cX9_init 12 = .ok (.putfield 12, 3) := by decide +kernel
theorem d_X9_init_15 : decode cX9_init 15 = .ok (.aload_n 0, 1) := by decide +kernel
theorem d_X9_init_16 : decode cX9_init 16 = .ok (.new 16, 3) := by decide +kernel
theorem d_X9_init_19 : decode cX9_init 19 = .ok (.dup, 1) := by decide +kernel
theorem d_X9_init_20 : decode cX9_init 20 = .ok (.invokespecial 18, 3) := by decide +kernel
theorem d_X9_init_23 : decode cX9_init 23 = .ok (.putfield 19, 3) := by decide +kernel
theorem d_X9_init_26 : decode cX9_init 26 = .ok (.aload_n 0, 1) := by decide +kernel
theorem d_X9_init_27 : decode cX9_init 27 = .ok (.new 9, 3) := by decide +kernel
theorem d_X9_init_30 : decode cX9_init 30 = .ok (.dup, 1) := by decide +kernel
theorem d_X9_init_31 : decode cX9_init 31 = .ok (.invokespecial 11, 3) := by decide +kernel
theorem d_X9_init_34 : decode cX9_init 34 = .ok (.putfield 23, 3) := by decide +kernel
theorem d_X9_init_37 : decode cX9_init 37 = .ok (.aload_n 0, 1) := by decide +kernel
theorem d_X9_init_38 : decode cX9_init 38 = .ok (.new 16, 3) := by decide +kernel
theorem d_X9_init_41 : decode cX9_init 41 = .ok (.dup, 1) := by decide +kernel
theorem d_X9_init_42 : decode cX9_init 42 = .ok (.invokespecial 18, 3) := by decide +kernel
theorem d_X9_init_45 : decode cX9_init 45 = .ok (.putfield 26, 3) := by decide +kernel
theorem d_X9_init_48 : decode cX9_init 48 = .ok (.aload_n 0, 1) := by decide +kernel
theorem d_X9_init_49 : decode cX9_init 49 = .ok (.iconst 0, 1) := by decide +kernel
theorem d_X9_init_50 : decode cX9_init 50 = .ok (.putfield 29, 3) := by decide +kernel
theorem d_X9_init_53 : decode cX9_init 53 = .ok (.aload_n 0, 1) := by decide +kernel
theorem d_X9_init_54 : decode cX9_init 54 = .ok (.new 33, 3) := by decide +kernel
theorem d_X9_init_57 : decode cX9_init 57 = .ok (.dup, 1) := by decide +kernel
theorem d_X9_init_58 : decode cX9_init 58 = .ok (.invokespecial 35, 3) := by decide +kernel
theorem d_X9_init_61 : decode cX9_init 61 = .ok (.putfield 36, 3) := by decide +kernel
theorem d_X9_init_64 : decode cX9_init 64 = .ok (.aload_n 0, 1) := by decide +kernel
theorem d_X9_init_65 : decode cX9_init 65 = .ok (.new 40, 3) := by decide +kernel
theorem d_X9_init_68 : decode cX9_init 68 = .ok (.dup, 1) := by decide +kernel
theorem d_X9_init_69 : decode cX9_init 69 = .ok (.invokespecial 42, 3) := by decide +kernel
theorem d_X9_init_72 : decode cX9_init 72 = .ok (.putfield 43, 3) := by decide +kernel
theorem d_X9_init_75 : decode cX9_init 75 = .ok (.aload_n 0, 1) := by decide +kernel
theorem d_X9_init_76 : decode cX9_init 76 = .ok (.iconst (-1), 1) := by decide +kernel
theorem d_X9_init_77 : decode cX9_init 77 = .ok (.putfield 47, 3) := by decide +kernel
theorem d_X9_init_80 : decode cX9_init 80 = .ok (.aload_n 0, 1) := by decide +kernel
theorem d_X9_init_81 : decode cX9_init 81 = .ok (.new 51, 3) := by decide +kernel
theorem d_X9_init_84 : decode cX9_init 84 = .ok (.dup, 1) := by decide +kernel
theorem d_X9_init_85 : decode cX9_init 85 = .ok (.invokespecial 53, 3) := by decide +kernel
theorem d_X9_init_88 : decode cX9_init 88 = .ok (.putfield 54, 3) := by decide +kernel
theorem d_X9_init_91 : decode cX9_init 91 = .ok (.aload_n 0, 1) := by decide +kernel
theorem d_X9_init_92 : decode cX9_init 92 = .ok (.new 58, 3) := by decide +kernel
theorem d_X9_init_95 : decode cX9_init 95 = .ok (.dup, 1) := by decide +kernel
theorem d_X9_init_96 : decode cX9_init 96 = .ok (.invokespecial 60, 3) := by decide +kernel
theorem d_X9_init_99 : decode cX9_init 99 = .ok (.putfield 61, 3) := by decide +kernel
theorem d_X9_init_102 : decode cX9_init 102 = .ok (.aload_n 0, 1) := by decide +kernel
theorem d_X9_init_103 : decode cX9_init 103 = .ok (.sipush 2401, 3) := by decide +kernel
theorem d_X9_init_106 : decode cX9_init 106 = .ok (.newarray .byte, 2) := by decide +kernel
theorem d_X9_init_108 : decode cX9_init 108 = .ok (.putfield 65, 3) := by decide +kernel
theorem d_X9_init_111 : decode cX9_init 111 = .ok (.aload_n 0, 1) := by decide +kernel
theorem d_X9_init_112 : decode cX9_init 112 = .ok (.iconst 0, 1) := by decide +kernel
theorem d_X9_init_113 : decode cX9_init 113 = .ok (.putfield 69, 3) := by decide +kernel
theorem d_X9_init_116 : decode cX9_init 116 = .ok (.aload_n 0, 1) := by decide +kernel
theorem d_X9_init_117 : decode cX9_init 117 = .ok (.sipush 2401, 3) := by decide +kernel
theorem d_X9_init_120 : decode cX9_init 120 = .ok (.newarray .int, 2) := by decide +kernel
theorem d_X9_init_122 : decode cX9_init 122 = .ok (.putfield 72, 3) := by decide +kernel
theorem d_X9_init_125 : decode cX9_init 125 = .ok (.aload_n 0, 1) := by decide +kernel
theorem d_X9_init_126 : decode cX9_init 126 = .ok (.new 76, 3) := by decide +kernel
theorem d_X9_init_129 : decode cX9_init 129 = .ok (.dup, 1) := by decide +kernel
theorem d_X9_init_130 : decode cX9_init 130 = .ok (.invokespecial 78, 3) := by decide +kernel
theorem d_X9_init_133 : decode cX9_init 133 = .ok (.putfield 79, 3) := by decide +kernel
theorem d_X9_init_136 : decode cX9_init 136 = .ok (.aload_n 0, 1) := by decide +kernel
theorem d_X9_init_137 : decode cX9_init 137 = .ok (.new 83, 3) := by decide +kernel
theorem d_X9_init_140 : decode cX9_init 140 = .ok (.dup, 1) := by decide +kernel
theorem d_X9_init_141 : decode cX9_init 141 = .ok (.invokespecial 85, 3) := by decide +kernel
theorem d_X9_init_144 : decode cX9_init 144 = .ok (.putfield 86, 3) := by decide +kernel
theorem d_X9_init_147 : decode cX9_init 147 = .ok (.aload_n 0, 1) := by decide +kernel
theorem d_X9_init_148 : decode cX9_init 148 = .ok (.new 90, 3) := by decide +kernel
theorem d_X9_init_151 : decode cX9_init 151 = .ok (.dup, 1) := by decide +kernel
theorem d_X9_init_152 : decode cX9_init 152 = .ok (.invokespecial 92, 3) := by decide +kernel
theorem d_X9_init_155 : decode cX9_init 155 = .ok (.putfield 93, 3) := by decide +kernel
theorem d_X9_init_158 : decode cX9_init 158 = .ok (.aload_n 0, 1) := by decide +kernel
theorem d_X9_init_159 : decode cX9_init 159 = .ok (.getfield 43, 3) := by decide +kernel
theorem d_X9_init_162 : decode cX9_init 162 = .ok (.aload_n 0, 1) := by decide +kernel
theorem d_X9_init_163 : decode cX9_init 163 = .ok (.getfield 12, 3) := by decide +kernel
theorem d_X9_init_166 : decode cX9_init 166 = .ok (.invokevirtual 97, 3) := by decide +kernel
theorem d_X9_init_169 : decode cX9_init 169 = .ok (.return_, 1) := by decide +kernel
theorem d_X9_pulses_0 : decode cX9_pulses 0 = .ok (.iload_n 1, 1) := by decide +kernel
theorem d_X9_pulses_1 : decode cX9_pulses 1 = .ok (.iconst 1, 1) := by decide +kernel
theorem d_X9_pulses_2 : decode cX9_pulses 2 = .ok (.if_icmp .lt 18, 3) := by decide +kernel
theorem d_X9_pulses_5 : decode cX9_pulses 5 = .ok (.iload_n 1, 1) := by decide +kernel
theorem d_X9_pulses_6 : decode cX9_pulses 6 = .ok (.iconst 5, 1) := by decide +kernel
theorem d_X9_pulses_7 : decode cX9_pulses 7 = .ok (.if_icmp .gt 13, 3) := by decide +kernel
theorem d_X9_pulses_10 : decode cX9_pulses 10 = .ok (.iload_n 2, 1) := by decide +kernel
theorem d_X9_pulses_11 : decode cX9_pulses 11 = .ok (.iconst 1, 1) := by decide +kernel
theorem d_X9_pulses_12 : decode cX9_pulses 12 = .ok (.if_icmp .lt 8, 3) := by decide +kernel
theorem d_X9_pulses_15 : decode cX9_pulses 15 = .ok (.iload_n 2, 1) := by decide +kernel
theorem d_X9_pulses_16 : decode cX9_pulses 16 = .ok (.iconst 3, 1) := by decide +kernel
theorem d_X9_pulses_17 : decode cX9_pulses 17 = .ok (.if_icmp .le 5, 3) := by decide +kernel
theorem d_X9_pulses_20 : decode cX9_pulses 20 = .ok (.iconst (-1), 1) := by decide +kernel
theorem d_X9_pulses_21 : decode cX9_pulses 21 = .ok (.ireturn, 1) := by decide +kernel
theorem d_X9_pulses_22 : decode cX9_pulses 22 = .ok (.aload_n 0, 1) := by decide +kernel
theorem d_X9_pulses_23 : decode cX9_pulses 23 = .ok (.getfield 12, 3) := by decide +kernel
theorem d_X9_pulses_26 : decode cX9_pulses 26 = .ok (.iload_n 1, 1) := by decide +kernel
theorem d_X9_pulses_27 : decode cX9_pulses 27 = .ok (.iload_n 2, 1) := by decide +kernel
theorem d_X9_pulses_28 : decode cX9_pulses 28 = .ok (.invokevirtual 101, 3) := by decide +kernel
theorem d_X9_pulses_31 : decode cX9_pulses 31 = .ok (.aload_n 0, 1) := by decide +kernel
theorem d_X9_pulses_32 : decode cX9_pulses 32 = .ok (.getfield 19, 3) := by decide +kernel
theorem d_X9_pulses_35 : decode cX9_pulses 35 = .ok (.invokevirtual 105, 3) := by decide +kernel
theorem d_X9_pulses_38 : decode cX9_pulses 38 = .ok (.aload_n 0, 1) := by decide +kernel
theorem d_X9_pulses_39 : decode cX9_pulses 39 = .ok (.invokevirtual 107, 3) := by decide +kernel
theorem d_X9_pulses_42 : decode cX9_pulses 42 = .ok (.aload_n 0, 1) := by decide +kernel
theorem d_X9_pulses_43 : decode cX9_pulses 43 = .ok (.getfield 43, 3) := by decide +kernel
theorem d_X9_pulses_46 : decode cX9_pulses 46 = .ok (.getfield 110, 3) := by decide +kernel
theorem d_X9_pulses_49 : decode cX9_pulses 49 = .ok (.ireturn, 1) := by decide +kernel
theorem d_X9_kind_0 : decode cX9_kind 0 = .ok (.aload_n 0, 1) := by decide +kernel
theorem d_X9_kind_1 : decode cX9_kind 1 = .ok (.iload_n 1, 1) := by decide +kernel
theorem d_X9_kind_2 : decode cX9_kind 2 = .ok (.invokevirtual 113, 3) := by decide +kernel
theorem d_X9_kind_5 : decode cX9_kind 5 = .ok (.ifCond .eq 12, 3) := by decide +kernel
theorem d_X9_kind_8 : decode cX9_kind 8 = .ok (.iload_n 2, 1) := by decide +kernel
theorem d_X9_kind_9 : decode cX9_kind 9 = .ok (.ifCond .lt 8, 3) := by decide +kernel
theorem d_X9_kind_12 : decode cX9_kind 12 = .ok (.iload_n 2, 1) := by decide +kernel
theorem d_X9_kind_13 : decode cX9_kind 13 = .ok (.iconst 2, 1) := by decide +kernel
theorem d_X9_kind_14 : decode cX9_kind 14 = .ok (.if_icmp .le 5, 3) := by decide +kernel
theorem d_X9_kind_17 : decode cX9_kind 17 = .ok (.iconst 0, 1) := by decide +kernel
theorem d_X9_kind_18 : decode cX9_kind 18 = .ok (.ireturn, 1) := by decide +kernel
theorem d_X9_kind_19 : decode cX9_kind 19 = .ok (.aload_n 0, 1) := by decide +kernel
theorem d_X9_kind_20 : decode cX9_kind 20 = .ok (.getfield 12, 3) := by decide +kernel
theorem d_X9_kind_23 : decode cX9_kind 23 = .ok (.getfield 117, 3) := by decide +kernel
theorem d_X9_kind_26 : decode cX9_kind 26 = .ok (.iload_n 1, 1) := by decide +kernel
theorem d_X9_kind_27 : decode cX9_kind 27 = .ok (.iload_n 2, 1) := by decide +kernel
theorem d_X9_kind_28 : decode cX9_kind 28 = .ok (.iastore, 1) := by decide +kernel
theorem d_X9_kind_29 : decode cX9_kind 29 = .ok (.aload_n 0, 1) := by decide +kernel
theorem d_X9_kind_30 : decode cX9_kind 30 = .ok (.getfield 12, 3) := by decide +kernel
theorem d_X9_kind_33 : decode cX9_kind 33 = .ok (.invokevirtual 120, 3) := by decide +kernel
theorem d_X9_kind_36 : decode cX9_kind 36 = .ok (.aload_n 0, 1) := by decide +kernel
theorem d_X9_kind_37 : decode cX9_kind 37 = .ok (.invokevirtual 107, 3) := by decide +kernel
theorem d_X9_kind_40 : decode cX9_kind 40 = .ok (.iconst 1, 1) := by decide +kernel
theorem d_X9_kind_41 : decode cX9_kind 41 = .ok (.ireturn, 1) := by decide +kernel
theorem d_X9_turn_0 : decode cX9_turn 0 = .ok (.iload_n 1, 1) := by decide +kernel
theorem d_X9_turn_1 : decode cX9_turn 1 = .ok (.iconst 2, 1) := by decide +kernel
theorem d_X9_turn_2 : decode cX9_turn 2 = .ok (.if_icmp .lt 9, 3) := by decide +kernel
theorem d_X9_turn_5 : decode cX9_turn 5 = .ok (.iload_n 1, 1) := by decide +kernel
theorem d_X9_turn_6 : decode cX9_turn 6 = .ok (.bipush 48, 2) := by decide +kernel
theorem d_X9_turn_8 : decode cX9_turn 8 = .ok (.if_icmp .le 5, 3) := by decide +kernel
theorem d_X9_turn_11 : decode cX9_turn 11 = .ok (.iconst 0, 1) := by decide +kernel
theorem d_X9_turn_12 : decode cX9_turn 12 = .ok (.ireturn, 1) := by decide +kernel
theorem d_X9_turn_13 : decode cX9_turn 13 = .ok (.aload_n 0, 1) := by decide +kernel
theorem d_X9_turn_14 : decode cX9_turn 14 = .ok (.getfield 19, 3) := by decide +kernel
theorem d_X9_turn_17 : decode cX9_turn 17 = .ok (.iload_n 1, 1) := by decide +kernel
theorem d_X9_turn_18 : decode cX9_turn 18 = .ok (.putfield 123, 3) := by decide +kernel
theorem d_X9_turn_21 : decode cX9_turn 21 = .ok (.aload_n 0, 1) := by decide +kernel
theorem d_X9_turn_22 : decode cX9_turn 22 = .ok (.getfield 19, 3) := by decide +kernel
theorem d_X9_turn_25 : decode cX9_turn 25 = .ok (.invokevirtual 105, 3) := by decide +kernel
theorem d_X9_turn_28 : decode cX9_turn 28 = .ok (.aload_n 0, 1) := by decide +kernel
theorem d_X9_turn_29 : decode cX9_turn 29 = .ok (.invokevirtual 126, 3) := by decide +kernel
theorem d_X9_turn_32 : decode cX9_turn 32 = .ok (.aload_n 0, 1) := by decide +kernel
theorem d_X9_turn_33 : decode cX9_turn 33 = .ok (.invokevirtual 129, 3) := by decide +kernel
theorem d_X9_turn_36 : decode cX9_turn 36 = .ok (.iconst 1, 1) := by decide +kernel
theorem d_X9_turn_37 : decode cX9_turn 37 = .ok (.ireturn, 1) := by decide +kernel
theorem d_X9_counter_0 : decode cX9_counter 0 = .ok (.iload_n 1, 1) := by decide +kernel
theorem d_X9_counter_1 : decode cX9_counter 1 = .ok (.invokestatic 132, 3) := by decide +kernel
theorem d_X9_counter_4 : decode cX9_counter 4 = .ok (.ifCond .eq 30, 3) := by decide +kernel
theorem d_X9_counter_7 : decode cX9_counter 7 = .ok (.iload_n 2, 1) := by decide +kernel
theorem d_X9_counter_8 : decode cX9_counter 8 = .ok (.iconst 1, 1) := by decide +kernel
theorem d_X9_counter_9 : decode cX9_counter 9 = .ok (.if_icmp .lt 25, 3) := by decide +kernel
theorem d_X9_counter_12 : decode cX9_counter 12 = .ok (.iload_n 2, 1) := by decide +kernel
theorem d_X9_counter_13 : decode cX9_counter 13 = .ok (.bipush 12, 2) := by decide +kernel
theorem d_X9_counter_15 : decode cX9_counter 15 = .ok (.if_icmp .gt 19, 3) := by decide +kernel
theorem d_X9_counter_18 : decode cX9_counter 18 = .ok (.aload_n 0, 1) := by decide +kernel
theorem d_X9_counter_19 : decode cX9_counter 19 = .ok (.getfield 19, 3) := by decide +kernel
theorem d_X9_counter_22 : decode cX9_counter 22 = .ok (.iload_n 1, 1) := by decide +kernel
theorem d_X9_counter_23 : decode cX9_counter 23 = .ok (.invokevirtual 135, 3) := by decide +kernel
theorem d_X9_counter_26 : decode cX9_counter 26 = .ok (.iload_n 2, 1) := by decide +kernel
theorem d_X9_counter_27 : decode cX9_counter 27 = .ok (.imul, 1) := by decide +kernel
theorem d_X9_counter_28 : decode cX9_counter 28 = .ok (.sipush 512, 3) := by decide +kernel
theorem d_X9_counter_31 : decode cX9_counter 31 = .ok (.if_icmp .le 5, 3) := by decide +kernel
theorem d_X9_counter_34 : decode cX9_counter 34 = .ok (.iconst (-1), 1) := by decide +kernel
theorem d_X9_counter_35 : decode cX9_counter 35 = .ok (.ireturn, 1) := by decide +kernel
theorem d_X9_counter_36 : decode cX9_counter 36 = .ok (.aload_n 0, 1) := by decide +kernel
theorem d_X9_counter_37 : decode cX9_counter 37 = .ok (.getfield 19, 3) := by decide +kernel
theorem d_X9_counter_40 : decode cX9_counter 40 = .ok (.getfield 139, 3) := by decide +kernel
theorem d_X9_counter_43 : decode cX9_counter 43 = .ok (.iload_n 1, 1) := by decide +kernel
theorem d_X9_counter_44 : decode cX9_counter 44 = .ok (.iload_n 2, 1) := by decide +kernel
theorem d_X9_counter_45 : decode cX9_counter 45 = .ok (.iastore, 1) := by decide +kernel
theorem d_X9_counter_46 : decode cX9_counter 46 = .ok (.aload_n 0, 1) := by decide +kernel
theorem d_X9_counter_47 : decode cX9_counter 47 = .ok (.invokevirtual 126, 3) := by decide +kernel
theorem d_X9_counter_50 : decode cX9_counter 50 = .ok (.aload_n 0, 1) := by decide +kernel
theorem d_X9_counter_51 : decode cX9_counter 51 = .ok (.getfield 19, 3) := by decide +kernel
theorem d_X9_counter_54 : decode cX9_counter 54 = .ok (.invokevirtual 142, 3) := by decide +kernel
theorem d_X9_counter_57 : decode cX9_counter 57 = .ok (.ireturn, 1) := by decide +kernel
theorem d_X9_step_0 : decode cX9_step 0 = .ok (.aload_n 0, 1) := by decide +kernel
theorem d_X9_step_1 : decode cX9_step 1 = .ok (.iload_n 1, 1) := by decide +kernel
theorem d_X9_step_2 : decode cX9_step 2 = .ok (.invokevirtual 146, 3) := by decide +kernel
theorem d_X9_step_5 : decode cX9_step 5 = .ok (.ifCond .eq 25, 3) := by decide +kernel
theorem d_X9_step_8 : decode cX9_step 8 = .ok (.iload_n 2, 1) := by decide +kernel
theorem d_X9_step_9 : decode cX9_step 9 = .ok (.invokestatic 132, 3) := by decide +kernel
theorem d_X9_step_12 : decode cX9_step 12 = .ok (.ifCond .eq 18, 3) := by decide +kernel
theorem d_X9_step_15 : decode cX9_step 15 = .ok (.iload_n 3, 1) := by decide +kernel
theorem d_X9_step_16 : decode cX9_step 16 = .ok (.ifCond .lt 14, 3) := by decide +kernel
theorem d_X9_step_19 : decode cX9_step 19 = .ok (.iload_n 3, 1) := by decide +kernel
theorem d_X9_step_20 : decode cX9_step 20 = .ok (.aload_n 0, 1) := by decide +kernel
theorem d_X9_step_21 : decode cX9_step 21 = .ok (.getfield 19, 3) := by decide +kernel
theorem d_X9_step_24 : decode cX9_step 24 = .ok (.getfield 123, 3) := by decide +kernel
theorem d_X9_step_27 : decode cX9_step 27 = .ok (.if_icmp .lt 5, 3) := by decide +kernel
theorem d_X9_step_30 : decode cX9_step 30 = .ok (.iconst 0, 1) := by decide +kernel
theorem d_X9_step_31 : decode cX9_step 31 = .ok (.ireturn, 1) := by decide +kernel
theorem d_X9_step_32 : decode cX9_step 32 = .ok (.aload_n 0, 1) := by decide +kernel
theorem d_X9_step_33 : decode cX9_step 33 = .ok (.getfield 19, 3) := by decide +kernel
theorem d_X9_step_36 : decode cX9_step 36 = .ok (.getfield 149, 3) := by decide +kernel
theorem d_X9_step_39 : decode cX9_step 39 = .ok (.iload_n 1, 1) := by decide +kernel
theorem d_X9_step_40 : decode cX9_step 40 = .ok (.iconst 4, 1) := by decide +kernel
theorem d_X9_step_41 : decode cX9_step 41 = .ok (.imul, 1) := by decide +kernel
theorem d_X9_step_42 : decode cX9_step 42 = .ok (.iload_n 2, 1) := by decide +kernel
theorem d_X9_step_43 : decode cX9_step 43 = .ok (.iadd, 1) := by decide +kernel
theorem d_X9_step_44 : decode cX9_step 44 = .ok (.iload_n 3, 1) := by decide +kernel
theorem d_X9_step_45 : decode cX9_step 45 = .ok (.iastore, 1) := by decide +kernel
theorem d_X9_step_46 : decode cX9_step 46 = .ok (.aload_n 0, 1) := by decide +kernel
theorem d_X9_step_47 : decode cX9_step 47 = .ok (.invokevirtual 126, 3) := by decide +kernel
theorem d_X9_step_50 : decode cX9_step 50 = .ok (.iconst 1, 1) := by decide +kernel
theorem d_X9_step_51 : decode cX9_step 51 = .ok (.ireturn, 1) := by decide +kernel
theorem d_X9_gradient_0 : decode cX9_gradient 0 = .ok (.aload_n 0, 1) := by decide +kernel
theorem d_X9_gradient_1 : decode cX9_gradient 1 = .ok (.iload_n 1, 1) := by decide +kernel
theorem d_X9_gradient_2 : decode cX9_gradient 2 = .ok (.invokevirtual 113, 3) := by decide +kernel
theorem d_X9_gradient_5 : decode cX9_gradient 5 = .ok (.ifCond .eq 15, 3) := by decide +kernel
theorem d_X9_gradient_8 : decode cX9_gradient 8 = .ok (.iload_n 2, 1) := by decide +kernel
theorem d_X9_gradient_9 : decode cX9_gradient 9 = .ok (.bipush (-9), 2) := by decide +kernel
theorem d_X9_gradient_11 : decode cX9_gradient 11 = .ok (.if_icmp .lt 9, 3) := by decide +kernel
theorem d_X9_gradient_14 : decode cX9_gradient 14 = .ok (.iload_n 2, 1) := by decide +kernel
theorem d_X9_gradient_15 : decode cX9_gradient 15 = .ok (.bipush 9, 2) := by decide +kernel
theorem d_X9_gradient_17 : decode cX9_gradient 17 = .ok (.if_icmp .le 5, 3) := by decide +kernel
theorem d_X9_gradient_20 : decode cX9_gradient 20 = .ok (.iconst 0, 1) := by decide +kernel
theorem d_X9_gradient_21 : decode cX9_gradient 21 = .ok (.ireturn, 1) := by decide +kernel
theorem d_X9_gradient_22 : decode cX9_gradient 22 = .ok (.aload_n 0, 1) := by decide +kernel
theorem d_X9_gradient_23 : decode cX9_gradient 23 = .ok (.getfield 12, 3) := by decide +kernel
theorem d_X9_gradient_26 : decode cX9_gradient 26 = .ok (.getfield 152, 3) := by decide +kernel
theorem d_X9_gradient_29 : decode cX9_gradient 29 = .ok (.iload_n 1, 1) := by decide +kernel
theorem d_X9_gradient_30 : decode cX9_gradient 30 = .ok (.iload_n 2, 1) := by decide +kernel
theorem d_X9_gradient_31 : decode cX9_gradient 31 = .ok (.iastore, 1) := by decide +kernel
theorem d_X9_gradient_32 : decode cX9_gradient 32 = .ok (.aload_n 0, 1) := by decide +kernel
theorem d_X9_gradient_33 : decode cX9_gradient 33 = .ok (.invokevirtual 155, 3) := by decide +kernel
theorem d_X9_gradient_36 : decode cX9_gradient 36 = .ok (.iconst 1, 1) := by decide +kernel
theorem d_X9_gradient_37 : decode cX9_gradient 37 = .ok (.ireturn, 1) := by decide +kernel
theorem d_X9_weight_0 : decode cX9_weight 0 = .ok (.aload_n 0, 1) := by decide +kernel
theorem d_X9_weight_1 : decode cX9_weight 1 = .ok (.iload_n 1, 1) := by decide +kernel
theorem d_X9_weight_2 : decode cX9_weight 2 = .ok (.invokevirtual 113, 3) := by decide +kernel
theorem d_X9_weight_5 : decode cX9_weight 5 = .ok (.ifCond .eq 23, 3) := by decide +kernel
theorem d_X9_weight_8 : decode cX9_weight 8 = .ok (.iload_n 2, 1) := by decide +kernel
theorem d_X9_weight_9 : decode cX9_weight 9 = .ok (.ifCond .lt 19, 3) := by decide +kernel
theorem d_X9_weight_12 : decode cX9_weight 12 = .ok (.iload_n 2, 1) := by decide +kernel
theorem d_X9_weight_13 : decode cX9_weight 13 = .ok (.bipush 7, 2) := by decide +kernel
theorem d_X9_weight_15 : decode cX9_weight 15 = .ok (.if_icmp .ge 13, 3) := by decide +kernel
theorem d_X9_weight_18 : decode cX9_weight 18 = .ok (.iload_n 3, 1) := by decide +kernel
theorem d_X9_weight_19 : decode cX9_weight 19 = .ok (.ifCond .lt 9, 3) := by decide +kernel
theorem d_X9_weight_22 : decode cX9_weight 22 = .ok (.iload_n 3, 1) := by decide +kernel
theorem d_X9_weight_23 : decode cX9_weight 23 = .ok (.bipush 9, 2) := by decide +kernel
theorem d_X9_weight_25 : decode cX9_weight 25 = .ok (.if_icmp .le 5, 3) := by decide +kernel
theorem d_X9_weight_28 : decode cX9_weight 28 = .ok (.iconst 0, 1) := by decide +kernel
theorem d_X9_weight_29 : decode cX9_weight 29 = .ok (.ireturn, 1) := by decide +kernel
theorem d_X9_weight_30 : decode cX9_weight 30 = .ok (.aload_n 0, 1) := by decide +kernel
theorem d_X9_weight_31 : decode cX9_weight 31 = .ok (.getfield 12, 3) := by decide +kernel
theorem d_X9_weight_34 : decode cX9_weight 34 = .ok (.getfield 158, 3) := by decide +kernel
theorem d_X9_weight_37 : decode cX9_weight 37 = .ok (.iload_n 1, 1) := by decide +kernel
theorem d_X9_weight_38 : decode cX9_weight 38 = .ok (.bipush 7, 2) := by decide +kernel
theorem d_X9_weight_40 : decode cX9_weight 40 = .ok (.imul, 1) := by decide +kernel
theorem d_X9_weight_41 : decode cX9_weight 41 = .ok (.iload_n 2, 1) := by decide +kernel
theorem d_X9_weight_42 : decode cX9_weight 42 = .ok (.iadd, 1) := by decide +kernel
theorem d_X9_weight_43 : decode cX9_weight 43 = .ok (.iload_n 3, 1) := by decide +kernel
theorem d_X9_weight_44 : decode cX9_weight 44 = .ok (.iastore, 1) := by decide +kernel
theorem d_X9_weight_45 : decode cX9_weight 45 = .ok (.aload_n 0, 1) := by decide +kernel
theorem d_X9_weight_46 : decode cX9_weight 46 = .ok (.invokevirtual 155, 3) := by decide +kernel
theorem d_X9_weight_49 : decode cX9_weight 49 = .ok (.iconst 1, 1) := by decide +kernel
theorem d_X9_weight_50 : decode cX9_weight 50 = .ok (.ireturn, 1) := by decide +kernel
theorem d_X9_swap_0 : decode cX9_swap 0 = .ok (.iload_n 1, 1) := by decide +kernel
theorem d_X9_swap_1 : decode cX9_swap 1 = .ok (.iload_n 2, 1) := by decide +kernel
theorem d_X9_swap_2 : decode cX9_swap 2 = .ok (.if_icmp .eq 17, 3) := by decide +kernel
theorem d_X9_swap_5 : decode cX9_swap 5 = .ok (.iload_n 1, 1) := by decide +kernel
theorem d_X9_swap_6 : decode cX9_swap 6 = .ok (.invokestatic 132, 3) := by decide +kernel
theorem d_X9_swap_9 : decode cX9_swap 9 = .ok (.ifCond .eq 10, 3) := by decide +kernel
theorem d_X9_swap_12 : decode cX9_swap 12 = .ok (.iload_n 2, 1) := by decide +kernel
theorem d_X9_swap_13 : decode cX9_swap 13 = .ok (.invokestatic 132, 3) := by decide +kernel
theorem d_X9_swap_16 : decode cX9_swap 16 = .ok (.ifCond .ne 5, 3) := by decide +kernel
theorem d_X9_swap_19 : decode cX9_swap 19 = .ok (.iconst 0, 1) := by decide +kernel
theorem d_X9_swap_20 : decode cX9_swap 20 = .ok (.ireturn, 1) := by decide +kernel
theorem d_X9_swap_21 : decode cX9_swap 21 = .ok (.aload_n 0, 1) := by decide +kernel
theorem d_X9_swap_22 : decode cX9_swap 22 = .ok (.getfield 19, 3) := by decide +kernel
theorem d_X9_swap_25 : decode cX9_swap 25 = .ok (.iload_n 1, 1) := by decide +kernel
theorem d_X9_swap_26 : decode cX9_swap 26 = .ok (.iload_n 2, 1) := by decide +kernel
theorem d_X9_swap_27 : decode cX9_swap 27 = .ok (.invokevirtual 161, 3) := by decide +kernel
theorem d_X9_swap_30 : decode cX9_swap 30 = .ok (.aload_n 0, 1) := by decide +kernel
theorem d_X9_swap_31 : decode cX9_swap 31 = .ok (.invokevirtual 126, 3) := by decide +kernel
theorem d_X9_swap_34 : decode cX9_swap 34 = .ok (.iconst 1, 1) := by decide +kernel
theorem d_X9_swap_35 : decode cX9_swap 35 = .ok (.ireturn, 1) := by decide +kernel
theorem d_X9_follow_0 : decode cX9_follow 0 = .ok (.aload_n 0, 1) := by decide +kernel
theorem d_X9_follow_1 : decode cX9_follow 1 = .ok (.getfield 19, 3) := by decide +kernel
theorem d_X9_follow_4 : decode cX9_follow 4 = .ok (.getfield 164, 3) := by decide +kernel
theorem d_X9_follow_7 : decode cX9_follow 7 = .ok (.iload_n 1, 1) := by decide +kernel
theorem d_X9_follow_8 : decode cX9_follow 8 = .ok (.if_icmp .ne 5, 3) := by decide +kernel
theorem d_X9_follow_11 : decode cX9_follow 11 = .ok (.iconst 0, 1) := by decide +kernel
theorem d_X9_follow_12 : decode cX9_follow 12 = .ok (.ireturn, 1) := by decide +kernel
theorem d_X9_follow_13 : decode cX9_follow 13 = .ok (.aload_n 0, 1) := by decide +kernel
theorem d_X9_follow_14 : decode cX9_follow 14 = .ok (.getfield 19, 3) := by decide +kernel
theorem d_X9_follow_17 : decode cX9_follow 17 = .ok (.iload_n 1, 1) := by decide +kernel
theorem d_X9_follow_18 : decode cX9_follow 18 = .ok (.putfield 164, 3) := by decide +kernel
theorem d_X9_follow_21 : decode cX9_follow 21 = .ok (.aload_n 0, 1) := by decide +kernel
theorem d_X9_follow_22 : decode cX9_follow 22 = .ok (.invokevirtual 126, 3) := by decide +kernel
theorem d_X9_follow_25 : decode cX9_follow 25 = .ok (.iconst 1, 1) := by decide +kernel
theorem d_X9_follow_26 : decode cX9_follow 26 = .ok (.ireturn, 1) := by decide +kernel
theorem d_X9_wish_0 : decode cX9_wish 0 = .ok (.aload_n 0, 1) := by decide +kernel
theorem d_X9_wish_1 : decode cX9_wish 1 = .ok (.iload_n 1, 1) := by decide +kernel
theorem d_X9_wish_2 : decode cX9_wish 2 = .ok (.iconst 1, 1) := by decide +kernel
theorem d_X9_wish_3 : decode cX9_wish 3 = .ok (.iload_n 2, 1) := by decide +kernel
theorem d_X9_wish_4 : decode cX9_wish 4 = .ok (.invokevirtual 167, 3) := by decide +kernel
theorem d_X9_wish_7 : decode cX9_wish 7 = .ok (.ireturn, 1) := by decide +kernel
theorem d_X9_free_0 : decode cX9_free 0 = .ok (.aload_n 0, 1) := by decide +kernel
theorem d_X9_free_1 : decode cX9_free 1 = .ok (.iload_n 1, 1) := by decide +kernel
theorem d_X9_free_2 : decode cX9_free 2 = .ok (.iconst 2, 1) := by decide +kernel
theorem d_X9_free_3 : decode cX9_free 3 = .ok (.iload_n 2, 1) := by decide +kernel
theorem d_X9_free_4 : decode cX9_free 4 = .ok (.invokevirtual 167, 3) := by decide +kernel
theorem d_X9_free_7 : decode cX9_free 7 = .ok (.ireturn, 1) := by decide +kernel
theorem d_X9_freeAll_0 : decode cX9_freeAll 0 = .ok (.aload_n 0, 1) := by decide +kernel
theorem d_X9_freeAll_1 : decode cX9_freeAll 1 = .ok (.iload_n 1, 1) := by decide +kernel
theorem d_X9_freeAll_2 : decode cX9_freeAll 2 = .ok (.invokevirtual 113, 3) := by decide +kernel
theorem d_X9_freeAll_5 : decode cX9_freeAll 5 = .ok (.ifCond .eq 26, 3) := by decide +kernel
theorem d_X9_freeAll_8 : decode cX9_freeAll 8 = .ok (.iload_n 2, 1) := by decide +kernel
theorem d_X9_freeAll_9 : decode cX9_freeAll 9 = .ok (.aload_n 0, 1) := by decide +kernel
theorem d_X9_freeAll_10 : decode cX9_freeAll 10 = .ok (.getfield 12, 3) := by decide +kernel
theorem d_X9_freeAll_13 : decode cX9_freeAll 13 = .ok (.getfield 171, 3) := by decide +kernel
theorem d_X9_freeAll_16 : decode cX9_freeAll 16 = .ok (.ineg, 1) := by decide +kernel
theorem d_X9_freeAll_17 : decode cX9_freeAll 17 = .ok (.if_icmp .lt 14, 3) := by decide +kernel
theorem d_X9_freeAll_20 : decode cX9_freeAll 20 = .ok (.iload_n 2, 1) := by decide +kernel
theorem d_X9_freeAll_21 : decode cX9_freeAll 21 = .ok (.aload_n 0, 1) := by decide +kernel
theorem d_X9_freeAll_22 : decode cX9_freeAll 22 = .ok (.getfield 12, 3) := by decide +kernel
theorem d_X9_freeAll_25 : decode cX9_freeAll 25 = .ok (.getfield 171, 3) := by decide +kernel
theorem d_X9_freeAll_28 : decode cX9_freeAll 28 = .ok (.if_icmp .le 5, 3) := by decide +kernel
theorem d_X9_freeAll_31 : decode cX9_freeAll 31 = .ok (.iconst (-1), 1) := by decide +kernel
theorem d_X9_freeAll_32 : decode cX9_freeAll 32 = .ok (.ireturn, 1) := by decide +kernel
theorem d_X9_freeAll_33 : decode cX9_freeAll 33 = .ok (.iconst 0, 1) := by decide +kernel
theorem d_X9_freeAll_34 : decode cX9_freeAll 34 = .ok (.istore_n 3, 1) := by decide +kernel
theorem d_X9_freeAll_35 : decode cX9_freeAll 35 = .ok (.iconst 0, 1) := by decide +kernel
theorem d_X9_freeAll_36 : decode cX9_freeAll 36 = .ok (.istore 4, 2) := by decide +kernel
theorem d_X9_freeAll_38 : decode cX9_freeAll 38 = .ok (.iload 4, 2) := by decide +kernel
theorem d_X9_freeAll_40 : decode cX9_freeAll 40 = .ok (.aload_n 0, 1) := by decide +kernel
theorem d_X9_freeAll_41 : decode cX9_freeAll 41 = .ok (.getfield 43, 3) := by decide +kernel
theorem d_X9_freeAll_44 : decode cX9_freeAll 44 = .ok (.getfield 110, 3) := by decide +kernel
theorem d_X9_freeAll_47 : decode cX9_freeAll 47 = .ok (.if_icmp .ge 50, 3) := by decide +kernel
theorem d_X9_freeAll_50 : decode cX9_freeAll 50 = .ok (.aload_n 0, 1) := by decide +kernel
theorem d_X9_freeAll_51 : decode cX9_freeAll 51 = .ok (.getfield 43, 3) := by decide +kernel
theorem d_X9_freeAll_54 : decode cX9_freeAll 54 = .ok (.iload 4, 2) := by decide +kernel
theorem d_X9_freeAll_56 : decode cX9_freeAll 56 = .ok (.iload_n 1, 1) := by decide +kernel
theorem d_X9_freeAll_57 : decode cX9_freeAll 57 = .ok (.invokevirtual 174, 3) := by decide +kernel
theorem d_X9_freeAll_60 : decode cX9_freeAll 60 = .ok (.iload_n 2, 1) := by decide +kernel
theorem d_X9_freeAll_61 : decode cX9_freeAll 61 = .ok (.if_icmp .ne 30, 3) := by decide +kernel
theorem d_X9_freeAll_64 : decode cX9_freeAll 64 = .ok (.aload_n 0, 1) := by decide +kernel
theorem d_X9_freeAll_65 : decode cX9_freeAll 65 = .ok (.getfield 12, 3) := by decide +kernel
theorem d_X9_freeAll_68 : decode cX9_freeAll 68 = .ok (.getfield 178, 3) := by decide +kernel
theorem d_X9_freeAll_71 : decode cX9_freeAll 71 = .ok (.iload 4, 2) := by decide +kernel
theorem d_X9_freeAll_73 : decode cX9_freeAll 73 = .ok (.baload, 1) := by decide +kernel
theorem d_X9_freeAll_74 : decode cX9_freeAll 74 = .ok (.ifCond .ne 17, 3) := by decide +kernel
theorem d_X9_freeAll_77 : decode cX9_freeAll 77 = .ok (.aload_n 0, 1) := by decide +kernel
theorem d_X9_freeAll_78 : decode cX9_freeAll 78 = .ok (.getfield 12, 3) := by decide +kernel
theorem d_X9_freeAll_81 : decode cX9_freeAll 81 = .ok (.getfield 178, 3) := by decide +kernel
theorem d_X9_freeAll_84 : decode cX9_freeAll 84 = .ok (.iload 4, 2) := by decide +kernel
theorem d_X9_freeAll_86 : decode cX9_freeAll 86 = .ok (.iconst 2, 1) := by decide +kernel
theorem d_X9_freeAll_87 : decode cX9_freeAll 87 = .ok (.bastore, 1) := by decide +kernel
theorem d_X9_freeAll_88 : decode cX9_freeAll 88 = .ok (.iinc 3 1, 3) := by decide +kernel
theorem d_X9_freeAll_91 : decode cX9_freeAll 91 = .ok (.iinc 4 1, 3) := by decide +kernel
theorem d_X9_freeAll_94 : decode cX9_freeAll 94 = .ok (.goto (-56), 3) := by decide +kernel
theorem d_X9_freeAll_97 : decode cX9_freeAll 97 = .ok (.aload_n 0, 1) := by decide +kernel
theorem d_X9_freeAll_98 : decode cX9_freeAll 98 = .ok (.invokevirtual 129, 3) := by decide +kernel
theorem d_X9_freeAll_101 : decode cX9_freeAll 101 = .ok (.iload_n 3, 1) := by decide +kernel
theorem d_X9_freeAll_102 : decode cX9_freeAll 102 = .ok (.ireturn, 1) := by decide +kernel
theorem d_X9_mark_0 : decode cX9_mark 0 = .ok (.aload_n 0, 1) := by decide +kernel
theorem d_X9_mark_1 : decode cX9_mark 1 = .ok (.iload_n 1, 1) := by decide +kernel
theorem d_X9_mark_2 : decode cX9_mark 2 = .ok (.invokevirtual 181, 3) := by decide +kernel
theorem d_X9_mark_5 : decode cX9_mark 5 = .ok (.ifCond .eq 25, 3) := by decide +kernel
theorem d_X9_mark_8 : decode cX9_mark 8 = .ok (.aload_n 0, 1) := by decide +kernel
theorem d_X9_mark_9 : decode cX9_mark 9 = .ok (.getfield 12, 3) := by decide +kernel
theorem d_X9_mark_12 : decode cX9_mark 12 = .ok (.getfield 178, 3) := by decide +kernel
theorem d_X9_mark_15 : decode cX9_mark 15 = .ok (.iload_n 1, 1) := by decide +kernel
theorem d_X9_mark_16 : decode cX9_mark 16 = .ok (.baload, 1) := by decide +kernel
theorem d_X9_mark_17 : decode cX9_mark 17 = .ok (.iload_n 2, 1) := by decide +kernel
theorem d_X9_mark_18 : decode cX9_mark 18 = .ok (.if_icmp .ne 7, 3) := by decide +kernel
theorem d_X9_mark_21 : decode cX9_mark 21 = .ok (.iconst 1, 1) := by decide +kernel
theorem d_X9_mark_22 : decode cX9_mark 22 = .ok (.goto 4, 3) := by decide +kernel
theorem d_X9_mark_25 : decode cX9_mark 25 = .ok (.iconst 0, 1) := by decide +kernel
theorem d_X9_mark_26 : decode cX9_mark 26 = .ok (.iload_n 3, 1) := by decide +kernel
theorem d_X9_mark_27 : decode cX9_mark 27 = .ok (.if_icmp .ne 5, 3) := by decide +kernel
theorem d_X9_mark_30 : decode cX9_mark 30 = .ok (.iconst 0, 1) := by decide +kernel
theorem d_X9_mark_31 : decode cX9_mark 31 = .ok (.ireturn, 1) := by decide +kernel
theorem d_X9_mark_32 : decode cX9_mark 32 = .ok (.aload_n 0, 1) := by decide +kernel
theorem d_X9_mark_33 : decode cX9_mark 33 = .ok (.getfield 12, 3) := by decide +kernel
theorem d_X9_mark_36 : decode cX9_mark 36 = .ok (.getfield 178, 3) := by decide +kernel
theorem d_X9_mark_39 : decode cX9_mark 39 = .ok (.iload_n 1, 1) := by decide +kernel
theorem d_X9_mark_40 : decode cX9_mark 40 = .ok (.iload_n 3, 1) := by decide +kernel
theorem d_X9_mark_41 : decode cX9_mark 41 = .ok (.ifCond .eq 7, 3) := by decide +kernel
theorem d_X9_mark_44 : decode cX9_mark 44 = .ok (.iload_n 2, 1) := by decide +kernel
theorem d_X9_mark_45 : decode cX9_mark 45 = .ok (.goto 4, 3) := by decide +kernel
theorem d_X9_mark_48 : decode cX9_mark 48 = .ok (.iconst 0, 1) := by decide +kernel
theorem d_X9_mark_49 : decode cX9_mark 49 = .ok (.i2b, 1) := by decide +kernel
theorem d_X9_mark_50 : decode cX9_mark 50 = .ok (.bastore, 1) := by decide +kernel
theorem d_X9_mark_51 : decode cX9_mark 51 = .ok (.aload_n 0, 1) := by decide +kernel
theorem d_X9_mark_52 : decode cX9_mark 52 = .ok (.getfield 47, 3) := by decide +kernel
theorem d_X9_mark_55 : decode cX9_mark 55 = .ok (.istore 4, 2) := by decide +kernel
theorem d_X9_mark_57 : decode cX9_mark 57 = .ok (.aload_n 0, 1) := by decide +kernel
theorem d_X9_mark_58 : decode cX9_mark 58 = .ok (.aload_n 0, 1) := by decide +kernel
theorem d_X9_mark_59 : decode cX9_mark 59 = .ok (.getfield 12, 3) := by decide +kernel
theorem d_X9_mark_62 : decode cX9_mark 62 = .ok (.aload_n 0, 1) := by decide +kernel
theorem d_X9_mark_63 : decode cX9_mark 63 = .ok (.getfield 43, 3) := by decide +kernel
theorem d_X9_mark_66 : decode cX9_mark 66 = .ok (.getfield 110, 3) := by decide +kernel
theorem d_X9_mark_69 : decode cX9_mark 69 = .ok (.invokevirtual 184, 3) := by decide +kernel
theorem d_X9_mark_72 : decode cX9_mark 72 = .ok (.putfield 47, 3) := by decide +kernel
theorem d_X9_mark_75 : decode cX9_mark 75 = .ok (.aload_n 0, 1) := by decide +kernel
theorem d_X9_mark_76 : decode cX9_mark 76 = .ok (.getfield 47, 3) := by decide +kernel
theorem d_X9_mark_79 : decode cX9_mark 79 = .ok (.iload 4, 2) := by decide +kernel
theorem d_X9_mark_81 : decode cX9_mark 81 = .ok (.if_icmp .eq 17, 3) := by decide +kernel
theorem d_X9_mark_84 : decode cX9_mark 84 = .ok (.aload_n 0, 1) := by decide +kernel
theorem d_X9_mark_85 : decode cX9_mark 85 = .ok (.getfield 19, 3) := by decide +kernel
theorem d_X9_mark_88 : decode cX9_mark 88 = .ok (.getfield 164, 3) := by decide +kernel
theorem d_X9_mark_91 : decode cX9_mark 91 = .ok (.ifCond .eq 7, 3) := by decide +kernel
theorem d_X9_mark_94 : decode cX9_mark 94 = .ok (.aload_n 0, 1) := by decide +kernel
theorem d_X9_mark_95 : decode cX9_mark 95 = .ok (.invokevirtual 126, 3) := by decide +kernel
theorem d_X9_mark_98 : decode cX9_mark 98 = .ok (.aload_n 0, 1) := by decide +kernel
theorem d_X9_mark_99 : decode cX9_mark 99 = .ok (.invokevirtual 129, 3) := by decide +kernel
theorem d_X9_mark_102 : decode cX9_mark 102 = .ok (.iconst 1, 1) := by decide +kernel
theorem d_X9_mark_103 : decode cX9_mark 103 = .ok (.ireturn, 1) := by decide +kernel
theorem d_X9_feed_0 : decode cX9_feed 0 = .ok (.aload_n 0, 1) := by decide +kernel
theorem d_X9_feed_1 : decode cX9_feed 1 = .ok (.getfield 36, 3) := by decide +kernel
theorem d_X9_feed_4 : decode cX9_feed 4 = .ok (.getfield 187, 3) := by decide +kernel
theorem d_X9_feed_7 : decode cX9_feed 7 = .ok (.bipush 20, 2) := by decide +kernel
theorem d_X9_feed_9 : decode cX9_feed 9 = .ok (.iadd, 1) := by decide +kernel
theorem d_X9_feed_10 : decode cX9_feed 10 = .ok (.sipush 400, 3) := by decide +kernel
theorem d_X9_feed_13 : decode cX9_feed 13 = .ok (.if_icmp .le 5, 3) := by decide +kernel
theorem d_X9_feed_16 : decode cX9_feed 16 = .ok (.iconst (-1), 1) := by decide +kernel
theorem d_X9_feed_17 : decode cX9_feed 17 = .ok (.ireturn, 1) := by decide +kernel
theorem d_X9_feed_18 : decode cX9_feed 18 = .ok (.aload_n 0, 1) := by decide +kernel
theorem d_X9_feed_19 : decode cX9_feed 19 = .ok (.getfield 36, 3) := by decide +kernel
theorem d_X9_feed_22 : decode cX9_feed 22 = .ok (.iload_n 1, 1) := by decide +kernel
theorem d_X9_feed_23 : decode cX9_feed 23 = .ok (.invokevirtual 190, 3) := by decide +kernel
theorem d_X9_feed_26 : decode cX9_feed 26 = .ok (.aload_n 0, 1) := by decide +kernel
theorem d_X9_feed_27 : decode cX9_feed 27 = .ok (.getfield 36, 3) := by decide +kernel
theorem d_X9_feed_30 : decode cX9_feed 30 = .ok (.iload_n 2, 1) := by decide +kernel
theorem d_X9_feed_31 : decode cX9_feed 31 = .ok (.invokevirtual 190, 3) := by decide +kernel
theorem d_X9_feed_34 : decode cX9_feed 34 = .ok (.aload_n 0, 1) := by decide +kernel
theorem d_X9_feed_35 : decode cX9_feed 35 = .ok (.getfield 36, 3) := by decide +kernel
theorem d_X9_feed_38 : decode cX9_feed 38 = .ok (.iload_n 3, 1) := by decide +kernel
theorem d_X9_feed_39 : decode cX9_feed 39 = .ok (.invokevirtual 190, 3) := by decide +kernel
theorem d_X9_feed_42 : decode cX9_feed 42 = .ok (.aload_n 0, 1) := by decide +kernel
theorem d_X9_feed_43 : decode cX9_feed 43 = .ok (.getfield 36, 3) := by decide +kernel
theorem d_X9_feed_46 : decode cX9_feed 46 = .ok (.iload 4, 2) := by decide +kernel
theorem d_X9_feed_48 : decode cX9_feed 48 = .ok (.invokevirtual 190, 3) := by decide +kernel
theorem d_X9_feed_51 : decode cX9_feed 51 = .ok (.aload_n 0, 1) := by decide +kernel
theorem d_X9_feed_52 : decode cX9_feed 52 = .ok (.getfield 36, 3) := by decide +kernel
theorem d_X9_feed_55 : decode cX9_feed 55 = .ok (.iload 5, 2) := by decide +kernel
theorem d_X9_feed_57 : decode cX9_feed 57 = .ok (.invokevirtual 190, 3) := by decide +kernel
theorem d_X9_feed_60 : decode cX9_feed 60 = .ok (.aload_n 0, 1) := by decide +kernel
theorem d_X9_feed_61 : decode cX9_feed 61 = .ok (.getfield 36, 3) := by decide +kernel
theorem d_X9_feed_64 : decode cX9_feed 64 = .ok (.getfield 187, 3) := by decide +kernel
theorem d_X9_feed_67 : decode cX9_feed 67 = .ok (.ireturn, 1) := by decide +kernel
theorem d_X9_end_0 : decode cX9_end 0 = .ok (.iload_n 1, 1) := by decide +kernel
theorem d_X9_end_1 : decode cX9_end 1 = .ok (.ifCond .lt 14, 3) := by decide +kernel
theorem d_X9_end_4 : decode cX9_end 4 = .ok (.iload_n 1, 1) := by decide +kernel
theorem d_X9_end_5 : decode cX9_end 5 = .ok (.aload_n 0, 1) := by decide +kernel
theorem d_X9_end_6 : decode cX9_end 6 = .ok (.getfield 36, 3) := by decide +kernel
theorem d_X9_end_9 : decode cX9_end 9 = .ok (.getfield 187, 3) := by decide +kernel
theorem d_X9_end_12 : decode cX9_end 12 = .ok (.if_icmp .le 5, 3) := by decide +kernel
theorem d_X9_end_15 : decode cX9_end 15 = .ok (.iconst 0, 1) := by decide +kernel
theorem d_X9_end_16 : decode cX9_end 16 = .ok (.ireturn, 1) := by decide +kernel
theorem d_X9_end_17 : decode cX9_end 17 = .ok (.aload_n 0, 1) := by decide +kernel
theorem d_X9_end_18 : decode cX9_end 18 = .ok (.getfield 36, 3) := by decide +kernel
theorem d_X9_end_21 : decode cX9_end 21 = .ok (.iload_n 1, 1) := by decide +kernel
theorem d_X9_end_22 : decode cX9_end 22 = .ok (.putfield 187, 3) := by decide +kernel
theorem d_X9_end_25 : decode cX9_end 25 = .ok (.iconst 1, 1) := by decide +kernel
theorem d_X9_end_26 : decode cX9_end 26 = .ok (.ireturn, 1) := by decide +kernel
theorem d_X9_rows_0 : decode cX9_rows 0 = .ok (.aload_n 0, 1) := by decide +kernel
theorem d_X9_rows_1 : decode cX9_rows 1 = .ok (.getfield 36, 3) := by decide +kernel
theorem d_X9_rows_4 : decode cX9_rows 4 = .ok (.aload_n 0, 1) := by decide +kernel
theorem d_X9_rows_5 : decode cX9_rows 5 = .ok (.getfield 12, 3) := by decide +kernel
theorem d_X9_rows_8 : decode cX9_rows 8 = .ok (.getfield 194, 3) := by decide +kernel
theorem d_X9_rows_11 : decode cX9_rows 11 = .ok (.aload_n 0, 1) := by decide +kernel
theorem d_X9_rows_12 : decode cX9_rows 12 = .ok (.getfield 19, 3) := by decide +kernel
theorem d_X9_rows_15 : decode cX9_rows 15 = .ok (.getfield 123, 3) := by decide +kernel
theorem d_X9_rows_18 : decode cX9_rows 18 = .ok (.invokevirtual 197, 3) := by decide +kernel
theorem d_X9_rows_21 : decode cX9_rows 21 = .ok (.istore_n 1, 1) := by decide +kernel
theorem d_X9_rows_22 : decode cX9_rows 22 = .ok (.aload_n 0, 1) := by decide +kernel
theorem d_X9_rows_23 : decode cX9_rows 23 = .ok (.getfield 36, 3) := by decide +kernel
theorem d_X9_rows_26 : decode cX9_rows 26 = .ok (.iconst 0, 1) := by decide +kernel
theorem d_X9_rows_27 : decode cX9_rows 27 = .ok (.putfield 187, 3) := by decide +kernel
theorem d_X9_rows_30 : decode cX9_rows 30 = .ok (.iload_n 1, 1) := by decide +kernel
theorem d_X9_rows_31 : decode cX9_rows 31 = .ok (.iconst (-1), 1) := by decide +kernel
theorem d_X9_rows_32 : decode cX9_rows 32 = .ok (.if_icmp .eq 28, 3) := by decide +kernel
theorem d_X9_rows_35 : decode cX9_rows 35 = .ok (.aload_n 0, 1) := by decide +kernel
theorem d_X9_rows_36 : decode cX9_rows 36 = .ok (.getfield 19, 3) := by decide +kernel
theorem d_X9_rows_39 : decode cX9_rows 39 = .ok (.aload_n 0, 1) := by decide +kernel
theorem d_X9_rows_40 : decode cX9_rows 40 = .ok (.getfield 36, 3) := by decide +kernel
theorem d_X9_rows_43 : decode cX9_rows 43 = .ok (.getfield 200, 3) := by decide +kernel
theorem d_X9_rows_46 : decode cX9_rows 46 = .ok (.aload_n 0, 1) := by decide +kernel
theorem d_X9_rows_47 : decode cX9_rows 47 = .ok (.getfield 36, 3) := by decide +kernel
theorem d_X9_rows_50 : decode cX9_rows 50 = .ok (.getfield 203, 3) := by decide +kernel
theorem d_X9_rows_53 : decode cX9_rows 53 = .ok (.invokevirtual 206, 3) := by decide +kernel
theorem d_X9_rows_56 : decode cX9_rows 56 = .ok (.aload_n 0, 1) := by decide +kernel
theorem d_X9_rows_57 : decode cX9_rows 57 = .ok (.invokevirtual 126, 3) := by decide +kernel
theorem d_X9_rows_60 : decode cX9_rows 60 = .ok (.iload_n 1, 1) := by decide +kernel
theorem d_X9_rows_61 : decode cX9_rows 61 = .ok (.ireturn, 1) := by decide +kernel
theorem d_X9_fault_0 : decode cX9_fault 0 = .ok (.iload_n 1, 1) := by decide +kernel
theorem d_X9_fault_1 : decode cX9_fault 1 = .ok (.ifCond .ne 11, 3) := by decide +kernel
theorem d_X9_fault_4 : decode cX9_fault 4 = .ok (.aload_n 0, 1) := by decide +kernel
theorem d_X9_fault_5 : decode cX9_fault 5 = .ok (.getfield 36, 3) := by decide +kernel
theorem d_X9_fault_8 : decode cX9_fault 8 = .ok (.getfield 210, 3) := by decide +kernel
theorem d_X9_fault_11 : decode cX9_fault 11 = .ok (.ireturn, 1) := by decide +kernel
theorem d_X9_fault_12 : decode cX9_fault 12 = .ok (.iload_n 1, 1) := by decide +kernel
theorem d_X9_fault_13 : decode cX9_fault 13 = .ok (.iconst 1, 1) := by decide +kernel
theorem d_X9_fault_14 : decode cX9_fault 14 = .ok (.if_icmp .ne 13, 3) := by decide +kernel
theorem d_X9_fault_17 : decode cX9_fault 17 = .ok (.aload_n 0, 1) := by decide +kernel
theorem d_X9_fault_18 : decode cX9_fault 18 = .ok (.getfield 36, 3) := by decide +kernel
theorem d_X9_fault_21 : decode cX9_fault 21 = .ok (.getfield 213, 3) := by decide +kernel
theorem d_X9_fault_24 : decode cX9_fault 24 = .ok (.goto 4, 3) := by decide +kernel
theorem d_X9_fault_27 : decode cX9_fault 27 = .ok (.iconst (-1), 1) := by decide +kernel
theorem d_X9_fault_28 : decode cX9_fault 28 = .ok (.ireturn, 1) := by decide +kernel
theorem d_X9_lay_0 : decode cX9_lay 0 = .ok (.iconst 0, 1) := by decide +kernel
theorem d_X9_lay_1 : decode cX9_lay 1 = .ok (.istore_n 2, 1) := by decide +kernel
theorem d_X9_lay_2 : decode cX9_lay 2 = .ok (.iload_n 1, 1) := by decide +kernel
theorem d_X9_lay_3 : decode cX9_lay 3 = .ok (.ifCond .ne 34, 3) := by decide +kernel
theorem d_X9_lay_6 : decode cX9_lay 6 = .ok (.aload_n 0, 1) := by decide +kernel
theorem d_X9_lay_7 : decode cX9_lay 7 = .ok (.invokevirtual 216, 3) := by decide +kernel
theorem d_X9_lay_10 : decode cX9_lay 10 = .ok (.aload_n 0, 1) := by decide +kernel
theorem d_X9_lay_11 : decode cX9_lay 11 = .ok (.getfield 86, 3) := by decide +kernel
theorem d_X9_lay_14 : decode cX9_lay 14 = .ok (.getfield 219, 3) := by decide +kernel
theorem d_X9_lay_17 : decode cX9_lay 17 = .ok (.iconst (-1), 1) := by decide +kernel
theorem d_X9_lay_18 : decode cX9_lay 18 = .ok (.if_icmp .eq 14, 3) := by decide +kernel
theorem d_X9_lay_21 : decode cX9_lay 21 = .ok (.aload_n 0, 1) := by decide +kernel
theorem d_X9_lay_22 : decode cX9_lay 22 = .ok (.invokevirtual 222, 3) := by decide +kernel
theorem d_X9_lay_25 : decode cX9_lay 25 = .ok (.ifCond .eq 7, 3) := by decide +kernel
theorem d_X9_lay_28 : decode cX9_lay 28 = .ok (.iconst 1, 1) := by decide +kernel
theorem d_X9_lay_29 : decode cX9_lay 29 = .ok (.goto 4, 3) := by decide +kernel
theorem d_X9_lay_32 : decode cX9_lay 32 = .ok (.iconst 0, 1) := by decide +kernel
theorem d_X9_lay_33 : decode cX9_lay 33 = .ok (.istore_n 2, 1) := by decide +kernel
theorem d_X9_lay_34 : decode cX9_lay 34 = .ok (.goto 36, 3) := by decide +kernel
theorem d_X9_lay_37 : decode cX9_lay 37 = .ok (.iload_n 1, 1) := by decide +kernel
theorem d_X9_lay_38 : decode cX9_lay 38 = .ok (.iconst 1, 1) := by decide +kernel
theorem d_X9_lay_39 : decode cX9_lay 39 = .ok (.if_icmp .ne 31, 3) := by decide +kernel
theorem d_X9_lay_42 : decode cX9_lay 42 = .ok (.aload_n 0, 1) := by decide +kernel
theorem d_X9_lay_43 : decode cX9_lay 43 = .ok (.invokevirtual 226, 3) := by decide +kernel
theorem d_X9_lay_46 : decode cX9_lay 46 = .ok (.aload_n 0, 1) := by decide +kernel
theorem d_X9_lay_47 : decode cX9_lay 47 = .ok (.getfield 93, 3) := by decide +kernel
theorem d_X9_lay_50 : decode cX9_lay 50 = .ok (.getfield 229, 3) := by decide +kernel
theorem d_X9_lay_53 : decode cX9_lay 53 = .ok (.iconst (-1), 1) := by decide +kernel
theorem d_X9_lay_54 : decode cX9_lay 54 = .ok (.if_icmp .eq 14, 3) := by decide +kernel
theorem d_X9_lay_57 : decode cX9_lay 57 = .ok (.aload_n 0, 1) := by decide +kernel
theorem d_X9_lay_58 : decode cX9_lay 58 = .ok (.invokevirtual 232, 3) := by decide +kernel
theorem d_X9_lay_61 : decode cX9_lay 61 = .ok (.ifCond .eq 7, 3) := by decide +kernel
theorem d_X9_lay_64 : decode cX9_lay 64 = .ok (.iconst 1, 1) := by decide +kernel
theorem d_X9_lay_65 : decode cX9_lay 65 = .ok (.goto 4, 3) := by decide +kernel
theorem d_X9_lay_68 : decode cX9_lay 68 = .ok (.iconst 0, 1) := by decide +kernel
theorem d_X9_lay_69 : decode cX9_lay 69 = .ok (.istore_n 2, 1) := by decide +kernel
theorem d_X9_lay_70 : decode cX9_lay 70 = .ok (.iload_n 2, 1) := by decide +kernel
theorem d_X9_lay_71 : decode cX9_lay 71 = .ok (.ifCond .ne 5, 3) := by decide +kernel
theorem d_X9_lay_74 : decode cX9_lay 74 = .ok (.iconst (-1), 1) := by decide +kernel
theorem d_X9_lay_75 : decode cX9_lay 75 = .ok (.ireturn, 1) := by decide +kernel
theorem d_X9_lay_76 : decode cX9_lay 76 = .ok (.aload_n 0, 1) := by decide +kernel
theorem d_X9_lay_77 : decode cX9_lay 77 = .ok (.getfield 19, 3) := by decide +kernel
theorem d_X9_lay_80 : decode cX9_lay 80 = .ok (.iconst 1, 1) := by decide +kernel
theorem d_X9_lay_81 : decode cX9_lay 81 = .ok (.putfield 164, 3) := by decide +kernel
theorem d_X9_lay_84 : decode cX9_lay 84 = .ok (.aload_n 0, 1) := by decide +kernel
theorem d_X9_lay_85 : decode cX9_lay 85 = .ok (.invokevirtual 126, 3) := by decide +kernel
theorem d_X9_lay_88 : decode cX9_lay 88 = .ok (.aload_n 0, 1) := by decide +kernel
theorem d_X9_lay_89 : decode cX9_lay 89 = .ok (.getfield 19, 3) := by decide +kernel
theorem d_X9_lay_92 : decode cX9_lay 92 = .ok (.invokevirtual 142, 3) := by decide +kernel
theorem d_X9_lay_95 : decode cX9_lay 95 = .ok (.ireturn, 1) := by decide +kernel
theorem d_X9_layFewest_0 : decode cX9_layFewest 0 = .ok (.iconst 0, 1) := by decide +kernel
theorem d_X9_layFewest_1 : decode cX9_layFewest 1 = .ok (.istore_n 1, 1) := by decide +kernel
theorem d_X9_layFewest_2 : decode cX9_layFewest 2 = .ok (.iconst 0, 1) := by decide +kernel
theorem d_X9_layFewest_3 : decode cX9_layFewest 3 = .ok (.istore_n 2, 1) := by decide +kernel
theorem d_X9_layFewest_4 : decode cX9_layFewest 4 = .ok (.iload_n 2, 1) := by decide +kernel
theorem d_X9_layFewest_5 : decode cX9_layFewest 5 = .ok (.aload_n 0, 1) := by decide +kernel
theorem d_X9_layFewest_6 : decode cX9_layFewest 6 = .ok (.getfield 12, 3) := by decide +kernel
theorem d_X9_layFewest_9 : decode cX9_layFewest 9 = .ok (.getfield 194, 3) := by decide +kernel
theorem d_X9_layFewest_12 : decode cX9_layFewest 12 = .ok (.if_icmp .ge 25, 3) := by decide +kernel
theorem d_X9_layFewest_15 : decode cX9_layFewest 15 = .ok (.aload_n 0, 1) := by decide +kernel
theorem d_X9_layFewest_16 : decode cX9_layFewest 16 = .ok (.getfield 86, 3) := by decide +kernel
theorem d_X9_layFewest_19 : decode cX9_layFewest 19 = .ok (.getfield 235, 3) := by decide +kernel
theorem d_X9_layFewest_22 : decode cX9_layFewest 22 = .ok (.iload_n 2, 1) := by decide +kernel
theorem d_X9_layFewest_23 : decode cX9_layFewest 23 = .ok (.iaload, 1) := by decide +kernel
theorem d_X9_layFewest_24 : decode cX9_layFewest 24 = .ok (.iconst 1, 1) := by decide +kernel
theorem d_X9_layFewest_25 : decode cX9_layFewest 25 = .ok (.if_icmp .le 6, 3) := by decide +kernel
theorem d_X9_layFewest_28 : decode cX9_layFewest 28 = .ok (.iinc 1 1, 3) := by decide +kernel
theorem d_X9_layFewest_31 : decode cX9_layFewest 31 = .ok (.iinc 2 1, 3) := by decide +kernel
theorem d_X9_layFewest_34 : decode cX9_layFewest 34 = .ok (.goto (-30), 3) := by decide +kernel
theorem d_X9_layFewest_37 : decode cX9_layFewest 37 = .ok (.iload_n 1, 1) := by decide +kernel
theorem d_X9_layFewest_38 : decode cX9_layFewest 38 = .ok (.iconst 4, 1) := by decide +kernel
theorem d_X9_layFewest_39 : decode cX9_layFewest 39 = .ok (.if_icmp .gt 16, 3) := by decide +kernel
theorem d_X9_layFewest_42 : decode cX9_layFewest 42 = .ok (.aload_n 0, 1) := by decide +kernel
theorem d_X9_layFewest_43 : decode cX9_layFewest 43 = .ok (.getfield 86, 3) := by decide +kernel
theorem d_X9_layFewest_46 : decode cX9_layFewest 46 = .ok (.getfield 219, 3) := by decide +kernel
theorem d_X9_layFewest_49 : decode cX9_layFewest 49 = .ok (.sipush 512, 3) := by decide +kernel
theorem d_X9_layFewest_52 : decode cX9_layFewest 52 = .ok (.if_icmp .le 5, 3) := by decide +kernel
theorem d_X9_layFewest_55 : decode cX9_layFewest 55 = .ok (.iconst 0, 1) := by decide +kernel
theorem d_X9_layFewest_56 : decode cX9_layFewest 56 = .ok (.ireturn, 1) := by decide +kernel
theorem d_X9_layFewest_57 : decode cX9_layFewest 57 = .ok (.aload_n 0, 1) := by decide +kernel
theorem d_X9_layFewest_58 : decode cX9_layFewest 58 = .ok (.getfield 19, 3) := by decide +kernel
theorem d_X9_layFewest_61 : decode cX9_layFewest 61 = .ok (.invokevirtual 105, 3) := by decide +kernel
theorem d_X9_layFewest_64 : decode cX9_layFewest 64 = .ok (.iconst 0, 1) := by decide +kernel
theorem d_X9_layFewest_65 : decode cX9_layFewest 65 = .ok (.istore_n 2, 1) := by decide +kernel
theorem d_X9_layFewest_66 : decode cX9_layFewest 66 = .ok (.iconst 0, 1) := by decide +kernel
theorem d_X9_layFewest_67 : decode cX9_layFewest 67 = .ok (.istore_n 3, 1) := by decide +kernel
theorem d_X9_layFewest_68 : decode cX9_layFewest 68 = .ok (.iload_n 3, 1) := by decide +kernel
theorem d_X9_layFewest_69 : decode cX9_layFewest 69 = .ok (.aload_n 0, 1) := by decide +kernel
theorem d_X9_layFewest_70 : decode cX9_layFewest 70 = .ok (.getfield 12, 3) := by decide +kernel
theorem d_X9_layFewest_73 : decode cX9_layFewest 73 = .ok (.getfield 194, 3) := by decide +kernel
theorem d_X9_layFewest_76 : decode cX9_layFewest 76 = .ok (.if_icmp .ge 68, 3) := by decide +kernel
theorem d_X9_layFewest_79 : decode cX9_layFewest 79 = .ok (.aload_n 0, 1) := by decide +kernel
theorem d_X9_layFewest_80 : decode cX9_layFewest 80 = .ok (.getfield 86, 3) := by decide +kernel
theorem d_X9_layFewest_83 : decode cX9_layFewest 83 = .ok (.getfield 235, 3) := by decide +kernel
theorem d_X9_layFewest_86 : decode cX9_layFewest 86 = .ok (.iload_n 3, 1) := by decide +kernel
theorem d_X9_layFewest_87 : decode cX9_layFewest 87 = .ok (.iaload, 1) := by decide +kernel
theorem d_X9_layFewest_88 : decode cX9_layFewest 88 = .ok (.istore 4, 2) := by decide +kernel
theorem d_X9_layFewest_90 : decode cX9_layFewest 90 = .ok (.iload 4, 2) := by decide +kernel
theorem d_X9_layFewest_92 : decode cX9_layFewest 92 = .ok (.iconst 1, 1) := by decide +kernel
theorem d_X9_layFewest_93 : decode cX9_layFewest 93 = .ok (.if_icmp .le 45, 3) := by decide +kernel
theorem d_X9_layFewest_96 : decode cX9_layFewest 96 = .ok (.iload_n 2, 1) := by decide +kernel
theorem d_X9_layFewest_97 : decode cX9_layFewest 97 = .ok (.iconst 4, 1) := by decide +kernel
theorem d_X9_layFewest_98 : decode cX9_layFewest 98 = .ok (.if_icmp .ge 40, 3) := by decide +kernel
theorem d_X9_layFewest_101 : decode cX9_layFewest 101 = .ok (.aload_n 0, 1) := by decide +kernel
theorem d_X9_layFewest_102 : decode cX9_layFewest 102 = .ok (.getfield 19, 3) := by decide +kernel
theorem d_X9_layFewest_105 : decode cX9_layFewest 105 = .ok (.getfield 139, 3) := by decide +kernel
theorem d_X9_layFewest_108 : decode cX9_layFewest 108 = .ok (.iload_n 2, 1) := by decide +kernel
theorem d_X9_layFewest_109 : decode cX9_layFewest 109 = .ok (.iload 4, 2) := by decide +kernel
theorem d_X9_layFewest_111 : decode cX9_layFewest 111 = .ok (.iastore, 1) := by decide +kernel
theorem d_X9_layFewest_112 : decode cX9_layFewest 112 = .ok (.aload_n 0, 1) := by decide +kernel
theorem d_X9_layFewest_113 : decode cX9_layFewest 113 = .ok (.getfield 19, 3) := by decide +kernel
theorem d_X9_layFewest_116 : decode cX9_layFewest 116 = .ok (.getfield 149, 3) := by decide +kernel
theorem d_X9_layFewest_119 : decode cX9_layFewest 119 = .ok (.iload_n 3, 1) := by decide +kernel
theorem d_X9_layFewest_120 : decode cX9_layFewest 120 = .ok (.iconst 4, 1) := by decide +kernel
theorem d_X9_layFewest_121 : decode cX9_layFewest 121 = .ok (.imul, 1) := by decide +kernel
theorem d_X9_layFewest_122 : decode cX9_layFewest 122 = .ok (.iload_n 2, 1) := by decide +kernel
theorem d_X9_layFewest_123 : decode cX9_layFewest 123 = .ok (.iadd, 1) := by decide +kernel
theorem d_X9_layFewest_124 : decode cX9_layFewest 124 = .ok (.aload_n 0, 1) := by decide +kernel
theorem d_X9_layFewest_125 : decode cX9_layFewest 125 = .ok (.getfield 19, 3) := by decide +kernel
theorem d_X9_layFewest_128 : decode cX9_layFewest 128 = .ok (.getfield 123, 3) := by decide +kernel
theorem d_X9_layFewest_131 : decode cX9_layFewest 131 = .ok (.iload 4, 2) := by decide +kernel
theorem d_X9_layFewest_133 : decode cX9_layFewest 133 = .ok (.idiv, 1) := by decide +kernel
theorem d_X9_layFewest_134 : decode cX9_layFewest 134 = .ok (.iastore, 1) := by decide +kernel
theorem d_X9_layFewest_135 : decode cX9_layFewest 135 = .ok (.iinc 2 1, 3) := by decide +kernel
theorem d_X9_layFewest_138 : decode cX9_layFewest 138 = .ok (.iinc 3 1, 3) := by decide +kernel
theorem d_X9_layFewest_141 : decode cX9_layFewest 141 = .ok (.goto (-73), 3) := by decide +kernel
theorem d_X9_layFewest_144 : decode cX9_layFewest 144 = .ok (.iconst 1, 1) := by decide +kernel
theorem d_X9_layFewest_145 : decode cX9_layFewest 145 = .ok (.ireturn, 1) := by decide +kernel
theorem d_X9_layCogs_0 : decode cX9_layCogs 0 = .ok (.aload_n 0, 1) := by decide +kernel
theorem d_X9_layCogs_1 : decode cX9_layCogs 1 = .ok (.getfield 93, 3) := by decide +kernel
theorem d_X9_layCogs_4 : decode cX9_layCogs 4 = .ok (.getfield 229, 3) := by decide +kernel
theorem d_X9_layCogs_7 : decode cX9_layCogs 7 = .ok (.istore_n 1, 1) := by decide +kernel
theorem d_X9_layCogs_8 : decode cX9_layCogs 8 = .ok (.iload_n 1, 1) := by decide +kernel
theorem d_X9_layCogs_9 : decode cX9_layCogs 9 = .ok (.iconst 1, 1) := by decide +kernel
theorem d_X9_layCogs_10 : decode cX9_layCogs 10 = .ok (.if_icmp .ge 5, 3) := by decide +kernel
theorem d_X9_layCogs_13 : decode cX9_layCogs 13 = .ok (.iconst 0, 1) := by decide +kernel
theorem d_X9_layCogs_14 : decode cX9_layCogs 14 = .ok (.ireturn, 1) := by decide +kernel
theorem d_X9_layCogs_15 : decode cX9_layCogs 15 = .ok (.aload_n 0, 1) := by decide +kernel
theorem d_X9_layCogs_16 : decode cX9_layCogs 16 = .ok (.getfield 19, 3) := by decide +kernel
theorem d_X9_layCogs_19 : decode cX9_layCogs 19 = .ok (.invokevirtual 105, 3) := by decide +kernel
theorem d_X9_layCogs_22 : decode cX9_layCogs 22 = .ok (.aload_n 0, 1) := by decide +kernel
theorem d_X9_layCogs_23 : decode cX9_layCogs 23 = .ok (.getfield 19, 3) := by decide +kernel
theorem d_X9_layCogs_26 : decode cX9_layCogs 26 = .ok (.getfield 139, 3) := by decide +kernel
theorem d_X9_layCogs_29 : decode cX9_layCogs 29 = .ok (.iconst 0, 1) := by decide +kernel
theorem d_X9_layCogs_30 : decode cX9_layCogs 30 = .ok (.iload_n 1, 1) := by decide +kernel
theorem d_X9_layCogs_31 : decode cX9_layCogs 31 = .ok (.iastore, 1) := by decide +kernel
theorem d_X9_layCogs_32 : decode cX9_layCogs 32 = .ok (.iconst 0, 1) := by decide +kernel
theorem d_X9_layCogs_33 : decode cX9_layCogs 33 = .ok (.istore_n 2, 1) := by decide +kernel
theorem d_X9_layCogs_34 : decode cX9_layCogs 34 = .ok (.iload_n 2, 1) := by decide +kernel
theorem d_X9_layCogs_35 : decode cX9_layCogs 35 = .ok (.aload_n 0, 1) := by decide +kernel
theorem d_X9_layCogs_36 : decode cX9_layCogs 36 = .ok (.getfield 12, 3) := by decide +kernel
theorem d_X9_layCogs_39 : decode cX9_layCogs 39 = .ok (.getfield 194, 3) := by decide +kernel
theorem d_X9_layCogs_42 : decode cX9_layCogs 42 = .ok (.if_icmp .ge 39, 3) := by decide +kernel
theorem d_X9_layCogs_45 : decode cX9_layCogs 45 = .ok (.aload_n 0, 1) := by decide +kernel
theorem d_X9_layCogs_46 : decode cX9_layCogs 46 = .ok (.getfield 19, 3) := by decide +kernel
theorem d_X9_layCogs_49 : decode cX9_layCogs 49 = .ok (.getfield 149, 3) := by decide +kernel
theorem d_X9_layCogs_52 : decode cX9_layCogs 52 = .ok (.iload_n 2, 1) := by decide +kernel
theorem d_X9_layCogs_53 : decode cX9_layCogs 53 = .ok (.iconst 4, 1) := by decide +kernel
theorem d_X9_layCogs_54 : decode cX9_layCogs 54 = .ok (.imul, 1) := by decide +kernel
theorem d_X9_layCogs_55 : decode cX9_layCogs 55 = .ok (.aload_n 0, 1) := by decide +kernel
theorem d_X9_layCogs_56 : decode cX9_layCogs 56 = .ok (.getfield 93, 3) := by decide +kernel
theorem d_X9_layCogs_59 : decode cX9_layCogs 59 = .ok (.getfield 238, 3) := by decide +kernel
theorem d_X9_layCogs_62 : decode cX9_layCogs 62 = .ok (.iload_n 2, 1) := by decide +kernel
theorem d_X9_layCogs_63 : decode cX9_layCogs 63 = .ok (.iaload, 1) := by decide +kernel
theorem d_X9_layCogs_64 : decode cX9_layCogs 64 = .ok (.aload_n 0, 1) := by decide +kernel
theorem d_X9_layCogs_65 : decode cX9_layCogs 65 = .ok (.getfield 19, 3) := by decide +kernel
theorem d_X9_layCogs_68 : decode cX9_layCogs 68 = .ok (.getfield 123, 3) := by decide +kernel
theorem d_X9_layCogs_71 : decode cX9_layCogs 71 = .ok (.iload_n 1, 1) := by decide +kernel
theorem d_X9_layCogs_72 : decode cX9_layCogs 72 = .ok (.idiv, 1) := by decide +kernel
theorem d_X9_layCogs_73 : decode cX9_layCogs 73 = .ok (.imul, 1) := by decide +kernel
theorem d_X9_layCogs_74 : decode cX9_layCogs 74 = .ok (.iastore, 1) := by decide +kernel
theorem d_X9_layCogs_75 : decode cX9_layCogs 75 = .ok (.iinc 2 1, 3) := by decide +kernel
theorem d_X9_layCogs_78 : decode cX9_layCogs 78 = .ok (.goto (-44), 3) := by decide +kernel
theorem d_X9_layCogs_81 : decode cX9_layCogs 81 = .ok (.iconst 1, 1) := by decide +kernel
theorem d_X9_layCogs_82 : decode cX9_layCogs 82 = .ok (.ireturn, 1) := by decide +kernel
theorem d_X9_order_0 : decode cX9_order 0 = .ok (.aload_n 0, 1) := by decide +kernel
theorem d_X9_order_1 : decode cX9_order 1 = .ok (.iload_n 1, 1) := by decide +kernel
theorem d_X9_order_2 : decode cX9_order 2 = .ok (.invokevirtual 181, 3) := by decide +kernel
theorem d_X9_order_5 : decode cX9_order 5 = .ok (.ifCond .eq 23, 3) := by decide +kernel
theorem d_X9_order_8 : decode cX9_order 8 = .ok (.aload_n 0, 1) := by decide +kernel
theorem d_X9_order_9 : decode cX9_order 9 = .ok (.iload_n 2, 1) := by decide +kernel
theorem d_X9_order_10 : decode cX9_order 10 = .ok (.invokevirtual 113, 3) := by decide +kernel
theorem d_X9_order_13 : decode cX9_order 13 = .ok (.ifCond .eq 15, 3) := by decide +kernel
theorem d_X9_order_16 : decode cX9_order 16 = .ok (.aload_n 0, 1) := by decide +kernel
theorem d_X9_order_17 : decode cX9_order 17 = .ok (.getfield 43, 3) := by decide +kernel
theorem d_X9_order_20 : decode cX9_order 20 = .ok (.iload_n 1, 1) := by decide +kernel
theorem d_X9_order_21 : decode cX9_order 21 = .ok (.iload_n 2, 1) := by decide +kernel
theorem d_X9_order_22 : decode cX9_order 22 = .ok (.invokevirtual 174, 3) := by decide +kernel
theorem d_X9_order_25 : decode cX9_order 25 = .ok (.goto 5, 3) := by decide +kernel
theorem d_X9_order_28 : decode cX9_order 28 = .ok (.bipush (-10), 2) := by decide +kernel
theorem d_X9_order_30 : decode cX9_order 30 = .ok (.ireturn, 1) := by decide +kernel
theorem d_X9_find_0 : decode cX9_find 0 = .ok (.iconst 0, 1) := by decide +kernel
theorem d_X9_find_1 : decode cX9_find 1 = .ok (.istore 5, 2) := by decide +kernel
theorem d_X9_find_3 : decode cX9_find 3 = .ok (.iconst 0, 1) := by decide +kernel
theorem d_X9_find_4 : decode cX9_find 4 = .ok (.istore 6, 2) := by decide +kernel
theorem d_X9_find_6 : decode cX9_find 6 = .ok (.iload 6, 2) := by decide +kernel
theorem d_X9_find_8 : decode cX9_find 8 = .ok (.aload_n 0, 1) := by decide +kernel
theorem d_X9_find_9 : decode cX9_find 9 = .ok (.getfield 12, 3) := by decide +kernel
theorem d_X9_find_12 : decode cX9_find 12 = .ok (.getfield 194, 3) := by decide +kernel
theorem d_X9_find_15 : decode cX9_find 15 = .ok (.iconst 1, 1) := by decide +kernel
theorem d_X9_find_16 : decode cX9_find 16 = .ok (.isub, 1) := by decide +kernel
theorem d_X9_find_17 : decode cX9_find 17 = .ok (.if_icmp .ge 96, 3) := by decide +kernel
theorem d_X9_find_20 : decode cX9_find 20 = .ok (.iload 6, 2) := by decide +kernel
theorem d_X9_find_22 : decode cX9_find 22 = .ok (.ifCond .ne 7, 3) := by decide +kernel
theorem d_X9_find_25 : decode cX9_find 25 = .ok (.iload_n 1, 1) := by decide +kernel
theorem d_X9_find_26 : decode cX9_find 26 = .ok (.goto 25, 3) := by decide +kernel
theorem d_X9_find_29 : decode cX9_find 29 = .ok (.iload 6, 2) := by decide +kernel
theorem d_X9_find_31 : decode cX9_find 31 = .ok (.iconst 1, 1) := by decide +kernel
theorem d_X9_find_32 : decode cX9_find 32 = .ok (.if_icmp .ne 7, 3) := by decide +kernel
theorem d_X9_find_35 : decode cX9_find 35 = .ok (.iload_n 2, 1) := by decide +kernel
theorem d_X9_find_36 : decode cX9_find 36 = .ok (.goto 15, 3) := by decide +kernel
theorem d_X9_find_39 : decode cX9_find 39 = .ok (.iload 6, 2) := by decide +kernel
theorem d_X9_find_41 : decode cX9_find 41 = .ok (.iconst 2, 1) := by decide +kernel
theorem d_X9_find_42 : decode cX9_find 42 = .ok (.if_icmp .ne 7, 3) := by decide +kernel
theorem d_X9_find_45 : decode cX9_find 45 = .ok (.iload_n 3, 1) := by decide +kernel
theorem d_X9_find_46 : decode cX9_find 46 = .ok (.goto 5, 3) := by decide +kernel
theorem d_X9_find_49 : decode cX9_find 49 = .ok (.iload 4, 2) := by decide +kernel
theorem d_X9_find_51 : decode cX9_find 51 = .ok (.istore 7, 2) := by decide +kernel
theorem d_X9_find_53 : decode cX9_find 53 = .ok (.iload 7, 2) := by decide +kernel
theorem d_X9_find_55 : decode cX9_find 55 = .ok (.aload_n 0, 1) := by decide +kernel
theorem d_X9_find_56 : decode cX9_find 56 = .ok (.getfield 12, 3) := by decide +kernel
theorem d_X9_find_59 : decode cX9_find 59 = .ok (.getfield 171, 3) := by decide +kernel
theorem d_X9_find_62 : decode cX9_find 62 = .ok (.ineg, 1) := by decide +kernel
theorem d_X9_find_63 : decode cX9_find 63 = .ok (.if_icmp .lt 15, 3) := by decide +kernel
theorem d_X9_find_66 : decode cX9_find 66 = .ok (.iload 7, 2) := by decide +kernel
theorem d_X9_find_68 : decode cX9_find 68 = .ok (.aload_n 0, 1) := by decide +kernel
theorem d_X9_find_69 : decode cX9_find 69 = .ok (.getfield 12, 3) := by decide +kernel
theorem d_X9_find_72 : decode cX9_find 72 = .ok (.getfield 171, 3) := by decide +kernel
theorem d_X9_find_75 : decode cX9_find 75 = .ok (.if_icmp .le 5, 3) := by decide +kernel
theorem d_X9_find_78 : decode cX9_find 78 = .ok (.iconst (-1), 1) := by decide +kernel
theorem d_X9_find_79 : decode cX9_find 79 = .ok (.ireturn, 1) := by decide +kernel
theorem d_X9_find_80 : decode cX9_find 80 = .ok (.iload 5, 2) := by decide +kernel
theorem d_X9_find_82 : decode cX9_find 82 = .ok (.iconst 2, 1) := by decide +kernel
theorem d_X9_find_83 : decode cX9_find 83 = .ok (.aload_n 0, 1) := by decide +kernel
theorem d_X9_find_84 : decode cX9_find 84 = .ok (.getfield 12, 3) := by decide +kernel
theorem d_X9_find_87 : decode cX9_find 87 = .ok (.getfield 171, 3) := by decide +kernel
theorem d_X9_find_90 : decode cX9_find 90 = .ok (.imul, 1) := by decide +kernel
theorem d_X9_find_91 : decode cX9_find 91 = .ok (.iconst 1, 1) := by decide +kernel
theorem d_X9_find_92 : decode cX9_find 92 = .ok (.iadd, 1) := by decide +kernel
theorem d_X9_find_93 : decode cX9_find 93 = .ok (.imul, 1) := by decide +kernel
theorem d_X9_find_94 : decode cX9_find 94 = .ok (.iload 7, 2) := by decide +kernel
theorem d_X9_find_96 : decode cX9_find 96 = .ok (.iadd, 1) := by decide +kernel
theorem d_X9_find_97 : decode cX9_find 97 = .ok (.aload_n 0, 1) := by decide +kernel
theorem d_X9_find_98 : decode cX9_find 98 = .ok (.getfield 12, 3) := by decide +kernel
theorem d_X9_find_101 : decode cX9_find 101 = .ok (.getfield 171, 3) := by decide +kernel
theorem d_X9_find_104 : decode cX9_find 104 = .ok (.iadd, 1) := by decide +kernel
theorem d_X9_find_105 : decode cX9_find 105 = .ok (.istore 5, 2) := by decide +kernel
theorem d_X9_find_107 : decode cX9_find 107 = .ok (.iinc 6 1, 3) := by decide +kernel
theorem d_X9_find_110 : decode cX9_find 110 = .ok (.goto (-104), 3) := by decide +kernel
theorem d_X9_find_113 : decode cX9_find 113 = .ok (.aload_n 0, 1) := by decide +kernel
theorem d_X9_find_114 : decode cX9_find 114 = .ok (.getfield 43, 3) := by decide +kernel
theorem d_X9_find_117 : decode cX9_find 117 = .ok (.getfield 241, 3) := by decide +kernel
theorem d_X9_find_120 : decode cX9_find 120 = .ok (.iload 5, 2) := by decide +kernel
theorem d_X9_find_122 : decode cX9_find 122 = .ok (.saload, 1) := by decide +kernel
theorem d_X9_find_123 : decode cX9_find 123 = .ok (.ireturn, 1) := by decide +kernel
theorem d_X9_phase_0 : decode cX9_phase 0 = .ok (.aload_n 0, 1) := by decide +kernel
theorem d_X9_phase_1 : decode cX9_phase 1 = .ok (.iload_n 1, 1) := by decide +kernel
theorem d_X9_phase_2 : decode cX9_phase 2 = .ok (.invokevirtual 146, 3) := by decide +kernel
theorem d_X9_phase_5 : decode cX9_phase 5 = .ok (.ifCond .eq 11, 3) := by decide +kernel
theorem d_X9_phase_8 : decode cX9_phase 8 = .ok (.aload_n 0, 1) := by decide +kernel
theorem d_X9_phase_9 : decode cX9_phase 9 = .ok (.iload_n 2, 1) := by decide +kernel
theorem d_X9_phase_10 : decode cX9_phase 10 = .ok (.invokevirtual 244, 3) := by decide +kernel
theorem d_X9_phase_13 : decode cX9_phase 13 = .ok (.ifCond .ne 5, 3) := by decide +kernel
theorem d_X9_phase_16 : decode cX9_phase 16 = .ok (.iconst (-1), 1) := by decide +kernel
theorem d_X9_phase_17 : decode cX9_phase 17 = .ok (.ireturn, 1) := by decide +kernel
theorem d_X9_phase_18 : decode cX9_phase 18 = .ok (.aload_n 0, 1) := by decide +kernel
theorem d_X9_phase_19 : decode cX9_phase 19 = .ok (.invokevirtual 247, 3) := by decide +kernel
theorem d_X9_phase_22 : decode cX9_phase 22 = .ok (.aload_n 0, 1) := by decide +kernel
theorem d_X9_phase_23 : decode cX9_phase 23 = .ok (.getfield 54, 3) := by decide +kernel
theorem d_X9_phase_26 : decode cX9_phase 26 = .ok (.getfield 250, 3) := by decide +kernel
theorem d_X9_phase_29 : decode cX9_phase 29 = .ok (.iload_n 1, 1) := by decide +kernel
theorem d_X9_phase_30 : decode cX9_phase 30 = .ok (.aaload, 1) := by decide +kernel
theorem d_X9_phase_31 : decode cX9_phase 31 = .ok (.iload_n 2, 1) := by decide +kernel
theorem d_X9_phase_32 : decode cX9_phase 32 = .ok (.iaload, 1) := by decide +kernel
theorem d_X9_phase_33 : decode cX9_phase 33 = .ok (.ireturn, 1) := by decide +kernel
theorem d_X9_residue_0 : decode cX9_residue 0 = .ok (.aload_n 0, 1) := by decide +kernel
theorem d_X9_residue_1 : decode cX9_residue 1 = .ok (.iload_n 1, 1) := by decide +kernel
theorem d_X9_residue_2 : decode cX9_residue 2 = .ok (.invokevirtual 181, 3) := by decide +kernel
theorem d_X9_residue_5 : decode cX9_residue 5 = .ok (.ifCond .eq 11, 3) := by decide +kernel
theorem d_X9_residue_8 : decode cX9_residue 8 = .ok (.aload_n 0, 1) := by decide +kernel
theorem d_X9_residue_9 : decode cX9_residue 9 = .ok (.iload_n 2, 1) := by decide +kernel
theorem d_X9_residue_10 : decode cX9_residue 10 = .ok (.invokevirtual 244, 3) := by decide +kernel
theorem d_X9_residue_13 : decode cX9_residue 13 = .ok (.ifCond .ne 5, 3) := by decide +kernel
theorem d_X9_residue_16 : decode cX9_residue 16 = .ok (.iconst (-1), 1) := by decide +kernel
theorem d_X9_residue_17 : decode cX9_residue 17 = .ok (.ireturn, 1) := by decide +kernel
theorem d_X9_residue_18 : decode cX9_residue 18 = .ok (.aload_n 0, 1) := by decide +kernel
theorem d_X9_residue_19 : decode cX9_residue 19 = .ok (.invokevirtual 247, 3) := by decide +kernel
theorem d_X9_residue_22 : decode cX9_residue 22 = .ok (.aload_n 0, 1) := by decide +kernel
theorem d_X9_residue_23 : decode cX9_residue 23 = .ok (.getfield 54, 3) := by decide +kernel
theorem d_X9_residue_26 : decode cX9_residue 26 = .ok (.aload_n 0, 1) := by decide +kernel
theorem d_X9_residue_27 : decode cX9_residue 27 = .ok (.getfield 43, 3) := by decide +kernel
theorem d_X9_residue_30 : decode cX9_residue 30 = .ok (.iload_n 1, 1) := by decide +kernel
theorem d_X9_residue_31 : decode cX9_residue 31 = .ok (.invokevirtual 254, 3) := by decide +kernel
theorem d_X9_residue_34 : decode cX9_residue 34 = .ok (.iload_n 2, 1) := by decide +kernel
theorem d_X9_residue_35 : decode cX9_residue 35 = .ok (.iaload, 1) := by decide +kernel
theorem d_X9_residue_36 : decode cX9_residue 36 = .ok (.ireturn, 1) := by decide +kernel
theorem d_X9_many_0 : decode cX9_many 0 = .ok (.aload_n 0, 1) := by decide +kernel
theorem d_X9_many_1 : decode cX9_many 1 = .ok (.iload_n 1, 1) := by decide +kernel
theorem d_X9_many_2 : decode cX9_many 2 = .ok (.invokevirtual 181, 3) := by decide +kernel
theorem d_X9_many_5 : decode cX9_many 5 = .ok (.ifCond .eq 18, 3) := by decide +kernel
theorem d_X9_many_8 : decode cX9_many 8 = .ok (.iload_n 2, 1) := by decide +kernel
theorem d_X9_many_9 : decode cX9_many 9 = .ok (.ifCond .lt 14, 3) := by decide +kernel
theorem d_X9_many_12 : decode cX9_many 12 = .ok (.iload_n 2, 1) := by decide +kernel
theorem d_X9_many_13 : decode cX9_many 13 = .ok (.aload_n 0, 1) := by decide +kernel
theorem d_X9_many_14 : decode cX9_many 14 = .ok (.getfield 19, 3) := by decide +kernel
theorem d_X9_many_17 : decode cX9_many 17 = .ok (.getfield 123, 3) := by decide +kernel
theorem d_X9_many_20 : decode cX9_many 20 = .ok (.if_icmp .lt 5, 3) := by decide +kernel
theorem d_X9_many_23 : decode cX9_many 23 = .ok (.iconst (-1), 1) := by decide +kernel
theorem d_X9_many_24 : decode cX9_many 24 = .ok (.ireturn, 1) := by decide +kernel
theorem d_X9_many_25 : decode cX9_many 25 = .ok (.aload_n 0, 1) := by decide +kernel
theorem d_X9_many_26 : decode cX9_many 26 = .ok (.invokevirtual 247, 3) := by decide +kernel
theorem d_X9_many_29 : decode cX9_many 29 = .ok (.aload_n 0, 1) := by decide +kernel
theorem d_X9_many_30 : decode cX9_many 30 = .ok (.getfield 54, 3) := by decide +kernel
theorem d_X9_many_33 : decode cX9_many 33 = .ok (.aload_n 0, 1) := by decide +kernel
theorem d_X9_many_34 : decode cX9_many 34 = .ok (.getfield 43, 3) := by decide +kernel
theorem d_X9_many_37 : decode cX9_many 37 = .ok (.iload_n 1, 1) := by decide +kernel
theorem d_X9_many_38 : decode cX9_many 38 = .ok (.aload_n 0, 1) := by decide +kernel
theorem d_X9_many_39 : decode cX9_many 39 = .ok (.getfield 54, 3) := by decide +kernel
theorem d_X9_many_42 : decode cX9_many 42 = .ok (.getfield 258, 3) := by decide +kernel
theorem d_X9_many_45 : decode cX9_many 45 = .ok (.invokevirtual 259, 3) := by decide +kernel
theorem d_X9_many_48 : decode cX9_many 48 = .ok (.iload_n 2, 1) := by decide +kernel
theorem d_X9_many_49 : decode cX9_many 49 = .ok (.iaload, 1) := by decide +kernel
theorem d_X9_many_50 : decode cX9_many 50 = .ok (.ireturn, 1) := by decide +kernel
theorem d_X9_path_0 : decode cX9_path 0 = .ok (.aload_n 0, 1) := by decide +kernel
theorem d_X9_path_1 : decode cX9_path 1 = .ok (.iload_n 1, 1) := by decide +kernel
theorem d_X9_path_2 : decode cX9_path 2 = .ok (.invokevirtual 181, 3) := by decide +kernel
theorem d_X9_path_5 : decode cX9_path 5 = .ok (.ifCond .ne 5, 3) := by decide +kernel
theorem d_X9_path_8 : decode cX9_path 8 = .ok (.iconst (-1), 1) := by decide +kernel
theorem d_X9_path_9 : decode cX9_path 9 = .ok (.ireturn, 1) := by decide +kernel
theorem d_X9_path_10 : decode cX9_path 10 = .ok (.iload_n 2, 1) := by decide +kernel
theorem d_X9_path_11 : decode cX9_path 11 = .ok (.tableswitch 182 0 8 #[49, 55, 74, 93, 108, 124, 140, 154, 168], 49) := by decide +kernel
theorem d_X9_path_60 : decode cX9_path 60 = .ok (.aload_n 0, 1) := by decide +kernel
theorem d_X9_path_61 : decode cX9_path 61 = .ok (.iload_n 1, 1) := by decide +kernel
theorem d_X9_path_62 : decode cX9_path 62 = .ok (.invokevirtual 263, 3) := by decide +kernel
theorem d_X9_path_65 : decode cX9_path 65 = .ok (.ireturn, 1) := by decide +kernel
theorem d_X9_path_66 : decode cX9_path 66 = .ok (.aload_n 0, 1) := by decide +kernel
theorem d_X9_path_67 : decode cX9_path 67 = .ok (.getfield 12, 3) := by decide +kernel
theorem d_X9_path_70 : decode cX9_path 70 = .ok (.getfield 178, 3) := by decide +kernel
theorem d_X9_path_73 : decode cX9_path 73 = .ok (.iload_n 1, 1) := by decide +kernel
theorem d_X9_path_74 : decode cX9_path 74 = .ok (.baload, 1) := by decide +kernel
theorem d_X9_path_75 : decode cX9_path 75 = .ok (.iconst 1, 1) := by decide +kernel
theorem d_X9_path_76 : decode cX9_path 76 = .ok (.if_icmp .ne 7, 3) := by decide +kernel
theorem d_X9_path_79 : decode cX9_path 79 = .ok (.iconst 1, 1) := by decide +kernel
theorem d_X9_path_80 : decode cX9_path 80 = .ok (.goto 4, 3) := by decide +kernel
theorem d_X9_path_83 : decode cX9_path 83 = .ok (.iconst 0, 1) := by decide +kernel
theorem d_X9_path_84 : decode cX9_path 84 = .ok (.ireturn, 1) := by decide +kernel
theorem d_X9_path_85 : decode cX9_path 85 = .ok (.aload_n 0, 1) := by decide +kernel
theorem d_X9_path_86 : decode cX9_path 86 = .ok (.getfield 12, 3) := by decide +kernel
theorem d_X9_path_89 : decode cX9_path 89 = .ok (.getfield 178, 3) := by decide +kernel
theorem d_X9_path_92 : decode cX9_path 92 = .ok (.iload_n 1, 1) := by decide +kernel
theorem d_X9_path_93 : decode cX9_path 93 = .ok (.baload, 1) := by decide +kernel
theorem d_X9_path_94 : decode cX9_path 94 = .ok (.iconst 2, 1) := by decide +kernel
theorem d_X9_path_95 : decode cX9_path 95 = .ok (.if_icmp .ne 7, 3) := by decide +kernel
theorem d_X9_path_98 : decode cX9_path 98 = .ok (.iconst 1, 1) := by decide +kernel
theorem d_X9_path_99 : decode cX9_path 99 = .ok (.goto 4, 3) := by decide +kernel
theorem d_X9_path_102 : decode cX9_path 102 = .ok (.iconst 0, 1) := by decide +kernel
theorem d_X9_path_103 : decode cX9_path 103 = .ok (.ireturn, 1) := by decide +kernel
theorem d_X9_path_104 : decode cX9_path 104 = .ok (.aload_n 0, 1) := by decide +kernel
theorem d_X9_path_105 : decode cX9_path 105 = .ok (.iconst 0, 1) := by decide +kernel
theorem d_X9_path_106 : decode cX9_path 106 = .ok (.iload_n 1, 1) := by decide +kernel
theorem d_X9_path_107 : decode cX9_path 107 = .ok (.invokevirtual 266, 3) := by decide +kernel
theorem d_X9_path_110 : decode cX9_path 110 = .ok (.ifCond .eq 7, 3) := by decide +kernel
theorem d_X9_path_113 : decode cX9_path 113 = .ok (.iconst 1, 1) := by decide +kernel
theorem d_X9_path_114 : decode cX9_path 114 = .ok (.goto 4, 3) := by decide +kernel
theorem d_X9_path_117 : decode cX9_path 117 = .ok (.iconst 0, 1) := by decide +kernel
theorem d_X9_path_118 : decode cX9_path 118 = .ok (.ireturn, 1) := by decide +kernel
theorem d_X9_path_119 : decode cX9_path 119 = .ok (.aload_n 0, 1) := by decide +kernel
theorem d_X9_path_120 : decode cX9_path 120 = .ok (.getfield 43, 3) := by decide +kernel
theorem d_X9_path_123 : decode cX9_path 123 = .ok (.iload_n 1, 1) := by decide +kernel
theorem d_X9_path_124 : decode cX9_path 124 = .ok (.aload_n 0, 1) := by decide +kernel
theorem d_X9_path_125 : decode cX9_path 125 = .ok (.getfield 12, 3) := by decide +kernel
theorem d_X9_path_128 : decode cX9_path 128 = .ok (.getfield 194, 3) := by decide +kernel
theorem d_X9_path_131 : decode cX9_path 131 = .ok (.invokevirtual 270, 3) := by decide +kernel
theorem d_X9_path_134 : decode cX9_path 134 = .ok (.ireturn, 1) := by decide +kernel
theorem d_X9_path_135 : decode cX9_path 135 = .ok (.aload_n 0, 1) := by decide +kernel
theorem d_X9_path_136 : decode cX9_path 136 = .ok (.getfield 43, 3) := by decide +kernel
theorem d_X9_path_139 : decode cX9_path 139 = .ok (.iload_n 1, 1) := by decide +kernel
theorem d_X9_path_140 : decode cX9_path 140 = .ok (.aload_n 0, 1) := by decide +kernel
theorem d_X9_path_141 : decode cX9_path 141 = .ok (.getfield 12, 3) := by decide +kernel
theorem d_X9_path_144 : decode cX9_path 144 = .ok (.getfield 194, 3) := by decide +kernel
theorem d_X9_path_147 : decode cX9_path 147 = .ok (.invokevirtual 273, 3) := by decide +kernel
theorem d_X9_path_150 : decode cX9_path 150 = .ok (.ireturn, 1) := by decide +kernel
theorem d_X9_path_151 : decode cX9_path 151 = .ok (.aload_n 0, 1) := by decide +kernel
theorem d_X9_path_152 : decode cX9_path 152 = .ok (.invokevirtual 276, 3) := by decide +kernel
theorem d_X9_path_155 : decode cX9_path 155 = .ok (.aload_n 0, 1) := by decide +kernel
theorem d_X9_path_156 : decode cX9_path 156 = .ok (.getfield 43, 3) := by decide +kernel
theorem d_X9_path_159 : decode cX9_path 159 = .ok (.getfield 279, 3) := by decide +kernel
theorem d_X9_path_162 : decode cX9_path 162 = .ok (.iload_n 1, 1) := by decide +kernel
theorem d_X9_path_163 : decode cX9_path 163 = .ok (.baload, 1) := by decide +kernel
theorem d_X9_path_164 : decode cX9_path 164 = .ok (.ireturn, 1) := by decide +kernel
theorem d_X9_path_165 : decode cX9_path 165 = .ok (.aload_n 0, 1) := by decide +kernel
theorem d_X9_path_166 : decode cX9_path 166 = .ok (.invokevirtual 276, 3) := by decide +kernel
theorem d_X9_path_169 : decode cX9_path 169 = .ok (.aload_n 0, 1) := by decide +kernel
theorem d_X9_path_170 : decode cX9_path 170 = .ok (.getfield 43, 3) := by decide +kernel
theorem d_X9_path_173 : decode cX9_path 173 = .ok (.getfield 282, 3) := by decide +kernel
theorem d_X9_path_176 : decode cX9_path 176 = .ok (.iload_n 1, 1) := by decide +kernel
theorem d_X9_path_177 : decode cX9_path 177 = .ok (.iaload, 1) := by decide +kernel
theorem d_X9_path_178 : decode cX9_path 178 = .ok (.ireturn, 1) := by decide +kernel
theorem d_X9_path_179 : decode cX9_path 179 = .ok (.aload_n 0, 1) := by decide +kernel
theorem d_X9_path_180 : decode cX9_path 180 = .ok (.iload_n 1, 1) := by decide +kernel
theorem d_X9_path_181 : decode cX9_path 181 = .ok (.invokevirtual 283, 3) := by decide +kernel
theorem d_X9_path_184 : decode cX9_path 184 = .ok (.ifCond .eq 7, 3) := by decide +kernel
theorem d_X9_path_187 : decode cX9_path 187 = .ok (.iconst 1, 1) := by decide +kernel
theorem d_X9_path_188 : decode cX9_path 188 = .ok (.goto 4, 3) := by decide +kernel
theorem d_X9_path_191 : decode cX9_path 191 = .ok (.iconst 0, 1) := by decide +kernel
theorem d_X9_path_192 : decode cX9_path 192 = .ok (.ireturn, 1) := by decide +kernel
theorem d_X9_path_193 : decode cX9_path 193 = .ok (.iconst (-1), 1) := by decide +kernel
theorem d_X9_path_194 : decode cX9_path 194 = .ok (.ireturn, 1) := by decide +kernel
theorem d_X9_leak_0 : decode cX9_leak 0 = .ok (.iload_n 1, 1) := by decide +kernel
theorem d_X9_leak_1 : decode cX9_leak 1 = .ok (.iconst (-1), 1) := by decide +kernel
theorem d_X9_leak_2 : decode cX9_leak 2 = .ok (.if_icmp .ne 11, 3) := by decide +kernel
theorem d_X9_leak_5 : decode cX9_leak 5 = .ok (.aload_n 0, 1) := by decide +kernel
theorem d_X9_leak_6 : decode cX9_leak 6 = .ok (.iconst 0, 1) := by decide +kernel
theorem d_X9_leak_7 : decode cX9_leak 7 = .ok (.invokevirtual 286, 3) := by decide +kernel
theorem d_X9_leak_10 : decode cX9_leak 10 = .ok (.goto 9, 3) := by decide +kernel
theorem d_X9_leak_13 : decode cX9_leak 13 = .ok (.aload_n 0, 1) := by decide +kernel
theorem d_X9_leak_14 : decode cX9_leak 14 = .ok (.iconst 0, 1) := by decide +kernel
theorem d_X9_leak_15 : decode cX9_leak 15 = .ok (.iload_n 1, 1) := by decide +kernel
theorem d_X9_leak_16 : decode cX9_leak 16 = .ok (.invokevirtual 288, 3) := by decide +kernel
theorem d_X9_leak_19 : decode cX9_leak 19 = .ok (.ireturn, 1) := by decide +kernel
theorem d_X9_worst_0 : decode cX9_worst 0 = .ok (.iload_n 1, 1) := by decide +kernel
theorem d_X9_worst_1 : decode cX9_worst 1 = .ok (.ifCond .lt 12, 3) := by decide +kernel
theorem d_X9_worst_4 : decode cX9_worst 4 = .ok (.iload_n 2, 1) := by decide +kernel
theorem d_X9_worst_5 : decode cX9_worst 5 = .ok (.ifCond .lt 8, 3) := by decide +kernel
theorem d_X9_worst_8 : decode cX9_worst 8 = .ok (.iload_n 2, 1) := by decide +kernel
theorem d_X9_worst_9 : decode cX9_worst 9 = .ok (.iconst 1, 1) := by decide +kernel
theorem d_X9_worst_10 : decode cX9_worst 10 = .ok (.if_icmp .le 5, 3) := by decide +kernel
theorem d_X9_worst_13 : decode cX9_worst 13 = .ok (.iconst (-1), 1) := by decide +kernel
theorem d_X9_worst_14 : decode cX9_worst 14 = .ok (.ireturn, 1) := by decide +kernel
theorem d_X9_worst_15 : decode cX9_worst 15 = .ok (.aload_n 0, 1) := by decide +kernel
theorem d_X9_worst_16 : decode cX9_worst 16 = .ok (.iload_n 1, 1) := by decide +kernel
theorem d_X9_worst_17 : decode cX9_worst 17 = .ok (.aload_n 0, 1) := by decide +kernel
theorem d_X9_worst_18 : decode cX9_worst 18 = .ok (.invokevirtual 291, 3) := by decide +kernel
theorem d_X9_worst_21 : decode cX9_worst 21 = .ok (.invokevirtual 294, 3) := by decide +kernel
theorem d_X9_worst_24 : decode cX9_worst 24 = .ok (.istore_n 3, 1) := by decide +kernel
theorem d_X9_worst_25 : decode cX9_worst 25 = .ok (.iload_n 3, 1) := by decide +kernel
theorem d_X9_worst_26 : decode cX9_worst 26 = .ok (.iconst (-1), 1) := by decide +kernel
theorem d_X9_worst_27 : decode cX9_worst 27 = .ok (.if_icmp .ne 5, 3) := by decide +kernel
theorem d_X9_worst_30 : decode cX9_worst 30 = .ok (.iconst (-1), 1) := by decide +kernel
theorem d_X9_worst_31 : decode cX9_worst 31 = .ok (.ireturn, 1) := by decide +kernel
theorem d_X9_worst_32 : decode cX9_worst 32 = .ok (.iload_n 2, 1) := by decide +kernel
theorem d_X9_worst_33 : decode cX9_worst 33 = .ok (.ifCond .ne 7, 3) := by decide +kernel
theorem d_X9_worst_36 : decode cX9_worst 36 = .ok (.iload_n 3, 1) := by decide +kernel
theorem d_X9_worst_37 : decode cX9_worst 37 = .ok (.goto 12, 3) := by decide +kernel
theorem d_X9_worst_40 : decode cX9_worst 40 = .ok (.aload_n 0, 1) := by decide +kernel
theorem d_X9_worst_41 : decode cX9_worst 41 = .ok (.getfield 43, 3) := by decide +kernel
theorem d_X9_worst_44 : decode cX9_worst 44 = .ok (.getfield 282, 3) := by decide +kernel
theorem d_X9_worst_47 : decode cX9_worst 47 = .ok (.iload_n 3, 1) := by decide +kernel
theorem d_X9_worst_48 : decode cX9_worst 48 = .ok (.iaload, 1) := by decide +kernel
theorem d_X9_worst_49 : decode cX9_worst 49 = .ok (.ireturn, 1) := by decide +kernel
theorem d_X9_leakByWeight_0 : decode cX9_leakByWeight 0 = .ok (.iload_n 1, 1) := by decide +kernel
theorem d_X9_leakByWeight_1 : decode cX9_leakByWeight 1 = .ok (.istore_n 3, 1) := by decide +kernel
theorem d_X9_leakByWeight_2 : decode cX9_leakByWeight 2 = .ok (.ldc_w 299, 3) := by decide +kernel
theorem d_X9_leakByWeight_5 : decode cX9_leakByWeight 5 = .ok (.istore 4, 2) := by decide +kernel
theorem d_X9_leakByWeight_7 : decode cX9_leakByWeight 7 = .ok (.iconst 0, 1) := by decide +kernel
theorem d_X9_leakByWeight_8 : decode cX9_leakByWeight 8 = .ok (.istore 5, 2) := by decide +kernel
theorem d_X9_leakByWeight_10 : decode cX9_leakByWeight 10 = .ok (.iload 5, 2) := by decide +kernel
theorem d_X9_leakByWeight_12 : decode cX9_leakByWeight 12 = .ok (.iload_n 2, 1) := by decide +kernel
theorem d_X9_leakByWeight_13 : decode cX9_leakByWeight 13 = .ok (.if_icmp .ge 102, 3) := by decide +kernel
theorem d_X9_leakByWeight_16 : decode cX9_leakByWeight 16 = .ok (.iconst (-1), 1) := by decide +kernel
theorem d_X9_leakByWeight_17 : decode cX9_leakByWeight 17 = .ok (.istore 6, 2) := by decide +kernel
theorem d_X9_leakByWeight_19 : decode cX9_leakByWeight 19 = .ok (.iconst 0, 1) := by decide +kernel
theorem d_X9_leakByWeight_20 : decode cX9_leakByWeight 20 = .ok (.istore 7, 2) := by decide +kernel
theorem d_X9_leakByWeight_22 : decode cX9_leakByWeight 22 = .ok (.iconst 0, 1) := by decide +kernel
theorem d_X9_leakByWeight_23 : decode cX9_leakByWeight 23 = .ok (.istore 8, 2) := by decide +kernel
theorem d_X9_leakByWeight_25 : decode cX9_leakByWeight 25 = .ok (.iload 8, 2) := by decide +kernel
theorem d_X9_leakByWeight_27 : decode cX9_leakByWeight 27 = .ok (.iload_n 2, 1) := by decide +kernel
theorem d_X9_leakByWeight_28 : decode cX9_leakByWeight 28 = .ok (.if_icmp .ge 57, 3) := by decide +kernel
theorem d_X9_leakByWeight_31 : decode cX9_leakByWeight 31 = .ok (.aload_n 0, 1) := by decide +kernel
theorem d_X9_leakByWeight_32 : decode cX9_leakByWeight 32 = .ok (.getfield 43, 3) := by decide +kernel
theorem d_X9_leakByWeight_35 : decode cX9_leakByWeight 35 = .ok (.getfield 282, 3) := by decide +kernel
theorem d_X9_leakByWeight_38 : decode cX9_leakByWeight 38 = .ok (.aload_n 0, 1) := by decide +kernel
theorem d_X9_leakByWeight_39 : decode cX9_leakByWeight 39 = .ok (.getfield 72, 3) := by decide +kernel
theorem d_X9_leakByWeight_42 : decode cX9_leakByWeight 42 = .ok (.iload 8, 2) := by decide +kernel
theorem d_X9_leakByWeight_44 : decode cX9_leakByWeight 44 = .ok (.iaload, 1) := by decide +kernel
theorem d_X9_leakByWeight_45 : decode cX9_leakByWeight 45 = .ok (.iaload, 1) := by decide +kernel
theorem d_X9_leakByWeight_46 : decode cX9_leakByWeight 46 = .ok (.istore 9, 2) := by decide +kernel
theorem d_X9_leakByWeight_48 : decode cX9_leakByWeight 48 = .ok (.iload 9, 2) := by decide +kernel
theorem d_X9_leakByWeight_50 : decode cX9_leakByWeight 50 = .ok (.iload 4, 2) := by decide +kernel
theorem d_X9_leakByWeight_52 : decode cX9_leakByWeight 52 = .ok (.if_icmp .ge 17, 3) := by decide +kernel
theorem d_X9_leakByWeight_55 : decode cX9_leakByWeight 55 = .ok (.iload 9, 2) := by decide +kernel
theorem d_X9_leakByWeight_57 : decode cX9_leakByWeight 57 = .ok (.iload 6, 2) := by decide +kernel
theorem d_X9_leakByWeight_59 : decode cX9_leakByWeight 59 = .ok (.if_icmp .le 10, 3) := by decide +kernel
theorem d_X9_leakByWeight_62 : decode cX9_leakByWeight 62 = .ok (.iload 9, 2) := by decide +kernel
theorem d_X9_leakByWeight_64 : decode cX9_leakByWeight 64 = .ok (.istore 6, 2) := by decide +kernel
theorem d_X9_leakByWeight_66 : decode cX9_leakByWeight 66 = .ok (.iconst 0, 1) := by decide +kernel
theorem d_X9_leakByWeight_67 : decode cX9_leakByWeight 67 = .ok (.istore 7, 2) := by decide +kernel
theorem d_X9_leakByWeight_69 : decode cX9_leakByWeight 69 = .ok (.iload 9, 2) := by decide +kernel
theorem d_X9_leakByWeight_71 : decode cX9_leakByWeight 71 = .ok (.iload 6, 2) := by decide +kernel
theorem d_X9_leakByWeight_73 : decode cX9_leakByWeight 73 = .ok (.if_icmp .ne 6, 3) := by decide +kernel
theorem d_X9_leakByWeight_76 : decode cX9_leakByWeight 76 = .ok (.iinc 7 1, 3) := by decide +kernel
theorem d_X9_leakByWeight_79 : decode cX9_leakByWeight 79 = .ok (.iinc 8 1, 3) := by decide +kernel
theorem d_X9_leakByWeight_82 : decode cX9_leakByWeight 82 = .ok (.goto (-57), 3) := by decide +kernel
theorem d_X9_leakByWeight_85 : decode cX9_leakByWeight 85 = .ok (.iload_n 3, 1) := by decide +kernel
theorem d_X9_leakByWeight_86 : decode cX9_leakByWeight 86 = .ok (.iload 7, 2) := by decide +kernel
theorem d_X9_leakByWeight_88 : decode cX9_leakByWeight 88 = .ok (.if_icmp .ge 12, 3) := by decide +kernel
theorem d_X9_leakByWeight_91 : decode cX9_leakByWeight 91 = .ok (.aload_n 0, 1) := by decide +kernel
theorem d_X9_leakByWeight_92 : decode cX9_leakByWeight 92 = .ok (.iload 6, 2) := by decide +kernel
theorem d_X9_leakByWeight_94 : decode cX9_leakByWeight 94 = .ok (.iload_n 3, 1) := by decide +kernel
theorem d_X9_leakByWeight_95 : decode cX9_leakByWeight 95 = .ok (.iload_n 2, 1) := by decide +kernel
theorem d_X9_leakByWeight_96 : decode cX9_leakByWeight 96 = .ok (.invokevirtual 300, 3) := by decide +kernel
theorem d_X9_leakByWeight_99 : decode cX9_leakByWeight 99 = .ok (.ireturn, 1) := by decide +kernel
theorem d_X9_leakByWeight_100 : decode cX9_leakByWeight 100 = .ok (.iload_n 3, 1) := by decide +kernel
theorem d_X9_leakByWeight_101 : decode cX9_leakByWeight 101 = .ok (.iload 7, 2) := by decide +kernel
theorem d_X9_leakByWeight_103 : decode cX9_leakByWeight 103 = .ok (.isub, 1) := by decide +kernel
theorem d_X9_leakByWeight_104 : decode cX9_leakByWeight 104 = .ok (.istore_n 3, 1) := by decide +kernel
theorem d_X9_leakByWeight_105 : decode cX9_leakByWeight 105 = .ok (.iload 6, 2) := by decide +kernel
theorem d_X9_leakByWeight_107 : decode cX9_leakByWeight 107 = .ok (.istore 4, 2) := by decide +kernel
theorem d_X9_leakByWeight_109 : decode cX9_leakByWeight 109 = .ok (.iinc 5 1, 3) := by decide +kernel
theorem d_X9_leakByWeight_112 : decode cX9_leakByWeight 112 = .ok (.goto (-102), 3) := by decide +kernel
theorem d_X9_leakByWeight_115 : decode cX9_leakByWeight 115 = .ok (.iconst (-1), 1) := by decide +kernel
theorem d_X9_leakByWeight_116 : decode cX9_leakByWeight 116 = .ok (.ireturn, 1) := by decide +kernel
theorem d_X9_leakOfWeight_0 : decode cX9_leakOfWeight 0 = .ok (.iload_n 2, 1) := by decide +kernel
theorem d_X9_leakOfWeight_1 : decode cX9_leakOfWeight 1 = .ok (.istore 4, 2) := by decide +kernel
theorem d_X9_leakOfWeight_3 : decode cX9_leakOfWeight 3 = .ok (.iconst 0, 1) := by decide +kernel
theorem d_X9_leakOfWeight_4 : decode cX9_leakOfWeight 4 = .ok (.istore 5, 2) := by decide +kernel
theorem d_X9_leakOfWeight_6 : decode cX9_leakOfWeight 6 = .ok (.iload 5, 2) := by decide +kernel
theorem d_X9_leakOfWeight_8 : decode cX9_leakOfWeight 8 = .ok (.iload_n 3, 1) := by decide +kernel
theorem d_X9_leakOfWeight_9 : decode cX9_leakOfWeight 9 = .ok (.if_icmp .ge 44, 3) := by decide +kernel
theorem d_X9_leakOfWeight_12 : decode cX9_leakOfWeight 12 = .ok (.aload_n 0, 1) := by decide +kernel
theorem d_X9_leakOfWeight_13 : decode cX9_leakOfWeight 13 = .ok (.getfield 43, 3) := by decide +kernel
theorem d_X9_leakOfWeight_16 : decode cX9_leakOfWeight 16 = .ok (.getfield 282, 3) := by decide +kernel
theorem d_X9_leakOfWeight_19 : decode cX9_leakOfWeight 19 = .ok (.aload_n 0, 1) := by decide +kernel
theorem d_X9_leakOfWeight_20 : decode cX9_leakOfWeight 20 = .ok (.getfield 72, 3) := by decide +kernel
theorem d_X9_leakOfWeight_23 : decode cX9_leakOfWeight 23 = .ok (.iload 5, 2) := by decide +kernel
theorem d_X9_leakOfWeight_25 : decode cX9_leakOfWeight 25 = .ok (.iaload, 1) := by decide +kernel
theorem d_X9_leakOfWeight_26 : decode cX9_leakOfWeight 26 = .ok (.iaload, 1) := by decide +kernel
theorem d_X9_leakOfWeight_27 : decode cX9_leakOfWeight 27 = .ok (.iload_n 1, 1) := by decide +kernel
theorem d_X9_leakOfWeight_28 : decode cX9_leakOfWeight 28 = .ok (.if_icmp .ne 19, 3) := by decide +kernel
theorem d_X9_leakOfWeight_31 : decode cX9_leakOfWeight 31 = .ok (.iload 4, 2) := by decide +kernel
theorem d_X9_leakOfWeight_33 : decode cX9_leakOfWeight 33 = .ok (.ifCond .ne 11, 3) := by decide +kernel
theorem d_X9_leakOfWeight_36 : decode cX9_leakOfWeight 36 = .ok (.aload_n 0, 1) := by decide +kernel
theorem d_X9_leakOfWeight_37 : decode cX9_leakOfWeight 37 = .ok (.getfield 72, 3) := by decide +kernel
theorem d_X9_leakOfWeight_40 : decode cX9_leakOfWeight 40 = .ok (.iload 5, 2) := by decide +kernel
theorem d_X9_leakOfWeight_42 : decode cX9_leakOfWeight 42 = .ok (.iaload, 1) := by decide +kernel
theorem d_X9_leakOfWeight_43 : decode cX9_leakOfWeight 43 = .ok (.ireturn, 1) := by decide +kernel
theorem d_X9_leakOfWeight_44 : decode cX9_leakOfWeight 44 = .ok (.iinc 4 (-1), 3) := by decide +kernel
theorem d_X9_leakOfWeight_47 : decode cX9_leakOfWeight 47 = .ok (.iinc 5 1, 3) := by decide +kernel
theorem d_X9_leakOfWeight_50 : decode cX9_leakOfWeight 50 = .ok (.goto (-44), 3) := by decide +kernel
theorem d_X9_leakOfWeight_53 : decode cX9_leakOfWeight 53 = .ok (.iconst (-1), 1) := by decide +kernel
theorem d_X9_leakOfWeight_54 : decode cX9_leakOfWeight 54 = .ok (.ireturn, 1) := by decide +kernel
theorem d_X9_gatherLeaks_0 : decode cX9_gatherLeaks 0 = .ok (.iconst 0, 1) := by decide +kernel
theorem d_X9_gatherLeaks_1 : decode cX9_gatherLeaks 1 = .ok (.istore_n 1, 1) := by decide +kernel
theorem d_X9_gatherLeaks_2 : decode cX9_gatherLeaks 2 = .ok (.iconst 0, 1) := by decide +kernel
theorem d_X9_gatherLeaks_3 : decode cX9_gatherLeaks 3 = .ok (.istore_n 2, 1) := by decide +kernel
theorem d_X9_gatherLeaks_4 : decode cX9_gatherLeaks 4 = .ok (.iload_n 2, 1) := by decide +kernel
theorem d_X9_gatherLeaks_5 : decode cX9_gatherLeaks 5 = .ok (.aload_n 0, 1) := by decide +kernel
theorem d_X9_gatherLeaks_6 : decode cX9_gatherLeaks 6 = .ok (.getfield 43, 3) := by decide +kernel
theorem d_X9_gatherLeaks_9 : decode cX9_gatherLeaks 9 = .ok (.getfield 110, 3) := by decide +kernel
theorem d_X9_gatherLeaks_12 : decode cX9_gatherLeaks 12 = .ok (.if_icmp .ge 28, 3) := by decide +kernel
theorem d_X9_gatherLeaks_15 : decode cX9_gatherLeaks 15 = .ok (.aload_n 0, 1) := by decide +kernel
theorem d_X9_gatherLeaks_16 : decode cX9_gatherLeaks 16 = .ok (.iconst 0, 1) := by decide +kernel
theorem d_X9_gatherLeaks_17 : decode cX9_gatherLeaks 17 = .ok (.iload_n 2, 1) := by decide +kernel
theorem d_X9_gatherLeaks_18 : decode cX9_gatherLeaks 18 = .ok (.invokevirtual 266, 3) := by decide +kernel
theorem d_X9_gatherLeaks_21 : decode cX9_gatherLeaks 21 = .ok (.ifCond .eq 13, 3) := by decide +kernel
theorem d_X9_gatherLeaks_24 : decode cX9_gatherLeaks 24 = .ok (.aload_n 0, 1) := by decide +kernel
theorem d_X9_gatherLeaks_25 : decode cX9_gatherLeaks 25 = .ok (.getfield 72, 3) := by decide +kernel
theorem d_X9_gatherLeaks_28 : decode cX9_gatherLeaks 28 = .ok (.iload_n 1, 1) := by decide +kernel
theorem d_X9_gatherLeaks_29 : decode cX9_gatherLeaks 29 = .ok (.iload_n 2, 1) := by decide +kernel
theorem d_X9_gatherLeaks_30 : decode cX9_gatherLeaks 30 = .ok (.iastore, 1) := by decide +kernel
theorem d_X9_gatherLeaks_31 : decode cX9_gatherLeaks 31 = .ok (.iinc 1 1, 3) := by decide +kernel
theorem d_X9_gatherLeaks_34 : decode cX9_gatherLeaks 34 = .ok (.iinc 2 1, 3) := by decide +kernel
theorem d_X9_gatherLeaks_37 : decode cX9_gatherLeaks 37 = .ok (.goto (-33), 3) := by decide +kernel
theorem d_X9_gatherLeaks_40 : decode cX9_gatherLeaks 40 = .ok (.iload_n 1, 1) := by decide +kernel
theorem d_X9_gatherLeaks_41 : decode cX9_gatherLeaks 41 = .ok (.ireturn, 1) := by decide +kernel
theorem d_X9_stopped_0 : decode cX9_stopped 0 = .ok (.aload_n 0, 1) := by decide +kernel
theorem d_X9_stopped_1 : decode cX9_stopped 1 = .ok (.iload_n 1, 1) := by decide +kernel
theorem d_X9_stopped_2 : decode cX9_stopped 2 = .ok (.invokevirtual 181, 3) := by decide +kernel
theorem d_X9_stopped_5 : decode cX9_stopped 5 = .ok (.ifCond .ne 5, 3) := by decide +kernel
theorem d_X9_stopped_8 : decode cX9_stopped 8 = .ok (.iconst (-1), 1) := by decide +kernel
theorem d_X9_stopped_9 : decode cX9_stopped 9 = .ok (.ireturn, 1) := by decide +kernel
theorem d_X9_stopped_10 : decode cX9_stopped 10 = .ok (.iconst 0, 1) := by decide +kernel
theorem d_X9_stopped_11 : decode cX9_stopped 11 = .ok (.istore_n 2, 1) := by decide +kernel
theorem d_X9_stopped_12 : decode cX9_stopped 12 = .ok (.iconst 0, 1) := by decide +kernel
theorem d_X9_stopped_13 : decode cX9_stopped 13 = .ok (.istore_n 3, 1) := by decide +kernel
theorem d_X9_stopped_14 : decode cX9_stopped 14 = .ok (.iload_n 3, 1) := by decide +kernel
theorem d_X9_stopped_15 : decode cX9_stopped 15 = .ok (.iconst 4, 1) := by decide +kernel
theorem d_X9_stopped_16 : decode cX9_stopped 16 = .ok (.if_icmp .ge 24, 3) := by decide +kernel
theorem d_X9_stopped_19 : decode cX9_stopped 19 = .ok (.aload_n 0, 1) := by decide +kernel
theorem d_X9_stopped_20 : decode cX9_stopped 20 = .ok (.iload_n 1, 1) := by decide +kernel
theorem d_X9_stopped_21 : decode cX9_stopped 21 = .ok (.iload_n 3, 1) := by decide +kernel
theorem d_X9_stopped_22 : decode cX9_stopped 22 = .ok (.invokevirtual 304, 3) := by decide +kernel
theorem d_X9_stopped_25 : decode cX9_stopped 25 = .ok (.ifCond .eq 9, 3) := by decide +kernel
theorem d_X9_stopped_28 : decode cX9_stopped 28 = .ok (.iload_n 2, 1) := by decide +kernel
theorem d_X9_stopped_29 : decode cX9_stopped 29 = .ok (.iconst 1, 1) := by decide +kernel
theorem d_X9_stopped_30 : decode cX9_stopped 30 = .ok (.iload_n 3, 1) := by decide +kernel
theorem d_X9_stopped_31 : decode cX9_stopped 31 = .ok (.ishl, 1) := by decide +kernel
theorem d_X9_stopped_32 : decode cX9_stopped 32 = .ok (.ior, 1) := by decide +kernel
theorem d_X9_stopped_33 : decode cX9_stopped 33 = .ok (.istore_n 2, 1) := by decide +kernel
theorem d_X9_stopped_34 : decode cX9_stopped 34 = .ok (.iinc 3 1, 3) := by decide +kernel
theorem d_X9_stopped_37 : decode cX9_stopped 37 = .ok (.goto (-23), 3) := by decide +kernel
theorem d_X9_stopped_40 : decode cX9_stopped 40 = .ok (.iload_n 2, 1) := by decide +kernel
theorem d_X9_stopped_41 : decode cX9_stopped 41 = .ok (.ireturn, 1) := by decide +kernel
theorem d_X9_isStoppedBy_0 : decode cX9_isStoppedBy 0 = .ok (.aload_n 0, 1) := by decide +kernel
theorem d_X9_isStoppedBy_1 : decode cX9_isStoppedBy 1 = .ok (.getfield 19, 3) := by decide +kernel
theorem d_X9_isStoppedBy_4 : decode cX9_isStoppedBy 4 = .ok (.getfield 149, 3) := by decide +kernel
theorem d_X9_isStoppedBy_7 : decode cX9_isStoppedBy 7 = .ok (.aload_n 0, 1) := by decide +kernel
theorem d_X9_isStoppedBy_8 : decode cX9_isStoppedBy 8 = .ok (.getfield 12, 3) := by decide +kernel
theorem d_X9_isStoppedBy_11 : decode cX9_isStoppedBy 11 = .ok (.getfield 194, 3) := by decide +kernel
theorem d_X9_isStoppedBy_14 : decode cX9_isStoppedBy 14 = .ok (.iconst 4, 1) := by decide +kernel
theorem d_X9_isStoppedBy_15 : decode cX9_isStoppedBy 15 = .ok (.imul, 1) := by decide +kernel
theorem d_X9_isStoppedBy_16 : decode cX9_isStoppedBy 16 = .ok (.iload_n 2, 1) := by decide +kernel
theorem d_X9_isStoppedBy_17 : decode cX9_isStoppedBy 17 = .ok (.iadd, 1) := by decide +kernel
theorem d_X9_isStoppedBy_18 : decode cX9_isStoppedBy 18 = .ok (.iaload, 1) := by decide +kernel
theorem d_X9_isStoppedBy_19 : decode cX9_isStoppedBy 19 = .ok (.istore_n 3, 1) := by decide +kernel
theorem d_X9_isStoppedBy_20 : decode cX9_isStoppedBy 20 = .ok (.aload_n 0, 1) := by decide +kernel
theorem d_X9_isStoppedBy_21 : decode cX9_isStoppedBy 21 = .ok (.getfield 19, 3) := by decide +kernel
theorem d_X9_isStoppedBy_24 : decode cX9_isStoppedBy 24 = .ok (.getfield 164, 3) := by decide +kernel
theorem d_X9_isStoppedBy_27 : decode cX9_isStoppedBy 27 = .ok (.ifCond .eq 25, 3) := by decide +kernel
theorem d_X9_isStoppedBy_30 : decode cX9_isStoppedBy 30 = .ok (.aload_n 0, 1) := by decide +kernel
theorem d_X9_isStoppedBy_31 : decode cX9_isStoppedBy 31 = .ok (.getfield 47, 3) := by decide +kernel
theorem d_X9_isStoppedBy_34 : decode cX9_isStoppedBy 34 = .ok (.iconst (-1), 1) := by decide +kernel
theorem d_X9_isStoppedBy_35 : decode cX9_isStoppedBy 35 = .ok (.if_icmp .ne 7, 3) := by decide +kernel
theorem d_X9_isStoppedBy_38 : decode cX9_isStoppedBy 38 = .ok (.iconst 0, 1) := by decide +kernel
theorem d_X9_isStoppedBy_39 : decode cX9_isStoppedBy 39 = .ok (.goto 12, 3) := by decide +kernel
theorem d_X9_isStoppedBy_42 : decode cX9_isStoppedBy 42 = .ok (.aload_n 0, 1) := by decide +kernel
theorem d_X9_isStoppedBy_43 : decode cX9_isStoppedBy 43 = .ok (.aload_n 0, 1) := by decide +kernel
theorem d_X9_isStoppedBy_44 : decode cX9_isStoppedBy 44 = .ok (.getfield 47, 3) := by decide +kernel
theorem d_X9_isStoppedBy_47 : decode cX9_isStoppedBy 47 = .ok (.iload_n 2, 1) := by decide +kernel
theorem d_X9_isStoppedBy_48 : decode cX9_isStoppedBy 48 = .ok (.invokevirtual 307, 3) := by decide +kernel
theorem d_X9_isStoppedBy_51 : decode cX9_isStoppedBy 51 = .ok (.istore_n 3, 1) := by decide +kernel
theorem d_X9_isStoppedBy_52 : decode cX9_isStoppedBy 52 = .ok (.aload_n 0, 1) := by decide +kernel
theorem d_X9_isStoppedBy_53 : decode cX9_isStoppedBy 53 = .ok (.iload_n 1, 1) := by decide +kernel
theorem d_X9_isStoppedBy_54 : decode cX9_isStoppedBy 54 = .ok (.iload_n 2, 1) := by decide +kernel
theorem d_X9_isStoppedBy_55 : decode cX9_isStoppedBy 55 = .ok (.invokevirtual 307, 3) := by decide +kernel
theorem d_X9_isStoppedBy_58 : decode cX9_isStoppedBy 58 = .ok (.iload_n 3, 1) := by decide +kernel
theorem d_X9_isStoppedBy_59 : decode cX9_isStoppedBy 59 = .ok (.isub, 1) := by decide +kernel
theorem d_X9_isStoppedBy_60 : decode cX9_isStoppedBy 60 = .ok (.aload_n 0, 1) := by decide +kernel
theorem d_X9_isStoppedBy_61 : decode cX9_isStoppedBy 61 = .ok (.getfield 19, 3) := by decide +kernel
theorem d_X9_isStoppedBy_64 : decode cX9_isStoppedBy 64 = .ok (.getfield 123, 3) := by decide +kernel
theorem d_X9_isStoppedBy_67 : decode cX9_isStoppedBy 67 = .ok (.invokestatic 310, 3) := by decide +kernel
theorem d_X9_isStoppedBy_70 : decode cX9_isStoppedBy 70 = .ok (.istore 4, 2) := by decide +kernel
theorem d_X9_isStoppedBy_72 : decode cX9_isStoppedBy 72 = .ok (.aload_n 0, 1) := by decide +kernel
theorem d_X9_isStoppedBy_73 : decode cX9_isStoppedBy 73 = .ok (.getfield 61, 3) := by decide +kernel
theorem d_X9_isStoppedBy_76 : decode cX9_isStoppedBy 76 = .ok (.aload_n 0, 1) := by decide +kernel
theorem d_X9_isStoppedBy_77 : decode cX9_isStoppedBy 77 = .ok (.getfield 19, 3) := by decide +kernel
theorem d_X9_isStoppedBy_80 : decode cX9_isStoppedBy 80 = .ok (.getfield 123, 3) := by decide +kernel
theorem d_X9_isStoppedBy_83 : decode cX9_isStoppedBy 83 = .ok (.invokevirtual 315, 3) := by decide +kernel
theorem d_X9_isStoppedBy_86 : decode cX9_isStoppedBy 86 = .ok (.iconst 0, 1) := by decide +kernel
theorem d_X9_isStoppedBy_87 : decode cX9_isStoppedBy 87 = .ok (.istore 5, 2) := by decide +kernel
theorem d_X9_isStoppedBy_89 : decode cX9_isStoppedBy 89 = .ok (.iload 5, 2) := by decide +kernel
theorem d_X9_isStoppedBy_91 : decode cX9_isStoppedBy 91 = .ok (.aload_n 0, 1) := by decide +kernel
theorem d_X9_isStoppedBy_92 : decode cX9_isStoppedBy 92 = .ok (.getfield 19, 3) := by decide +kernel
theorem d_X9_isStoppedBy_95 : decode cX9_isStoppedBy 95 = .ok (.getfield 139, 3) := by decide +kernel
theorem d_X9_isStoppedBy_98 : decode cX9_isStoppedBy 98 = .ok (.iload_n 2, 1) := by decide +kernel
theorem d_X9_isStoppedBy_99 : decode cX9_isStoppedBy 99 = .ok (.iaload, 1) := by decide +kernel
theorem d_X9_isStoppedBy_100 : decode cX9_isStoppedBy 100 = .ok (.if_icmp .ge 30, 3) := by decide +kernel
theorem d_X9_isStoppedBy_103 : decode cX9_isStoppedBy 103 = .ok (.aload_n 0, 1) := by decide +kernel
theorem d_X9_isStoppedBy_104 : decode cX9_isStoppedBy 104 = .ok (.getfield 61, 3) := by decide +kernel
theorem d_X9_isStoppedBy_107 : decode cX9_isStoppedBy 107 = .ok (.iload 5, 2) := by decide +kernel
theorem d_X9_isStoppedBy_109 : decode cX9_isStoppedBy 109 = .ok (.iload 4, 2) := by decide +kernel
theorem d_X9_isStoppedBy_111 : decode cX9_isStoppedBy 111 = .ok (.imul, 1) := by decide +kernel
theorem d_X9_isStoppedBy_112 : decode cX9_isStoppedBy 112 = .ok (.aload_n 0, 1) := by decide +kernel
theorem d_X9_isStoppedBy_113 : decode cX9_isStoppedBy 113 = .ok (.getfield 19, 3) := by decide +kernel
theorem d_X9_isStoppedBy_116 : decode cX9_isStoppedBy 116 = .ok (.getfield 123, 3) := by decide +kernel
theorem d_X9_isStoppedBy_119 : decode cX9_isStoppedBy 119 = .ok (.irem, 1) := by decide +kernel
theorem d_X9_isStoppedBy_120 : decode cX9_isStoppedBy 120 = .ok (.iconst 1, 1) := by decide +kernel
theorem d_X9_isStoppedBy_121 : decode cX9_isStoppedBy 121 = .ok (.invokevirtual 317, 3) := by decide +kernel
theorem d_X9_isStoppedBy_124 : decode cX9_isStoppedBy 124 = .ok (.iinc 5 1, 3) := by decide +kernel
theorem d_X9_isStoppedBy_127 : decode cX9_isStoppedBy 127 = .ok (.goto (-38), 3) := by decide +kernel
theorem d_X9_isStoppedBy_130 : decode cX9_isStoppedBy 130 = .ok (.aload_n 0, 1) := by decide +kernel
theorem d_X9_isStoppedBy_131 : decode cX9_isStoppedBy 131 = .ok (.getfield 61, 3) := by decide +kernel
theorem d_X9_isStoppedBy_134 : decode cX9_isStoppedBy 134 = .ok (.invokevirtual 320, 3) := by decide +kernel
theorem d_X9_isStoppedBy_137 : decode cX9_isStoppedBy 137 = .ok (.ifCond .ne 7, 3) := by decide +kernel
theorem d_X9_isStoppedBy_140 : decode cX9_isStoppedBy 140 = .ok (.iconst 1, 1) := by decide +kernel
theorem d_X9_isStoppedBy_141 : decode cX9_isStoppedBy 141 = .ok (.goto 4, 3) := by decide +kernel
theorem d_X9_isStoppedBy_144 : decode cX9_isStoppedBy 144 = .ok (.iconst 0, 1) := by decide +kernel
theorem d_X9_isStoppedBy_145 : decode cX9_isStoppedBy 145 = .ok (.ireturn, 1) := by decide +kernel
theorem d_X9_pace_0 : decode cX9_pace 0 = .ok (.iconst 0, 1) := by decide +kernel
theorem d_X9_pace_1 : decode cX9_pace 1 = .ok (.istore_n 3, 1) := by decide +kernel
theorem d_X9_pace_2 : decode cX9_pace 2 = .ok (.iconst 0, 1) := by decide +kernel
theorem d_X9_pace_3 : decode cX9_pace 3 = .ok (.istore 4, 2) := by decide +kernel
theorem d_X9_pace_5 : decode cX9_pace 5 = .ok (.iload 4, 2) := by decide +kernel
theorem d_X9_pace_7 : decode cX9_pace 7 = .ok (.aload_n 0, 1) := by decide +kernel
theorem d_X9_pace_8 : decode cX9_pace 8 = .ok (.getfield 12, 3) := by decide +kernel
theorem d_X9_pace_11 : decode cX9_pace 11 = .ok (.getfield 194, 3) := by decide +kernel
theorem d_X9_pace_14 : decode cX9_pace 14 = .ok (.if_icmp .ge 37, 3) := by decide +kernel
theorem d_X9_pace_17 : decode cX9_pace 17 = .ok (.iload_n 3, 1) := by decide +kernel
theorem d_X9_pace_18 : decode cX9_pace 18 = .ok (.aload_n 0, 1) := by decide +kernel
theorem d_X9_pace_19 : decode cX9_pace 19 = .ok (.getfield 43, 3) := by decide +kernel
theorem d_X9_pace_22 : decode cX9_pace 22 = .ok (.iload_n 1, 1) := by decide +kernel
theorem d_X9_pace_23 : decode cX9_pace 23 = .ok (.iload 4, 2) := by decide +kernel
theorem d_X9_pace_25 : decode cX9_pace 25 = .ok (.invokevirtual 323, 3) := by decide +kernel
theorem d_X9_pace_28 : decode cX9_pace 28 = .ok (.aload_n 0, 1) := by decide +kernel
theorem d_X9_pace_29 : decode cX9_pace 29 = .ok (.getfield 19, 3) := by decide +kernel
theorem d_X9_pace_32 : decode cX9_pace 32 = .ok (.getfield 149, 3) := by decide +kernel
theorem d_X9_pace_35 : decode cX9_pace 35 = .ok (.iload 4, 2) := by decide +kernel
theorem d_X9_pace_37 : decode cX9_pace 37 = .ok (.iconst 4, 1) := by decide +kernel
theorem d_X9_pace_38 : decode cX9_pace 38 = .ok (.imul, 1) := by decide +kernel
theorem d_X9_pace_39 : decode cX9_pace 39 = .ok (.iload_n 2, 1) := by decide +kernel
theorem d_X9_pace_40 : decode cX9_pace 40 = .ok (.iadd, 1) := by decide +kernel
theorem d_X9_pace_41 : decode cX9_pace 41 = .ok (.iaload, 1) := by decide +kernel
theorem d_X9_pace_42 : decode cX9_pace 42 = .ok (.imul, 1) := by decide +kernel
theorem d_X9_pace_43 : decode cX9_pace 43 = .ok (.iadd, 1) := by decide +kernel
theorem d_X9_pace_44 : decode cX9_pace 44 = .ok (.istore_n 3, 1) := by decide +kernel
theorem d_X9_pace_45 : decode cX9_pace 45 = .ok (.iinc 4 1, 3) := by decide +kernel
theorem d_X9_pace_48 : decode cX9_pace 48 = .ok (.goto (-43), 3) := by decide +kernel
theorem d_X9_pace_51 : decode cX9_pace 51 = .ok (.iload_n 3, 1) := by decide +kernel
theorem d_X9_pace_52 : decode cX9_pace 52 = .ok (.ireturn, 1) := by decide +kernel
theorem d_X9_spare_0 : decode cX9_spare 0 = .ok (.iload_n 1, 1) := by decide +kernel
theorem d_X9_spare_1 : decode cX9_spare 1 = .ok (.invokestatic 132, 3) := by decide +kernel
theorem d_X9_spare_4 : decode cX9_spare 4 = .ok (.ifCond .ne 5, 3) := by decide +kernel
theorem d_X9_spare_7 : decode cX9_spare 7 = .ok (.iconst (-1), 1) := by decide +kernel
theorem d_X9_spare_8 : decode cX9_spare 8 = .ok (.ireturn, 1) := by decide +kernel
theorem d_X9_spare_9 : decode cX9_spare 9 = .ok (.aload_n 0, 1) := by decide +kernel
theorem d_X9_spare_10 : decode cX9_spare 10 = .ok (.getfield 19, 3) := by decide +kernel
theorem d_X9_spare_13 : decode cX9_spare 13 = .ok (.getfield 139, 3) := by decide +kernel
theorem d_X9_spare_16 : decode cX9_spare 16 = .ok (.iload_n 1, 1) := by decide +kernel
theorem d_X9_spare_17 : decode cX9_spare 17 = .ok (.iaload, 1) := by decide +kernel
theorem d_X9_spare_18 : decode cX9_spare 18 = .ok (.istore_n 2, 1) := by decide +kernel
theorem d_X9_spare_19 : decode cX9_spare 19 = .ok (.aload_n 0, 1) := by decide +kernel
theorem d_X9_spare_20 : decode cX9_spare 20 = .ok (.getfield 19, 3) := by decide +kernel
theorem d_X9_spare_23 : decode cX9_spare 23 = .ok (.iload_n 1, 1) := by decide +kernel
theorem d_X9_spare_24 : decode cX9_spare 24 = .ok (.invokevirtual 135, 3) := by decide +kernel
theorem d_X9_spare_27 : decode cX9_spare 27 = .ok (.istore_n 3, 1) := by decide +kernel
theorem d_X9_spare_28 : decode cX9_spare 28 = .ok (.iconst (-1), 1) := by decide +kernel
theorem d_X9_spare_29 : decode cX9_spare 29 = .ok (.istore 4, 2) := by decide +kernel
theorem d_X9_spare_31 : decode cX9_spare 31 = .ok (.iconst 1, 1) := by decide +kernel
theorem d_X9_spare_32 : decode cX9_spare 32 = .ok (.istore 5, 2) := by decide +kernel
theorem d_X9_spare_34 : decode cX9_spare 34 = .ok (.iload 5, 2) := by decide +kernel
theorem d_X9_spare_36 : decode cX9_spare 36 = .ok (.bipush 12, 2) := by decide +kernel
theorem d_X9_spare_38 : decode cX9_spare 38 = .ok (.if_icmp .gt 55, 3) := by decide +kernel
theorem d_X9_spare_41 : decode cX9_spare 41 = .ok (.iload 4, 2) := by decide +kernel
theorem d_X9_spare_43 : decode cX9_spare 43 = .ok (.iconst (-1), 1) := by decide +kernel
theorem d_X9_spare_44 : decode cX9_spare 44 = .ok (.if_icmp .ne 49, 3) := by decide +kernel
theorem d_X9_spare_47 : decode cX9_spare 47 = .ok (.iload_n 3, 1) := by decide +kernel
theorem d_X9_spare_48 : decode cX9_spare 48 = .ok (.iload 5, 2) := by decide +kernel
theorem d_X9_spare_50 : decode cX9_spare 50 = .ok (.imul, 1) := by decide +kernel
theorem d_X9_spare_51 : decode cX9_spare 51 = .ok (.sipush 512, 3) := by decide +kernel
theorem d_X9_spare_54 : decode cX9_spare 54 = .ok (.if_icmp .gt 33, 3) := by decide +kernel
theorem d_X9_spare_57 : decode cX9_spare 57 = .ok (.aload_n 0, 1) := by decide +kernel
theorem d_X9_spare_58 : decode cX9_spare 58 = .ok (.getfield 19, 3) := by decide +kernel
theorem d_X9_spare_61 : decode cX9_spare 61 = .ok (.getfield 139, 3) := by decide +kernel
theorem d_X9_spare_64 : decode cX9_spare 64 = .ok (.iload_n 1, 1) := by decide +kernel
theorem d_X9_spare_65 : decode cX9_spare 65 = .ok (.iload 5, 2) := by decide +kernel
theorem d_X9_spare_67 : decode cX9_spare 67 = .ok (.iastore, 1) := by decide +kernel
theorem d_X9_spare_68 : decode cX9_spare 68 = .ok (.aload_n 0, 1) := by decide +kernel
theorem d_X9_spare_69 : decode cX9_spare 69 = .ok (.getfield 54, 3) := by decide +kernel
theorem d_X9_spare_72 : decode cX9_spare 72 = .ok (.iconst 0, 1) := by decide +kernel
theorem d_X9_spare_73 : decode cX9_spare 73 = .ok (.putfield 326, 3) := by decide +kernel
theorem d_X9_spare_76 : decode cX9_spare 76 = .ok (.aload_n 0, 1) := by decide +kernel
theorem d_X9_spare_77 : decode cX9_spare 77 = .ok (.invokevirtual 329, 3) := by decide +kernel
theorem d_X9_spare_80 : decode cX9_spare 80 = .ok (.ifCond .eq 7, 3) := by decide +kernel
theorem d_X9_spare_83 : decode cX9_spare 83 = .ok (.iload 5, 2) := by decide +kernel
theorem d_X9_spare_85 : decode cX9_spare 85 = .ok (.istore 4, 2) := by decide +kernel
theorem d_X9_spare_87 : decode cX9_spare 87 = .ok (.iinc 5 1, 3) := by decide +kernel
theorem d_X9_spare_90 : decode cX9_spare 90 = .ok (.goto (-56), 3) := by decide +kernel
theorem d_X9_spare_93 : decode cX9_spare 93 = .ok (.aload_n 0, 1) := by decide +kernel
theorem d_X9_spare_94 : decode cX9_spare 94 = .ok (.getfield 19, 3) := by decide +kernel
theorem d_X9_spare_97 : decode cX9_spare 97 = .ok (.getfield 139, 3) := by decide +kernel
theorem d_X9_spare_100 : decode cX9_spare 100 = .ok (.iload_n 1, 1) := by decide +kernel
theorem d_X9_spare_101 : decode cX9_spare 101 = .ok (.iload_n 2, 1) := by decide +kernel
theorem d_X9_spare_102 : decode cX9_spare 102 = .ok (.iastore, 1) := by decide +kernel
theorem d_X9_spare_103 : decode cX9_spare 103 = .ok (.aload_n 0, 1) := by decide +kernel
theorem d_X9_spare_104 : decode cX9_spare 104 = .ok (.getfield 54, 3) := by decide +kernel
theorem d_X9_spare_107 : decode cX9_spare 107 = .ok (.iconst 0, 1) := by decide +kernel
theorem d_X9_spare_108 : decode cX9_spare 108 = .ok (.putfield 326, 3) := by decide +kernel
theorem d_X9_spare_111 : decode cX9_spare 111 = .ok (.iload 4, 2) := by decide +kernel
theorem d_X9_spare_113 : decode cX9_spare 113 = .ok (.ireturn, 1) := by decide +kernel
theorem d_X9_wouldBeGood_0 : decode cX9_wouldBeGood 0 = .ok (.aload_n 0, 1) := by decide +kernel
theorem d_X9_wouldBeGood_1 : decode cX9_wouldBeGood 1 = .ok (.getfield 47, 3) := by decide +kernel
theorem d_X9_wouldBeGood_4 : decode cX9_wouldBeGood 4 = .ok (.iconst (-1), 1) := by decide +kernel
theorem d_X9_wouldBeGood_5 : decode cX9_wouldBeGood 5 = .ok (.if_icmp .ne 5, 3) := by decide +kernel
theorem d_X9_wouldBeGood_8 : decode cX9_wouldBeGood 8 = .ok (.iconst 0, 1) := by decide +kernel
theorem d_X9_wouldBeGood_9 : decode cX9_wouldBeGood 9 = .ok (.ireturn, 1) := by decide +kernel
theorem d_X9_wouldBeGood_10 : decode cX9_wouldBeGood 10 = .ok (.aload_n 0, 1) := by decide +kernel
theorem d_X9_wouldBeGood_11 : decode cX9_wouldBeGood 11 = .ok (.invokevirtual 247, 3) := by decide +kernel
theorem d_X9_wouldBeGood_14 : decode cX9_wouldBeGood 14 = .ok (.iconst 0, 1) := by decide +kernel
theorem d_X9_wouldBeGood_15 : decode cX9_wouldBeGood 15 = .ok (.istore_n 1, 1) := by decide +kernel
theorem d_X9_wouldBeGood_16 : decode cX9_wouldBeGood 16 = .ok (.iload_n 1, 1) := by decide +kernel
theorem d_X9_wouldBeGood_17 : decode cX9_wouldBeGood 17 = .ok (.aload_n 0, 1) := by decide +kernel
theorem d_X9_wouldBeGood_18 : decode cX9_wouldBeGood 18 = .ok (.getfield 43, 3) := by decide +kernel
theorem d_X9_wouldBeGood_21 : decode cX9_wouldBeGood 21 = .ok (.getfield 110, 3) := by decide +kernel
theorem d_X9_wouldBeGood_24 : decode cX9_wouldBeGood 24 = .ok (.if_icmp .ge 68, 3) := by decide +kernel
theorem d_X9_wouldBeGood_27 : decode cX9_wouldBeGood 27 = .ok (.aload_n 0, 1) := by decide +kernel
theorem d_X9_wouldBeGood_28 : decode cX9_wouldBeGood 28 = .ok (.iload_n 1, 1) := by decide +kernel
theorem d_X9_wouldBeGood_29 : decode cX9_wouldBeGood 29 = .ok (.invokevirtual 332, 3) := by decide +kernel
theorem d_X9_wouldBeGood_32 : decode cX9_wouldBeGood 32 = .ok (.ifCond .eq 54, 3) := by decide +kernel
theorem d_X9_wouldBeGood_35 : decode cX9_wouldBeGood 35 = .ok (.aload_n 0, 1) := by decide +kernel
theorem d_X9_wouldBeGood_36 : decode cX9_wouldBeGood 36 = .ok (.iload_n 1, 1) := by decide +kernel
theorem d_X9_wouldBeGood_37 : decode cX9_wouldBeGood 37 = .ok (.invokevirtual 283, 3) := by decide +kernel
theorem d_X9_wouldBeGood_40 : decode cX9_wouldBeGood 40 = .ok (.ifCond .ne 18, 3) := by decide +kernel
theorem d_X9_wouldBeGood_43 : decode cX9_wouldBeGood 43 = .ok (.aload_n 0, 1) := by decide +kernel
theorem d_X9_wouldBeGood_44 : decode cX9_wouldBeGood 44 = .ok (.iload_n 1, 1) := by decide +kernel
theorem d_X9_wouldBeGood_45 : decode cX9_wouldBeGood 45 = .ok (.aload_n 0, 1) := by decide +kernel
theorem d_X9_wouldBeGood_46 : decode cX9_wouldBeGood 46 = .ok (.getfield 54, 3) := by decide +kernel
theorem d_X9_wouldBeGood_49 : decode cX9_wouldBeGood 49 = .ok (.getfield 258, 3) := by decide +kernel
theorem d_X9_wouldBeGood_52 : decode cX9_wouldBeGood 52 = .ok (.invokevirtual 335, 3) := by decide +kernel
theorem d_X9_wouldBeGood_55 : decode cX9_wouldBeGood 55 = .ok (.ifCond .ne 7, 3) := by decide +kernel
theorem d_X9_wouldBeGood_58 : decode cX9_wouldBeGood 58 = .ok (.iconst 1, 1) := by decide +kernel
theorem d_X9_wouldBeGood_59 : decode cX9_wouldBeGood 59 = .ok (.goto 4, 3) := by decide +kernel
theorem d_X9_wouldBeGood_62 : decode cX9_wouldBeGood 62 = .ok (.iconst 0, 1) := by decide +kernel
theorem d_X9_wouldBeGood_63 : decode cX9_wouldBeGood 63 = .ok (.aload_n 0, 1) := by decide +kernel
theorem d_X9_wouldBeGood_64 : decode cX9_wouldBeGood 64 = .ok (.getfield 12, 3) := by decide +kernel
theorem d_X9_wouldBeGood_67 : decode cX9_wouldBeGood 67 = .ok (.getfield 178, 3) := by decide +kernel
theorem d_X9_wouldBeGood_70 : decode cX9_wouldBeGood 70 = .ok (.iload_n 1, 1) := by decide +kernel
theorem d_X9_wouldBeGood_71 : decode cX9_wouldBeGood 71 = .ok (.baload, 1) := by decide +kernel
theorem d_X9_wouldBeGood_72 : decode cX9_wouldBeGood 72 = .ok (.iconst 1, 1) := by decide +kernel
theorem d_X9_wouldBeGood_73 : decode cX9_wouldBeGood 73 = .ok (.if_icmp .ne 7, 3) := by decide +kernel
theorem d_X9_wouldBeGood_76 : decode cX9_wouldBeGood 76 = .ok (.iconst 1, 1) := by decide +kernel
theorem d_X9_wouldBeGood_77 : decode cX9_wouldBeGood 77 = .ok (.goto 4, 3) := by decide +kernel
theorem d_X9_wouldBeGood_80 : decode cX9_wouldBeGood 80 = .ok (.iconst 0, 1) := by decide +kernel
theorem d_X9_wouldBeGood_81 : decode cX9_wouldBeGood 81 = .ok (.if_icmp .ne 5, 3) := by decide +kernel
theorem d_X9_wouldBeGood_84 : decode cX9_wouldBeGood 84 = .ok (.iconst 0, 1) := by decide +kernel
theorem d_X9_wouldBeGood_85 : decode cX9_wouldBeGood 85 = .ok (.ireturn, 1) := by decide +kernel
theorem d_X9_wouldBeGood_86 : decode cX9_wouldBeGood 86 = .ok (.iinc 1 1, 3) := by decide +kernel
theorem d_X9_wouldBeGood_89 : decode cX9_wouldBeGood 89 = .ok (.goto (-73), 3) := by decide +kernel
theorem d_X9_wouldBeGood_92 : decode cX9_wouldBeGood 92 = .ok (.iconst 1, 1) := by decide +kernel
theorem d_X9_wouldBeGood_93 : decode cX9_wouldBeGood 93 = .ok (.ireturn, 1) := by decide +kernel
theorem d_X9_soonest_0 : decode cX9_soonest 0 = .ok (.aload_n 0, 1) := by decide +kernel
theorem d_X9_soonest_1 : decode cX9_soonest 1 = .ok (.getfield 47, 3) := by decide +kernel
theorem d_X9_soonest_4 : decode cX9_soonest 4 = .ok (.iconst (-1), 1) := by decide +kernel
theorem d_X9_soonest_5 : decode cX9_soonest 5 = .ok (.if_icmp .eq 16, 3) := by decide +kernel
theorem d_X9_soonest_8 : decode cX9_soonest 8 = .ok (.aload_n 0, 1) := by decide +kernel
theorem d_X9_soonest_9 : decode cX9_soonest 9 = .ok (.getfield 43, 3) := by decide +kernel
theorem d_X9_soonest_12 : decode cX9_soonest 12 = .ok (.getfield 110, 3) := by decide +kernel
theorem d_X9_soonest_15 : decode cX9_soonest 15 = .ok (.sipush 200, 3) := by decide +kernel
theorem d_X9_soonest_18 : decode cX9_soonest 18 = .ok (.if_icmp .le 5, 3) := by decide +kernel
theorem d_X9_soonest_21 : decode cX9_soonest 21 = .ok (.iconst (-1), 1) := by decide +kernel
theorem d_X9_soonest_22 : decode cX9_soonest 22 = .ok (.ireturn, 1) := by decide +kernel
theorem d_X9_soonest_23 : decode cX9_soonest 23 = .ok (.aload_n 0, 1) := by decide +kernel
theorem d_X9_soonest_24 : decode cX9_soonest 24 = .ok (.invokevirtual 247, 3) := by decide +kernel
theorem d_X9_soonest_27 : decode cX9_soonest 27 = .ok (.aload_n 0, 1) := by decide +kernel
theorem d_X9_soonest_28 : decode cX9_soonest 28 = .ok (.getfield 72, 3) := by decide +kernel
theorem d_X9_soonest_31 : decode cX9_soonest 31 = .ok (.iconst 0, 1) := by decide +kernel
theorem d_X9_soonest_32 : decode cX9_soonest 32 = .ok (.aload_n 0, 1) := by decide +kernel
theorem d_X9_soonest_33 : decode cX9_soonest 33 = .ok (.getfield 54, 3) := by decide +kernel
theorem d_X9_soonest_36 : decode cX9_soonest 36 = .ok (.getfield 258, 3) := by decide +kernel
theorem d_X9_soonest_39 : decode cX9_soonest 39 = .ok (.iconst 1, 1) := by decide +kernel
theorem d_X9_soonest_40 : decode cX9_soonest 40 = .ok (.invokestatic 338, 3) := by decide +kernel
theorem d_X9_soonest_43 : decode cX9_soonest 43 = .ok (.iconst 0, 1) := by decide +kernel
theorem d_X9_soonest_44 : decode cX9_soonest 44 = .ok (.istore_n 1, 1) := by decide +kernel
theorem d_X9_soonest_45 : decode cX9_soonest 45 = .ok (.iload_n 1, 1) := by decide +kernel
theorem d_X9_soonest_46 : decode cX9_soonest 46 = .ok (.aload_n 0, 1) := by decide +kernel
theorem d_X9_soonest_47 : decode cX9_soonest 47 = .ok (.getfield 43, 3) := by decide +kernel
theorem d_X9_soonest_50 : decode cX9_soonest 50 = .ok (.getfield 110, 3) := by decide +kernel
theorem d_X9_soonest_53 : decode cX9_soonest 53 = .ok (.if_icmp .ge 32, 3) := by decide +kernel
theorem d_X9_soonest_56 : decode cX9_soonest 56 = .ok (.aload_n 0, 1) := by decide +kernel
theorem d_X9_soonest_57 : decode cX9_soonest 57 = .ok (.iload_n 1, 1) := by decide +kernel
theorem d_X9_soonest_58 : decode cX9_soonest 58 = .ok (.invokevirtual 332, 3) := by decide +kernel
theorem d_X9_soonest_61 : decode cX9_soonest 61 = .ok (.ifCond .eq 18, 3) := by decide +kernel
theorem d_X9_soonest_64 : decode cX9_soonest 64 = .ok (.aload_n 0, 1) := by decide +kernel
theorem d_X9_soonest_65 : decode cX9_soonest 65 = .ok (.iload_n 1, 1) := by decide +kernel
theorem d_X9_soonest_66 : decode cX9_soonest 66 = .ok (.invokevirtual 283, 3) := by decide +kernel
theorem d_X9_soonest_69 : decode cX9_soonest 69 = .ok (.ifCond .eq 5, 3) := by decide +kernel
theorem d_X9_soonest_72 : decode cX9_soonest 72 = .ok (.iconst (-1), 1) := by decide +kernel
theorem d_X9_soonest_73 : decode cX9_soonest 73 = .ok (.ireturn, 1) := by decide +kernel
theorem d_X9_soonest_74 : decode cX9_soonest 74 = .ok (.aload_n 0, 1) := by decide +kernel
theorem d_X9_soonest_75 : decode cX9_soonest 75 = .ok (.iload_n 1, 1) := by decide +kernel
theorem d_X9_soonest_76 : decode cX9_soonest 76 = .ok (.invokevirtual 344, 3) := by decide +kernel
theorem d_X9_soonest_79 : decode cX9_soonest 79 = .ok (.iinc 1 1, 3) := by decide +kernel
theorem d_X9_soonest_82 : decode cX9_soonest 82 = .ok (.goto (-37), 3) := by decide +kernel
theorem d_X9_soonest_85 : decode cX9_soonest 85 = .ok (.iconst 0, 1) := by decide +kernel
theorem d_X9_soonest_86 : decode cX9_soonest 86 = .ok (.istore_n 1, 1) := by decide +kernel
theorem d_X9_soonest_87 : decode cX9_soonest 87 = .ok (.iload_n 1, 1) := by decide +kernel
theorem d_X9_soonest_88 : decode cX9_soonest 88 = .ok (.aload_n 0, 1) := by decide +kernel
theorem d_X9_soonest_89 : decode cX9_soonest 89 = .ok (.getfield 54, 3) := by decide +kernel
theorem d_X9_soonest_92 : decode cX9_soonest 92 = .ok (.getfield 258, 3) := by decide +kernel
theorem d_X9_soonest_95 : decode cX9_soonest 95 = .ok (.if_icmp .ge 23, 3) := by decide +kernel
theorem d_X9_soonest_98 : decode cX9_soonest 98 = .ok (.aload_n 0, 1) := by decide +kernel
theorem d_X9_soonest_99 : decode cX9_soonest 99 = .ok (.getfield 72, 3) := by decide +kernel
theorem d_X9_soonest_102 : decode cX9_soonest 102 = .ok (.iload_n 1, 1) := by decide +kernel
theorem d_X9_soonest_103 : decode cX9_soonest 103 = .ok (.iaload, 1) := by decide +kernel
theorem d_X9_soonest_104 : decode cX9_soonest 104 = .ok (.iconst 1, 1) := by decide +kernel
theorem d_X9_soonest_105 : decode cX9_soonest 105 = .ok (.if_icmp .ne 7, 3) := by decide +kernel
theorem d_X9_soonest_108 : decode cX9_soonest 108 = .ok (.iload_n 1, 1) := by decide +kernel
theorem d_X9_soonest_109 : decode cX9_soonest 109 = .ok (.iconst 1, 1) := by decide +kernel
theorem d_X9_soonest_110 : decode cX9_soonest 110 = .ok (.iadd, 1) := by decide +kernel
theorem d_X9_soonest_111 : decode cX9_soonest 111 = .ok (.ireturn, 1) := by decide +kernel
theorem d_X9_soonest_112 : decode cX9_soonest 112 = .ok (.iinc 1 1, 3) := by decide +kernel
theorem d_X9_soonest_115 : decode cX9_soonest 115 = .ok (.goto (-28), 3) := by decide +kernel
theorem d_X9_soonest_118 : decode cX9_soonest 118 = .ok (.iconst (-1), 1) := by decide +kernel
theorem d_X9_soonest_119 : decode cX9_soonest 119 = .ok (.ireturn, 1) := by decide +kernel
theorem d_X9_strikeScans_0 : decode cX9_strikeScans 0 = .ok (.aload_n 0, 1) := by decide +kernel
theorem d_X9_strikeScans_1 : decode cX9_strikeScans 1 = .ok (.getfield 12, 3) := by decide +kernel
theorem d_X9_strikeScans_4 : decode cX9_strikeScans 4 = .ok (.getfield 178, 3) := by decide +kernel
theorem d_X9_strikeScans_7 : decode cX9_strikeScans 7 = .ok (.iload_n 1, 1) := by decide +kernel
theorem d_X9_strikeScans_8 : decode cX9_strikeScans 8 = .ok (.baload, 1) := by decide +kernel
theorem d_X9_strikeScans_9 : decode cX9_strikeScans 9 = .ok (.iconst 1, 1) := by decide +kernel
theorem d_X9_strikeScans_10 : decode cX9_strikeScans 10 = .ok (.if_icmp .ne 7, 3) := by decide +kernel
theorem d_X9_strikeScans_13 : decode cX9_strikeScans 13 = .ok (.iconst 1, 1) := by decide +kernel
theorem d_X9_strikeScans_14 : decode cX9_strikeScans 14 = .ok (.goto 4, 3) := by decide +kernel
theorem d_X9_strikeScans_17 : decode cX9_strikeScans 17 = .ok (.iconst 0, 1) := by decide +kernel
theorem d_X9_strikeScans_18 : decode cX9_strikeScans 18 = .ok (.istore_n 2, 1) := by decide +kernel
theorem d_X9_strikeScans_19 : decode cX9_strikeScans 19 = .ok (.aload_n 0, 1) := by decide +kernel
theorem d_X9_strikeScans_20 : decode cX9_strikeScans 20 = .ok (.getfield 54, 3) := by decide +kernel
theorem d_X9_strikeScans_23 : decode cX9_strikeScans 23 = .ok (.aload_n 0, 1) := by decide +kernel
theorem d_X9_strikeScans_24 : decode cX9_strikeScans 24 = .ok (.getfield 43, 3) := by decide +kernel
theorem d_X9_strikeScans_27 : decode cX9_strikeScans 27 = .ok (.iload_n 1, 1) := by decide +kernel
theorem d_X9_strikeScans_28 : decode cX9_strikeScans 28 = .ok (.invokevirtual 254, 3) := by decide +kernel
theorem d_X9_strikeScans_31 : decode cX9_strikeScans 31 = .ok (.astore_n 3, 1) := by decide +kernel
theorem d_X9_strikeScans_32 : decode cX9_strikeScans 32 = .ok (.aload_n 0, 1) := by decide +kernel
theorem d_X9_strikeScans_33 : decode cX9_strikeScans 33 = .ok (.getfield 61, 3) := by decide +kernel
theorem d_X9_strikeScans_36 : decode cX9_strikeScans 36 = .ok (.aload_n 0, 1) := by decide +kernel
theorem d_X9_strikeScans_37 : decode cX9_strikeScans 37 = .ok (.getfield 19, 3) := by decide +kernel
theorem d_X9_strikeScans_40 : decode cX9_strikeScans 40 = .ok (.getfield 123, 3) := by decide +kernel
theorem d_X9_strikeScans_43 : decode cX9_strikeScans 43 = .ok (.invokevirtual 315, 3) := by decide +kernel
theorem d_X9_strikeScans_46 : decode cX9_strikeScans 46 = .ok (.iconst 0, 1) := by decide +kernel
theorem d_X9_strikeScans_47 : decode cX9_strikeScans 47 = .ok (.istore 4, 2) := by decide +kernel
theorem d_X9_strikeScans_49 : decode cX9_strikeScans 49 = .ok (.iload 4, 2) := by decide +kernel
theorem d_X9_strikeScans_51 : decode cX9_strikeScans 51 = .ok (.aload_n 0, 1) := by decide +kernel
theorem d_X9_strikeScans_52 : decode cX9_strikeScans 52 = .ok (.getfield 54, 3) := by decide +kernel
theorem d_X9_strikeScans_55 : decode cX9_strikeScans 55 = .ok (.getfield 258, 3) := by decide +kernel
theorem d_X9_strikeScans_58 : decode cX9_strikeScans 58 = .ok (.if_icmp .ge 48, 3) := by decide +kernel
theorem d_X9_strikeScans_61 : decode cX9_strikeScans 61 = .ok (.aload_n 0, 1) := by decide +kernel
theorem d_X9_strikeScans_62 : decode cX9_strikeScans 62 = .ok (.getfield 61, 3) := by decide +kernel
theorem d_X9_strikeScans_65 : decode cX9_strikeScans 65 = .ok (.aload_n 3, 1) := by decide +kernel
theorem d_X9_strikeScans_66 : decode cX9_strikeScans 66 = .ok (.iload 4, 2) := by decide +kernel
theorem d_X9_strikeScans_68 : decode cX9_strikeScans 68 = .ok (.iaload, 1) := by decide +kernel
theorem d_X9_strikeScans_69 : decode cX9_strikeScans 69 = .ok (.iconst 1, 1) := by decide +kernel
theorem d_X9_strikeScans_70 : decode cX9_strikeScans 70 = .ok (.invokevirtual 317, 3) := by decide +kernel
theorem d_X9_strikeScans_73 : decode cX9_strikeScans 73 = .ok (.aload_n 0, 1) := by decide +kernel
theorem d_X9_strikeScans_74 : decode cX9_strikeScans 74 = .ok (.getfield 61, 3) := by decide +kernel
theorem d_X9_strikeScans_77 : decode cX9_strikeScans 77 = .ok (.invokevirtual 320, 3) := by decide +kernel
theorem d_X9_strikeScans_80 : decode cX9_strikeScans 80 = .ok (.ifCond .ne 7, 3) := by decide +kernel
theorem d_X9_strikeScans_83 : decode cX9_strikeScans 83 = .ok (.iconst 1, 1) := by decide +kernel
theorem d_X9_strikeScans_84 : decode cX9_strikeScans 84 = .ok (.goto 4, 3) := by decide +kernel
theorem d_X9_strikeScans_87 : decode cX9_strikeScans 87 = .ok (.iconst 0, 1) := by decide +kernel
theorem d_X9_strikeScans_88 : decode cX9_strikeScans 88 = .ok (.iload_n 2, 1) := by decide +kernel
theorem d_X9_strikeScans_89 : decode cX9_strikeScans 89 = .ok (.if_icmp .ne 11, 3) := by decide +kernel
theorem d_X9_strikeScans_92 : decode cX9_strikeScans 92 = .ok (.aload_n 0, 1) := by decide +kernel
theorem d_X9_strikeScans_93 : decode cX9_strikeScans 93 = .ok (.getfield 72, 3) := by decide +kernel
theorem d_X9_strikeScans_96 : decode cX9_strikeScans 96 = .ok (.iload 4, 2) := by decide +kernel
theorem d_X9_strikeScans_98 : decode cX9_strikeScans 98 = .ok (.iconst 0, 1) := by decide +kernel
theorem d_X9_strikeScans_99 : decode cX9_strikeScans 99 = .ok (.iastore, 1) := by decide +kernel
theorem d_X9_strikeScans_100 : decode cX9_strikeScans 100 = .ok (.iinc 4 1, 3) := by decide +kernel
theorem d_X9_strikeScans_103 : decode cX9_strikeScans 103 = .ok (.goto (-54), 3) := by decide +kernel
theorem d_X9_strikeScans_106 : decode cX9_strikeScans 106 = .ok (.return_, 1) := by decide +kernel
theorem d_X9_lost_0 : decode cX9_lost 0 = .ok (.iload_n 1, 1) := by decide +kernel
theorem d_X9_lost_1 : decode cX9_lost 1 = .ok (.iconst (-1), 1) := by decide +kernel
theorem d_X9_lost_2 : decode cX9_lost 2 = .ok (.if_icmp .ne 11, 3) := by decide +kernel
theorem d_X9_lost_5 : decode cX9_lost 5 = .ok (.aload_n 0, 1) := by decide +kernel
theorem d_X9_lost_6 : decode cX9_lost 6 = .ok (.iconst 1, 1) := by decide +kernel
theorem d_X9_lost_7 : decode cX9_lost 7 = .ok (.invokevirtual 286, 3) := by decide +kernel
theorem d_X9_lost_10 : decode cX9_lost 10 = .ok (.goto 9, 3) := by decide +kernel
theorem d_X9_lost_13 : decode cX9_lost 13 = .ok (.aload_n 0, 1) := by decide +kernel
theorem d_X9_lost_14 : decode cX9_lost 14 = .ok (.iconst 1, 1) := by decide +kernel
theorem d_X9_lost_15 : decode cX9_lost 15 = .ok (.iload_n 1, 1) := by decide +kernel
theorem d_X9_lost_16 : decode cX9_lost 16 = .ok (.invokevirtual 288, 3) := by decide +kernel
theorem d_X9_lost_19 : decode cX9_lost 19 = .ok (.ireturn, 1) := by decide +kernel
theorem d_X9_early_0 : decode cX9_early 0 = .ok (.aload_n 0, 1) := by decide +kernel
theorem d_X9_early_1 : decode cX9_early 1 = .ok (.iload_n 1, 1) := by decide +kernel
theorem d_X9_early_2 : decode cX9_early 2 = .ok (.invokevirtual 181, 3) := by decide +kernel
theorem d_X9_early_5 : decode cX9_early 5 = .ok (.ifCond .eq 13, 3) := by decide +kernel
theorem d_X9_early_8 : decode cX9_early 8 = .ok (.aload_n 0, 1) := by decide +kernel
theorem d_X9_early_9 : decode cX9_early 9 = .ok (.iload_n 2, 1) := by decide +kernel
theorem d_X9_early_10 : decode cX9_early 10 = .ok (.iconst 1, 1) := by decide +kernel
theorem d_X9_early_11 : decode cX9_early 11 = .ok (.isub, 1) := by decide +kernel
theorem d_X9_early_12 : decode cX9_early 12 = .ok (.invokevirtual 244, 3) := by decide +kernel
theorem d_X9_early_15 : decode cX9_early 15 = .ok (.ifCond .ne 5, 3) := by decide +kernel
theorem d_X9_early_18 : decode cX9_early 18 = .ok (.iconst (-1), 1) := by decide +kernel
theorem d_X9_early_19 : decode cX9_early 19 = .ok (.ireturn, 1) := by decide +kernel
theorem d_X9_early_20 : decode cX9_early 20 = .ok (.aload_n 0, 1) := by decide +kernel
theorem d_X9_early_21 : decode cX9_early 21 = .ok (.invokevirtual 247, 3) := by decide +kernel
theorem d_X9_early_24 : decode cX9_early 24 = .ok (.aload_n 0, 1) := by decide +kernel
theorem d_X9_early_25 : decode cX9_early 25 = .ok (.iload_n 1, 1) := by decide +kernel
theorem d_X9_early_26 : decode cX9_early 26 = .ok (.iload_n 2, 1) := by decide +kernel
theorem d_X9_early_27 : decode cX9_early 27 = .ok (.invokevirtual 335, 3) := by decide +kernel
theorem d_X9_early_30 : decode cX9_early 30 = .ok (.ireturn, 1) := by decide +kernel
theorem d_X9_earlyState_0 : decode cX9_earlyState 0 = .ok (.aload_n 0, 1) := by decide +kernel
theorem d_X9_earlyState_1 : decode cX9_earlyState 1 = .ok (.getfield 61, 3) := by decide +kernel
theorem d_X9_earlyState_4 : decode cX9_earlyState 4 = .ok (.aload_n 0, 1) := by decide +kernel
theorem d_X9_earlyState_5 : decode cX9_earlyState 5 = .ok (.getfield 54, 3) := by decide +kernel
theorem d_X9_earlyState_8 : decode cX9_earlyState 8 = .ok (.aload_n 0, 1) := by decide +kernel
theorem d_X9_earlyState_9 : decode cX9_earlyState 9 = .ok (.getfield 43, 3) := by decide +kernel
theorem d_X9_earlyState_12 : decode cX9_earlyState 12 = .ok (.iload_n 1, 1) := by decide +kernel
theorem d_X9_earlyState_13 : decode cX9_earlyState 13 = .ok (.iload_n 2, 1) := by decide +kernel
theorem d_X9_earlyState_14 : decode cX9_earlyState 14 = .ok (.invokevirtual 259, 3) := by decide +kernel
theorem d_X9_earlyState_17 : decode cX9_earlyState 17 = .ok (.aload_n 0, 1) := by decide +kernel
theorem d_X9_earlyState_18 : decode cX9_earlyState 18 = .ok (.getfield 19, 3) := by decide +kernel
theorem d_X9_earlyState_21 : decode cX9_earlyState 21 = .ok (.getfield 123, 3) := by decide +kernel
theorem d_X9_earlyState_24 : decode cX9_earlyState 24 = .ok (.invokevirtual 347, 3) := by decide +kernel
theorem d_X9_earlyState_27 : decode cX9_earlyState 27 = .ok (.ireturn, 1) := by decide +kernel
theorem d_X9_until_0 : decode cX9_until 0 = .ok (.aload_n 0, 1) := by decide +kernel
theorem d_X9_until_1 : decode cX9_until 1 = .ok (.iload_n 1, 1) := by decide +kernel
theorem d_X9_until_2 : decode cX9_until 2 = .ok (.invokevirtual 181, 3) := by decide +kernel
theorem d_X9_until_5 : decode cX9_until 5 = .ok (.ifCond .eq 13, 3) := by decide +kernel
theorem d_X9_until_8 : decode cX9_until 8 = .ok (.aload_n 0, 1) := by decide +kernel
theorem d_X9_until_9 : decode cX9_until 9 = .ok (.iload_n 2, 1) := by decide +kernel
theorem d_X9_until_10 : decode cX9_until 10 = .ok (.iconst 1, 1) := by decide +kernel
theorem d_X9_until_11 : decode cX9_until 11 = .ok (.isub, 1) := by decide +kernel
theorem d_X9_until_12 : decode cX9_until 12 = .ok (.invokevirtual 244, 3) := by decide +kernel
theorem d_X9_until_15 : decode cX9_until 15 = .ok (.ifCond .ne 5, 3) := by decide +kernel
theorem d_X9_until_18 : decode cX9_until 18 = .ok (.iconst (-1), 1) := by decide +kernel
theorem d_X9_until_19 : decode cX9_until 19 = .ok (.ireturn, 1) := by decide +kernel
theorem d_X9_until_20 : decode cX9_until 20 = .ok (.aload_n 0, 1) := by decide +kernel
theorem d_X9_until_21 : decode cX9_until 21 = .ok (.invokevirtual 247, 3) := by decide +kernel
theorem d_X9_until_24 : decode cX9_until 24 = .ok (.aload_n 0, 1) := by decide +kernel
theorem d_X9_until_25 : decode cX9_until 25 = .ok (.getfield 54, 3) := by decide +kernel
theorem d_X9_until_28 : decode cX9_until 28 = .ok (.aload_n 0, 1) := by decide +kernel
theorem d_X9_until_29 : decode cX9_until 29 = .ok (.getfield 43, 3) := by decide +kernel
theorem d_X9_until_32 : decode cX9_until 32 = .ok (.iload_n 1, 1) := by decide +kernel
theorem d_X9_until_33 : decode cX9_until 33 = .ok (.invokevirtual 254, 3) := by decide +kernel
theorem d_X9_until_36 : decode cX9_until 36 = .ok (.astore_n 3, 1) := by decide +kernel
theorem d_X9_until_37 : decode cX9_until 37 = .ok (.aload_n 0, 1) := by decide +kernel
theorem d_X9_until_38 : decode cX9_until 38 = .ok (.getfield 61, 3) := by decide +kernel
theorem d_X9_until_41 : decode cX9_until 41 = .ok (.aload_n 0, 1) := by decide +kernel
theorem d_X9_until_42 : decode cX9_until 42 = .ok (.getfield 19, 3) := by decide +kernel
theorem d_X9_until_45 : decode cX9_until 45 = .ok (.getfield 123, 3) := by decide +kernel
theorem d_X9_until_48 : decode cX9_until 48 = .ok (.invokevirtual 315, 3) := by decide +kernel
theorem d_X9_until_51 : decode cX9_until 51 = .ok (.iconst 0, 1) := by decide +kernel
theorem d_X9_until_52 : decode cX9_until 52 = .ok (.istore 4, 2) := by decide +kernel
theorem d_X9_until_54 : decode cX9_until 54 = .ok (.iload 4, 2) := by decide +kernel
theorem d_X9_until_56 : decode cX9_until 56 = .ok (.aload_n 0, 1) := by decide +kernel
theorem d_X9_until_57 : decode cX9_until 57 = .ok (.getfield 54, 3) := by decide +kernel
theorem d_X9_until_60 : decode cX9_until 60 = .ok (.getfield 258, 3) := by decide +kernel
theorem d_X9_until_63 : decode cX9_until 63 = .ok (.if_icmp .ge 44, 3) := by decide +kernel
theorem d_X9_until_66 : decode cX9_until 66 = .ok (.aload_n 0, 1) := by decide +kernel
theorem d_X9_until_67 : decode cX9_until 67 = .ok (.getfield 61, 3) := by decide +kernel
theorem d_X9_until_70 : decode cX9_until 70 = .ok (.aload_n 3, 1) := by decide +kernel
theorem d_X9_until_71 : decode cX9_until 71 = .ok (.iload 4, 2) := by decide +kernel
theorem d_X9_until_73 : decode cX9_until 73 = .ok (.iaload, 1) := by decide +kernel
theorem d_X9_until_74 : decode cX9_until 74 = .ok (.iconst 1, 1) := by decide +kernel
theorem d_X9_until_75 : decode cX9_until 75 = .ok (.invokevirtual 317, 3) := by decide +kernel
theorem d_X9_until_78 : decode cX9_until 78 = .ok (.iload 4, 2) := by decide +kernel
theorem d_X9_until_80 : decode cX9_until 80 = .ok (.iconst 1, 1) := by decide +kernel
theorem d_X9_until_81 : decode cX9_until 81 = .ok (.iadd, 1) := by decide +kernel
theorem d_X9_until_82 : decode cX9_until 82 = .ok (.iload_n 2, 1) := by decide +kernel
theorem d_X9_until_83 : decode cX9_until 83 = .ok (.if_icmp .lt 18, 3) := by decide +kernel
theorem d_X9_until_86 : decode cX9_until 86 = .ok (.aload_n 0, 1) := by decide +kernel
theorem d_X9_until_87 : decode cX9_until 87 = .ok (.getfield 61, 3) := by decide +kernel
theorem d_X9_until_90 : decode cX9_until 90 = .ok (.invokevirtual 320, 3) := by decide +kernel
theorem d_X9_until_93 : decode cX9_until 93 = .ok (.ifCond .ne 8, 3) := by decide +kernel
theorem d_X9_until_96 : decode cX9_until 96 = .ok (.iload 4, 2) := by decide +kernel
theorem d_X9_until_98 : decode cX9_until 98 = .ok (.iconst 1, 1) := by decide +kernel
theorem d_X9_until_99 : decode cX9_until 99 = .ok (.iadd, 1) := by decide +kernel
theorem d_X9_until_100 : decode cX9_until 100 = .ok (.ireturn, 1) := by decide +kernel
theorem d_X9_until_101 : decode cX9_until 101 = .ok (.iinc 4 1, 3) := by decide +kernel
theorem d_X9_until_104 : decode cX9_until 104 = .ok (.goto (-50), 3) := by decide +kernel
theorem d_X9_until_107 : decode cX9_until 107 = .ok (.iconst (-1), 1) := by decide +kernel
theorem d_X9_until_108 : decode cX9_until 108 = .ok (.ireturn, 1) := by decide +kernel
theorem d_X9_fewest_0 : decode cX9_fewest 0 = .ok (.aload_n 0, 1) := by decide +kernel
theorem d_X9_fewest_1 : decode cX9_fewest 1 = .ok (.invokevirtual 216, 3) := by decide +kernel
theorem d_X9_fewest_4 : decode cX9_fewest 4 = .ok (.aload_n 0, 1) := by decide +kernel
theorem d_X9_fewest_5 : decode cX9_fewest 5 = .ok (.getfield 86, 3) := by decide +kernel
theorem d_X9_fewest_8 : decode cX9_fewest 8 = .ok (.getfield 219, 3) := by decide +kernel
theorem d_X9_fewest_11 : decode cX9_fewest 11 = .ok (.iconst (-1), 1) := by decide +kernel
theorem d_X9_fewest_12 : decode cX9_fewest 12 = .ok (.if_icmp .ne 5, 3) := by decide +kernel
theorem d_X9_fewest_15 : decode cX9_fewest 15 = .ok (.iconst (-1), 1) := by decide +kernel
theorem d_X9_fewest_16 : decode cX9_fewest 16 = .ok (.ireturn, 1) := by decide +kernel
theorem d_X9_fewest_17 : decode cX9_fewest 17 = .ok (.aload_n 0, 1) := by decide +kernel
theorem d_X9_fewest_18 : decode cX9_fewest 18 = .ok (.iload_n 1, 1) := by decide +kernel
theorem d_X9_fewest_19 : decode cX9_fewest 19 = .ok (.invokevirtual 113, 3) := by decide +kernel
theorem d_X9_fewest_22 : decode cX9_fewest 22 = .ok (.ifCond .eq 13, 3) := by decide +kernel
theorem d_X9_fewest_25 : decode cX9_fewest 25 = .ok (.aload_n 0, 1) := by decide +kernel
theorem d_X9_fewest_26 : decode cX9_fewest 26 = .ok (.getfield 86, 3) := by decide +kernel
theorem d_X9_fewest_29 : decode cX9_fewest 29 = .ok (.getfield 235, 3) := by decide +kernel
theorem d_X9_fewest_32 : decode cX9_fewest 32 = .ok (.iload_n 1, 1) := by decide +kernel
theorem d_X9_fewest_33 : decode cX9_fewest 33 = .ok (.iaload, 1) := by decide +kernel
theorem d_X9_fewest_34 : decode cX9_fewest 34 = .ok (.ireturn, 1) := by decide +kernel
theorem d_X9_fewest_35 : decode cX9_fewest 35 = .ok (.iload_n 1, 1) := by decide +kernel
theorem d_X9_fewest_36 : decode cX9_fewest 36 = .ok (.bipush 10, 2) := by decide +kernel
theorem d_X9_fewest_38 : decode cX9_fewest 38 = .ok (.if_icmp .ne 13, 3) := by decide +kernel
theorem d_X9_fewest_41 : decode cX9_fewest 41 = .ok (.aload_n 0, 1) := by decide +kernel
theorem d_X9_fewest_42 : decode cX9_fewest 42 = .ok (.getfield 86, 3) := by decide +kernel
theorem d_X9_fewest_45 : decode cX9_fewest 45 = .ok (.getfield 219, 3) := by decide +kernel
theorem d_X9_fewest_48 : decode cX9_fewest 48 = .ok (.goto 4, 3) := by decide +kernel
theorem d_X9_fewest_51 : decode cX9_fewest 51 = .ok (.iconst (-1), 1) := by decide +kernel
theorem d_X9_fewest_52 : decode cX9_fewest 52 = .ok (.ireturn, 1) := by decide +kernel
theorem d_X9_cogs_0 : decode cX9_cogs 0 = .ok (.aload_n 0, 1) := by decide +kernel
theorem d_X9_cogs_1 : decode cX9_cogs 1 = .ok (.invokevirtual 226, 3) := by decide +kernel
theorem d_X9_cogs_4 : decode cX9_cogs 4 = .ok (.aload_n 0, 1) := by decide +kernel
theorem d_X9_cogs_5 : decode cX9_cogs 5 = .ok (.getfield 93, 3) := by decide +kernel
theorem d_X9_cogs_8 : decode cX9_cogs 8 = .ok (.getfield 229, 3) := by decide +kernel
theorem d_X9_cogs_11 : decode cX9_cogs 11 = .ok (.iconst (-1), 1) := by decide +kernel
theorem d_X9_cogs_12 : decode cX9_cogs 12 = .ok (.if_icmp .ne 5, 3) := by decide +kernel
theorem d_X9_cogs_15 : decode cX9_cogs 15 = .ok (.iconst (-1), 1) := by decide +kernel
theorem d_X9_cogs_16 : decode cX9_cogs 16 = .ok (.ireturn, 1) := by decide +kernel
theorem d_X9_cogs_17 : decode cX9_cogs 17 = .ok (.aload_n 0, 1) := by decide +kernel
theorem d_X9_cogs_18 : decode cX9_cogs 18 = .ok (.iload_n 1, 1) := by decide +kernel
theorem d_X9_cogs_19 : decode cX9_cogs 19 = .ok (.invokevirtual 113, 3) := by decide +kernel
theorem d_X9_cogs_22 : decode cX9_cogs 22 = .ok (.ifCond .eq 13, 3) := by decide +kernel
theorem d_X9_cogs_25 : decode cX9_cogs 25 = .ok (.aload_n 0, 1) := by decide +kernel
theorem d_X9_cogs_26 : decode cX9_cogs 26 = .ok (.getfield 93, 3) := by decide +kernel
theorem d_X9_cogs_29 : decode cX9_cogs 29 = .ok (.getfield 238, 3) := by decide +kernel
theorem d_X9_cogs_32 : decode cX9_cogs 32 = .ok (.iload_n 1, 1) := by decide +kernel
theorem d_X9_cogs_33 : decode cX9_cogs 33 = .ok (.iaload, 1) := by decide +kernel
theorem d_X9_cogs_34 : decode cX9_cogs 34 = .ok (.ireturn, 1) := by decide +kernel
theorem d_X9_cogs_35 : decode cX9_cogs 35 = .ok (.iload_n 1, 1) := by decide +kernel
theorem d_X9_cogs_36 : decode cX9_cogs 36 = .ok (.bipush 10, 2) := by decide +kernel
theorem d_X9_cogs_38 : decode cX9_cogs 38 = .ok (.if_icmp .ne 13, 3) := by decide +kernel
theorem d_X9_cogs_41 : decode cX9_cogs 41 = .ok (.aload_n 0, 1) := by decide +kernel
theorem d_X9_cogs_42 : decode cX9_cogs 42 = .ok (.getfield 93, 3) := by decide +kernel
theorem d_X9_cogs_45 : decode cX9_cogs 45 = .ok (.getfield 229, 3) := by decide +kernel
theorem d_X9_cogs_48 : decode cX9_cogs 48 = .ok (.goto 4, 3) := by decide +kernel
theorem d_X9_cogs_51 : decode cX9_cogs 51 = .ok (.iconst (-1), 1) := by decide +kernel
theorem d_X9_cogs_52 : decode cX9_cogs 52 = .ok (.ireturn, 1) := by decide +kernel
theorem d_X9_power_0 : decode cX9_power 0 = .ok (.aload_n 0, 1) := by decide +kernel
theorem d_X9_power_1 : decode cX9_power 1 = .ok (.getfield 19, 3) := by decide +kernel
theorem d_X9_power_4 : decode cX9_power 4 = .ok (.getfield 123, 3) := by decide +kernel
theorem d_X9_power_7 : decode cX9_power 7 = .ok (.istore_n 2, 1) := by decide +kernel
theorem d_X9_power_8 : decode cX9_power 8 = .ok (.aload_n 0, 1) := by decide +kernel
theorem d_X9_power_9 : decode cX9_power 9 = .ok (.iload_n 1, 1) := by decide +kernel
theorem d_X9_power_10 : decode cX9_power 10 = .ok (.invokevirtual 181, 3) := by decide +kernel
theorem d_X9_power_13 : decode cX9_power 13 = .ok (.ifCond .eq 24, 3) := by decide +kernel
theorem d_X9_power_16 : decode cX9_power 16 = .ok (.iload_n 2, 1) := by decide +kernel
theorem d_X9_power_17 : decode cX9_power 17 = .ok (.iconst 2, 1) := by decide +kernel
theorem d_X9_power_18 : decode cX9_power 18 = .ok (.if_icmp .eq 23, 3) := by decide +kernel
theorem d_X9_power_21 : decode cX9_power 21 = .ok (.iload_n 2, 1) := by decide +kernel
theorem d_X9_power_22 : decode cX9_power 22 = .ok (.iconst 3, 1) := by decide +kernel
theorem d_X9_power_23 : decode cX9_power 23 = .ok (.if_icmp .eq 18, 3) := by decide +kernel
theorem d_X9_power_26 : decode cX9_power 26 = .ok (.iload_n 2, 1) := by decide +kernel
theorem d_X9_power_27 : decode cX9_power 27 = .ok (.iconst 4, 1) := by decide +kernel
theorem d_X9_power_28 : decode cX9_power 28 = .ok (.if_icmp .eq 13, 3) := by decide +kernel
theorem d_X9_power_31 : decode cX9_power 31 = .ok (.iload_n 2, 1) := by decide +kernel
theorem d_X9_power_32 : decode cX9_power 32 = .ok (.bipush 6, 2) := by decide +kernel
theorem d_X9_power_34 : decode cX9_power 34 = .ok (.if_icmp .eq 7, 3) := by decide +kernel
theorem d_X9_power_37 : decode cX9_power 37 = .ok (.ldc2_w 350, 3) := by decide +kernel
theorem d_X9_power_40 : decode cX9_power 40 = .ok (.lreturn, 1) := by decide +kernel
theorem d_X9_power_41 : decode cX9_power 41 = .ok (.aload_n 0, 1) := by decide +kernel
theorem d_X9_power_42 : decode cX9_power 42 = .ok (.invokevirtual 247, 3) := by decide +kernel
theorem d_X9_power_45 : decode cX9_power 45 = .ok (.aload_n 0, 1) := by decide +kernel
theorem d_X9_power_46 : decode cX9_power 46 = .ok (.getfield 54, 3) := by decide +kernel
theorem d_X9_power_49 : decode cX9_power 49 = .ok (.aload_n 0, 1) := by decide +kernel
theorem d_X9_power_50 : decode cX9_power 50 = .ok (.getfield 43, 3) := by decide +kernel
theorem d_X9_power_53 : decode cX9_power 53 = .ok (.iload_n 1, 1) := by decide +kernel
theorem d_X9_power_54 : decode cX9_power 54 = .ok (.aload_n 0, 1) := by decide +kernel
theorem d_X9_power_55 : decode cX9_power 55 = .ok (.getfield 54, 3) := by decide +kernel
theorem d_X9_power_58 : decode cX9_power 58 = .ok (.getfield 258, 3) := by decide +kernel
theorem d_X9_power_61 : decode cX9_power 61 = .ok (.invokevirtual 259, 3) := by decide +kernel
theorem d_X9_power_64 : decode cX9_power 64 = .ok (.astore_n 3, 1) := by decide +kernel
theorem d_X9_power_65 : decode cX9_power 65 = .ok (.lconst 0, 1) := by decide +kernel
theorem d_X9_power_66 : decode cX9_power 66 = .ok (.lstore 4, 2) := by decide +kernel
theorem d_X9_power_68 : decode cX9_power 68 = .ok (.iconst 0, 1) := by decide +kernel
theorem d_X9_power_69 : decode cX9_power 69 = .ok (.istore 6, 2) := by decide +kernel
theorem d_X9_power_71 : decode cX9_power 71 = .ok (.iload 6, 2) := by decide +kernel
theorem d_X9_power_73 : decode cX9_power 73 = .ok (.iload_n 2, 1) := by decide +kernel
theorem d_X9_power_74 : decode cX9_power 74 = .ok (.if_icmp .ge 54, 3) := by decide +kernel
theorem d_X9_power_77 : decode cX9_power 77 = .ok (.iconst 0, 1) := by decide +kernel
theorem d_X9_power_78 : decode cX9_power 78 = .ok (.istore 7, 2) := by decide +kernel
theorem d_X9_power_80 : decode cX9_power 80 = .ok (.iload 7, 2) := by decide +kernel
theorem d_X9_power_82 : decode cX9_power 82 = .ok (.iload_n 2, 1) := by decide +kernel
theorem d_X9_power_83 : decode cX9_power 83 = .ok (.if_icmp .ge 39, 3) := by decide +kernel
theorem d_X9_power_86 : decode cX9_power 86 = .ok (.lload 4, 2) := by decide +kernel
theorem d_X9_power_88 : decode cX9_power 88 = .ok (.aload_n 3, 1) := by decide +kernel
theorem d_X9_power_89 : decode cX9_power 89 = .ok (.iload 6, 2) := by decide +kernel
theorem d_X9_power_91 : decode cX9_power 91 = .ok (.iaload, 1) := by decide +kernel
theorem d_X9_power_92 : decode cX9_power 92 = .ok (.i2l, 1) := by decide +kernel
theorem d_X9_power_93 : decode cX9_power 93 = .ok (.aload_n 3, 1) := by decide +kernel
theorem d_X9_power_94 : decode cX9_power 94 = .ok (.iload 7, 2) := by decide +kernel
theorem d_X9_power_96 : decode cX9_power 96 = .ok (.iaload, 1) := by decide +kernel
theorem d_X9_power_97 : decode cX9_power 97 = .ok (.i2l, 1) := by decide +kernel
theorem d_X9_power_98 : decode cX9_power 98 = .ok (.lmul, 1) := by decide +kernel
theorem d_X9_power_99 : decode cX9_power 99 = .ok (.iload 6, 2) := by decide +kernel
theorem d_X9_power_101 : decode cX9_power 101 = .ok (.iload 7, 2) := by decide +kernel
theorem d_X9_power_103 : decode cX9_power 103 = .ok (.isub, 1) := by decide +kernel
theorem d_X9_power_104 : decode cX9_power 104 = .ok (.invokestatic 352, 3) := by decide +kernel
theorem d_X9_power_107 : decode cX9_power 107 = .ok (.iload_n 2, 1) := by decide +kernel
theorem d_X9_power_108 : decode cX9_power 108 = .ok (.invokestatic 355, 3) := by decide +kernel
theorem d_X9_power_111 : decode cX9_power 111 = .ok (.i2l, 1) := by decide +kernel
theorem d_X9_power_112 : decode cX9_power 112 = .ok (.lmul, 1) := by decide +kernel
theorem d_X9_power_113 : decode cX9_power 113 = .ok (.ladd, 1) := by decide +kernel
theorem d_X9_power_114 : decode cX9_power 114 = .ok (.lstore 4, 2) := by decide +kernel
theorem d_X9_power_116 : decode cX9_power 116 = .ok (.iinc 7 1, 3) := by decide +kernel
theorem d_X9_power_119 : decode cX9_power 119 = .ok (.goto (-39), 3) := by decide +kernel
theorem d_X9_power_122 : decode cX9_power 122 = .ok (.iinc 6 1, 3) := by decide +kernel
theorem d_X9_power_125 : decode cX9_power 125 = .ok (.goto (-54), 3) := by decide +kernel
theorem d_X9_power_128 : decode cX9_power 128 = .ok (.lload 4, 2) := by decide +kernel
theorem d_X9_power_130 : decode cX9_power 130 = .ok (.ldc2_w 358, 3) := by decide +kernel
theorem d_X9_power_133 : decode cX9_power 133 = .ok (.ldiv, 1) := by decide +kernel
theorem d_X9_power_134 : decode cX9_power 134 = .ok (.lreturn, 1) := by decide +kernel
theorem d_X9_twiceCosine_0 : decode cX9_twiceCosine 0 = .ok (.iload_n 0, 1) := by decide +kernel
theorem d_X9_twiceCosine_1 : decode cX9_twiceCosine 1 = .ok (.bipush 12, 2) := by decide +kernel
theorem d_X9_twiceCosine_3 : decode cX9_twiceCosine 3 = .ok (.imul, 1) := by decide +kernel
theorem d_X9_twiceCosine_4 : decode cX9_twiceCosine 4 = .ok (.iload_n 1, 1) := by decide +kernel
theorem d_X9_twiceCosine_5 : decode cX9_twiceCosine 5 = .ok (.idiv, 1) := by decide +kernel
theorem d_X9_twiceCosine_6 : decode cX9_twiceCosine 6 = .ok (.istore_n 2, 1) := by decide +kernel
theorem d_X9_twiceCosine_7 : decode cX9_twiceCosine 7 = .ok (.iload_n 2, 1) := by decide +kernel
theorem d_X9_twiceCosine_8 : decode cX9_twiceCosine 8 = .ok (.tableswitch 68 0 10 #[60, 68, 62, 64, 66, 68, 68, 68, 66, 64, 62], 60) := by decide +kernel
theorem d_X9_twiceCosine_68 : decode cX9_twiceCosine 68 = .ok (.iconst 2, 1) := by decide +kernel
theorem d_X9_twiceCosine_69 : decode cX9_twiceCosine 69 = .ok (.ireturn, 1) := by decide +kernel
theorem d_X9_twiceCosine_70 : decode cX9_twiceCosine 70 = .ok (.iconst 1, 1) := by decide +kernel
theorem d_X9_twiceCosine_71 : decode cX9_twiceCosine 71 = .ok (.ireturn, 1) := by decide +kernel
theorem d_X9_twiceCosine_72 : decode cX9_twiceCosine 72 = .ok (.iconst 0, 1) := by decide +kernel
theorem d_X9_twiceCosine_73 : decode cX9_twiceCosine 73 = .ok (.ireturn, 1) := by decide +kernel
theorem d_X9_twiceCosine_74 : decode cX9_twiceCosine 74 = .ok (.iconst (-1), 1) := by decide +kernel
theorem d_X9_twiceCosine_75 : decode cX9_twiceCosine 75 = .ok (.ireturn, 1) := by decide +kernel
theorem d_X9_twiceCosine_76 : decode cX9_twiceCosine 76 = .ok (.bipush (-2), 2) := by decide +kernel
theorem d_X9_twiceCosine_78 : decode cX9_twiceCosine 78 = .ok (.ireturn, 1) := by decide +kernel
theorem d_X9_would_0 : decode cX9_would 0 = .ok (.aload_n 0, 1) := by decide +kernel
theorem d_X9_would_1 : decode cX9_would 1 = .ok (.getfield 72, 3) := by decide +kernel
theorem d_X9_would_4 : decode cX9_would 4 = .ok (.astore 6, 2) := by decide +kernel
theorem d_X9_would_6 : decode cX9_would 6 = .ok (.aload 6, 2) := by decide +kernel
theorem d_X9_would_8 : decode cX9_would 8 = .ok (.iconst 0, 1) := by decide +kernel
theorem d_X9_would_9 : decode cX9_would 9 = .ok (.iload_n 1, 1) := by decide +kernel
theorem d_X9_would_10 : decode cX9_would 10 = .ok (.iastore, 1) := by decide +kernel
theorem d_X9_would_11 : decode cX9_would 11 = .ok (.aload 6, 2) := by decide +kernel
theorem d_X9_would_13 : decode cX9_would 13 = .ok (.iconst 1, 1) := by decide +kernel
theorem d_X9_would_14 : decode cX9_would 14 = .ok (.iload_n 2, 1) := by decide +kernel
theorem d_X9_would_15 : decode cX9_would 15 = .ok (.iastore, 1) := by decide +kernel
theorem d_X9_would_16 : decode cX9_would 16 = .ok (.aload 6, 2) := by decide +kernel
theorem d_X9_would_18 : decode cX9_would 18 = .ok (.iconst 2, 1) := by decide +kernel
theorem d_X9_would_19 : decode cX9_would 19 = .ok (.iload_n 3, 1) := by decide +kernel
theorem d_X9_would_20 : decode cX9_would 20 = .ok (.iastore, 1) := by decide +kernel
theorem d_X9_would_21 : decode cX9_would 21 = .ok (.aload 6, 2) := by decide +kernel
theorem d_X9_would_23 : decode cX9_would 23 = .ok (.iconst 3, 1) := by decide +kernel
theorem d_X9_would_24 : decode cX9_would 24 = .ok (.iload 4, 2) := by decide +kernel
theorem d_X9_would_26 : decode cX9_would 26 = .ok (.iastore, 1) := by decide +kernel
theorem d_X9_would_27 : decode cX9_would 27 = .ok (.aload 6, 2) := by decide +kernel
theorem d_X9_would_29 : decode cX9_would 29 = .ok (.iconst 4, 1) := by decide +kernel
theorem d_X9_would_30 : decode cX9_would 30 = .ok (.iload 5, 2) := by decide +kernel
theorem d_X9_would_32 : decode cX9_would 32 = .ok (.iastore, 1) := by decide +kernel
theorem d_X9_would_33 : decode cX9_would 33 = .ok (.aload_n 0, 1) := by decide +kernel
theorem d_X9_would_34 : decode cX9_would 34 = .ok (.getfield 47, 3) := by decide +kernel
theorem d_X9_would_37 : decode cX9_would 37 = .ok (.iconst (-1), 1) := by decide +kernel
theorem d_X9_would_38 : decode cX9_would 38 = .ok (.if_icmp .ne 5, 3) := by decide +kernel
theorem d_X9_would_41 : decode cX9_would 41 = .ok (.iconst (-1), 1) := by decide +kernel
theorem d_X9_would_42 : decode cX9_would 42 = .ok (.ireturn, 1) := by decide +kernel
theorem d_X9_would_43 : decode cX9_would 43 = .ok (.iconst 0, 1) := by decide +kernel
theorem d_X9_would_44 : decode cX9_would 44 = .ok (.istore 7, 2) := by decide +kernel
theorem d_X9_would_46 : decode cX9_would 46 = .ok (.iload 7, 2) := by decide +kernel
theorem d_X9_would_48 : decode cX9_would 48 = .ok (.aload_n 0, 1) := by decide +kernel
theorem d_X9_would_49 : decode cX9_would 49 = .ok (.getfield 12, 3) := by decide +kernel
theorem d_X9_would_52 : decode cX9_would 52 = .ok (.getfield 194, 3) := by decide +kernel
theorem d_X9_would_55 : decode cX9_would 55 = .ok (.if_icmp .ge 44, 3) := by decide +kernel
theorem d_X9_would_58 : decode cX9_would 58 = .ok (.aload 6, 2) := by decide +kernel
theorem d_X9_would_60 : decode cX9_would 60 = .ok (.iload 7, 2) := by decide +kernel
theorem d_X9_would_62 : decode cX9_would 62 = .ok (.iaload, 1) := by decide +kernel
theorem d_X9_would_63 : decode cX9_would 63 = .ok (.istore 8, 2) := by decide +kernel
theorem d_X9_would_65 : decode cX9_would 65 = .ok (.iload 8, 2) := by decide +kernel
theorem d_X9_would_67 : decode cX9_would 67 = .ok (.iconst 1, 1) := by decide +kernel
theorem d_X9_would_68 : decode cX9_would 68 = .ok (.if_icmp .lt 23, 3) := by decide +kernel
theorem d_X9_would_71 : decode cX9_would 71 = .ok (.iload 8, 2) := by decide +kernel
theorem d_X9_would_73 : decode cX9_would 73 = .ok (.bipush 12, 2) := by decide +kernel
theorem d_X9_would_75 : decode cX9_would 75 = .ok (.if_icmp .gt 16, 3) := by decide +kernel
theorem d_X9_would_78 : decode cX9_would 78 = .ok (.aload_n 0, 1) := by decide +kernel
theorem d_X9_would_79 : decode cX9_would 79 = .ok (.getfield 19, 3) := by decide +kernel
theorem d_X9_would_82 : decode cX9_would 82 = .ok (.getfield 123, 3) := by decide +kernel
theorem d_X9_would_85 : decode cX9_would 85 = .ok (.iload 8, 2) := by decide +kernel
theorem d_X9_would_87 : decode cX9_would 87 = .ok (.irem, 1) := by decide +kernel
theorem d_X9_would_88 : decode cX9_would 88 = .ok (.ifCond .eq 5, 3) := by decide +kernel
theorem d_X9_would_91 : decode cX9_would 91 = .ok (.iconst (-1), 1) := by decide +kernel
theorem d_X9_would_92 : decode cX9_would 92 = .ok (.ireturn, 1) := by decide +kernel
theorem d_X9_would_93 : decode cX9_would 93 = .ok (.iinc 7 1, 3) := by decide +kernel
theorem d_X9_would_96 : decode cX9_would 96 = .ok (.goto (-50), 3) := by decide +kernel
theorem d_X9_would_99 : decode cX9_would 99 = .ok (.aload_n 0, 1) := by decide +kernel
theorem d_X9_would_100 : decode cX9_would 100 = .ok (.invokevirtual 360, 3) := by decide +kernel
theorem d_X9_would_103 : decode cX9_would 103 = .ok (.aload_n 0, 1) := by decide +kernel
theorem d_X9_would_104 : decode cX9_would 104 = .ok (.getfield 79, 3) := by decide +kernel
theorem d_X9_would_107 : decode cX9_would 107 = .ok (.aload_n 0, 1) := by decide +kernel
theorem d_X9_would_108 : decode cX9_would 108 = .ok (.getfield 43, 3) := by decide +kernel
theorem d_X9_would_111 : decode cX9_would 111 = .ok (.aload 6, 2) := by decide +kernel
theorem d_X9_would_113 : decode cX9_would 113 = .ok (.invokevirtual 363, 3) := by decide +kernel
theorem d_X9_would_116 : decode cX9_would 116 = .ok (.ireturn, 1) := by decide +kernel
theorem d_X9_share_0 : decode cX9_share 0 = .ok (.aload_n 0, 1) := by decide +kernel
theorem d_X9_share_1 : decode cX9_share 1 = .ok (.iload_n 1, 1) := by decide +kernel
theorem d_X9_share_2 : decode cX9_share 2 = .ok (.invokevirtual 367, 3) := by decide +kernel
theorem d_X9_share_5 : decode cX9_share 5 = .ok (.istore_n 2, 1) := by decide +kernel
theorem d_X9_share_6 : decode cX9_share 6 = .ok (.iload_n 2, 1) := by decide +kernel
theorem d_X9_share_7 : decode cX9_share 7 = .ok (.ifCond .gt 5, 3) := by decide +kernel
theorem d_X9_share_10 : decode cX9_share 10 = .ok (.iconst (-1), 1) := by decide +kernel
theorem d_X9_share_11 : decode cX9_share 11 = .ok (.ireturn, 1) := by decide +kernel
theorem d_X9_share_12 : decode cX9_share 12 = .ok (.aload_n 0, 1) := by decide +kernel
theorem d_X9_share_13 : decode cX9_share 13 = .ok (.iload_n 1, 1) := by decide +kernel
theorem d_X9_share_14 : decode cX9_share 14 = .ok (.invokevirtual 370, 3) := by decide +kernel
theorem d_X9_share_17 : decode cX9_share 17 = .ok (.i2f, 1) := by decide +kernel
theorem d_X9_share_18 : decode cX9_share 18 = .ok (.iload_n 2, 1) := by decide +kernel
theorem d_X9_share_19 : decode cX9_share 19 = .ok (.i2f, 1) := by decide +kernel
theorem d_X9_share_20 : decode cX9_share 20 = .ok (.fdiv, 1) := by decide +kernel
theorem d_X9_share_21 : decode cX9_share 21 = .ok (.invokestatic 373, 3) := by decide +kernel
theorem d_X9_share_24 : decode cX9_share 24 = .ok (.ireturn, 1) := by decide +kernel
theorem d_X9_part_0 : decode cX9_part 0 = .ok (.aload_n 0, 1) := by decide +kernel
theorem d_X9_part_1 : decode cX9_part 1 = .ok (.iload_n 1, 1) := by decide +kernel
theorem d_X9_part_2 : decode cX9_part 2 = .ok (.invokevirtual 367, 3) := by decide +kernel
theorem d_X9_part_5 : decode cX9_part 5 = .ok (.istore_n 2, 1) := by decide +kernel
theorem d_X9_part_6 : decode cX9_part 6 = .ok (.iload_n 2, 1) := by decide +kernel
theorem d_X9_part_7 : decode cX9_part 7 = .ok (.ifCond .gt 7, 3) := by decide +kernel
theorem d_X9_part_10 : decode cX9_part 10 = .ok (.ldc2_w 350, 3) := by decide +kernel
theorem d_X9_part_13 : decode cX9_part 13 = .ok (.lreturn, 1) := by decide +kernel
theorem d_X9_part_14 : decode cX9_part 14 = .ok (.aload_n 0, 1) := by decide +kernel
theorem d_X9_part_15 : decode cX9_part 15 = .ok (.iload_n 1, 1) := by decide +kernel
theorem d_X9_part_16 : decode cX9_part 16 = .ok (.invokevirtual 370, 3) := by decide +kernel
theorem d_X9_part_19 : decode cX9_part 19 = .ok (.i2d, 1) := by decide +kernel
theorem d_X9_part_20 : decode cX9_part 20 = .ok (.iload_n 2, 1) := by decide +kernel
theorem d_X9_part_21 : decode cX9_part 21 = .ok (.i2d, 1) := by decide +kernel
theorem d_X9_part_22 : decode cX9_part 22 = .ok (.ddiv, 1) := by decide +kernel
theorem d_X9_part_23 : decode cX9_part 23 = .ok (.invokestatic 377, 3) := by decide +kernel
theorem d_X9_part_26 : decode cX9_part 26 = .ok (.lreturn, 1) := by decide +kernel
theorem d_X9_dividend_0 : decode cX9_dividend 0 = .ok (.iload_n 1, 1) := by decide +kernel
theorem d_X9_dividend_1 : decode cX9_dividend 1 = .ok (.tableswitch 55 0 4 #[35, 41, 55, 55, 47], 35) := by decide +kernel
theorem d_X9_dividend_36 : decode cX9_dividend 36 = .ok (.aload_n 0, 1) := by decide +kernel
theorem d_X9_dividend_37 : decode cX9_dividend 37 = .ok (.iconst 0, 1) := by decide +kernel
theorem d_X9_dividend_38 : decode cX9_dividend 38 = .ok (.invokevirtual 286, 3) := by decide +kernel
theorem d_X9_dividend_41 : decode cX9_dividend 41 = .ok (.ireturn, 1) := by decide +kernel
theorem d_X9_dividend_42 : decode cX9_dividend 42 = .ok (.aload_n 0, 1) := by decide +kernel
theorem d_X9_dividend_43 : decode cX9_dividend 43 = .ok (.iconst 3, 1) := by decide +kernel
theorem d_X9_dividend_44 : decode cX9_dividend 44 = .ok (.invokevirtual 286, 3) := by decide +kernel
theorem d_X9_dividend_47 : decode cX9_dividend 47 = .ok (.ireturn, 1) := by decide +kernel
theorem d_X9_dividend_48 : decode cX9_dividend 48 = .ok (.aload_n 0, 1) := by decide +kernel
theorem d_X9_dividend_49 : decode cX9_dividend 49 = .ok (.getfield 19, 3) := by decide +kernel
theorem d_X9_dividend_52 : decode cX9_dividend 52 = .ok (.getfield 123, 3) := by decide +kernel
theorem d_X9_dividend_55 : decode cX9_dividend 55 = .ok (.ireturn, 1) := by decide +kernel
theorem d_X9_dividend_56 : decode cX9_dividend 56 = .ok (.aload_n 0, 1) := by decide +kernel
theorem d_X9_dividend_57 : decode cX9_dividend 57 = .ok (.getfield 19, 3) := by decide +kernel
theorem d_X9_dividend_60 : decode cX9_dividend 60 = .ok (.invokevirtual 142, 3) := by decide +kernel
theorem d_X9_dividend_63 : decode cX9_dividend 63 = .ok (.ireturn, 1) := by decide +kernel
theorem d_X9_divisor_0 : decode cX9_divisor 0 = .ok (.iload_n 1, 1) := by decide +kernel
theorem d_X9_divisor_1 : decode cX9_divisor 1 = .ok (.tableswitch 75 0 4 #[35, 35, 43, 55, 67], 35) := by decide +kernel
theorem d_X9_divisor_36 : decode cX9_divisor 36 = .ok (.aload_n 0, 1) := by decide +kernel
theorem d_X9_divisor_37 : decode cX9_divisor 37 = .ok (.getfield 43, 3) := by decide +kernel
theorem d_X9_divisor_40 : decode cX9_divisor 40 = .ok (.getfield 110, 3) := by decide +kernel
theorem d_X9_divisor_43 : decode cX9_divisor 43 = .ok (.ireturn, 1) := by decide +kernel
theorem d_X9_divisor_44 : decode cX9_divisor 44 = .ok (.aload_n 0, 1) := by decide +kernel
theorem d_X9_divisor_45 : decode cX9_divisor 45 = .ok (.invokevirtual 216, 3) := by decide +kernel
theorem d_X9_divisor_48 : decode cX9_divisor 48 = .ok (.aload_n 0, 1) := by decide +kernel
theorem d_X9_divisor_49 : decode cX9_divisor 49 = .ok (.getfield 86, 3) := by decide +kernel
theorem d_X9_divisor_52 : decode cX9_divisor 52 = .ok (.getfield 219, 3) := by decide +kernel
theorem d_X9_divisor_55 : decode cX9_divisor 55 = .ok (.ireturn, 1) := by decide +kernel
theorem d_X9_divisor_56 : decode cX9_divisor 56 = .ok (.aload_n 0, 1) := by decide +kernel
theorem d_X9_divisor_57 : decode cX9_divisor 57 = .ok (.invokevirtual 226, 3) := by decide +kernel
theorem d_X9_divisor_60 : decode cX9_divisor 60 = .ok (.aload_n 0, 1) := by decide +kernel
theorem d_X9_divisor_61 : decode cX9_divisor 61 = .ok (.getfield 93, 3) := by decide +kernel
theorem d_X9_divisor_64 : decode cX9_divisor 64 = .ok (.getfield 229, 3) := by decide +kernel
theorem d_X9_divisor_67 : decode cX9_divisor 67 = .ok (.ireturn, 1) := by decide +kernel
theorem d_X9_divisor_68 : decode cX9_divisor 68 = .ok (.aload_n 0, 1) := by decide +kernel
theorem d_X9_divisor_69 : decode cX9_divisor 69 = .ok (.getfield 19, 3) := by decide +kernel
theorem d_X9_divisor_72 : decode cX9_divisor 72 = .ok (.invokevirtual 142, 3) := by decide +kernel
theorem d_X9_divisor_75 : decode cX9_divisor 75 = .ok (.ireturn, 1) := by decide +kernel
theorem d_X9_divisor_76 : decode cX9_divisor 76 = .ok (.iconst (-1), 1) := by decide +kernel
theorem d_X9_divisor_77 : decode cX9_divisor 77 = .ok (.ireturn, 1) := by decide +kernel
theorem d_X9_bitsOfFloat_0 : decode cX9_bitsOfFloat 0 = .ok (.fload_n 0, 1) := by decide +kernel
theorem d_X9_bitsOfFloat_1 : decode cX9_bitsOfFloat 1 = .ok (.fconst 0, 1) := by decide +kernel
theorem d_X9_bitsOfFloat_2 : decode cX9_bitsOfFloat 2 = .ok (.fcmp .l, 1) := by decide +kernel
theorem d_X9_bitsOfFloat_3 : decode cX9_bitsOfFloat 3 = .ok (.ifCond .gt 5, 3) := by decide +kernel
theorem d_X9_bitsOfFloat_6 : decode cX9_bitsOfFloat 6 = .ok (.iconst 0, 1) := by decide +kernel
theorem d_X9_bitsOfFloat_7 : decode cX9_bitsOfFloat 7 = .ok (.ireturn, 1) := by decide +kernel
theorem d_X9_bitsOfFloat_8 : decode cX9_bitsOfFloat 8 = .ok (.fload_n 0, 1) := by decide +kernel
theorem d_X9_bitsOfFloat_9 : decode cX9_bitsOfFloat 9 = .ok (.fstore_n 1, 1) := by decide +kernel
theorem d_X9_bitsOfFloat_10 : decode cX9_bitsOfFloat 10 = .ok (.bipush 127, 2) := by decide +kernel
theorem d_X9_bitsOfFloat_12 : decode cX9_bitsOfFloat 12 = .ok (.istore_n 2, 1) := by decide +kernel
theorem d_X9_bitsOfFloat_13 : decode cX9_bitsOfFloat 13 = .ok (.iconst 0, 1) := by decide +kernel
theorem d_X9_bitsOfFloat_14 : decode cX9_bitsOfFloat 14 = .ok (.istore_n 3, 1) := by decide +kernel
theorem d_X9_bitsOfFloat_15 : decode cX9_bitsOfFloat 15 = .ok (.iload_n 3, 1) := by decide +kernel
theorem d_X9_bitsOfFloat_16 : decode cX9_bitsOfFloat 16 = .ok (.bipush 127, 2) := by decide +kernel
theorem d_X9_bitsOfFloat_18 : decode cX9_bitsOfFloat 18 = .ok (.if_icmp .ge 22, 3) := by decide +kernel
theorem d_X9_bitsOfFloat_21 : decode cX9_bitsOfFloat 21 = .ok (.fload_n 1, 1) := by decide +kernel
theorem d_X9_bitsOfFloat_22 : decode cX9_bitsOfFloat 22 = .ok (.fconst 2, 1) := by decide +kernel
theorem d_X9_bitsOfFloat_23 : decode cX9_bitsOfFloat 23 = .ok (.fcmp .l, 1) := by decide +kernel
theorem d_X9_bitsOfFloat_24 : decode cX9_bitsOfFloat 24 = .ok (.ifCond .lt 16, 3) := by decide +kernel
theorem d_X9_bitsOfFloat_27 : decode cX9_bitsOfFloat 27 = .ok (.fload_n 1, 1) := by decide +kernel
theorem d_X9_bitsOfFloat_28 : decode cX9_bitsOfFloat 28 = .ok (.fconst 2, 1) := by decide +kernel
theorem d_X9_bitsOfFloat_29 : decode cX9_bitsOfFloat 29 = .ok (.fdiv, 1) := by decide +kernel
theorem d_X9_bitsOfFloat_30 : decode cX9_bitsOfFloat 30 = .ok (.fstore_n 1, 1) := by decide +kernel
theorem d_X9_bitsOfFloat_31 : decode cX9_bitsOfFloat 31 = .ok (.iinc 2 1, 3) := by decide +kernel
theorem d_X9_bitsOfFloat_34 : decode cX9_bitsOfFloat 34 = .ok (.iinc 3 1, 3) := by decide +kernel
theorem d_X9_bitsOfFloat_37 : decode cX9_bitsOfFloat 37 = .ok (.goto (-22), 3) := by decide +kernel
theorem d_X9_bitsOfFloat_40 : decode cX9_bitsOfFloat 40 = .ok (.iconst 0, 1) := by decide +kernel
theorem d_X9_bitsOfFloat_41 : decode cX9_bitsOfFloat 41 = .ok (.istore_n 3, 1) := by decide +kernel
theorem d_X9_bitsOfFloat_42 : decode cX9_bitsOfFloat 42 = .ok (.iload_n 3, 1) := by decide +kernel
theorem d_X9_bitsOfFloat_43 : decode cX9_bitsOfFloat 43 = .ok (.bipush 127, 2) := by decide +kernel
theorem d_X9_bitsOfFloat_45 : decode cX9_bitsOfFloat 45 = .ok (.if_icmp .ge 22, 3) := by decide +kernel
theorem d_X9_bitsOfFloat_48 : decode cX9_bitsOfFloat 48 = .ok (.fload_n 1, 1) := by decide +kernel
theorem d_X9_bitsOfFloat_49 : decode cX9_bitsOfFloat 49 = .ok (.fconst 1, 1) := by decide +kernel
theorem d_X9_bitsOfFloat_50 : decode cX9_bitsOfFloat 50 = .ok (.fcmp .g, 1) := by decide +kernel
theorem d_X9_bitsOfFloat_51 : decode cX9_bitsOfFloat 51 = .ok (.ifCond .ge 16, 3) := by decide +kernel
theorem d_X9_bitsOfFloat_54 : decode cX9_bitsOfFloat 54 = .ok (.fload_n 1, 1) := by decide +kernel
theorem d_X9_bitsOfFloat_55 : decode cX9_bitsOfFloat 55 = .ok (.fconst 2, 1) := by decide +kernel
theorem d_X9_bitsOfFloat_56 : decode cX9_bitsOfFloat 56 = .ok (.fmul, 1) := by decide +kernel
theorem d_X9_bitsOfFloat_57 : decode cX9_bitsOfFloat 57 = .ok (.fstore_n 1, 1) := by decide +kernel
theorem d_X9_bitsOfFloat_58 : decode cX9_bitsOfFloat 58 = .ok (.iinc 2 (-1), 3) := by decide +kernel
theorem d_X9_bitsOfFloat_61 : decode cX9_bitsOfFloat 61 = .ok (.iinc 3 1, 3) := by decide +kernel
theorem d_X9_bitsOfFloat_64 : decode cX9_bitsOfFloat 64 = .ok (.goto (-22), 3) := by decide +kernel
theorem d_X9_bitsOfFloat_67 : decode cX9_bitsOfFloat 67 = .ok (.iload_n 2, 1) := by decide +kernel
theorem d_X9_bitsOfFloat_68 : decode cX9_bitsOfFloat 68 = .ok (.bipush 23, 2) := by decide +kernel
theorem d_X9_bitsOfFloat_70 : decode cX9_bitsOfFloat 70 = .ok (.ishl, 1) := by decide +kernel
theorem d_X9_bitsOfFloat_71 : decode cX9_bitsOfFloat 71 = .ok (.fload_n 1, 1) := by decide +kernel
theorem d_X9_bitsOfFloat_72 : decode cX9_bitsOfFloat 72 = .ok (.fconst 1, 1) := by decide +kernel
theorem d_X9_bitsOfFloat_73 : decode cX9_bitsOfFloat 73 = .ok (.fsub, 1) := by decide +kernel
theorem d_X9_bitsOfFloat_74 : decode cX9_bitsOfFloat 74 = .ok (.ldc_w 381, 3) := by decide +kernel
theorem d_X9_bitsOfFloat_77 : decode cX9_bitsOfFloat 77 = .ok (.fmul, 1) := by decide +kernel
theorem d_X9_bitsOfFloat_78 : decode cX9_bitsOfFloat 78 = .ok (.f2i, 1) := by decide +kernel
theorem d_X9_bitsOfFloat_79 : decode cX9_bitsOfFloat 79 = .ok (.ior, 1) := by decide +kernel
theorem d_X9_bitsOfFloat_80 : decode cX9_bitsOfFloat 80 = .ok (.ireturn, 1) := by decide +kernel
theorem d_X9_bitsOfDouble_0 : decode cX9_bitsOfDouble 0 = .ok (.dload_n 0, 1) := by decide +kernel
theorem d_X9_bitsOfDouble_1 : decode cX9_bitsOfDouble 1 = .ok (.dconst 0, 1) := by decide +kernel
theorem d_X9_bitsOfDouble_2 : decode cX9_bitsOfDouble 2 = .ok (.dcmp .l, 1) := by decide +kernel
theorem d_X9_bitsOfDouble_3 : decode cX9_bitsOfDouble 3 = .ok (.ifCond .gt 5, 3) := by decide +kernel
theorem d_X9_bitsOfDouble_6 : decode cX9_bitsOfDouble 6 = .ok (.lconst 0, 1) := by decide +kernel
theorem d_X9_bitsOfDouble_7 : decode cX9_bitsOfDouble 7 = .ok (.lreturn, 1) := by decide +kernel
theorem d_X9_bitsOfDouble_8 : decode cX9_bitsOfDouble 8 = .ok (.dload_n 0, 1) := by decide +kernel
theorem d_X9_bitsOfDouble_9 : decode cX9_bitsOfDouble 9 = .ok (.dstore_n 2, 1) := by decide +kernel
theorem d_X9_bitsOfDouble_10 : decode cX9_bitsOfDouble 10 = .ok (.ldc2_w 382, 3) := by decide +kernel
theorem d_X9_bitsOfDouble_13 : decode cX9_bitsOfDouble 13 = .ok (.lstore 4, 2) := by decide +kernel
theorem d_X9_bitsOfDouble_15 : decode cX9_bitsOfDouble 15 = .ok (.iconst 0, 1) := by decide +kernel
theorem d_X9_bitsOfDouble_16 : decode cX9_bitsOfDouble 16 = .ok (.istore 6, 2) := by decide +kernel
theorem d_X9_bitsOfDouble_18 : decode cX9_bitsOfDouble 18 = .ok (.iload 6, 2) := by decide +kernel
theorem d_X9_bitsOfDouble_20 : decode cX9_bitsOfDouble 20 = .ok (.sipush 1023, 3) := by decide +kernel
theorem d_X9_bitsOfDouble_23 : decode cX9_bitsOfDouble 23 = .ok (.if_icmp .ge 29, 3) := by decide +kernel
theorem d_X9_bitsOfDouble_26 : decode cX9_bitsOfDouble 26 = .ok (.dload_n 2, 1) := by decide +kernel
theorem d_X9_bitsOfDouble_27 : decode cX9_bitsOfDouble 27 = .ok (.ldc2_w 384, 3) := by decide +kernel
theorem d_X9_bitsOfDouble_30 : decode cX9_bitsOfDouble 30 = .ok (.dcmp .l, 1) := by decide +kernel
theorem d_X9_bitsOfDouble_31 : decode cX9_bitsOfDouble 31 = .ok (.ifCond .lt 21, 3) := by decide +kernel
theorem d_X9_bitsOfDouble_34 : decode cX9_bitsOfDouble 34 = .ok (.dload_n 2, 1) := by decide +kernel
theorem d_X9_bitsOfDouble_35 : decode cX9_bitsOfDouble 35 = .ok (.ldc2_w 384, 3) := by decide +kernel
theorem d_X9_bitsOfDouble_38 : decode cX9_bitsOfDouble 38 = .ok (.ddiv, 1) := by decide +kernel
theorem d_X9_bitsOfDouble_39 : decode cX9_bitsOfDouble 39 = .ok (.dstore_n 2, 1) := by decide +kernel
theorem d_X9_bitsOfDouble_40 : decode cX9_bitsOfDouble 40 = .ok (.lload 4, 2) := by decide +kernel
theorem d_X9_bitsOfDouble_42 : decode cX9_bitsOfDouble 42 = .ok (.lconst 1, 1) := by decide +kernel
theorem d_X9_bitsOfDouble_43 : decode cX9_bitsOfDouble 43 = .ok (.ladd, 1) := by decide +kernel
theorem d_X9_bitsOfDouble_44 : decode cX9_bitsOfDouble 44 = .ok (.lstore 4, 2) := by decide +kernel
theorem d_X9_bitsOfDouble_46 : decode cX9_bitsOfDouble 46 = .ok (.iinc 6 1, 3) := by decide +kernel
theorem d_X9_bitsOfDouble_49 : decode cX9_bitsOfDouble 49 = .ok (.goto (-31), 3) := by decide +kernel
theorem d_X9_bitsOfDouble_52 : decode cX9_bitsOfDouble 52 = .ok (.iconst 0, 1) := by decide +kernel
theorem d_X9_bitsOfDouble_53 : decode cX9_bitsOfDouble 53 = .ok (.istore 6, 2) := by decide +kernel
theorem d_X9_bitsOfDouble_55 : decode cX9_bitsOfDouble 55 = .ok (.iload 6, 2) := by decide +kernel
theorem d_X9_bitsOfDouble_57 : decode cX9_bitsOfDouble 57 = .ok (.sipush 1023, 3) := by decide +kernel
theorem d_X9_bitsOfDouble_60 : decode cX9_bitsOfDouble 60 = .ok (.if_icmp .ge 27, 3) := by decide +kernel
theorem d_X9_bitsOfDouble_63 : decode cX9_bitsOfDouble 63 = .ok (.dload_n 2, 1) := by decide +kernel
theorem d_X9_bitsOfDouble_64 : decode cX9_bitsOfDouble 64 = .ok (.dconst 1, 1) := by decide +kernel
theorem d_X9_bitsOfDouble_65 : decode cX9_bitsOfDouble 65 = .ok (.dcmp .g, 1) := by decide +kernel
theorem d_X9_bitsOfDouble_66 : decode cX9_bitsOfDouble 66 = .ok (.ifCond .ge 21, 3) := by decide +kernel
theorem d_X9_bitsOfDouble_69 : decode cX9_bitsOfDouble 69 = .ok (.dload_n 2, 1) := by decide +kernel
theorem d_X9_bitsOfDouble_70 : decode cX9_bitsOfDouble 70 = .ok (.ldc2_w 384, 3) := by decide +kernel
theorem d_X9_bitsOfDouble_73 : decode cX9_bitsOfDouble 73 = .ok (.dmul, 1) := by decide +kernel
theorem d_X9_bitsOfDouble_74 : decode cX9_bitsOfDouble 74 = .ok (.dstore_n 2, 1) := by decide +kernel
theorem d_X9_bitsOfDouble_75 : decode cX9_bitsOfDouble 75 = .ok (.lload 4, 2) := by decide +kernel
theorem d_X9_bitsOfDouble_77 : decode cX9_bitsOfDouble 77 = .ok (.lconst 1, 1) := by decide +kernel
theorem d_X9_bitsOfDouble_78 : decode cX9_bitsOfDouble 78 = .ok (.lsub, 1) := by decide +kernel
theorem d_X9_bitsOfDouble_79 : decode cX9_bitsOfDouble 79 = .ok (.lstore 4, 2) := by decide +kernel
theorem d_X9_bitsOfDouble_81 : decode cX9_bitsOfDouble 81 = .ok (.iinc 6 1, 3) := by decide +kernel
theorem d_X9_bitsOfDouble_84 : decode cX9_bitsOfDouble 84 = .ok (.goto (-29), 3) := by decide +kernel
theorem d_X9_bitsOfDouble_87 : decode cX9_bitsOfDouble 87 = .ok (.lload 4, 2) := by decide +kernel
theorem d_X9_bitsOfDouble_89 : decode cX9_bitsOfDouble 89 = .ok (.bipush 52, 2) := by decide +kernel
theorem d_X9_bitsOfDouble_91 : decode cX9_bitsOfDouble 91 = .ok (.lshl, 1) := by decide +kernel
theorem d_X9_bitsOfDouble_92 : decode cX9_bitsOfDouble 92 = .ok (.dload_n 2, 1) := by decide +kernel
theorem d_X9_bitsOfDouble_93 : decode cX9_bitsOfDouble 93 = .ok (.dconst 1, 1) := by decide +kernel
theorem d_X9_bitsOfDouble_94 : decode cX9_bitsOfDouble 94 = .ok (.dsub, 1) := by decide +kernel
theorem d_X9_bitsOfDouble_95 : decode cX9_bitsOfDouble 95 = .ok (.ldc2_w 386, 3) := by decide +kernel
theorem d_X9_bitsOfDouble_98 : decode cX9_bitsOfDouble 98 = .ok (.dmul, 1) := by decide +kernel
theorem d_X9_bitsOfDouble_99 : decode cX9_bitsOfDouble 99 = .ok (.d2l, 1) := by decide +kernel
theorem d_X9_bitsOfDouble_100 : decode cX9_bitsOfDouble 100 = .ok (.lor, 1) := by decide +kernel
theorem d_X9_bitsOfDouble_101 : decode cX9_bitsOfDouble 101 = .ok (.lreturn, 1) := by decide +kernel
theorem d_X9_image_0 : decode cX9_image 0 = .ok (.iload_n 1, 1) := by decide +kernel
theorem d_X9_image_1 : decode cX9_image 1 = .ok (.ifCond .eq 32, 3) := by decide +kernel
theorem d_X9_image_4 : decode cX9_image 4 = .ok (.aload_n 0, 1) := by decide +kernel
theorem d_X9_image_5 : decode cX9_image 5 = .ok (.getfield 23, 3) := by decide +kernel
theorem d_X9_image_8 : decode cX9_image 8 = .ok (.aload_n 0, 1) := by decide +kernel
theorem d_X9_image_9 : decode cX9_image 9 = .ok (.getfield 12, 3) := by decide +kernel
theorem d_X9_image_12 : decode cX9_image 12 = .ok (.invokevirtual 388, 3) := by decide +kernel
theorem d_X9_image_15 : decode cX9_image 15 = .ok (.aload_n 0, 1) := by decide +kernel
theorem d_X9_image_16 : decode cX9_image 16 = .ok (.getfield 26, 3) := by decide +kernel
theorem d_X9_image_19 : decode cX9_image 19 = .ok (.aload_n 0, 1) := by decide +kernel
theorem d_X9_image_20 : decode cX9_image 20 = .ok (.getfield 19, 3) := by decide +kernel
theorem d_X9_image_23 : decode cX9_image 23 = .ok (.invokevirtual 391, 3) := by decide +kernel
theorem d_X9_image_26 : decode cX9_image 26 = .ok (.aload_n 0, 1) := by decide +kernel
theorem d_X9_image_27 : decode cX9_image 27 = .ok (.iconst 1, 1) := by decide +kernel
theorem d_X9_image_28 : decode cX9_image 28 = .ok (.putfield 29, 3) := by decide +kernel
theorem d_X9_image_31 : decode cX9_image 31 = .ok (.iconst 1, 1) := by decide +kernel
theorem d_X9_image_32 : decode cX9_image 32 = .ok (.ireturn, 1) := by decide +kernel
theorem d_X9_image_33 : decode cX9_image 33 = .ok (.aload_n 0, 1) := by decide +kernel
theorem d_X9_image_34 : decode cX9_image 34 = .ok (.getfield 29, 3) := by decide +kernel
theorem d_X9_image_37 : decode cX9_image 37 = .ok (.ifCond .ne 5, 3) := by decide +kernel
theorem d_X9_image_40 : decode cX9_image 40 = .ok (.iconst 0, 1) := by decide +kernel
theorem d_X9_image_41 : decode cX9_image 41 = .ok (.ireturn, 1) := by decide +kernel
theorem d_X9_image_42 : decode cX9_image 42 = .ok (.aload_n 0, 1) := by decide +kernel
theorem d_X9_image_43 : decode cX9_image 43 = .ok (.getfield 12, 3) := by decide +kernel
theorem d_X9_image_46 : decode cX9_image 46 = .ok (.aload_n 0, 1) := by decide +kernel
theorem d_X9_image_47 : decode cX9_image 47 = .ok (.getfield 23, 3) := by decide +kernel
theorem d_X9_image_50 : decode cX9_image 50 = .ok (.invokevirtual 388, 3) := by decide +kernel
theorem d_X9_image_53 : decode cX9_image 53 = .ok (.aload_n 0, 1) := by decide +kernel
theorem d_X9_image_54 : decode cX9_image 54 = .ok (.getfield 19, 3) := by decide +kernel
theorem d_X9_image_57 : decode cX9_image 57 = .ok (.aload_n 0, 1) := by decide +kernel
theorem d_X9_image_58 : decode cX9_image 58 = .ok (.getfield 26, 3) := by decide +kernel
theorem d_X9_image_61 : decode cX9_image 61 = .ok (.invokevirtual 391, 3) := by decide +kernel
theorem d_X9_image_64 : decode cX9_image 64 = .ok (.aload_n 0, 1) := by decide +kernel
theorem d_X9_image_65 : decode cX9_image 65 = .ok (.invokevirtual 107, 3) := by decide +kernel
theorem d_X9_image_68 : decode cX9_image 68 = .ok (.iconst 1, 1) := by decide +kernel
theorem d_X9_image_69 : decode cX9_image 69 = .ok (.ireturn, 1) := by decide +kernel
theorem d_X9_look_0 : decode cX9_look 0 = .ok (.iload_n 1, 1) := by decide +kernel
theorem d_X9_look_1 : decode cX9_look 1 = .ok (.tableswitch 230 0 14 #[75, 83, 91, 99, 107, 115, 131, 147, 153, 159, 189, 194, 210, 218, 224], 75) := by decide +kernel
theorem d_X9_look_76 : decode cX9_look 76 = .ok (.aload_n 0, 1) := by decide +kernel
theorem d_X9_look_77 : decode cX9_look 77 = .ok (.getfield 12, 3) := by decide +kernel
theorem d_X9_look_80 : decode cX9_look 80 = .ok (.getfield 194, 3) := by decide +kernel
theorem d_X9_look_83 : decode cX9_look 83 = .ok (.ireturn, 1) := by decide +kernel
theorem d_X9_look_84 : decode cX9_look 84 = .ok (.aload_n 0, 1) := by decide +kernel
theorem d_X9_look_85 : decode cX9_look 85 = .ok (.getfield 12, 3) := by decide +kernel
theorem d_X9_look_88 : decode cX9_look 88 = .ok (.getfield 171, 3) := by decide +kernel
theorem d_X9_look_91 : decode cX9_look 91 = .ok (.ireturn, 1) := by decide +kernel
theorem d_X9_look_92 : decode cX9_look 92 = .ok (.aload_n 0, 1) := by decide +kernel
theorem d_X9_look_93 : decode cX9_look 93 = .ok (.getfield 19, 3) := by decide +kernel
theorem d_X9_look_96 : decode cX9_look 96 = .ok (.getfield 123, 3) := by decide +kernel
theorem d_X9_look_99 : decode cX9_look 99 = .ok (.ireturn, 1) := by decide +kernel
theorem d_X9_look_100 : decode cX9_look 100 = .ok (.aload_n 0, 1) := by decide +kernel
theorem d_X9_look_101 : decode cX9_look 101 = .ok (.getfield 43, 3) := by decide +kernel
theorem d_X9_look_104 : decode cX9_look 104 = .ok (.getfield 110, 3) := by decide +kernel
theorem d_X9_look_107 : decode cX9_look 107 = .ok (.ireturn, 1) := by decide +kernel
theorem d_X9_look_108 : decode cX9_look 108 = .ok (.aload_n 0, 1) := by decide +kernel
theorem d_X9_look_109 : decode cX9_look 109 = .ok (.getfield 19, 3) := by decide +kernel
theorem d_X9_look_112 : decode cX9_look 112 = .ok (.invokevirtual 142, 3) := by decide +kernel
theorem d_X9_look_115 : decode cX9_look 115 = .ok (.ireturn, 1) := by decide +kernel
theorem d_X9_look_116 : decode cX9_look 116 = .ok (.aload_n 0, 1) := by decide +kernel
theorem d_X9_look_117 : decode cX9_look 117 = .ok (.getfield 12, 3) := by decide +kernel
theorem d_X9_look_120 : decode cX9_look 120 = .ok (.iconst 1, 1) := by decide +kernel
theorem d_X9_look_121 : decode cX9_look 121 = .ok (.aload_n 0, 1) := by decide +kernel
theorem d_X9_look_122 : decode cX9_look 122 = .ok (.getfield 43, 3) := by decide +kernel
theorem d_X9_look_125 : decode cX9_look 125 = .ok (.getfield 110, 3) := by decide +kernel
theorem d_X9_look_128 : decode cX9_look 128 = .ok (.invokevirtual 394, 3) := by decide +kernel
theorem d_X9_look_131 : decode cX9_look 131 = .ok (.ireturn, 1) := by decide +kernel
theorem d_X9_look_132 : decode cX9_look 132 = .ok (.aload_n 0, 1) := by decide +kernel
theorem d_X9_look_133 : decode cX9_look 133 = .ok (.getfield 12, 3) := by decide +kernel
theorem d_X9_look_136 : decode cX9_look 136 = .ok (.iconst 2, 1) := by decide +kernel
theorem d_X9_look_137 : decode cX9_look 137 = .ok (.aload_n 0, 1) := by decide +kernel
theorem d_X9_look_138 : decode cX9_look 138 = .ok (.getfield 43, 3) := by decide +kernel
theorem d_X9_look_141 : decode cX9_look 141 = .ok (.getfield 110, 3) := by decide +kernel
theorem d_X9_look_144 : decode cX9_look 144 = .ok (.invokevirtual 394, 3) := by decide +kernel
theorem d_X9_look_147 : decode cX9_look 147 = .ok (.ireturn, 1) := by decide +kernel
theorem d_X9_look_148 : decode cX9_look 148 = .ok (.aload_n 0, 1) := by decide +kernel
theorem d_X9_look_149 : decode cX9_look 149 = .ok (.iconst 0, 1) := by decide +kernel
theorem d_X9_look_150 : decode cX9_look 150 = .ok (.invokevirtual 286, 3) := by decide +kernel
theorem d_X9_look_153 : decode cX9_look 153 = .ok (.ireturn, 1) := by decide +kernel
theorem d_X9_look_154 : decode cX9_look 154 = .ok (.aload_n 0, 1) := by decide +kernel
theorem d_X9_look_155 : decode cX9_look 155 = .ok (.iconst 1, 1) := by decide +kernel
theorem d_X9_look_156 : decode cX9_look 156 = .ok (.invokevirtual 286, 3) := by decide +kernel
theorem d_X9_look_159 : decode cX9_look 159 = .ok (.ireturn, 1) := by decide +kernel
theorem d_X9_look_160 : decode cX9_look 160 = .ok (.aload_n 0, 1) := by decide +kernel
theorem d_X9_look_161 : decode cX9_look 161 = .ok (.getfield 47, 3) := by decide +kernel
theorem d_X9_look_164 : decode cX9_look 164 = .ok (.iconst (-1), 1) := by decide +kernel
theorem d_X9_look_165 : decode cX9_look 165 = .ok (.if_icmp .eq 23, 3) := by decide +kernel
theorem d_X9_look_168 : decode cX9_look 168 = .ok (.aload_n 0, 1) := by decide +kernel
theorem d_X9_look_169 : decode cX9_look 169 = .ok (.iconst 1, 1) := by decide +kernel
theorem d_X9_look_170 : decode cX9_look 170 = .ok (.invokevirtual 286, 3) := by decide +kernel
theorem d_X9_look_173 : decode cX9_look 173 = .ok (.ifCond .ne 15, 3) := by decide +kernel
theorem d_X9_look_176 : decode cX9_look 176 = .ok (.aload_n 0, 1) := by decide +kernel
theorem d_X9_look_177 : decode cX9_look 177 = .ok (.iconst 0, 1) := by decide +kernel
theorem d_X9_look_178 : decode cX9_look 178 = .ok (.invokevirtual 286, 3) := by decide +kernel
theorem d_X9_look_181 : decode cX9_look 181 = .ok (.ifCond .ne 7, 3) := by decide +kernel
theorem d_X9_look_184 : decode cX9_look 184 = .ok (.iconst 1, 1) := by decide +kernel
theorem d_X9_look_185 : decode cX9_look 185 = .ok (.goto 4, 3) := by decide +kernel
theorem d_X9_look_188 : decode cX9_look 188 = .ok (.iconst 0, 1) := by decide +kernel
theorem d_X9_look_189 : decode cX9_look 189 = .ok (.ireturn, 1) := by decide +kernel
theorem d_X9_look_190 : decode cX9_look 190 = .ok (.aload_n 0, 1) := by decide +kernel
theorem d_X9_look_191 : decode cX9_look 191 = .ok (.getfield 47, 3) := by decide +kernel
theorem d_X9_look_194 : decode cX9_look 194 = .ok (.ireturn, 1) := by decide +kernel
theorem d_X9_look_195 : decode cX9_look 195 = .ok (.aload_n 0, 1) := by decide +kernel
theorem d_X9_look_196 : decode cX9_look 196 = .ok (.getfield 19, 3) := by decide +kernel
theorem d_X9_look_199 : decode cX9_look 199 = .ok (.getfield 164, 3) := by decide +kernel
theorem d_X9_look_202 : decode cX9_look 202 = .ok (.ifCond .eq 7, 3) := by decide +kernel
theorem d_X9_look_205 : decode cX9_look 205 = .ok (.iconst 1, 1) := by decide +kernel
theorem d_X9_look_206 : decode cX9_look 206 = .ok (.goto 4, 3) := by decide +kernel
theorem d_X9_look_209 : decode cX9_look 209 = .ok (.iconst 0, 1) := by decide +kernel
theorem d_X9_look_210 : decode cX9_look 210 = .ok (.ireturn, 1) := by decide +kernel
theorem d_X9_look_211 : decode cX9_look 211 = .ok (.aload_n 0, 1) := by decide +kernel
theorem d_X9_look_212 : decode cX9_look 212 = .ok (.getfield 36, 3) := by decide +kernel
theorem d_X9_look_215 : decode cX9_look 215 = .ok (.getfield 187, 3) := by decide +kernel
theorem d_X9_look_218 : decode cX9_look 218 = .ok (.ireturn, 1) := by decide +kernel
theorem d_X9_look_219 : decode cX9_look 219 = .ok (.aload_n 0, 1) := by decide +kernel
theorem d_X9_look_220 : decode cX9_look 220 = .ok (.iconst 0, 1) := by decide +kernel
theorem d_X9_look_221 : decode cX9_look 221 = .ok (.invokevirtual 397, 3) := by decide +kernel
theorem d_X9_look_224 : decode cX9_look 224 = .ok (.ireturn, 1) := by decide +kernel
theorem d_X9_look_225 : decode cX9_look 225 = .ok (.aload_n 0, 1) := by decide +kernel
theorem d_X9_look_226 : decode cX9_look 226 = .ok (.iconst 2, 1) := by decide +kernel
theorem d_X9_look_227 : decode cX9_look 227 = .ok (.invokevirtual 397, 3) := by decide +kernel
theorem d_X9_look_230 : decode cX9_look 230 = .ok (.ireturn, 1) := by decide +kernel
theorem d_X9_look_231 : decode cX9_look 231 = .ok (.aload_n 0, 1) := by decide +kernel
theorem d_X9_look_232 : decode cX9_look 232 = .ok (.iload_n 1, 1) := by decide +kernel
theorem d_X9_look_233 : decode cX9_look 233 = .ok (.invokevirtual 400, 3) := by decide +kernel
theorem d_X9_look_236 : decode cX9_look 236 = .ok (.ireturn, 1) := by decide +kernel
theorem d_X9_lookAtParts_0 : decode cX9_lookAtParts 0 = .ok (.iload_n 1, 1) := by decide +kernel
theorem d_X9_lookAtParts_1 : decode cX9_lookAtParts 1 = .ok (.bipush 20, 2) := by decide +kernel
theorem d_X9_lookAtParts_3 : decode cX9_lookAtParts 3 = .ok (.if_icmp .lt 9, 3) := by decide +kernel
theorem d_X9_lookAtParts_6 : decode cX9_lookAtParts 6 = .ok (.iload_n 1, 1) := by decide +kernel
theorem d_X9_lookAtParts_7 : decode cX9_lookAtParts 7 = .ok (.bipush 60, 2) := by decide +kernel
theorem d_X9_lookAtParts_9 : decode cX9_lookAtParts 9 = .ok (.if_icmp .lt 6, 3) := by decide +kernel
theorem d_X9_lookAtParts_12 : decode cX9_lookAtParts 12 = .ok (.bipush (-100), 2) := by decide +kernel
theorem d_X9_lookAtParts_14 : decode cX9_lookAtParts 14 = .ok (.ireturn, 1) := by decide +kernel
theorem d_X9_lookAtParts_15 : decode cX9_lookAtParts 15 = .ok (.iload_n 1, 1) := by decide +kernel
theorem d_X9_lookAtParts_16 : decode cX9_lookAtParts 16 = .ok (.bipush 10, 2) := by decide +kernel
theorem d_X9_lookAtParts_18 : decode cX9_lookAtParts 18 = .ok (.irem, 1) := by decide +kernel
theorem d_X9_lookAtParts_19 : decode cX9_lookAtParts 19 = .ok (.istore_n 2, 1) := by decide +kernel
theorem d_X9_lookAtParts_20 : decode cX9_lookAtParts 20 = .ok (.iload_n 1, 1) := by decide +kernel
theorem d_X9_lookAtParts_21 : decode cX9_lookAtParts 21 = .ok (.bipush 10, 2) := by decide +kernel
theorem d_X9_lookAtParts_23 : decode cX9_lookAtParts 23 = .ok (.idiv, 1) := by decide +kernel
theorem d_X9_lookAtParts_24 : decode cX9_lookAtParts 24 = .ok (.tableswitch 96 2 4 #[28, 51, 73], 28) := by decide +kernel
theorem d_X9_lookAtParts_52 : decode cX9_lookAtParts 52 = .ok (.aload_n 0, 1) := by decide +kernel
theorem d_X9_lookAtParts_53 : decode cX9_lookAtParts 53 = .ok (.iload_n 2, 1) := by decide +kernel
theorem d_X9_lookAtParts_54 : decode cX9_lookAtParts 54 = .ok (.invokevirtual 113, 3) := by decide +kernel
theorem d_X9_lookAtParts_57 : decode cX9_lookAtParts 57 = .ok (.ifCond .eq 15, 3) := by decide +kernel
theorem d_X9_lookAtParts_60 : decode cX9_lookAtParts 60 = .ok (.aload_n 0, 1) := by decide +kernel
theorem d_X9_lookAtParts_61 : decode cX9_lookAtParts 61 = .ok (.getfield 12, 3) := by decide +kernel
theorem d_X9_lookAtParts_64 : decode cX9_lookAtParts 64 = .ok (.getfield 117, 3) := by decide +kernel
theorem d_X9_lookAtParts_67 : decode cX9_lookAtParts 67 = .ok (.iload_n 2, 1) := by decide +kernel
theorem d_X9_lookAtParts_68 : decode cX9_lookAtParts 68 = .ok (.iaload, 1) := by decide +kernel
theorem d_X9_lookAtParts_69 : decode cX9_lookAtParts 69 = .ok (.goto 5, 3) := by decide +kernel
theorem d_X9_lookAtParts_72 : decode cX9_lookAtParts 72 = .ok (.bipush (-100), 2) := by decide +kernel
theorem d_X9_lookAtParts_74 : decode cX9_lookAtParts 74 = .ok (.ireturn, 1) := by decide +kernel
theorem d_X9_lookAtParts_75 : decode cX9_lookAtParts 75 = .ok (.iload_n 2, 1) := by decide +kernel
theorem d_X9_lookAtParts_76 : decode cX9_lookAtParts 76 = .ok (.invokestatic 132, 3) := by decide +kernel
theorem d_X9_lookAtParts_79 : decode cX9_lookAtParts 79 = .ok (.ifCond .eq 15, 3) := by decide +kernel
theorem d_X9_lookAtParts_82 : decode cX9_lookAtParts 82 = .ok (.aload_n 0, 1) := by decide +kernel
theorem d_X9_lookAtParts_83 : decode cX9_lookAtParts 83 = .ok (.getfield 19, 3) := by decide +kernel
theorem d_X9_lookAtParts_86 : decode cX9_lookAtParts 86 = .ok (.getfield 139, 3) := by decide +kernel
theorem d_X9_lookAtParts_89 : decode cX9_lookAtParts 89 = .ok (.iload_n 2, 1) := by decide +kernel
theorem d_X9_lookAtParts_90 : decode cX9_lookAtParts 90 = .ok (.iaload, 1) := by decide +kernel
theorem d_X9_lookAtParts_91 : decode cX9_lookAtParts 91 = .ok (.goto 5, 3) := by decide +kernel
theorem d_X9_lookAtParts_94 : decode cX9_lookAtParts 94 = .ok (.bipush (-100), 2) := by decide +kernel
theorem d_X9_lookAtParts_96 : decode cX9_lookAtParts 96 = .ok (.ireturn, 1) := by decide +kernel
theorem d_X9_lookAtParts_97 : decode cX9_lookAtParts 97 = .ok (.aload_n 0, 1) := by decide +kernel
theorem d_X9_lookAtParts_98 : decode cX9_lookAtParts 98 = .ok (.iload_n 2, 1) := by decide +kernel
theorem d_X9_lookAtParts_99 : decode cX9_lookAtParts 99 = .ok (.invokevirtual 146, 3) := by decide +kernel
theorem d_X9_lookAtParts_102 : decode cX9_lookAtParts 102 = .ok (.ifCond .eq 15, 3) := by decide +kernel
theorem d_X9_lookAtParts_105 : decode cX9_lookAtParts 105 = .ok (.aload_n 0, 1) := by decide +kernel
theorem d_X9_lookAtParts_106 : decode cX9_lookAtParts 106 = .ok (.getfield 19, 3) := by decide +kernel
theorem d_X9_lookAtParts_109 : decode cX9_lookAtParts 109 = .ok (.getfield 403, 3) := by decide +kernel
theorem d_X9_lookAtParts_112 : decode cX9_lookAtParts 112 = .ok (.iload_n 2, 1) := by decide +kernel
theorem d_X9_lookAtParts_113 : decode cX9_lookAtParts 113 = .ok (.iaload, 1) := by decide +kernel
theorem d_X9_lookAtParts_114 : decode cX9_lookAtParts 114 = .ok (.goto 5, 3) := by decide +kernel
theorem d_X9_lookAtParts_117 : decode cX9_lookAtParts 117 = .ok (.bipush (-100), 2) := by decide +kernel
theorem d_X9_lookAtParts_119 : decode cX9_lookAtParts 119 = .ok (.ireturn, 1) := by decide +kernel
theorem d_X9_lookAtParts_120 : decode cX9_lookAtParts 120 = .ok (.aload_n 0, 1) := by decide +kernel
theorem d_X9_lookAtParts_121 : decode cX9_lookAtParts 121 = .ok (.iload_n 2, 1) := by decide +kernel
theorem d_X9_lookAtParts_122 : decode cX9_lookAtParts 122 = .ok (.invokevirtual 113, 3) := by decide +kernel
theorem d_X9_lookAtParts_125 : decode cX9_lookAtParts 125 = .ok (.ifCond .eq 15, 3) := by decide +kernel
theorem d_X9_lookAtParts_128 : decode cX9_lookAtParts 128 = .ok (.aload_n 0, 1) := by decide +kernel
theorem d_X9_lookAtParts_129 : decode cX9_lookAtParts 129 = .ok (.getfield 12, 3) := by decide +kernel
theorem d_X9_lookAtParts_132 : decode cX9_lookAtParts 132 = .ok (.getfield 152, 3) := by decide +kernel
theorem d_X9_lookAtParts_135 : decode cX9_lookAtParts 135 = .ok (.iload_n 2, 1) := by decide +kernel
theorem d_X9_lookAtParts_136 : decode cX9_lookAtParts 136 = .ok (.iaload, 1) := by decide +kernel
theorem d_X9_lookAtParts_137 : decode cX9_lookAtParts 137 = .ok (.goto 5, 3) := by decide +kernel
theorem d_X9_lookAtParts_140 : decode cX9_lookAtParts 140 = .ok (.bipush (-100), 2) := by decide +kernel
theorem d_X9_lookAtParts_142 : decode cX9_lookAtParts 142 = .ok (.ireturn, 1) := by decide +kernel
theorem d_X9_isPulse_0 : decode cX9_isPulse 0 = .ok (.iload_n 1, 1) := by decide +kernel
theorem d_X9_isPulse_1 : decode cX9_isPulse 1 = .ok (.ifCond .lt 18, 3) := by decide +kernel
theorem d_X9_isPulse_4 : decode cX9_isPulse 4 = .ok (.iload_n 1, 1) := by decide +kernel
theorem d_X9_isPulse_5 : decode cX9_isPulse 5 = .ok (.aload_n 0, 1) := by decide +kernel
theorem d_X9_isPulse_6 : decode cX9_isPulse 6 = .ok (.getfield 12, 3) := by decide +kernel
theorem d_X9_isPulse_9 : decode cX9_isPulse 9 = .ok (.getfield 194, 3) := by decide +kernel
theorem d_X9_isPulse_12 : decode cX9_isPulse 12 = .ok (.if_icmp .ge 7, 3) := by decide +kernel
theorem d_X9_isPulse_15 : decode cX9_isPulse 15 = .ok (.iconst 1, 1) := by decide +kernel
theorem d_X9_isPulse_16 : decode cX9_isPulse 16 = .ok (.goto 4, 3) := by decide +kernel
theorem d_X9_isPulse_19 : decode cX9_isPulse 19 = .ok (.iconst 0, 1) := by decide +kernel
theorem d_X9_isPulse_20 : decode cX9_isPulse 20 = .ok (.ireturn, 1) := by decide +kernel
theorem d_X9_isRow_0 : decode cX9_isRow 0 = .ok (.iload_n 1, 1) := by decide +kernel
theorem d_X9_isRow_1 : decode cX9_isRow 1 = .ok (.ifCond .lt 18, 3) := by decide +kernel
theorem d_X9_isRow_4 : decode cX9_isRow 4 = .ok (.iload_n 1, 1) := by decide +kernel
theorem d_X9_isRow_5 : decode cX9_isRow 5 = .ok (.aload_n 0, 1) := by decide +kernel
theorem d_X9_isRow_6 : decode cX9_isRow 6 = .ok (.getfield 12, 3) := by decide +kernel
theorem d_X9_isRow_9 : decode cX9_isRow 9 = .ok (.getfield 194, 3) := by decide +kernel
theorem d_X9_isRow_12 : decode cX9_isRow 12 = .ok (.if_icmp .gt 7, 3) := by decide +kernel
theorem d_X9_isRow_15 : decode cX9_isRow 15 = .ok (.iconst 1, 1) := by decide +kernel
theorem d_X9_isRow_16 : decode cX9_isRow 16 = .ok (.goto 4, 3) := by decide +kernel
theorem d_X9_isRow_19 : decode cX9_isRow 19 = .ok (.iconst 0, 1) := by decide +kernel
theorem d_X9_isRow_20 : decode cX9_isRow 20 = .ok (.ireturn, 1) := by decide +kernel
theorem d_X9_isCounter_0 : decode cX9_isCounter 0 = .ok (.iload_n 0, 1) := by decide +kernel
theorem d_X9_isCounter_1 : decode cX9_isCounter 1 = .ok (.ifCond .lt 12, 3) := by decide +kernel
theorem d_X9_isCounter_4 : decode cX9_isCounter 4 = .ok (.iload_n 0, 1) := by decide +kernel
theorem d_X9_isCounter_5 : decode cX9_isCounter 5 = .ok (.iconst 4, 1) := by decide +kernel
theorem d_X9_isCounter_6 : decode cX9_isCounter 6 = .ok (.if_icmp .ge 7, 3) := by decide +kernel
theorem d_X9_isCounter_9 : decode cX9_isCounter 9 = .ok (.iconst 1, 1) := by decide +kernel
theorem d_X9_isCounter_10 : decode cX9_isCounter 10 = .ok (.goto 4, 3) := by decide +kernel
theorem d_X9_isCounter_13 : decode cX9_isCounter 13 = .ok (.iconst 0, 1) := by decide +kernel
theorem d_X9_isCounter_14 : decode cX9_isCounter 14 = .ok (.ireturn, 1) := by decide +kernel
theorem d_X9_isPath_0 : decode cX9_isPath 0 = .ok (.iload_n 1, 1) := by decide +kernel
theorem d_X9_isPath_1 : decode cX9_isPath 1 = .ok (.ifCond .lt 18, 3) := by decide +kernel
theorem d_X9_isPath_4 : decode cX9_isPath 4 = .ok (.iload_n 1, 1) := by decide +kernel
theorem d_X9_isPath_5 : decode cX9_isPath 5 = .ok (.aload_n 0, 1) := by decide +kernel
theorem d_X9_isPath_6 : decode cX9_isPath 6 = .ok (.getfield 43, 3) := by decide +kernel
theorem d_X9_isPath_9 : decode cX9_isPath 9 = .ok (.getfield 110, 3) := by decide +kernel
theorem d_X9_isPath_12 : decode cX9_isPath 12 = .ok (.if_icmp .ge 7, 3) := by decide +kernel
theorem d_X9_isPath_15 : decode cX9_isPath 15 = .ok (.iconst 1, 1) := by decide +kernel
theorem d_X9_isPath_16 : decode cX9_isPath 16 = .ok (.goto 4, 3) := by decide +kernel
theorem d_X9_isPath_19 : decode cX9_isPath 19 = .ok (.iconst 0, 1) := by decide +kernel
theorem d_X9_isPath_20 : decode cX9_isPath 20 = .ok (.ireturn, 1) := by decide +kernel
theorem d_X9_isScan_0 : decode cX9_isScan 0 = .ok (.iload_n 1, 1) := by decide +kernel
theorem d_X9_isScan_1 : decode cX9_isScan 1 = .ok (.ifCond .lt 18, 3) := by decide +kernel
theorem d_X9_isScan_4 : decode cX9_isScan 4 = .ok (.iload_n 1, 1) := by decide +kernel
theorem d_X9_isScan_5 : decode cX9_isScan 5 = .ok (.aload_n 0, 1) := by decide +kernel
theorem d_X9_isScan_6 : decode cX9_isScan 6 = .ok (.getfield 19, 3) := by decide +kernel
theorem d_X9_isScan_9 : decode cX9_isScan 9 = .ok (.invokevirtual 142, 3) := by decide +kernel
theorem d_X9_isScan_12 : decode cX9_isScan 12 = .ok (.if_icmp .ge 7, 3) := by decide +kernel
theorem d_X9_isScan_15 : decode cX9_isScan 15 = .ok (.iconst 1, 1) := by decide +kernel
theorem d_X9_isScan_16 : decode cX9_isScan 16 = .ok (.goto 4, 3) := by decide +kernel
theorem d_X9_isScan_19 : decode cX9_isScan 19 = .ok (.iconst 0, 1) := by decide +kernel
theorem d_X9_isScan_20 : decode cX9_isScan 20 = .ok (.ireturn, 1) := by decide +kernel
theorem d_X9_isGone_0 : decode cX9_isGone 0 = .ok (.aload_n 0, 1) := by decide +kernel
theorem d_X9_isGone_1 : decode cX9_isGone 1 = .ok (.invokevirtual 276, 3) := by decide +kernel
theorem d_X9_isGone_4 : decode cX9_isGone 4 = .ok (.aload_n 0, 1) := by decide +kernel
theorem d_X9_isGone_5 : decode cX9_isGone 5 = .ok (.getfield 43, 3) := by decide +kernel
theorem d_X9_isGone_8 : decode cX9_isGone 8 = .ok (.iload_n 1, 1) := by decide +kernel
theorem d_X9_isGone_9 : decode cX9_isGone 9 = .ok (.invokevirtual 404, 3) := by decide +kernel
theorem d_X9_isGone_12 : decode cX9_isGone 12 = .ok (.ireturn, 1) := by decide +kernel
theorem d_X9_matters_0 : decode cX9_matters 0 = .ok (.aload_n 0, 1) := by decide +kernel
theorem d_X9_matters_1 : decode cX9_matters 1 = .ok (.getfield 12, 3) := by decide +kernel
theorem d_X9_matters_4 : decode cX9_matters 4 = .ok (.getfield 178, 3) := by decide +kernel
theorem d_X9_matters_7 : decode cX9_matters 7 = .ok (.iload_n 1, 1) := by decide +kernel
theorem d_X9_matters_8 : decode cX9_matters 8 = .ok (.baload, 1) := by decide +kernel
theorem d_X9_matters_9 : decode cX9_matters 9 = .ok (.iconst 1, 1) := by decide +kernel
theorem d_X9_matters_10 : decode cX9_matters 10 = .ok (.if_icmp .eq 23, 3) := by decide +kernel
theorem d_X9_matters_13 : decode cX9_matters 13 = .ok (.aload_n 0, 1) := by decide +kernel
theorem d_X9_matters_14 : decode cX9_matters 14 = .ok (.getfield 12, 3) := by decide +kernel
theorem d_X9_matters_17 : decode cX9_matters 17 = .ok (.getfield 178, 3) := by decide +kernel
theorem d_X9_matters_20 : decode cX9_matters 20 = .ok (.iload_n 1, 1) := by decide +kernel
theorem d_X9_matters_21 : decode cX9_matters 21 = .ok (.baload, 1) := by decide +kernel
theorem d_X9_matters_22 : decode cX9_matters 22 = .ok (.ifCond .ne 15, 3) := by decide +kernel
theorem d_X9_matters_25 : decode cX9_matters 25 = .ok (.aload_n 0, 1) := by decide +kernel
theorem d_X9_matters_26 : decode cX9_matters 26 = .ok (.iload_n 1, 1) := by decide +kernel
theorem d_X9_matters_27 : decode cX9_matters 27 = .ok (.invokevirtual 283, 3) := by decide +kernel
theorem d_X9_matters_30 : decode cX9_matters 30 = .ok (.ifCond .ne 7, 3) := by decide +kernel
theorem d_X9_matters_33 : decode cX9_matters 33 = .ok (.iconst 1, 1) := by decide +kernel
theorem d_X9_matters_34 : decode cX9_matters 34 = .ok (.goto 4, 3) := by decide +kernel
theorem d_X9_matters_37 : decode cX9_matters 37 = .ok (.iconst 0, 1) := by decide +kernel
theorem d_X9_matters_38 : decode cX9_matters 38 = .ok (.ireturn, 1) := by decide +kernel
theorem d_X9_isIn_0 : decode cX9_isIn 0 = .ok (.aload_n 0, 1) := by decide +kernel
theorem d_X9_isIn_1 : decode cX9_isIn 1 = .ok (.getfield 12, 3) := by decide +kernel
theorem d_X9_isIn_4 : decode cX9_isIn 4 = .ok (.getfield 178, 3) := by decide +kernel
theorem d_X9_isIn_7 : decode cX9_isIn 7 = .ok (.iload_n 2, 1) := by decide +kernel
theorem d_X9_isIn_8 : decode cX9_isIn 8 = .ok (.baload, 1) := by decide +kernel
theorem d_X9_isIn_9 : decode cX9_isIn 9 = .ok (.istore_n 3, 1) := by decide +kernel
theorem d_X9_isIn_10 : decode cX9_isIn 10 = .ok (.iload_n 1, 1) := by decide +kernel
theorem d_X9_isIn_11 : decode cX9_isIn 11 = .ok (.tableswitch 105 0 2 #[25, 51, 78], 25) := by decide +kernel
theorem d_X9_isIn_36 : decode cX9_isIn 36 = .ok (.iload_n 3, 1) := by decide +kernel
theorem d_X9_isIn_37 : decode cX9_isIn 37 = .ok (.ifCond .ne 23, 3) := by decide +kernel
theorem d_X9_isIn_40 : decode cX9_isIn 40 = .ok (.aload_n 0, 1) := by decide +kernel
theorem d_X9_isIn_41 : decode cX9_isIn 41 = .ok (.iload_n 2, 1) := by decide +kernel
theorem d_X9_isIn_42 : decode cX9_isIn 42 = .ok (.invokevirtual 283, 3) := by decide +kernel
theorem d_X9_isIn_45 : decode cX9_isIn 45 = .ok (.ifCond .ne 15, 3) := by decide +kernel
theorem d_X9_isIn_48 : decode cX9_isIn 48 = .ok (.aload_n 0, 1) := by decide +kernel
theorem d_X9_isIn_49 : decode cX9_isIn 49 = .ok (.iload_n 2, 1) := by decide +kernel
theorem d_X9_isIn_50 : decode cX9_isIn 50 = .ok (.invokevirtual 263, 3) := by decide +kernel
theorem d_X9_isIn_53 : decode cX9_isIn 53 = .ok (.ifCond .eq 7, 3) := by decide +kernel
theorem d_X9_isIn_56 : decode cX9_isIn 56 = .ok (.iconst 1, 1) := by decide +kernel
theorem d_X9_isIn_57 : decode cX9_isIn 57 = .ok (.goto 4, 3) := by decide +kernel
theorem d_X9_isIn_60 : decode cX9_isIn 60 = .ok (.iconst 0, 1) := by decide +kernel
theorem d_X9_isIn_61 : decode cX9_isIn 61 = .ok (.ireturn, 1) := by decide +kernel
theorem d_X9_isIn_62 : decode cX9_isIn 62 = .ok (.iload_n 3, 1) := by decide +kernel
theorem d_X9_isIn_63 : decode cX9_isIn 63 = .ok (.iconst 1, 1) := by decide +kernel
theorem d_X9_isIn_64 : decode cX9_isIn 64 = .ok (.if_icmp .ne 23, 3) := by decide +kernel
theorem d_X9_isIn_67 : decode cX9_isIn 67 = .ok (.aload_n 0, 1) := by decide +kernel
theorem d_X9_isIn_68 : decode cX9_isIn 68 = .ok (.iload_n 2, 1) := by decide +kernel
theorem d_X9_isIn_69 : decode cX9_isIn 69 = .ok (.invokevirtual 283, 3) := by decide +kernel
theorem d_X9_isIn_72 : decode cX9_isIn 72 = .ok (.ifCond .ne 11, 3) := by decide +kernel
theorem d_X9_isIn_75 : decode cX9_isIn 75 = .ok (.aload_n 0, 1) := by decide +kernel
theorem d_X9_isIn_76 : decode cX9_isIn 76 = .ok (.iload_n 2, 1) := by decide +kernel
theorem d_X9_isIn_77 : decode cX9_isIn 77 = .ok (.invokevirtual 263, 3) := by decide +kernel
theorem d_X9_isIn_80 : decode cX9_isIn 80 = .ok (.ifCond .ne 7, 3) := by decide +kernel
theorem d_X9_isIn_83 : decode cX9_isIn 83 = .ok (.iconst 1, 1) := by decide +kernel
theorem d_X9_isIn_84 : decode cX9_isIn 84 = .ok (.goto 4, 3) := by decide +kernel
theorem d_X9_isIn_87 : decode cX9_isIn 87 = .ok (.iconst 0, 1) := by decide +kernel
theorem d_X9_isIn_88 : decode cX9_isIn 88 = .ok (.ireturn, 1) := by decide +kernel
theorem d_X9_isIn_89 : decode cX9_isIn 89 = .ok (.iload_n 3, 1) := by decide +kernel
theorem d_X9_isIn_90 : decode cX9_isIn 90 = .ok (.iconst 1, 1) := by decide +kernel
theorem d_X9_isIn_91 : decode cX9_isIn 91 = .ok (.if_icmp .ne 23, 3) := by decide +kernel
theorem d_X9_isIn_94 : decode cX9_isIn 94 = .ok (.aload_n 0, 1) := by decide +kernel
theorem d_X9_isIn_95 : decode cX9_isIn 95 = .ok (.iload_n 2, 1) := by decide +kernel
theorem d_X9_isIn_96 : decode cX9_isIn 96 = .ok (.invokevirtual 283, 3) := by decide +kernel
theorem d_X9_isIn_99 : decode cX9_isIn 99 = .ok (.ifCond .ne 15, 3) := by decide +kernel
theorem d_X9_isIn_102 : decode cX9_isIn 102 = .ok (.aload_n 0, 1) := by decide +kernel
theorem d_X9_isIn_103 : decode cX9_isIn 103 = .ok (.iload_n 2, 1) := by decide +kernel
theorem d_X9_isIn_104 : decode cX9_isIn 104 = .ok (.invokevirtual 263, 3) := by decide +kernel
theorem d_X9_isIn_107 : decode cX9_isIn 107 = .ok (.ifCond .eq 7, 3) := by decide +kernel
theorem d_X9_isIn_110 : decode cX9_isIn 110 = .ok (.iconst 1, 1) := by decide +kernel
theorem d_X9_isIn_111 : decode cX9_isIn 111 = .ok (.goto 4, 3) := by decide +kernel
theorem d_X9_isIn_114 : decode cX9_isIn 114 = .ok (.iconst 0, 1) := by decide +kernel
theorem d_X9_isIn_115 : decode cX9_isIn 115 = .ok (.ireturn, 1) := by decide +kernel
theorem d_X9_isIn_116 : decode cX9_isIn 116 = .ok (.aload_n 0, 1) := by decide +kernel
theorem d_X9_isIn_117 : decode cX9_isIn 117 = .ok (.iload_n 2, 1) := by decide +kernel
theorem d_X9_isIn_118 : decode cX9_isIn 118 = .ok (.invokevirtual 263, 3) := by decide +kernel
theorem d_X9_isIn_121 : decode cX9_isIn 121 = .ok (.ifCond .eq 7, 3) := by decide +kernel
theorem d_X9_isIn_124 : decode cX9_isIn 124 = .ok (.iconst 1, 1) := by decide +kernel
theorem d_X9_isIn_125 : decode cX9_isIn 125 = .ok (.goto 4, 3) := by decide +kernel
theorem d_X9_isIn_128 : decode cX9_isIn 128 = .ok (.iconst 0, 1) := by decide +kernel
theorem d_X9_isIn_129 : decode cX9_isIn 129 = .ok (.ireturn, 1) := by decide +kernel
theorem d_X9_count_0 : decode cX9_count 0 = .ok (.iconst 0, 1) := by decide +kernel
theorem d_X9_count_1 : decode cX9_count 1 = .ok (.istore_n 2, 1) := by decide +kernel
theorem d_X9_count_2 : decode cX9_count 2 = .ok (.iconst 0, 1) := by decide +kernel
theorem d_X9_count_3 : decode cX9_count 3 = .ok (.istore_n 3, 1) := by decide +kernel
theorem d_X9_count_4 : decode cX9_count 4 = .ok (.iload_n 3, 1) := by decide +kernel
theorem d_X9_count_5 : decode cX9_count 5 = .ok (.aload_n 0, 1) := by decide +kernel
theorem d_X9_count_6 : decode cX9_count 6 = .ok (.getfield 43, 3) := by decide +kernel
theorem d_X9_count_9 : decode cX9_count 9 = .ok (.getfield 110, 3) := by decide +kernel
theorem d_X9_count_12 : decode cX9_count 12 = .ok (.if_icmp .ge 21, 3) := by decide +kernel
theorem d_X9_count_15 : decode cX9_count 15 = .ok (.aload_n 0, 1) := by decide +kernel
theorem d_X9_count_16 : decode cX9_count 16 = .ok (.iload_n 1, 1) := by decide +kernel
theorem d_X9_count_17 : decode cX9_count 17 = .ok (.iload_n 3, 1) := by decide +kernel
theorem d_X9_count_18 : decode cX9_count 18 = .ok (.invokevirtual 266, 3) := by decide +kernel
theorem d_X9_count_21 : decode cX9_count 21 = .ok (.ifCond .eq 6, 3) := by decide +kernel
theorem d_X9_count_24 : decode cX9_count 24 = .ok (.iinc 2 1, 3) := by decide +kernel
theorem d_X9_count_27 : decode cX9_count 27 = .ok (.iinc 3 1, 3) := by decide +kernel
theorem d_X9_count_30 : decode cX9_count 30 = .ok (.goto (-26), 3) := by decide +kernel
theorem d_X9_count_33 : decode cX9_count 33 = .ok (.iload_n 2, 1) := by decide +kernel
theorem d_X9_count_34 : decode cX9_count 34 = .ok (.ireturn, 1) := by decide +kernel
theorem d_X9_countWeights_0 : decode cX9_countWeights 0 = .ok (.aload_n 0, 1) := by decide +kernel
theorem d_X9_countWeights_1 : decode cX9_countWeights 1 = .ok (.invokevirtual 276, 3) := by decide +kernel
theorem d_X9_countWeights_4 : decode cX9_countWeights 4 = .ok (.iconst 0, 1) := by decide +kernel
theorem d_X9_countWeights_5 : decode cX9_countWeights 5 = .ok (.istore_n 2, 1) := by decide +kernel
theorem d_X9_countWeights_6 : decode cX9_countWeights 6 = .ok (.iconst 0, 1) := by decide +kernel
theorem d_X9_countWeights_7 : decode cX9_countWeights 7 = .ok (.istore_n 3, 1) := by decide +kernel
theorem d_X9_countWeights_8 : decode cX9_countWeights 8 = .ok (.iload_n 3, 1) := by decide +kernel
theorem d_X9_countWeights_9 : decode cX9_countWeights 9 = .ok (.aload_n 0, 1) := by decide +kernel
theorem d_X9_countWeights_10 : decode cX9_countWeights 10 = .ok (.getfield 43, 3) := by decide +kernel
theorem d_X9_countWeights_13 : decode cX9_countWeights 13 = .ok (.getfield 110, 3) := by decide +kernel
theorem d_X9_countWeights_16 : decode cX9_countWeights 16 = .ok (.if_icmp .ge 30, 3) := by decide +kernel
theorem d_X9_countWeights_19 : decode cX9_countWeights 19 = .ok (.aload_n 0, 1) := by decide +kernel
theorem d_X9_countWeights_20 : decode cX9_countWeights 20 = .ok (.iload_n 1, 1) := by decide +kernel
theorem d_X9_countWeights_21 : decode cX9_countWeights 21 = .ok (.iload_n 3, 1) := by decide +kernel
theorem d_X9_countWeights_22 : decode cX9_countWeights 22 = .ok (.invokevirtual 266, 3) := by decide +kernel
theorem d_X9_countWeights_25 : decode cX9_countWeights 25 = .ok (.ifCond .eq 15, 3) := by decide +kernel
theorem d_X9_countWeights_28 : decode cX9_countWeights 28 = .ok (.iload_n 2, 1) := by decide +kernel
theorem d_X9_countWeights_29 : decode cX9_countWeights 29 = .ok (.aload_n 0, 1) := by decide +kernel
theorem d_X9_countWeights_30 : decode cX9_countWeights 30 = .ok (.getfield 43, 3) := by decide +kernel
theorem d_X9_countWeights_33 : decode cX9_countWeights 33 = .ok (.getfield 282, 3) := by decide +kernel
theorem d_X9_countWeights_36 : decode cX9_countWeights 36 = .ok (.iload_n 3, 1) := by decide +kernel
theorem d_X9_countWeights_37 : decode cX9_countWeights 37 = .ok (.iaload, 1) := by decide +kernel
theorem d_X9_countWeights_38 : decode cX9_countWeights 38 = .ok (.iadd, 1) := by decide +kernel
theorem d_X9_countWeights_39 : decode cX9_countWeights 39 = .ok (.istore_n 2, 1) := by decide +kernel
theorem d_X9_countWeights_40 : decode cX9_countWeights 40 = .ok (.iinc 3 1, 3) := by decide +kernel
theorem d_X9_countWeights_43 : decode cX9_countWeights 43 = .ok (.goto (-35), 3) := by decide +kernel
theorem d_X9_countWeights_46 : decode cX9_countWeights 46 = .ok (.iload_n 2, 1) := by decide +kernel
theorem d_X9_countWeights_47 : decode cX9_countWeights 47 = .ok (.ireturn, 1) := by decide +kernel
theorem d_X9_member_0 : decode cX9_member 0 = .ok (.iload_n 2, 1) := by decide +kernel
theorem d_X9_member_1 : decode cX9_member 1 = .ok (.istore_n 3, 1) := by decide +kernel
theorem d_X9_member_2 : decode cX9_member 2 = .ok (.iconst 0, 1) := by decide +kernel
theorem d_X9_member_3 : decode cX9_member 3 = .ok (.istore 4, 2) := by decide +kernel
theorem d_X9_member_5 : decode cX9_member 5 = .ok (.iload 4, 2) := by decide +kernel
theorem d_X9_member_7 : decode cX9_member 7 = .ok (.aload_n 0, 1) := by decide +kernel
theorem d_X9_member_8 : decode cX9_member 8 = .ok (.getfield 43, 3) := by decide +kernel
theorem d_X9_member_11 : decode cX9_member 11 = .ok (.getfield 110, 3) := by decide +kernel
theorem d_X9_member_14 : decode cX9_member 14 = .ok (.if_icmp .ge 33, 3) := by decide +kernel
theorem d_X9_member_17 : decode cX9_member 17 = .ok (.iload_n 3, 1) := by decide +kernel
theorem d_X9_member_18 : decode cX9_member 18 = .ok (.ifCond .lt 29, 3) := by decide +kernel
theorem d_X9_member_21 : decode cX9_member 21 = .ok (.aload_n 0, 1) := by decide +kernel
theorem d_X9_member_22 : decode cX9_member 22 = .ok (.iload_n 1, 1) := by decide +kernel
theorem d_X9_member_23 : decode cX9_member 23 = .ok (.iload 4, 2) := by decide +kernel
theorem d_X9_member_25 : decode cX9_member 25 = .ok (.invokevirtual 266, 3) := by decide +kernel
theorem d_X9_member_28 : decode cX9_member 28 = .ok (.ifCond .eq 13, 3) := by decide +kernel
theorem d_X9_member_31 : decode cX9_member 31 = .ok (.iload_n 3, 1) := by decide +kernel
theorem d_X9_member_32 : decode cX9_member 32 = .ok (.ifCond .ne 6, 3) := by decide +kernel
theorem d_X9_member_35 : decode cX9_member 35 = .ok (.iload 4, 2) := by decide +kernel
theorem d_X9_member_37 : decode cX9_member 37 = .ok (.ireturn, 1) := by decide +kernel
theorem d_X9_member_38 : decode cX9_member 38 = .ok (.iinc 3 (-1), 3) := by decide +kernel
theorem d_X9_member_41 : decode cX9_member 41 = .ok (.iinc 4 1, 3) := by decide +kernel
theorem d_X9_member_44 : decode cX9_member 44 = .ok (.goto (-39), 3) := by decide +kernel
theorem d_X9_member_47 : decode cX9_member 47 = .ok (.iconst (-1), 1) := by decide +kernel
theorem d_X9_member_48 : decode cX9_member 48 = .ok (.ireturn, 1) := by decide +kernel
theorem d_X9_stateOf_0 : decode cX9_stateOf 0 = .ok (.aload_n 0, 1) := by decide +kernel
theorem d_X9_stateOf_1 : decode cX9_stateOf 1 = .ok (.getfield 69, 3) := by decide +kernel
theorem d_X9_stateOf_4 : decode cX9_stateOf 4 = .ok (.ifCond .ne 16, 3) := by decide +kernel
theorem d_X9_stateOf_7 : decode cX9_stateOf 7 = .ok (.aload_n 0, 1) := by decide +kernel
theorem d_X9_stateOf_8 : decode cX9_stateOf 8 = .ok (.getfield 65, 3) := by decide +kernel
theorem d_X9_stateOf_11 : decode cX9_stateOf 11 = .ok (.iconst 3, 1) := by decide +kernel
theorem d_X9_stateOf_12 : decode cX9_stateOf 12 = .ok (.invokestatic 405, 3) := by decide +kernel
theorem d_X9_stateOf_15 : decode cX9_stateOf 15 = .ok (.aload_n 0, 1) := by decide +kernel
theorem d_X9_stateOf_16 : decode cX9_stateOf 16 = .ok (.iconst 1, 1) := by decide +kernel
theorem d_X9_stateOf_17 : decode cX9_stateOf 17 = .ok (.putfield 69, 3) := by decide +kernel
theorem d_X9_stateOf_20 : decode cX9_stateOf 20 = .ok (.aload_n 0, 1) := by decide +kernel
theorem d_X9_stateOf_21 : decode cX9_stateOf 21 = .ok (.getfield 65, 3) := by decide +kernel
theorem d_X9_stateOf_24 : decode cX9_stateOf 24 = .ok (.iload_n 1, 1) := by decide +kernel
theorem d_X9_stateOf_25 : decode cX9_stateOf 25 = .ok (.baload, 1) := by decide +kernel
theorem d_X9_stateOf_26 : decode cX9_stateOf 26 = .ok (.iconst 3, 1) := by decide +kernel
theorem d_X9_stateOf_27 : decode cX9_stateOf 27 = .ok (.if_icmp .ne 47, 3) := by decide +kernel
theorem d_X9_stateOf_30 : decode cX9_stateOf 30 = .ok (.aload_n 0, 1) := by decide +kernel
theorem d_X9_stateOf_31 : decode cX9_stateOf 31 = .ok (.invokevirtual 247, 3) := by decide +kernel
theorem d_X9_stateOf_34 : decode cX9_stateOf 34 = .ok (.aload_n 0, 1) := by decide +kernel
theorem d_X9_stateOf_35 : decode cX9_stateOf 35 = .ok (.getfield 65, 3) := by decide +kernel
theorem d_X9_stateOf_38 : decode cX9_stateOf 38 = .ok (.iload_n 1, 1) := by decide +kernel
theorem d_X9_stateOf_39 : decode cX9_stateOf 39 = .ok (.aload_n 0, 1) := by decide +kernel
theorem d_X9_stateOf_40 : decode cX9_stateOf 40 = .ok (.getfield 61, 3) := by decide +kernel
theorem d_X9_stateOf_43 : decode cX9_stateOf 43 = .ok (.aload_n 0, 1) := by decide +kernel
theorem d_X9_stateOf_44 : decode cX9_stateOf 44 = .ok (.getfield 54, 3) := by decide +kernel
theorem d_X9_stateOf_47 : decode cX9_stateOf 47 = .ok (.aload_n 0, 1) := by decide +kernel
theorem d_X9_stateOf_48 : decode cX9_stateOf 48 = .ok (.getfield 43, 3) := by decide +kernel
theorem d_X9_stateOf_51 : decode cX9_stateOf 51 = .ok (.iload_n 1, 1) := by decide +kernel
theorem d_X9_stateOf_52 : decode cX9_stateOf 52 = .ok (.aload_n 0, 1) := by decide +kernel
theorem d_X9_stateOf_53 : decode cX9_stateOf 53 = .ok (.getfield 54, 3) := by decide +kernel
theorem d_X9_stateOf_56 : decode cX9_stateOf 56 = .ok (.getfield 258, 3) := by decide +kernel
theorem d_X9_stateOf_59 : decode cX9_stateOf 59 = .ok (.invokevirtual 259, 3) := by decide +kernel
theorem d_X9_stateOf_62 : decode cX9_stateOf 62 = .ok (.aload_n 0, 1) := by decide +kernel
theorem d_X9_stateOf_63 : decode cX9_stateOf 63 = .ok (.getfield 19, 3) := by decide +kernel
theorem d_X9_stateOf_66 : decode cX9_stateOf 66 = .ok (.getfield 123, 3) := by decide +kernel
theorem d_X9_stateOf_69 : decode cX9_stateOf 69 = .ok (.invokevirtual 347, 3) := by decide +kernel
theorem d_X9_stateOf_72 : decode cX9_stateOf 72 = .ok (.i2b, 1) := by decide +kernel
theorem d_X9_stateOf_73 : decode cX9_stateOf 73 = .ok (.bastore, 1) := by decide +kernel
theorem d_X9_stateOf_74 : decode cX9_stateOf 74 = .ok (.aload_n 0, 1) := by decide +kernel
theorem d_X9_stateOf_75 : decode cX9_stateOf 75 = .ok (.getfield 65, 3) := by decide +kernel
theorem d_X9_stateOf_78 : decode cX9_stateOf 78 = .ok (.iload_n 1, 1) := by decide +kernel
theorem d_X9_stateOf_79 : decode cX9_stateOf 79 = .ok (.baload, 1) := by decide +kernel
theorem d_X9_stateOf_80 : decode cX9_stateOf 80 = .ok (.ireturn, 1) := by decide +kernel
theorem d_X9_buildScans_0 : decode cX9_buildScans 0 = .ok (.aload_n 0, 1) := by decide +kernel
theorem d_X9_buildScans_1 : decode cX9_buildScans 1 = .ok (.getfield 54, 3) := by decide +kernel
theorem d_X9_buildScans_4 : decode cX9_buildScans 4 = .ok (.getfield 326, 3) := by decide +kernel
theorem d_X9_buildScans_7 : decode cX9_buildScans 7 = .ok (.ifCond .ne 53, 3) := by decide +kernel
theorem d_X9_buildScans_10 : decode cX9_buildScans 10 = .ok (.aload_n 0, 1) := by decide +kernel
theorem d_X9_buildScans_11 : decode cX9_buildScans 11 = .ok (.getfield 54, 3) := by decide +kernel
theorem d_X9_buildScans_14 : decode cX9_buildScans 14 = .ok (.aload_n 0, 1) := by decide +kernel
theorem d_X9_buildScans_15 : decode cX9_buildScans 15 = .ok (.getfield 19, 3) := by decide +kernel
theorem d_X9_buildScans_18 : decode cX9_buildScans 18 = .ok (.aload_n 0, 1) := by decide +kernel
theorem d_X9_buildScans_19 : decode cX9_buildScans 19 = .ok (.getfield 12, 3) := by decide +kernel
theorem d_X9_buildScans_22 : decode cX9_buildScans 22 = .ok (.getfield 194, 3) := by decide +kernel
theorem d_X9_buildScans_25 : decode cX9_buildScans 25 = .ok (.invokevirtual 408, 3) := by decide +kernel
theorem d_X9_buildScans_28 : decode cX9_buildScans 28 = .ok (.aload_n 0, 1) := by decide +kernel
theorem d_X9_buildScans_29 : decode cX9_buildScans 29 = .ok (.getfield 19, 3) := by decide +kernel
theorem d_X9_buildScans_32 : decode cX9_buildScans 32 = .ok (.getfield 164, 3) := by decide +kernel
theorem d_X9_buildScans_35 : decode cX9_buildScans 35 = .ok (.ifCond .eq 18, 3) := by decide +kernel
theorem d_X9_buildScans_38 : decode cX9_buildScans 38 = .ok (.aload_n 0, 1) := by decide +kernel
theorem d_X9_buildScans_39 : decode cX9_buildScans 39 = .ok (.getfield 54, 3) := by decide +kernel
theorem d_X9_buildScans_42 : decode cX9_buildScans 42 = .ok (.aload_n 0, 1) := by decide +kernel
theorem d_X9_buildScans_43 : decode cX9_buildScans 43 = .ok (.getfield 43, 3) := by decide +kernel
theorem d_X9_buildScans_46 : decode cX9_buildScans 46 = .ok (.aload_n 0, 1) := by decide +kernel
theorem d_X9_buildScans_47 : decode cX9_buildScans 47 = .ok (.getfield 47, 3) := by decide +kernel
theorem d_X9_buildScans_50 : decode cX9_buildScans 50 = .ok (.invokevirtual 412, 3) := by decide +kernel
theorem d_X9_buildScans_53 : decode cX9_buildScans 53 = .ok (.aload_n 0, 1) := by decide +kernel
theorem d_X9_buildScans_54 : decode cX9_buildScans 54 = .ok (.getfield 54, 3) := by decide +kernel
theorem d_X9_buildScans_57 : decode cX9_buildScans 57 = .ok (.invokevirtual 416, 3) := by decide +kernel
theorem d_X9_buildScans_60 : decode cX9_buildScans 60 = .ok (.return_, 1) := by decide +kernel
theorem d_X9_weighPaths_0 : decode cX9_weighPaths 0 = .ok (.aload_n 0, 1) := by decide +kernel
theorem d_X9_weighPaths_1 : decode cX9_weighPaths 1 = .ok (.getfield 43, 3) := by decide +kernel
theorem d_X9_weighPaths_4 : decode cX9_weighPaths 4 = .ok (.getfield 417, 3) := by decide +kernel
theorem d_X9_weighPaths_7 : decode cX9_weighPaths 7 = .ok (.ifCond .ne 14, 3) := by decide +kernel
theorem d_X9_weighPaths_10 : decode cX9_weighPaths 10 = .ok (.aload_n 0, 1) := by decide +kernel
theorem d_X9_weighPaths_11 : decode cX9_weighPaths 11 = .ok (.getfield 43, 3) := by decide +kernel
theorem d_X9_weighPaths_14 : decode cX9_weighPaths 14 = .ok (.aload_n 0, 1) := by decide +kernel
theorem d_X9_weighPaths_15 : decode cX9_weighPaths 15 = .ok (.getfield 12, 3) := by decide +kernel
theorem d_X9_weighPaths_18 : decode cX9_weighPaths 18 = .ok (.invokevirtual 420, 3) := by decide +kernel
theorem d_X9_weighPaths_21 : decode cX9_weighPaths 21 = .ok (.return_, 1) := by decide +kernel
theorem d_X9_gatherWants_0 : decode cX9_gatherWants 0 = .ok (.aload_n 0, 1) := by decide +kernel
theorem d_X9_gatherWants_1 : decode cX9_gatherWants 1 = .ok (.getfield 79, 3) := by decide +kernel
theorem d_X9_gatherWants_4 : decode cX9_gatherWants 4 = .ok (.getfield 423, 3) := by decide +kernel
theorem d_X9_gatherWants_7 : decode cX9_gatherWants 7 = .ok (.ifCond .ne 26, 3) := by decide +kernel
theorem d_X9_gatherWants_10 : decode cX9_gatherWants 10 = .ok (.aload_n 0, 1) := by decide +kernel
theorem d_X9_gatherWants_11 : decode cX9_gatherWants 11 = .ok (.invokevirtual 276, 3) := by decide +kernel
theorem d_X9_gatherWants_14 : decode cX9_gatherWants 14 = .ok (.aload_n 0, 1) := by decide +kernel
theorem d_X9_gatherWants_15 : decode cX9_gatherWants 15 = .ok (.getfield 79, 3) := by decide +kernel
theorem d_X9_gatherWants_18 : decode cX9_gatherWants 18 = .ok (.aload_n 0, 1) := by decide +kernel
theorem d_X9_gatherWants_19 : decode cX9_gatherWants 19 = .ok (.getfield 12, 3) := by decide +kernel
theorem d_X9_gatherWants_22 : decode cX9_gatherWants 22 = .ok (.aload_n 0, 1) := by decide +kernel
theorem d_X9_gatherWants_23 : decode cX9_gatherWants 23 = .ok (.getfield 43, 3) := by decide +kernel
theorem d_X9_gatherWants_26 : decode cX9_gatherWants 26 = .ok (.aload_n 0, 1) := by decide +kernel
theorem d_X9_gatherWants_27 : decode cX9_gatherWants 27 = .ok (.getfield 47, 3) := by decide +kernel
theorem d_X9_gatherWants_30 : decode cX9_gatherWants 30 = .ok (.invokevirtual 426, 3) := by decide +kernel
theorem d_X9_gatherWants_33 : decode cX9_gatherWants 33 = .ok (.return_, 1) := by decide +kernel
theorem d_X9_findFewest_0 : decode cX9_findFewest 0 = .ok (.aload_n 0, 1) := by decide +kernel
theorem d_X9_findFewest_1 : decode cX9_findFewest 1 = .ok (.getfield 86, 3) := by decide +kernel
theorem d_X9_findFewest_4 : decode cX9_findFewest 4 = .ok (.getfield 430, 3) := by decide +kernel
theorem d_X9_findFewest_7 : decode cX9_findFewest 7 = .ok (.ifCond .ne 29, 3) := by decide +kernel
theorem d_X9_findFewest_10 : decode cX9_findFewest 10 = .ok (.aload_n 0, 1) := by decide +kernel
theorem d_X9_findFewest_11 : decode cX9_findFewest 11 = .ok (.invokevirtual 360, 3) := by decide +kernel
theorem d_X9_findFewest_14 : decode cX9_findFewest 14 = .ok (.aload_n 0, 1) := by decide +kernel
theorem d_X9_findFewest_15 : decode cX9_findFewest 15 = .ok (.getfield 86, 3) := by decide +kernel
theorem d_X9_findFewest_18 : decode cX9_findFewest 18 = .ok (.aload_n 0, 1) := by decide +kernel
theorem d_X9_findFewest_19 : decode cX9_findFewest 19 = .ok (.getfield 79, 3) := by decide +kernel
theorem d_X9_findFewest_22 : decode cX9_findFewest 22 = .ok (.aload_n 0, 1) := by decide +kernel
theorem d_X9_findFewest_23 : decode cX9_findFewest 23 = .ok (.getfield 43, 3) := by decide +kernel
theorem d_X9_findFewest_26 : decode cX9_findFewest 26 = .ok (.aload_n 0, 1) := by decide +kernel
theorem d_X9_findFewest_27 : decode cX9_findFewest 27 = .ok (.getfield 19, 3) := by decide +kernel
theorem d_X9_findFewest_30 : decode cX9_findFewest 30 = .ok (.getfield 123, 3) := by decide +kernel
theorem d_X9_findFewest_33 : decode cX9_findFewest 33 = .ok (.invokevirtual 431, 3) := by decide +kernel
theorem d_X9_findFewest_36 : decode cX9_findFewest 36 = .ok (.return_, 1) := by decide +kernel
theorem d_X9_findCogs_0 : decode cX9_findCogs 0 = .ok (.aload_n 0, 1) := by decide +kernel
theorem d_X9_findCogs_1 : decode cX9_findCogs 1 = .ok (.getfield 93, 3) := by decide +kernel
theorem d_X9_findCogs_4 : decode cX9_findCogs 4 = .ok (.getfield 435, 3) := by decide +kernel
theorem d_X9_findCogs_7 : decode cX9_findCogs 7 = .ok (.ifCond .ne 36, 3) := by decide +kernel
theorem d_X9_findCogs_10 : decode cX9_findCogs 10 = .ok (.aload_n 0, 1) := by decide +kernel
theorem d_X9_findCogs_11 : decode cX9_findCogs 11 = .ok (.invokevirtual 360, 3) := by decide +kernel
theorem d_X9_findCogs_14 : decode cX9_findCogs 14 = .ok (.aload_n 0, 1) := by decide +kernel
theorem d_X9_findCogs_15 : decode cX9_findCogs 15 = .ok (.getfield 93, 3) := by decide +kernel
theorem d_X9_findCogs_18 : decode cX9_findCogs 18 = .ok (.aload_n 0, 1) := by decide +kernel
theorem d_X9_findCogs_19 : decode cX9_findCogs 19 = .ok (.getfield 79, 3) := by decide +kernel
theorem d_X9_findCogs_22 : decode cX9_findCogs 22 = .ok (.aload_n 0, 1) := by decide +kernel
theorem d_X9_findCogs_23 : decode cX9_findCogs 23 = .ok (.getfield 43, 3) := by decide +kernel
theorem d_X9_findCogs_26 : decode cX9_findCogs 26 = .ok (.aload_n 0, 1) := by decide +kernel
theorem d_X9_findCogs_27 : decode cX9_findCogs 27 = .ok (.getfield 12, 3) := by decide +kernel
theorem d_X9_findCogs_30 : decode cX9_findCogs 30 = .ok (.getfield 178, 3) := by decide +kernel
theorem d_X9_findCogs_33 : decode cX9_findCogs 33 = .ok (.aload_n 0, 1) := by decide +kernel
theorem d_X9_findCogs_34 : decode cX9_findCogs 34 = .ok (.getfield 19, 3) := by decide +kernel
theorem d_X9_findCogs_37 : decode cX9_findCogs 37 = .ok (.getfield 123, 3) := by decide +kernel
theorem d_X9_findCogs_40 : decode cX9_findCogs 40 = .ok (.invokevirtual 436, 3) := by decide +kernel
theorem d_X9_findCogs_43 : decode cX9_findCogs 43 = .ok (.return_, 1) := by decide +kernel
theorem d_X9_pathsTold_0 : decode cX9_pathsTold 0 = .ok (.aload_n 0, 1) := by decide +kernel
theorem d_X9_pathsTold_1 : decode cX9_pathsTold 1 = .ok (.getfield 43, 3) := by decide +kernel
theorem d_X9_pathsTold_4 : decode cX9_pathsTold 4 = .ok (.aload_n 0, 1) := by decide +kernel
theorem d_X9_pathsTold_5 : decode cX9_pathsTold 5 = .ok (.getfield 12, 3) := by decide +kernel
theorem d_X9_pathsTold_8 : decode cX9_pathsTold 8 = .ok (.invokevirtual 97, 3) := by decide +kernel
theorem d_X9_pathsTold_11 : decode cX9_pathsTold 11 = .ok (.aload_n 0, 1) := by decide +kernel
theorem d_X9_pathsTold_12 : decode cX9_pathsTold 12 = .ok (.aload_n 0, 1) := by decide +kernel
theorem d_X9_pathsTold_13 : decode cX9_pathsTold 13 = .ok (.getfield 12, 3) := by decide +kernel
theorem d_X9_pathsTold_16 : decode cX9_pathsTold 16 = .ok (.aload_n 0, 1) := by decide +kernel
theorem d_X9_pathsTold_17 : decode cX9_pathsTold 17 = .ok (.getfield 43, 3) := by decide +kernel
theorem d_X9_pathsTold_20 : decode cX9_pathsTold 20 = .ok (.getfield 110, 3) := by decide +kernel
theorem d_X9_pathsTold_23 : decode cX9_pathsTold 23 = .ok (.invokevirtual 184, 3) := by decide +kernel
theorem d_X9_pathsTold_26 : decode cX9_pathsTold 26 = .ok (.putfield 47, 3) := by decide +kernel
theorem d_X9_pathsTold_29 : decode cX9_pathsTold 29 = .ok (.aload_n 0, 1) := by decide +kernel
theorem d_X9_pathsTold_30 : decode cX9_pathsTold 30 = .ok (.invokevirtual 126, 3) := by decide +kernel
theorem d_X9_pathsTold_33 : decode cX9_pathsTold 33 = .ok (.aload_n 0, 1) := by decide +kernel
theorem d_X9_pathsTold_34 : decode cX9_pathsTold 34 = .ok (.invokevirtual 155, 3) := by decide +kernel
theorem d_X9_pathsTold_37 : decode cX9_pathsTold 37 = .ok (.return_, 1) := by decide +kernel
theorem d_X9_goneTold_0 : decode cX9_goneTold 0 = .ok (.aload_n 0, 1) := by decide +kernel
theorem d_X9_goneTold_1 : decode cX9_goneTold 1 = .ok (.getfield 43, 3) := by decide +kernel
theorem d_X9_goneTold_4 : decode cX9_goneTold 4 = .ok (.iconst 0, 1) := by decide +kernel
theorem d_X9_goneTold_5 : decode cX9_goneTold 5 = .ok (.putfield 417, 3) := by decide +kernel
theorem d_X9_goneTold_8 : decode cX9_goneTold 8 = .ok (.aload_n 0, 1) := by decide +kernel
theorem d_X9_goneTold_9 : decode cX9_goneTold 9 = .ok (.invokevirtual 129, 3) := by decide +kernel
theorem d_X9_goneTold_12 : decode cX9_goneTold 12 = .ok (.return_, 1) := by decide +kernel
theorem d_X9_cycleTold_0 : decode cX9_cycleTold 0 = .ok (.aload_n 0, 1) := by decide +kernel
theorem d_X9_cycleTold_1 : decode cX9_cycleTold 1 = .ok (.getfield 54, 3) := by decide +kernel
theorem d_X9_cycleTold_4 : decode cX9_cycleTold 4 = .ok (.iconst 0, 1) := by decide +kernel
theorem d_X9_cycleTold_5 : decode cX9_cycleTold 5 = .ok (.putfield 326, 3) := by decide +kernel
theorem d_X9_cycleTold_8 : decode cX9_cycleTold 8 = .ok (.aload_n 0, 1) := by decide +kernel
theorem d_X9_cycleTold_9 : decode cX9_cycleTold 9 = .ok (.iconst 0, 1) := by decide +kernel
theorem d_X9_cycleTold_10 : decode cX9_cycleTold 10 = .ok (.putfield 69, 3) := by decide +kernel
theorem d_X9_cycleTold_13 : decode cX9_cycleTold 13 = .ok (.return_, 1) := by decide +kernel
theorem d_X9_searchesTold_0 : decode cX9_searchesTold 0 = .ok (.aload_n 0, 1) := by decide +kernel
theorem d_X9_searchesTold_1 : decode cX9_searchesTold 1 = .ok (.getfield 79, 3) := by decide +kernel
theorem d_X9_searchesTold_4 : decode cX9_searchesTold 4 = .ok (.iconst 0, 1) := by decide +kernel
theorem d_X9_searchesTold_5 : decode cX9_searchesTold 5 = .ok (.putfield 423, 3) := by decide +kernel
theorem d_X9_searchesTold_8 : decode cX9_searchesTold 8 = .ok (.aload_n 0, 1) := by decide +kernel
theorem d_X9_searchesTold_9 : decode cX9_searchesTold 9 = .ok (.getfield 86, 3) := by decide +kernel
theorem d_X9_searchesTold_12 : decode cX9_searchesTold 12 = .ok (.iconst 0, 1) := by decide +kernel
theorem d_X9_searchesTold_13 : decode cX9_searchesTold 13 = .ok (.putfield 430, 3) := by decide +kernel
theorem d_X9_searchesTold_16 : decode cX9_searchesTold 16 = .ok (.aload_n 0, 1) := by decide +kernel
theorem d_X9_searchesTold_17 : decode cX9_searchesTold 17 = .ok (.getfield 93, 3) := by decide +kernel
theorem d_X9_searchesTold_20 : decode cX9_searchesTold 20 = .ok (.iconst 0, 1) := by decide +kernel
theorem d_X9_searchesTold_21 : decode cX9_searchesTold 21 = .ok (.putfield 435, 3) := by decide +kernel
theorem d_X9_searchesTold_24 : decode cX9_searchesTold 24 = .ok (.return_, 1) := by decide +kernel
