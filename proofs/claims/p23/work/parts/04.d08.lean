theorem dL_turn_0 : decode cL_turn 0 = .ok (.iload_n 1, 1) := by decide +kernel
theorem dL_turn_1 : decode cL_turn 1 = .ok (.tableswitch 74 0 2 #[27, 54, 67], 27) := by decide +kernel
theorem dL_turn_28 : decode cL_turn 28 = .ok (.aload_n 0, 1) := by decide +kernel
theorem dL_turn_29 : decode cL_turn 29 = .ok (.iload_n 2, 1) := by decide +kernel
theorem dL_turn_30 : decode cL_turn 30 = .ok (.iconst 3, 1) := by decide +kernel
theorem dL_turn_31 : decode cL_turn 31 = .ok (.invokestatic 51, 3) := by decide +kernel
theorem dL_turn_34 : decode cL_turn 34 = .ok (.iload_n 3, 1) := by decide +kernel
theorem dL_turn_35 : decode cL_turn 35 = .ok (.iload_n 2, 1) := by decide +kernel
theorem dL_turn_36 : decode cL_turn 36 = .ok (.iconst 4, 1) := by decide +kernel
theorem dL_turn_37 : decode cL_turn 37 = .ok (.iand, 1) := by decide +kernel
theorem dL_turn_38 : decode cL_turn 38 = .ok (.ifCond .ne 8, 3) := by decide +kernel
theorem dL_turn_41 : decode cL_turn 41 = .ok (.bipush 30, 2) := by decide +kernel
theorem dL_turn_43 : decode cL_turn 43 = .ok (.goto 5, 3) := by decide +kernel
theorem dL_turn_46 : decode cL_turn 46 = .ok (.bipush 101, 2) := by decide +kernel
theorem dL_turn_48 : decode cL_turn 48 = .ok (.invokestatic 51, 3) := by decide +kernel
theorem dL_turn_51 : decode cL_turn 51 = .ok (.invokevirtual 41, 3) := by decide +kernel
theorem dL_turn_54 : decode cL_turn 54 = .ok (.ireturn, 1) := by decide +kernel
theorem dL_turn_55 : decode cL_turn 55 = .ok (.aload_n 0, 1) := by decide +kernel
theorem dL_turn_56 : decode cL_turn 56 = .ok (.iconst 1, 1) := by decide +kernel
theorem dL_turn_57 : decode cL_turn 57 = .ok (.iload_n 3, 1) := by decide +kernel
theorem dL_turn_58 : decode cL_turn 58 = .ok (.bipush 100, 2) := by decide +kernel
theorem dL_turn_60 : decode cL_turn 60 = .ok (.invokestatic 51, 3) := by decide +kernel
theorem dL_turn_63 : decode cL_turn 63 = .ok (.iadd, 1) := by decide +kernel
theorem dL_turn_64 : decode cL_turn 64 = .ok (.invokevirtual 48, 3) := by decide +kernel
theorem dL_turn_67 : decode cL_turn 67 = .ok (.ireturn, 1) := by decide +kernel
theorem dL_turn_68 : decode cL_turn 68 = .ok (.aload_n 0, 1) := by decide +kernel
theorem dL_turn_69 : decode cL_turn 69 = .ok (.iload_n 2, 1) := by decide +kernel
theorem dL_turn_70 : decode cL_turn 70 = .ok (.iload_n 3, 1) := by decide +kernel
theorem dL_turn_71 : decode cL_turn 71 = .ok (.invokestatic 56, 3) := by decide +kernel
theorem dL_turn_74 : decode cL_turn 74 = .ok (.ireturn, 1) := by decide +kernel
theorem dL_turn_75 : decode cL_turn 75 = .ok (.aload_n 0, 1) := by decide +kernel
theorem dL_turn_76 : decode cL_turn 76 = .ok (.iload_n 2, 1) := by decide +kernel
theorem dL_turn_77 : decode cL_turn 77 = .ok (.iload_n 3, 1) := by decide +kernel
theorem dL_turn_78 : decode cL_turn 78 = .ok (.invokestatic 60, 3) := by decide +kernel
theorem dL_turn_81 : decode cL_turn 81 = .ok (.ireturn, 1) := by decide +kernel
