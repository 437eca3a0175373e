theorem dL_areEvents_0 : decode cL_areEvents 0 = .ok (.iconst 0, 1) := by decide +kernel
theorem dL_areEvents_1 : decode cL_areEvents 1 = .ok (.istore_n 1, 1) := by decide +kernel
theorem dL_areEvents_2 : decode cL_areEvents 2 = .ok (.iconst 1, 1) := by decide +kernel
theorem dL_areEvents_3 : decode cL_areEvents 3 = .ok (.istore_n 2, 1) := by decide +kernel
theorem dL_areEvents_4 : decode cL_areEvents 4 = .ok (.iconst 0, 1) := by decide +kernel
theorem dL_areEvents_5 : decode cL_areEvents 5 = .ok (.istore_n 3, 1) := by decide +kernel
theorem dL_areEvents_6 : decode cL_areEvents 6 = .ok (.iload_n 3, 1) := by decide +kernel
theorem dL_areEvents_7 : decode cL_areEvents 7 = .ok (.bipush 12, 2) := by decide +kernel
theorem dL_areEvents_9 : decode cL_areEvents 9 = .ok (.if_icmp .ge 83, 3) := by decide +kernel
theorem dL_areEvents_12 : decode cL_areEvents 12 = .ok (.iload_n 2, 1) := by decide +kernel
theorem dL_areEvents_13 : decode cL_areEvents 13 = .ok (.ifCond .eq 79, 3) := by decide +kernel
theorem dL_areEvents_16 : decode cL_areEvents 16 = .ok (.aload_n 0, 1) := by decide +kernel
theorem dL_areEvents_17 : decode cL_areEvents 17 = .ok (.iload_n 3, 1) := by decide +kernel
theorem dL_areEvents_18 : decode cL_areEvents 18 = .ok (.iconst 2, 1) := by decide +kernel
theorem dL_areEvents_19 : decode cL_areEvents 19 = .ok (.ishr, 1) := by decide +kernel
theorem dL_areEvents_20 : decode cL_areEvents 20 = .ok (.iload_n 3, 1) := by decide +kernel
theorem dL_areEvents_21 : decode cL_areEvents 21 = .ok (.iconst 3, 1) := by decide +kernel
theorem dL_areEvents_22 : decode cL_areEvents 22 = .ok (.iand, 1) := by decide +kernel
theorem dL_areEvents_23 : decode cL_areEvents 23 = .ok (.invokevirtual 26, 3) := by decide +kernel
theorem dL_areEvents_26 : decode cL_areEvents 26 = .ok (.istore 4, 2) := by decide +kernel
theorem dL_areEvents_28 : decode cL_areEvents 28 = .ok (.iload 4, 2) := by decide +kernel
theorem dL_areEvents_30 : decode cL_areEvents 30 = .ok (.ldc 62, 2) := by decide +kernel
theorem dL_areEvents_32 : decode cL_areEvents 32 = .ok (.if_icmp .eq 54, 3) := by decide +kernel
theorem dL_areEvents_35 : decode cL_areEvents 35 = .ok (.iinc 1 1, 3) := by decide +kernel
theorem dL_areEvents_38 : decode cL_areEvents 38 = .ok (.aload_n 0, 1) := by decide +kernel
theorem dL_areEvents_39 : decode cL_areEvents 39 = .ok (.iload 4, 2) := by decide +kernel
theorem dL_areEvents_41 : decode cL_areEvents 41 = .ok (.iconst 3, 1) := by decide +kernel
theorem dL_areEvents_42 : decode cL_areEvents 42 = .ok (.invokevirtual 19, 3) := by decide +kernel
theorem dL_areEvents_45 : decode cL_areEvents 45 = .ok (.istore 5, 2) := by decide +kernel
theorem dL_areEvents_47 : decode cL_areEvents 47 = .ok (.aload_n 0, 1) := by decide +kernel
theorem dL_areEvents_48 : decode cL_areEvents 48 = .ok (.iload 4, 2) := by decide +kernel
theorem dL_areEvents_50 : decode cL_areEvents 50 = .ok (.iconst 4, 1) := by decide +kernel
theorem dL_areEvents_51 : decode cL_areEvents 51 = .ok (.invokevirtual 19, 3) := by decide +kernel
theorem dL_areEvents_54 : decode cL_areEvents 54 = .ok (.iconst 1, 1) := by decide +kernel
theorem dL_areEvents_55 : decode cL_areEvents 55 = .ok (.if_icmp .ne 29, 3) := by decide +kernel
theorem dL_areEvents_58 : decode cL_areEvents 58 = .ok (.iload 5, 2) := by decide +kernel
theorem dL_areEvents_60 : decode cL_areEvents 60 = .ok (.ifCond .le 24, 3) := by decide +kernel
theorem dL_areEvents_63 : decode cL_areEvents 63 = .ok (.iload_n 3, 1) := by decide +kernel
theorem dL_areEvents_64 : decode cL_areEvents 64 = .ok (.iconst 2, 1) := by decide +kernel
theorem dL_areEvents_65 : decode cL_areEvents 65 = .ok (.ishr, 1) := by decide +kernel
theorem dL_areEvents_66 : decode cL_areEvents 66 = .ok (.iconst 2, 1) := by decide +kernel
theorem dL_areEvents_67 : decode cL_areEvents 67 = .ok (.if_icmp .eq 13, 3) := by decide +kernel
theorem dL_areEvents_70 : decode cL_areEvents 70 = .ok (.iload 5, 2) := by decide +kernel
theorem dL_areEvents_72 : decode cL_areEvents 72 = .ok (.iload_n 3, 1) := by decide +kernel
theorem dL_areEvents_73 : decode cL_areEvents 73 = .ok (.iconst 2, 1) := by decide +kernel
theorem dL_areEvents_74 : decode cL_areEvents 74 = .ok (.ishr, 1) := by decide +kernel
theorem dL_areEvents_75 : decode cL_areEvents 75 = .ok (.iconst 1, 1) := by decide +kernel
theorem dL_areEvents_76 : decode cL_areEvents 76 = .ok (.iadd, 1) := by decide +kernel
theorem dL_areEvents_77 : decode cL_areEvents 77 = .ok (.if_icmp .ne 7, 3) := by decide +kernel
theorem dL_areEvents_80 : decode cL_areEvents 80 = .ok (.iconst 1, 1) := by decide +kernel
theorem dL_areEvents_81 : decode cL_areEvents 81 = .ok (.goto 4, 3) := by decide +kernel
theorem dL_areEvents_84 : decode cL_areEvents 84 = .ok (.iconst 0, 1) := by decide +kernel
theorem dL_areEvents_85 : decode cL_areEvents 85 = .ok (.istore_n 2, 1) := by decide +kernel
theorem dL_areEvents_86 : decode cL_areEvents 86 = .ok (.iinc 3 1, 3) := by decide +kernel
theorem dL_areEvents_89 : decode cL_areEvents 89 = .ok (.goto (-83), 3) := by decide +kernel
theorem dL_areEvents_92 : decode cL_areEvents 92 = .ok (.iload_n 2, 1) := by decide +kernel
theorem dL_areEvents_93 : decode cL_areEvents 93 = .ok (.ifCond .eq 35, 3) := by decide +kernel
theorem dL_areEvents_96 : decode cL_areEvents 96 = .ok (.iload_n 1, 1) := by decide +kernel
theorem dL_areEvents_97 : decode cL_areEvents 97 = .ok (.aload_n 0, 1) := by decide +kernel
theorem dL_areEvents_98 : decode cL_areEvents 98 = .ok (.iconst 2, 1) := by decide +kernel
