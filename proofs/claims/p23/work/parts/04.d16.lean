theorem dL_isJudged_0 : decode cL_isJudged 0 = .ok (.iconst 0, 1) := by decide +kernel
theorem dL_isJudged_1 : decode cL_isJudged 1 = .ok (.istore_n 3, 1) := by decide +kernel
theorem dL_isJudged_2 : decode cL_isJudged 2 = .ok (.iload_n 3, 1) := by decide +kernel
theorem dL_isJudged_3 : decode cL_isJudged 3 = .ok (.bipush 64, 2) := by decide +kernel
theorem dL_isJudged_5 : decode cL_isJudged 5 = .ok (.if_icmp .ge 20, 3) := by decide +kernel
theorem dL_isJudged_8 : decode cL_isJudged 8 = .ok (.aload_n 0, 1) := by decide +kernel
theorem dL_isJudged_9 : decode cL_isJudged 9 = .ok (.iload_n 3, 1) := by decide +kernel
theorem dL_isJudged_10 : decode cL_isJudged 10 = .ok (.iconst 0, 1) := by decide +kernel
theorem dL_isJudged_11 : decode cL_isJudged 11 = .ok (.invokevirtual 19, 3) := by decide +kernel
theorem dL_isJudged_14 : decode cL_isJudged 14 = .ok (.ldc 62, 2) := by decide +kernel
theorem dL_isJudged_16 : decode cL_isJudged 16 = .ok (.if_icmp .eq 9, 3) := by decide +kernel
theorem dL_isJudged_19 : decode cL_isJudged 19 = .ok (.iinc 3 1, 3) := by decide +kernel
theorem dL_isJudged_22 : decode cL_isJudged 22 = .ok (.goto (-20), 3) := by decide +kernel
theorem dL_isJudged_25 : decode cL_isJudged 25 = .ok (.iload_n 3, 1) := by decide +kernel
theorem dL_isJudged_26 : decode cL_isJudged 26 = .ok (.bipush 64, 2) := by decide +kernel
theorem dL_isJudged_28 : decode cL_isJudged 28 = .ok (.if_icmp .ne 5, 3) := by decide +kernel
theorem dL_isJudged_31 : decode cL_isJudged 31 = .ok (.iconst 1, 1) := by decide +kernel
theorem dL_isJudged_32 : decode cL_isJudged 32 = .ok (.ireturn, 1) := by decide +kernel
theorem dL_isJudged_33 : decode cL_isJudged 33 = .ok (.iload_n 2, 1) := by decide +kernel
theorem dL_isJudged_34 : decode cL_isJudged 34 = .ok (.sipush 300, 3) := by decide +kernel
theorem dL_isJudged_37 : decode cL_isJudged 37 = .ok (.invokestatic 51, 3) := by decide +kernel
theorem dL_isJudged_40 : decode cL_isJudged 40 = .ok (.istore 4, 2) := by decide +kernel
theorem dL_isJudged_42 : decode cL_isJudged 42 = .ok (.aload_n 0, 1) := by decide +kernel
theorem dL_isJudged_43 : decode cL_isJudged 43 = .ok (.iload 4, 2) := by decide +kernel
theorem dL_isJudged_45 : decode cL_isJudged 45 = .ok (.iload_n 1, 1) := by decide +kernel
theorem dL_isJudged_46 : decode cL_isJudged 46 = .ok (.bipush 6, 2) := by decide +kernel
theorem dL_isJudged_48 : decode cL_isJudged 48 = .ok (.invokestatic 51, 3) := by decide +kernel
theorem dL_isJudged_51 : decode cL_isJudged 51 = .ok (.iload_n 1, 1) := by decide +kernel
theorem dL_isJudged_52 : decode cL_isJudged 52 = .ok (.iconst 3, 1) := by decide +kernel
theorem dL_isJudged_53 : decode cL_isJudged 53 = .ok (.ishr, 1) := by decide +kernel
theorem dL_isJudged_54 : decode cL_isJudged 54 = .ok (.iconst 4, 1) := by decide +kernel
theorem dL_isJudged_55 : decode cL_isJudged 55 = .ok (.invokestatic 51, 3) := by decide +kernel
theorem dL_isJudged_58 : decode cL_isJudged 58 = .ok (.invokevirtual 75, 3) := by decide +kernel
theorem dL_isJudged_61 : decode cL_isJudged 61 = .ok (.istore 5, 2) := by decide +kernel
theorem dL_isJudged_63 : decode cL_isJudged 63 = .ok (.aload_n 0, 1) := by decide +kernel
theorem dL_isJudged_64 : decode cL_isJudged 64 = .ok (.iload_n 3, 1) := by decide +kernel
theorem dL_isJudged_65 : decode cL_isJudged 65 = .ok (.iload 4, 2) := by decide +kernel
theorem dL_isJudged_67 : decode cL_isJudged 67 = .ok (.iload_n 1, 1) := by decide +kernel
theorem dL_isJudged_68 : decode cL_isJudged 68 = .ok (.bipush 6, 2) := by decide +kernel
theorem dL_isJudged_70 : decode cL_isJudged 70 = .ok (.invokestatic 51, 3) := by decide +kernel
theorem dL_isJudged_73 : decode cL_isJudged 73 = .ok (.iconst 3, 1) := by decide +kernel
theorem dL_isJudged_74 : decode cL_isJudged 74 = .ok (.iload_n 1, 1) := by decide +kernel
theorem dL_isJudged_75 : decode cL_isJudged 75 = .ok (.iconst 3, 1) := by decide +kernel
theorem dL_isJudged_76 : decode cL_isJudged 76 = .ok (.ishr, 1) := by decide +kernel
theorem dL_isJudged_77 : decode cL_isJudged 77 = .ok (.iconst 4, 1) := by decide +kernel
theorem dL_isJudged_78 : decode cL_isJudged 78 = .ok (.invokestatic 51, 3) := by decide +kernel
theorem dL_isJudged_81 : decode cL_isJudged 81 = .ok (.invokevirtual 44, 3) := by decide +kernel
theorem dL_isJudged_84 : decode cL_isJudged 84 = .ok (.iload 5, 2) := by decide +kernel
theorem dL_isJudged_86 : decode cL_isJudged 86 = .ok (.if_icmp .ne 18, 3) := by decide +kernel
theorem dL_isJudged_89 : decode cL_isJudged 89 = .ok (.aload_n 0, 1) := by decide +kernel
theorem dL_isJudged_90 : decode cL_isJudged 90 = .ok (.iload_n 3, 1) := by decide +kernel
theorem dL_isJudged_91 : decode cL_isJudged 91 = .ok (.iconst 4, 1) := by decide +kernel
theorem dL_isJudged_92 : decode cL_isJudged 92 = .ok (.invokevirtual 19, 3) := by decide +kernel
theorem dL_isJudged_95 : decode cL_isJudged 95 = .ok (.iload 5, 2) := by decide +kernel
theorem dL_isJudged_97 : decode cL_isJudged 97 = .ok (.if_icmp .ne 7, 3) := by decide +kernel
theorem dL_isJudged_100 : decode cL_isJudged 100 = .ok (.iconst 1, 1) := by decide +kernel
theorem dL_isJudged_101 : decode cL_isJudged 101 = .ok (.goto 4, 3) := by decide +kernel
theorem dL_isJudged_104 : decode cL_isJudged 104 = .ok (.iconst 0, 1) := by decide +kernel
theorem dL_isJudged_105 : decode cL_isJudged 105 = .ok (.istore 6, 2) := by decide +kernel
theorem dL_isJudged_107 : decode cL_isJudged 107 = .ok (.aload_n 0, 1) := by decide +kernel
