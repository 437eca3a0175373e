theorem dL_isJudged_108 : decode cL_isJudged 108 = .ok (.invokevirtual 67, 3) := by decide +kernel
theorem dL_isJudged_111 : decode cL_isJudged 111 = .ok (.pop, 1) := by decide +kernel
theorem dL_isJudged_112 : decode cL_isJudged 112 = .ok (.iload 6, 2) := by decide +kernel
theorem dL_isJudged_114 : decode cL_isJudged 114 = .ok (.ifCond .eq 18, 3) := by decide +kernel
theorem dL_isJudged_117 : decode cL_isJudged 117 = .ok (.aload_n 0, 1) := by decide +kernel
theorem dL_isJudged_118 : decode cL_isJudged 118 = .ok (.iload_n 3, 1) := by decide +kernel
theorem dL_isJudged_119 : decode cL_isJudged 119 = .ok (.iconst 4, 1) := by decide +kernel
theorem dL_isJudged_120 : decode cL_isJudged 120 = .ok (.invokevirtual 19, 3) := by decide +kernel
theorem dL_isJudged_123 : decode cL_isJudged 123 = .ok (.ldc 62, 2) := by decide +kernel
theorem dL_isJudged_125 : decode cL_isJudged 125 = .ok (.if_icmp .ne 7, 3) := by decide +kernel
theorem dL_isJudged_128 : decode cL_isJudged 128 = .ok (.iconst 1, 1) := by decide +kernel
theorem dL_isJudged_129 : decode cL_isJudged 129 = .ok (.goto 4, 3) := by decide +kernel
theorem dL_isJudged_132 : decode cL_isJudged 132 = .ok (.iconst 0, 1) := by decide +kernel
theorem dL_isJudged_133 : decode cL_isJudged 133 = .ok (.ireturn, 1) := by decide +kernel
