theorem dL_areEvents_99 : decode cL_areEvents 99 = .ok (.invokevirtual 13, 3) := by decide +kernel
theorem dL_areEvents_102 : decode cL_areEvents 102 = .ok (.if_icmp .ne 26, 3) := by decide +kernel
theorem dL_areEvents_105 : decode cL_areEvents 105 = .ok (.aload_n 0, 1) := by decide +kernel
theorem dL_areEvents_106 : decode cL_areEvents 106 = .ok (.iconst 1, 1) := by decide +kernel
theorem dL_areEvents_107 : decode cL_areEvents 107 = .ok (.invokevirtual 13, 3) := by decide +kernel
theorem dL_areEvents_110 : decode cL_areEvents 110 = .ok (.aload_n 0, 1) := by decide +kernel
theorem dL_areEvents_111 : decode cL_areEvents 111 = .ok (.iconst 3, 1) := by decide +kernel
theorem dL_areEvents_112 : decode cL_areEvents 112 = .ok (.invokevirtual 13, 3) := by decide +kernel
theorem dL_areEvents_115 : decode cL_areEvents 115 = .ok (.iadd, 1) := by decide +kernel
theorem dL_areEvents_116 : decode cL_areEvents 116 = .ok (.aload_n 0, 1) := by decide +kernel
theorem dL_areEvents_117 : decode cL_areEvents 117 = .ok (.iconst 0, 1) := by decide +kernel
theorem dL_areEvents_118 : decode cL_areEvents 118 = .ok (.invokevirtual 13, 3) := by decide +kernel
theorem dL_areEvents_121 : decode cL_areEvents 121 = .ok (.if_icmp .ne 7, 3) := by decide +kernel
theorem dL_areEvents_124 : decode cL_areEvents 124 = .ok (.iconst 1, 1) := by decide +kernel
theorem dL_areEvents_125 : decode cL_areEvents 125 = .ok (.goto 4, 3) := by decide +kernel
theorem dL_areEvents_128 : decode cL_areEvents 128 = .ok (.iconst 0, 1) := by decide +kernel
theorem dL_areEvents_129 : decode cL_areEvents 129 = .ok (.ireturn, 1) := by decide +kernel
