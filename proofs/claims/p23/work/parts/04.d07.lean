theorem dL_event_115 : decode cL_event 115 = .ok (.bipush 100, 2) := by decide +kernel
theorem dL_event_117 : decode cL_event 117 = .ok (.isub, 1) := by decide +kernel
theorem dL_event_118 : decode cL_event 118 = .ok (.iload_n 1, 1) := by decide +kernel
theorem dL_event_119 : decode cL_event 119 = .ok (.bipush 14, 2) := by decide +kernel
theorem dL_event_121 : decode cL_event 121 = .ok (.ishr, 1) := by decide +kernel
theorem dL_event_122 : decode cL_event 122 = .ok (.iconst 4, 1) := by decide +kernel
theorem dL_event_123 : decode cL_event 123 = .ok (.invokestatic 51, 3) := by decide +kernel
theorem dL_event_126 : decode cL_event 126 = .ok (.invokevirtual 44, 3) := by decide +kernel
theorem dL_event_129 : decode cL_event 129 = .ok (.ireturn, 1) := by decide +kernel
