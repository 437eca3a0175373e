theorem dL_event_0 : decode cL_event 0 = .ok (.iload_n 1, 1) := by decide +kernel
theorem dL_event_1 : decode cL_event 1 = .ok (.bipush 7, 2) := by decide +kernel
theorem dL_event_3 : decode cL_event 3 = .ok (.iand, 1) := by decide +kernel
theorem dL_event_4 : decode cL_event 4 = .ok (.ifCond .ne 13, 3) := by decide +kernel
theorem dL_event_7 : decode cL_event 7 = .ok (.iload_n 2, 1) := by decide +kernel
theorem dL_event_8 : decode cL_event 8 = .ok (.sipush 400, 3) := by decide +kernel
theorem dL_event_11 : decode cL_event 11 = .ok (.invokestatic 51, 3) := by decide +kernel
theorem dL_event_14 : decode cL_event 14 = .ok (.goto 49, 3) := by decide +kernel
theorem dL_event_17 : decode cL_event 17 = .ok (.aload_n 0, 1) := by decide +kernel
theorem dL_event_18 : decode cL_event 18 = .ok (.bipush 6, 2) := by decide +kernel
theorem dL_event_20 : decode cL_event 20 = .ok (.invokevirtual 13, 3) := by decide +kernel
theorem dL_event_23 : decode cL_event 23 = .ok (.ifCond .ge 12, 3) := by decide +kernel
theorem dL_event_26 : decode cL_event 26 = .ok (.iload_n 2, 1) := by decide +kernel
theorem dL_event_27 : decode cL_event 27 = .ok (.bipush 60, 2) := by decide +kernel
theorem dL_event_29 : decode cL_event 29 = .ok (.invokestatic 51, 3) := by decide +kernel
theorem dL_event_32 : decode cL_event 32 = .ok (.goto 31, 3) := by decide +kernel
theorem dL_event_35 : decode cL_event 35 = .ok (.aload_n 0, 1) := by decide +kernel
theorem dL_event_36 : decode cL_event 36 = .ok (.bipush 6, 2) := by decide +kernel
theorem dL_event_38 : decode cL_event 38 = .ok (.invokevirtual 13, 3) := by decide +kernel
theorem dL_event_41 : decode cL_event 41 = .ok (.iload_n 2, 1) := by decide +kernel
theorem dL_event_42 : decode cL_event 42 = .ok (.bipush 24, 2) := by decide +kernel
theorem dL_event_44 : decode cL_event 44 = .ok (.invokestatic 51, 3) := by decide +kernel
theorem dL_event_47 : decode cL_event 47 = .ok (.iadd, 1) := by decide +kernel
theorem dL_event_48 : decode cL_event 48 = .ok (.iload_n 1, 1) := by decide +kernel
theorem dL_event_49 : decode cL_event 49 = .ok (.bipush 24, 2) := by decide +kernel
theorem dL_event_51 : decode cL_event 51 = .ok (.iand, 1) := by decide +kernel
theorem dL_event_52 : decode cL_event 52 = .ok (.ifCond .ne 8, 3) := by decide +kernel
theorem dL_event_55 : decode cL_event 55 = .ok (.bipush 60, 2) := by decide +kernel
theorem dL_event_57 : decode cL_event 57 = .ok (.goto 5, 3) := by decide +kernel
theorem dL_event_60 : decode cL_event 60 = .ok (.bipush 8, 2) := by decide +kernel
theorem dL_event_62 : decode cL_event 62 = .ok (.isub, 1) := by decide +kernel
theorem dL_event_63 : decode cL_event 63 = .ok (.istore_n 3, 1) := by decide +kernel
theorem dL_event_64 : decode cL_event 64 = .ok (.iload_n 3, 1) := by decide +kernel
theorem dL_event_65 : decode cL_event 65 = .ok (.ifCond .ge 7, 3) := by decide +kernel
theorem dL_event_68 : decode cL_event 68 = .ok (.iconst 0, 1) := by decide +kernel
theorem dL_event_69 : decode cL_event 69 = .ok (.goto 17, 3) := by decide +kernel
theorem dL_event_72 : decode cL_event 72 = .ok (.iload_n 3, 1) := by decide +kernel
theorem dL_event_73 : decode cL_event 73 = .ok (.sipush 1999, 3) := by decide +kernel
theorem dL_event_76 : decode cL_event 76 = .ok (.if_icmp .le 9, 3) := by decide +kernel
theorem dL_event_79 : decode cL_event 79 = .ok (.sipush 1999, 3) := by decide +kernel
theorem dL_event_82 : decode cL_event 82 = .ok (.goto 4, 3) := by decide +kernel
theorem dL_event_85 : decode cL_event 85 = .ok (.iload_n 3, 1) := by decide +kernel
theorem dL_event_86 : decode cL_event 86 = .ok (.istore_n 3, 1) := by decide +kernel
theorem dL_event_87 : decode cL_event 87 = .ok (.aload_n 0, 1) := by decide +kernel
theorem dL_event_88 : decode cL_event 88 = .ok (.iload_n 1, 1) := by decide +kernel
theorem dL_event_89 : decode cL_event 89 = .ok (.iconst 5, 1) := by decide +kernel
theorem dL_event_90 : decode cL_event 90 = .ok (.ishr, 1) := by decide +kernel
theorem dL_event_91 : decode cL_event 91 = .ok (.bipush 64, 2) := by decide +kernel
theorem dL_event_93 : decode cL_event 93 = .ok (.invokestatic 51, 3) := by decide +kernel
theorem dL_event_96 : decode cL_event 96 = .ok (.iload_n 3, 1) := by decide +kernel
theorem dL_event_97 : decode cL_event 97 = .ok (.iload_n 1, 1) := by decide +kernel
theorem dL_event_98 : decode cL_event 98 = .ok (.bipush 11, 2) := by decide +kernel
theorem dL_event_100 : decode cL_event 100 = .ok (.ishr, 1) := by decide +kernel
theorem dL_event_101 : decode cL_event 101 = .ok (.bipush 6, 2) := by decide +kernel
theorem dL_event_103 : decode cL_event 103 = .ok (.invokestatic 51, 3) := by decide +kernel
theorem dL_event_106 : decode cL_event 106 = .ok (.iload_n 2, 1) := by decide +kernel
theorem dL_event_107 : decode cL_event 107 = .ok (.iconst 5, 1) := by decide +kernel
theorem dL_event_108 : decode cL_event 108 = .ok (.ishr, 1) := by decide +kernel
theorem dL_event_109 : decode cL_event 109 = .ok (.sipush 201, 3) := by decide +kernel
theorem dL_event_112 : decode cL_event 112 = .ok (.invokestatic 51, 3) := by decide +kernel
