theorem dL_view_0 : decode cL_view 0 = .ok (.ldc2_w 9, 3) := by decide +kernel
theorem dL_view_3 : decode cL_view 3 = .ok (.lstore_n 1, 1) := by decide +kernel
theorem dL_view_4 : decode cL_view 4 = .ok (.iconst 0, 1) := by decide +kernel
theorem dL_view_5 : decode cL_view 5 = .ok (.istore_n 3, 1) := by decide +kernel
theorem dL_view_6 : decode cL_view 6 = .ok (.iload_n 3, 1) := by decide +kernel
theorem dL_view_7 : decode cL_view 7 = .ok (.bipush 12, 2) := by decide +kernel
theorem dL_view_9 : decode cL_view 9 = .ok (.if_icmp .ge 22, 3) := by decide +kernel
theorem dL_view_12 : decode cL_view 12 = .ok (.ldc2_w 11, 3) := by decide +kernel
theorem dL_view_15 : decode cL_view 15 = .ok (.lload_n 1, 1) := by decide +kernel
theorem dL_view_16 : decode cL_view 16 = .ok (.lmul, 1) := by decide +kernel
theorem dL_view_17 : decode cL_view 17 = .ok (.aload_n 0, 1) := by decide +kernel
theorem dL_view_18 : decode cL_view 18 = .ok (.iload_n 3, 1) := by decide +kernel
theorem dL_view_19 : decode cL_view 19 = .ok (.invokevirtual 13, 3) := by decide +kernel
theorem dL_view_22 : decode cL_view 22 = .ok (.i2l, 1) := by decide +kernel
theorem dL_view_23 : decode cL_view 23 = .ok (.ladd, 1) := by decide +kernel
theorem dL_view_24 : decode cL_view 24 = .ok (.lstore_n 1, 1) := by decide +kernel
theorem dL_view_25 : decode cL_view 25 = .ok (.iinc 3 1, 3) := by decide +kernel
theorem dL_view_28 : decode cL_view 28 = .ok (.goto (-22), 3) := by decide +kernel
theorem dL_view_31 : decode cL_view 31 = .ok (.bipush 20, 2) := by decide +kernel
theorem dL_view_33 : decode cL_view 33 = .ok (.istore_n 3, 1) := by decide +kernel
theorem dL_view_34 : decode cL_view 34 = .ok (.iload_n 3, 1) := by decide +kernel
theorem dL_view_35 : decode cL_view 35 = .ok (.bipush 23, 2) := by decide +kernel
theorem dL_view_37 : decode cL_view 37 = .ok (.if_icmp .ge 22, 3) := by decide +kernel
theorem dL_view_40 : decode cL_view 40 = .ok (.ldc2_w 11, 3) := by decide +kernel
theorem dL_view_43 : decode cL_view 43 = .ok (.lload_n 1, 1) := by decide +kernel
theorem dL_view_44 : decode cL_view 44 = .ok (.lmul, 1) := by decide +kernel
theorem dL_view_45 : decode cL_view 45 = .ok (.aload_n 0, 1) := by decide +kernel
theorem dL_view_46 : decode cL_view 46 = .ok (.iload_n 3, 1) := by decide +kernel
theorem dL_view_47 : decode cL_view 47 = .ok (.invokevirtual 13, 3) := by decide +kernel
theorem dL_view_50 : decode cL_view 50 = .ok (.i2l, 1) := by decide +kernel
theorem dL_view_51 : decode cL_view 51 = .ok (.ladd, 1) := by decide +kernel
theorem dL_view_52 : decode cL_view 52 = .ok (.lstore_n 1, 1) := by decide +kernel
theorem dL_view_53 : decode cL_view 53 = .ok (.iinc 3 1, 3) := by decide +kernel
theorem dL_view_56 : decode cL_view 56 = .ok (.goto (-22), 3) := by decide +kernel
theorem dL_view_59 : decode cL_view 59 = .ok (.iconst 0, 1) := by decide +kernel
theorem dL_view_60 : decode cL_view 60 = .ok (.istore_n 3, 1) := by decide +kernel
theorem dL_view_61 : decode cL_view 61 = .ok (.iload_n 3, 1) := by decide +kernel
theorem dL_view_62 : decode cL_view 62 = .ok (.bipush 64, 2) := by decide +kernel
theorem dL_view_64 : decode cL_view 64 = .ok (.if_icmp .ge 40, 3) := by decide +kernel
theorem dL_view_67 : decode cL_view 67 = .ok (.iconst 0, 1) := by decide +kernel
theorem dL_view_68 : decode cL_view 68 = .ok (.istore 4, 2) := by decide +kernel
theorem dL_view_70 : decode cL_view 70 = .ok (.iload 4, 2) := by decide +kernel
theorem dL_view_72 : decode cL_view 72 = .ok (.bipush 6, 2) := by decide +kernel
theorem dL_view_74 : decode cL_view 74 = .ok (.if_icmp .ge 24, 3) := by decide +kernel
theorem dL_view_77 : decode cL_view 77 = .ok (.ldc2_w 11, 3) := by decide +kernel
theorem dL_view_80 : decode cL_view 80 = .ok (.lload_n 1, 1) := by decide +kernel
theorem dL_view_81 : decode cL_view 81 = .ok (.lmul, 1) := by decide +kernel
theorem dL_view_82 : decode cL_view 82 = .ok (.aload_n 0, 1) := by decide +kernel
theorem dL_view_83 : decode cL_view 83 = .ok (.iload_n 3, 1) := by decide +kernel
theorem dL_view_84 : decode cL_view 84 = .ok (.iload 4, 2) := by decide +kernel
theorem dL_view_86 : decode cL_view 86 = .ok (.invokevirtual 19, 3) := by decide +kernel
theorem dL_view_89 : decode cL_view 89 = .ok (.i2l, 1) := by decide +kernel
theorem dL_view_90 : decode cL_view 90 = .ok (.ladd, 1) := by decide +kernel
theorem dL_view_91 : decode cL_view 91 = .ok (.lstore_n 1, 1) := by decide +kernel
theorem dL_view_92 : decode cL_view 92 = .ok (.iinc 4 1, 3) := by decide +kernel
theorem dL_view_95 : decode cL_view 95 = .ok (.goto (-25), 3) := by decide +kernel
theorem dL_view_98 : decode cL_view 98 = .ok (.iinc 3 1, 3) := by decide +kernel
theorem dL_view_101 : decode cL_view 101 = .ok (.goto (-40), 3) := by decide +kernel
theorem dL_view_104 : decode cL_view 104 = .ok (.iconst 0, 1) := by decide +kernel
theorem dL_view_105 : decode cL_view 105 = .ok (.istore_n 3, 1) := by decide +kernel
