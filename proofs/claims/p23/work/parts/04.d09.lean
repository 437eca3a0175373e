theorem dL_arePanes_0 : decode cL_arePanes 0 = .ok (.iconst 0, 1) := by decide +kernel
theorem dL_arePanes_1 : decode cL_arePanes 1 = .ok (.istore_n 1, 1) := by decide +kernel
theorem dL_arePanes_2 : decode cL_arePanes 2 = .ok (.iconst 0, 1) := by decide +kernel
theorem dL_arePanes_3 : decode cL_arePanes 3 = .ok (.istore_n 2, 1) := by decide +kernel
theorem dL_arePanes_4 : decode cL_arePanes 4 = .ok (.iconst 0, 1) := by decide +kernel
theorem dL_arePanes_5 : decode cL_arePanes 5 = .ok (.istore_n 3, 1) := by decide +kernel
theorem dL_arePanes_6 : decode cL_arePanes 6 = .ok (.iconst 1, 1) := by decide +kernel
theorem dL_arePanes_7 : decode cL_arePanes 7 = .ok (.istore 4, 2) := by decide +kernel
theorem dL_arePanes_9 : decode cL_arePanes 9 = .ok (.aload_n 0, 1) := by decide +kernel
theorem dL_arePanes_10 : decode cL_arePanes 10 = .ok (.iconst (-1), 1) := by decide +kernel
theorem dL_arePanes_11 : decode cL_arePanes 11 = .ok (.invokevirtual 29, 3) := by decide +kernel
theorem dL_arePanes_14 : decode cL_arePanes 14 = .ok (.istore 5, 2) := by decide +kernel
theorem dL_arePanes_16 : decode cL_arePanes 16 = .ok (.iload 5, 2) := by decide +kernel
theorem dL_arePanes_18 : decode cL_arePanes 18 = .ok (.ifCond .lt 265, 3) := by decide +kernel
theorem dL_arePanes_21 : decode cL_arePanes 21 = .ok (.iload 4, 2) := by decide +kernel
theorem dL_arePanes_23 : decode cL_arePanes 23 = .ok (.ifCond .eq 260, 3) := by decide +kernel
theorem dL_arePanes_26 : decode cL_arePanes 26 = .ok (.aload_n 0, 1) := by decide +kernel
theorem dL_arePanes_27 : decode cL_arePanes 27 = .ok (.iload 5, 2) := by decide +kernel
theorem dL_arePanes_29 : decode cL_arePanes 29 = .ok (.iconst 0, 1) := by decide +kernel
theorem dL_arePanes_30 : decode cL_arePanes 30 = .ok (.invokevirtual 32, 3) := by decide +kernel
theorem dL_arePanes_33 : decode cL_arePanes 33 = .ok (.istore 6, 2) := by decide +kernel
theorem dL_arePanes_35 : decode cL_arePanes 35 = .ok (.aload_n 0, 1) := by decide +kernel
theorem dL_arePanes_36 : decode cL_arePanes 36 = .ok (.iload 5, 2) := by decide +kernel
theorem dL_arePanes_38 : decode cL_arePanes 38 = .ok (.iconst 1, 1) := by decide +kernel
theorem dL_arePanes_39 : decode cL_arePanes 39 = .ok (.invokevirtual 32, 3) := by decide +kernel
theorem dL_arePanes_42 : decode cL_arePanes 42 = .ok (.istore 7, 2) := by decide +kernel
theorem dL_arePanes_44 : decode cL_arePanes 44 = .ok (.aload_n 0, 1) := by decide +kernel
theorem dL_arePanes_45 : decode cL_arePanes 45 = .ok (.iload 5, 2) := by decide +kernel
theorem dL_arePanes_47 : decode cL_arePanes 47 = .ok (.iconst 5, 1) := by decide +kernel
theorem dL_arePanes_48 : decode cL_arePanes 48 = .ok (.invokevirtual 32, 3) := by decide +kernel
theorem dL_arePanes_51 : decode cL_arePanes 51 = .ok (.aload_n 0, 1) := by decide +kernel
theorem dL_arePanes_52 : decode cL_arePanes 52 = .ok (.iload 5, 2) := by decide +kernel
theorem dL_arePanes_54 : decode cL_arePanes 54 = .ok (.bipush 6, 2) := by decide +kernel
theorem dL_arePanes_56 : decode cL_arePanes 56 = .ok (.invokevirtual 32, 3) := by decide +kernel
theorem dL_arePanes_59 : decode cL_arePanes 59 = .ok (.isub, 1) := by decide +kernel
theorem dL_arePanes_60 : decode cL_arePanes 60 = .ok (.istore 8, 2) := by decide +kernel
theorem dL_arePanes_62 : decode cL_arePanes 62 = .ok (.aload_n 0, 1) := by decide +kernel
theorem dL_arePanes_63 : decode cL_arePanes 63 = .ok (.iload 5, 2) := by decide +kernel
theorem dL_arePanes_65 : decode cL_arePanes 65 = .ok (.iconst 0, 1) := by decide +kernel
theorem dL_arePanes_66 : decode cL_arePanes 66 = .ok (.invokevirtual 38, 3) := by decide +kernel
theorem dL_arePanes_69 : decode cL_arePanes 69 = .ok (.ldc 62, 2) := by decide +kernel
theorem dL_arePanes_71 : decode cL_arePanes 71 = .ok (.if_icmp .eq 7, 3) := by decide +kernel
theorem dL_arePanes_74 : decode cL_arePanes 74 = .ok (.iconst 1, 1) := by decide +kernel
theorem dL_arePanes_75 : decode cL_arePanes 75 = .ok (.goto 4, 3) := by decide +kernel
theorem dL_arePanes_78 : decode cL_arePanes 78 = .ok (.iconst 0, 1) := by decide +kernel
theorem dL_arePanes_79 : decode cL_arePanes 79 = .ok (.istore 9, 2) := by decide +kernel
theorem dL_arePanes_81 : decode cL_arePanes 81 = .ok (.iload_n 1, 1) := by decide +kernel
theorem dL_arePanes_82 : decode cL_arePanes 82 = .ok (.iload 7, 2) := by decide +kernel
theorem dL_arePanes_84 : decode cL_arePanes 84 = .ok (.iadd, 1) := by decide +kernel
theorem dL_arePanes_85 : decode cL_arePanes 85 = .ok (.istore_n 1, 1) := by decide +kernel
theorem dL_arePanes_86 : decode cL_arePanes 86 = .ok (.iload_n 2, 1) := by decide +kernel
theorem dL_arePanes_87 : decode cL_arePanes 87 = .ok (.iload 9, 2) := by decide +kernel
theorem dL_arePanes_89 : decode cL_arePanes 89 = .ok (.ifCond .eq 7, 3) := by decide +kernel
theorem dL_arePanes_92 : decode cL_arePanes 92 = .ok (.iconst 1, 1) := by decide +kernel
theorem dL_arePanes_93 : decode cL_arePanes 93 = .ok (.goto 4, 3) := by decide +kernel
theorem dL_arePanes_96 : decode cL_arePanes 96 = .ok (.iconst 0, 1) := by decide +kernel
theorem dL_arePanes_97 : decode cL_arePanes 97 = .ok (.iadd, 1) := by decide +kernel
theorem dL_arePanes_98 : decode cL_arePanes 98 = .ok (.istore_n 2, 1) := by decide +kernel
theorem dL_arePanes_99 : decode cL_arePanes 99 = .ok (.iload_n 3, 1) := by decide +kernel
theorem dL_arePanes_100 : decode cL_arePanes 100 = .ok (.iload 6, 2) := by decide +kernel
