theorem dL_cases_0 : decode cL_cases 0 = .ok (.ldc2_w 9, 3) := by decide +kernel
theorem dL_cases_3 : decode cL_cases 3 = .ok (.lstore_n 2, 1) := by decide +kernel
theorem dL_cases_4 : decode cL_cases 4 = .ok (.aload_n 0, 1) := by decide +kernel
theorem dL_cases_5 : decode cL_cases 5 = .ok (.iconst (-1), 1) := by decide +kernel
theorem dL_cases_6 : decode cL_cases 6 = .ok (.invokevirtual 29, 3) := by decide +kernel
theorem dL_cases_9 : decode cL_cases 9 = .ok (.istore 4, 2) := by decide +kernel
theorem dL_cases_11 : decode cL_cases 11 = .ok (.iload 4, 2) := by decide +kernel
theorem dL_cases_13 : decode cL_cases 13 = .ok (.ifCond .lt 58, 3) := by decide +kernel
theorem dL_cases_16 : decode cL_cases 16 = .ok (.iload 4, 2) := by decide +kernel
theorem dL_cases_18 : decode cL_cases 18 = .ok (.iload_n 1, 1) := by decide +kernel
theorem dL_cases_19 : decode cL_cases 19 = .ok (.if_icmp .gt 52, 3) := by decide +kernel
theorem dL_cases_22 : decode cL_cases 22 = .ok (.aload_n 0, 1) := by decide +kernel
theorem dL_cases_23 : decode cL_cases 23 = .ok (.iload 4, 2) := by decide +kernel
theorem dL_cases_25 : decode cL_cases 25 = .ok (.iconst 0, 1) := by decide +kernel
theorem dL_cases_26 : decode cL_cases 26 = .ok (.invokevirtual 32, 3) := by decide +kernel
theorem dL_cases_29 : decode cL_cases 29 = .ok (.iconst 3, 1) := by decide +kernel
theorem dL_cases_30 : decode cL_cases 30 = .ok (.if_icmp .eq 7, 3) := by decide +kernel
theorem dL_cases_33 : decode cL_cases 33 = .ok (.lload_n 2, 1) := by decide +kernel
theorem dL_cases_34 : decode cL_cases 34 = .ok (.goto 25, 3) := by decide +kernel
theorem dL_cases_37 : decode cL_cases 37 = .ok (.ldc2_w 11, 3) := by decide +kernel
theorem dL_cases_40 : decode cL_cases 40 = .ok (.ldc2_w 11, 3) := by decide +kernel
theorem dL_cases_43 : decode cL_cases 43 = .ok (.lload_n 2, 1) := by decide +kernel
theorem dL_cases_44 : decode cL_cases 44 = .ok (.lmul, 1) := by decide +kernel
theorem dL_cases_45 : decode cL_cases 45 = .ok (.iload 4, 2) := by decide +kernel
theorem dL_cases_47 : decode cL_cases 47 = .ok (.i2l, 1) := by decide +kernel
theorem dL_cases_48 : decode cL_cases 48 = .ok (.ladd, 1) := by decide +kernel
theorem dL_cases_49 : decode cL_cases 49 = .ok (.lmul, 1) := by decide +kernel
theorem dL_cases_50 : decode cL_cases 50 = .ok (.aload_n 0, 1) := by decide +kernel
theorem dL_cases_51 : decode cL_cases 51 = .ok (.iload 4, 2) := by decide +kernel
theorem dL_cases_53 : decode cL_cases 53 = .ok (.iconst 2, 1) := by decide +kernel
theorem dL_cases_54 : decode cL_cases 54 = .ok (.invokevirtual 32, 3) := by decide +kernel
theorem dL_cases_57 : decode cL_cases 57 = .ok (.i2l, 1) := by decide +kernel
theorem dL_cases_58 : decode cL_cases 58 = .ok (.ladd, 1) := by decide +kernel
theorem dL_cases_59 : decode cL_cases 59 = .ok (.lstore_n 2, 1) := by decide +kernel
theorem dL_cases_60 : decode cL_cases 60 = .ok (.aload_n 0, 1) := by decide +kernel
theorem dL_cases_61 : decode cL_cases 61 = .ok (.iload 4, 2) := by decide +kernel
theorem dL_cases_63 : decode cL_cases 63 = .ok (.invokevirtual 29, 3) := by decide +kernel
theorem dL_cases_66 : decode cL_cases 66 = .ok (.istore 4, 2) := by decide +kernel
theorem dL_cases_68 : decode cL_cases 68 = .ok (.goto (-57), 3) := by decide +kernel
theorem dL_cases_71 : decode cL_cases 71 = .ok (.lload_n 2, 1) := by decide +kernel
theorem dL_cases_72 : decode cL_cases 72 = .ok (.lreturn, 1) := by decide +kernel
