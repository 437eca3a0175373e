theorem dL_any_0 : decode cL_any 0 = .ok (.iload_n 2, 1) := by decide +kernel
theorem dL_any_1 : decode cL_any 1 = .ok (.iconst 3, 1) := by decide +kernel
theorem dL_any_2 : decode cL_any 2 = .ok (.iand, 1) := by decide +kernel
theorem dL_any_3 : decode cL_any 3 = .ok (.tableswitch 48 0 2 #[25, 32, 42], 25) := by decide +kernel
theorem dL_any_28 : decode cL_any 28 = .ok (.aload_n 0, 1) := by decide +kernel
theorem dL_any_29 : decode cL_any 29 = .ok (.iload_n 1, 1) := by decide +kernel
theorem dL_any_30 : decode cL_any 30 = .ok (.iload_n 2, 1) := by decide +kernel
theorem dL_any_31 : decode cL_any 31 = .ok (.invokevirtual 41, 3) := by decide +kernel
theorem dL_any_34 : decode cL_any 34 = .ok (.ireturn, 1) := by decide +kernel
theorem dL_any_35 : decode cL_any 35 = .ok (.aload_n 0, 1) := by decide +kernel
theorem dL_any_36 : decode cL_any 36 = .ok (.iload_n 1, 1) := by decide +kernel
theorem dL_any_37 : decode cL_any 37 = .ok (.iload_n 2, 1) := by decide +kernel
theorem dL_any_38 : decode cL_any 38 = .ok (.iload_n 1, 1) := by decide +kernel
theorem dL_any_39 : decode cL_any 39 = .ok (.iload_n 2, 1) := by decide +kernel
theorem dL_any_40 : decode cL_any 40 = .ok (.iload_n 1, 1) := by decide +kernel
theorem dL_any_41 : decode cL_any 41 = .ok (.invokevirtual 44, 3) := by decide +kernel
theorem dL_any_44 : decode cL_any 44 = .ok (.ireturn, 1) := by decide +kernel
theorem dL_any_45 : decode cL_any 45 = .ok (.aload_n 0, 1) := by decide +kernel
theorem dL_any_46 : decode cL_any 46 = .ok (.iload_n 1, 1) := by decide +kernel
theorem dL_any_47 : decode cL_any 47 = .ok (.invokevirtual 48, 3) := by decide +kernel
theorem dL_any_50 : decode cL_any 50 = .ok (.ireturn, 1) := by decide +kernel
theorem dL_any_51 : decode cL_any 51 = .ok (.aload_n 0, 1) := by decide +kernel
theorem dL_any_52 : decode cL_any 52 = .ok (.iload_n 2, 1) := by decide +kernel
theorem dL_any_53 : decode cL_any 53 = .ok (.bipush 63, 2) := by decide +kernel
theorem dL_any_55 : decode cL_any 55 = .ok (.iand, 1) := by decide +kernel
theorem dL_any_56 : decode cL_any 56 = .ok (.iload_n 1, 1) := by decide +kernel
theorem dL_any_57 : decode cL_any 57 = .ok (.iload_n 2, 1) := by decide +kernel
theorem dL_any_58 : decode cL_any 58 = .ok (.bipush 7, 2) := by decide +kernel
theorem dL_any_60 : decode cL_any 60 = .ok (.iand, 1) := by decide +kernel
theorem dL_any_61 : decode cL_any 61 = .ok (.iload_n 1, 1) := by decide +kernel
theorem dL_any_62 : decode cL_any 62 = .ok (.iload_n 2, 1) := by decide +kernel
theorem dL_any_63 : decode cL_any 63 = .ok (.iconst 3, 1) := by decide +kernel
theorem dL_any_64 : decode cL_any 64 = .ok (.ishr, 1) := by decide +kernel
theorem dL_any_65 : decode cL_any 65 = .ok (.invokevirtual 44, 3) := by decide +kernel
theorem dL_any_68 : decode cL_any 68 = .ok (.ireturn, 1) := by decide +kernel
