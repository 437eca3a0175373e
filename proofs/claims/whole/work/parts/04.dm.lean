theorem dX9_init_0 : decode cX9_init 0 = .ok (.aload_n 0, 1) := by decide +kernel
theorem dX9_init_1 : decode cX9_init 1 = .ok (.invokespecial 1, 3) := by decide +kernel
theorem dX9_init_4 : decode cX9_init 4 = .ok (.aload_n 0, 1) := by decide +kernel
theorem dX9_init_5 : decode cX9_init 5 = .ok (.sipush 1080, 3) := by decide +kernel
theorem dX9_init_8 : decode cX9_init 8 = .ok (.newarray .int, 2) := by decide +kernel
theorem dX9_init_10 : decode cX9_init 10 = .ok (.putfield 7, 3) := by decide +kernel
theorem dX9_init_13 : decode cX9_init 13 = .ok (.aload_n 0, 1) := by decide +kernel
theorem dX9_init_14 : decode cX9_init 14 = .ok (.sipush 4320, 3) := by decide +kernel
theorem dX9_init_17 : decode cX9_init 17 = .ok (.newarray .int, 2) := by decide +kernel
theorem dX9_init_19 : decode cX9_init 19 = .ok (.putfield 13, 3) := by decide +kernel
theorem dX9_init_22 : decode cX9_init 22 = .ok (.aload_n 0, 1) := by decide +kernel
theorem dX9_init_23 : decode cX9_init 23 = .ok (.bipush 80, 2) := by decide +kernel
theorem dX9_init_25 : decode cX9_init 25 = .ok (.newarray .int, 2) := by decide +kernel
theorem dX9_init_27 : decode cX9_init 27 = .ok (.putfield 16, 3) := by decide +kernel
theorem dX9_init_30 : decode cX9_init 30 = .ok (.aload_n 0, 1) := by decide +kernel
theorem dX9_init_31 : decode cX9_init 31 = .ok (.iconst 5, 1) := by decide +kernel
theorem dX9_init_32 : decode cX9_init 32 = .ok (.newarray .int, 2) := by decide +kernel
theorem dX9_init_34 : decode cX9_init 34 = .ok (.putfield 19, 3) := by decide +kernel
theorem dX9_init_37 : decode cX9_init 37 = .ok (.aload_n 0, 1) := by decide +kernel
theorem dX9_init_38 : decode cX9_init 38 = .ok (.getfield 7, 3) := by decide +kernel
theorem dX9_init_41 : decode cX9_init 41 = .ok (.iconst 0, 1) := by decide +kernel
theorem dX9_init_42 : decode cX9_init 42 = .ok (.iconst (-1), 1) := by decide +kernel
theorem dX9_init_43 : decode cX9_init 43 = .ok (.iastore, 1) := by decide +kernel
theorem dX9_init_44 : decode cX9_init 44 = .ok (.aload_n 0, 1) := by decide +kernel
theorem dX9_init_45 : decode cX9_init 45 = .ok (.getfield 7, 3) := by decide +kernel
theorem dX9_init_48 : decode cX9_init 48 = .ok (.iconst 1, 1) := by decide +kernel
theorem dX9_init_49 : decode cX9_init 49 = .ok (.iconst (-1), 1) := by decide +kernel
theorem dX9_init_50 : decode cX9_init 50 = .ok (.iastore, 1) := by decide +kernel
theorem dX9_init_51 : decode cX9_init 51 = .ok (.aload_n 0, 1) := by decide +kernel
theorem dX9_init_52 : decode cX9_init 52 = .ok (.getfield 7, 3) := by decide +kernel
theorem dX9_init_55 : decode cX9_init 55 = .ok (.bipush 6, 2) := by decide +kernel
theorem dX9_init_57 : decode cX9_init 57 = .ok (.bipush 10, 2) := by decide +kernel
theorem dX9_init_59 : decode cX9_init 59 = .ok (.iastore, 1) := by decide +kernel
theorem dX9_init_60 : decode cX9_init 60 = .ok (.aload_n 0, 1) := by decide +kernel
theorem dX9_init_61 : decode cX9_init 61 = .ok (.getfield 7, 3) := by decide +kernel
theorem dX9_init_64 : decode cX9_init 64 = .ok (.bipush 7, 2) := by decide +kernel
theorem dX9_init_66 : decode cX9_init 66 = .ok (.iconst 5, 1) := by decide +kernel
theorem dX9_init_67 : decode cX9_init 67 = .ok (.iastore, 1) := by decide +kernel
theorem dX9_init_68 : decode cX9_init 68 = .ok (.aload_n 0, 1) := by decide +kernel
theorem dX9_init_69 : decode cX9_init 69 = .ok (.getfield 7, 3) := by decide +kernel
theorem dX9_init_72 : decode cX9_init 72 = .ok (.bipush 8, 2) := by decide +kernel
theorem dX9_init_74 : decode cX9_init 74 = .ok (.bipush 10, 2) := by decide +kernel
theorem dX9_init_76 : decode cX9_init 76 = .ok (.iastore, 1) := by decide +kernel
theorem dX9_init_77 : decode cX9_init 77 = .ok (.return_, 1) := by decide +kernel
theorem dX9_isIn_0 : decode cX9_isIn 0 = .ok (.iload_n 0, 1) := by decide +kernel
theorem dX9_isIn_1 : decode cX9_isIn 1 = .ok (.iload_n 1, 1) := by decide +kernel
theorem dX9_isIn_2 : decode cX9_isIn 2 = .ok (.if_icmp .lt 12, 3) := by decide +kernel
theorem dX9_isIn_5 : decode cX9_isIn 5 = .ok (.iload_n 0, 1) := by decide +kernel
theorem dX9_isIn_6 : decode cX9_isIn 6 = .ok (.iload_n 2, 1) := by decide +kernel
theorem dX9_isIn_7 : decode cX9_isIn 7 = .ok (.if_icmp .gt 7, 3) := by decide +kernel
theorem dX9_isIn_10 : decode cX9_isIn 10 = .ok (.iconst 1, 1) := by decide +kernel
theorem dX9_isIn_11 : decode cX9_isIn 11 = .ok (.goto 4, 3) := by decide +kernel
theorem dX9_isIn_14 : decode cX9_isIn 14 = .ok (.iconst 0, 1) := by decide +kernel
theorem dX9_isIn_15 : decode cX9_isIn 15 = .ok (.ireturn, 1) := by decide +kernel
theorem dX9_ofE_0 : decode cX9_ofE 0 = .ok (.aload_n 0, 1) := by decide +kernel
theorem dX9_ofE_1 : decode cX9_ofE 1 = .ok (.getfield 7, 3) := by decide +kernel
theorem dX9_ofE_4 : decode cX9_ofE 4 = .ok (.bipush 12, 2) := by decide +kernel
theorem dX9_ofE_6 : decode cX9_ofE 6 = .ok (.bipush 6, 2) := by decide +kernel
theorem dX9_ofE_8 : decode cX9_ofE 8 = .ok (.iload_n 1, 1) := by decide +kernel
theorem dX9_ofE_9 : decode cX9_ofE 9 = .ok (.imul, 1) := by decide +kernel
theorem dX9_ofE_10 : decode cX9_ofE 10 = .ok (.iadd, 1) := by decide +kernel
theorem dX9_ofE_11 : decode cX9_ofE 11 = .ok (.iload_n 2, 1) := by decide +kernel
theorem dX9_ofE_12 : decode cX9_ofE 12 = .ok (.iadd, 1) := by decide +kernel
theorem dX9_ofE_13 : decode cX9_ofE 13 = .ok (.iaload, 1) := by decide +kernel
theorem dX9_ofE_14 : decode cX9_ofE 14 = .ok (.ireturn, 1) := by decide +kernel
theorem dX9_ofP_0 : decode cX9_ofP 0 = .ok (.aload_n 0, 1) := by decide +kernel
theorem dX9_ofP_1 : decode cX9_ofP 1 = .ok (.getfield 7, 3) := by decide +kernel
theorem dX9_ofP_4 : decode cX9_ofP 4 = .ok (.sipush 396, 3) := by decide +kernel
theorem dX9_ofP_7 : decode cX9_ofP 7 = .ok (.bipush 8, 2) := by decide +kernel
theorem dX9_ofP_9 : decode cX9_ofP 9 = .ok (.iload_n 1, 1) := by decide +kernel
theorem dX9_ofP_10 : decode cX9_ofP 10 = .ok (.imul, 1) := by decide +kernel
theorem dX9_ofP_11 : decode cX9_ofP 11 = .ok (.iadd, 1) := by decide +kernel
theorem dX9_ofP_12 : decode cX9_ofP 12 = .ok (.iload_n 2, 1) := by decide +kernel
theorem dX9_ofP_13 : decode cX9_ofP 13 = .ok (.iadd, 1) := by decide +kernel
theorem dX9_ofP_14 : decode cX9_ofP 14 = .ok (.iaload, 1) := by decide +kernel
theorem dX9_ofP_15 : decode cX9_ofP 15 = .ok (.ireturn, 1) := by decide +kernel
theorem dX9_setsP_0 : decode cX9_setsP 0 = .ok (.aload_n 0, 1) := by decide +kernel
theorem dX9_setsP_1 : decode cX9_setsP 1 = .ok (.getfield 7, 3) := by decide +kernel
theorem dX9_setsP_4 : decode cX9_setsP 4 = .ok (.sipush 396, 3) := by decide +kernel
theorem dX9_setsP_7 : decode cX9_setsP 7 = .ok (.bipush 8, 2) := by decide +kernel
theorem dX9_setsP_9 : decode cX9_setsP 9 = .ok (.iload_n 1, 1) := by decide +kernel
theorem dX9_setsP_10 : decode cX9_setsP 10 = .ok (.imul, 1) := by decide +kernel
theorem dX9_setsP_11 : decode cX9_setsP 11 = .ok (.iadd, 1) := by decide +kernel
theorem dX9_setsP_12 : decode cX9_setsP 12 = .ok (.iload_n 2, 1) := by decide +kernel
theorem dX9_setsP_13 : decode cX9_setsP 13 = .ok (.iadd, 1) := by decide +kernel
theorem dX9_setsP_14 : decode cX9_setsP 14 = .ok (.iload_n 3, 1) := by decide +kernel
theorem dX9_setsP_15 : decode cX9_setsP 15 = .ok (.iastore, 1) := by decide +kernel
theorem dX9_setsP_16 : decode cX9_setsP 16 = .ok (.return_, 1) := by decide +kernel
theorem dX9_records_0 : decode cX9_records 0 = .ok (.aload_n 0, 1) := by decide +kernel
theorem dX9_records_1 : decode cX9_records 1 = .ok (.getfield 22, 3) := by decide +kernel
theorem dX9_records_4 : decode cX9_records 4 = .ok (.iconst 4, 1) := by decide +kernel
theorem dX9_records_5 : decode cX9_records 5 = .ok (.if_icmp .ne 44, 3) := by decide +kernel
theorem dX9_records_8 : decode cX9_records 8 = .ok (.iconst 0, 1) := by decide +kernel
theorem dX9_records_9 : decode cX9_records 9 = .ok (.istore_n 1, 1) := by decide +kernel
theorem dX9_records_10 : decode cX9_records 10 = .ok (.iload_n 1, 1) := by decide +kernel
theorem dX9_records_11 : decode cX9_records 11 = .ok (.sipush 3240, 3) := by decide +kernel
theorem dX9_records_14 : decode cX9_records 14 = .ok (.if_icmp .ge 25, 3) := by decide +kernel
theorem dX9_records_17 : decode cX9_records 17 = .ok (.aload_n 0, 1) := by decide +kernel
theorem dX9_records_18 : decode cX9_records 18 = .ok (.getfield 13, 3) := by decide +kernel
theorem dX9_records_21 : decode cX9_records 21 = .ok (.iload_n 1, 1) := by decide +kernel
theorem dX9_records_22 : decode cX9_records 22 = .ok (.aload_n 0, 1) := by decide +kernel
theorem dX9_records_23 : decode cX9_records 23 = .ok (.getfield 13, 3) := by decide +kernel
theorem dX9_records_26 : decode cX9_records 26 = .ok (.iload_n 1, 1) := by decide +kernel
theorem dX9_records_27 : decode cX9_records 27 = .ok (.sipush 1080, 3) := by decide +kernel
theorem dX9_records_30 : decode cX9_records 30 = .ok (.iadd, 1) := by decide +kernel
theorem dX9_records_31 : decode cX9_records 31 = .ok (.iaload, 1) := by decide +kernel
theorem dX9_records_32 : decode cX9_records 32 = .ok (.iastore, 1) := by decide +kernel
theorem dX9_records_33 : decode cX9_records 33 = .ok (.iinc 1 1, 3) := by decide +kernel
theorem dX9_records_36 : decode cX9_records 36 = .ok (.goto (-26), 3) := by decide +kernel
theorem dX9_records_39 : decode cX9_records 39 = .ok (.aload_n 0, 1) := by decide +kernel
theorem dX9_records_40 : decode cX9_records 40 = .ok (.dup, 1) := by decide +kernel
theorem dX9_records_41 : decode cX9_records 41 = .ok (.getfield 22, 3) := by decide +kernel
theorem dX9_records_44 : decode cX9_records 44 = .ok (.iconst 1, 1) := by decide +kernel
theorem dX9_records_45 : decode cX9_records 45 = .ok (.isub, 1) := by decide +kernel
theorem dX9_records_46 : decode cX9_records 46 = .ok (.putfield 22, 3) := by decide +kernel
theorem dX9_records_49 : decode cX9_records 49 = .ok (.iconst 0, 1) := by decide +kernel
theorem dX9_records_50 : decode cX9_records 50 = .ok (.istore_n 1, 1) := by decide +kernel
theorem dX9_records_51 : decode cX9_records 51 = .ok (.iload_n 1, 1) := by decide +kernel
theorem dX9_records_52 : decode cX9_records 52 = .ok (.sipush 1080, 3) := by decide +kernel
theorem dX9_records_55 : decode cX9_records 55 = .ok (.if_icmp .ge 30, 3) := by decide +kernel
theorem dX9_records_58 : decode cX9_records 58 = .ok (.aload_n 0, 1) := by decide +kernel
theorem dX9_records_59 : decode cX9_records 59 = .ok (.getfield 13, 3) := by decide +kernel
theorem dX9_records_62 : decode cX9_records 62 = .ok (.aload_n 0, 1) := by decide +kernel
theorem dX9_records_63 : decode cX9_records 63 = .ok (.getfield 22, 3) := by decide +kernel
theorem dX9_records_66 : decode cX9_records 66 = .ok (.sipush 1080, 3) := by decide +kernel
theorem dX9_records_69 : decode cX9_records 69 = .ok (.imul, 1) := by decide +kernel
theorem dX9_records_70 : decode cX9_records 70 = .ok (.iload_n 1, 1) := by decide +kernel
theorem dX9_records_71 : decode cX9_records 71 = .ok (.iadd, 1) := by decide +kernel
theorem dX9_records_72 : decode cX9_records 72 = .ok (.aload_n 0, 1) := by decide +kernel
theorem dX9_records_73 : decode cX9_records 73 = .ok (.getfield 7, 3) := by decide +kernel
theorem dX9_records_76 : decode cX9_records 76 = .ok (.iload_n 1, 1) := by decide +kernel
theorem dX9_records_77 : decode cX9_records 77 = .ok (.iaload, 1) := by decide +kernel
theorem dX9_records_78 : decode cX9_records 78 = .ok (.iastore, 1) := by decide +kernel
theorem dX9_records_79 : decode cX9_records 79 = .ok (.iinc 1 1, 3) := by decide +kernel
theorem dX9_records_82 : decode cX9_records 82 = .ok (.goto (-31), 3) := by decide +kernel
theorem dX9_records_85 : decode cX9_records 85 = .ok (.aload_n 0, 1) := by decide +kernel
theorem dX9_records_86 : decode cX9_records 86 = .ok (.dup, 1) := by decide +kernel
theorem dX9_records_87 : decode cX9_records 87 = .ok (.getfield 22, 3) := by decide +kernel
theorem dX9_records_90 : decode cX9_records 90 = .ok (.iconst 1, 1) := by decide +kernel
theorem dX9_records_91 : decode cX9_records 91 = .ok (.iadd, 1) := by decide +kernel
theorem dX9_records_92 : decode cX9_records 92 = .ok (.putfield 22, 3) := by decide +kernel
theorem dX9_records_95 : decode cX9_records 95 = .ok (.return_, 1) := by decide +kernel
theorem dX9_undo_0 : decode cX9_undo 0 = .ok (.aload_n 0, 1) := by decide +kernel
theorem dX9_undo_1 : decode cX9_undo 1 = .ok (.getfield 22, 3) := by decide +kernel
theorem dX9_undo_4 : decode cX9_undo 4 = .ok (.ifCond .ne 6, 3) := by decide +kernel
theorem dX9_undo_7 : decode cX9_undo 7 = .ok (.ldc 26, 2) := by decide +kernel
theorem dX9_undo_9 : decode cX9_undo 9 = .ok (.ireturn, 1) := by decide +kernel
theorem dX9_undo_10 : decode cX9_undo 10 = .ok (.aload_n 0, 1) := by decide +kernel
theorem dX9_undo_11 : decode cX9_undo 11 = .ok (.dup, 1) := by decide +kernel
theorem dX9_undo_12 : decode cX9_undo 12 = .ok (.getfield 22, 3) := by decide +kernel
theorem dX9_undo_15 : decode cX9_undo 15 = .ok (.iconst 1, 1) := by decide +kernel
theorem dX9_undo_16 : decode cX9_undo 16 = .ok (.isub, 1) := by decide +kernel
theorem dX9_undo_17 : decode cX9_undo 17 = .ok (.putfield 22, 3) := by decide +kernel
theorem dX9_undo_20 : decode cX9_undo 20 = .ok (.iconst 0, 1) := by decide +kernel
theorem dX9_undo_21 : decode cX9_undo 21 = .ok (.istore_n 1, 1) := by decide +kernel
theorem dX9_undo_22 : decode cX9_undo 22 = .ok (.iload_n 1, 1) := by decide +kernel
theorem dX9_undo_23 : decode cX9_undo 23 = .ok (.sipush 1080, 3) := by decide +kernel
theorem dX9_undo_26 : decode cX9_undo 26 = .ok (.if_icmp .ge 30, 3) := by decide +kernel
theorem dX9_undo_29 : decode cX9_undo 29 = .ok (.aload_n 0, 1) := by decide +kernel
theorem dX9_undo_30 : decode cX9_undo 30 = .ok (.getfield 7, 3) := by decide +kernel
theorem dX9_undo_33 : decode cX9_undo 33 = .ok (.iload_n 1, 1) := by decide +kernel
theorem dX9_undo_34 : decode cX9_undo 34 = .ok (.aload_n 0, 1) := by decide +kernel
theorem dX9_undo_35 : decode cX9_undo 35 = .ok (.getfield 13, 3) := by decide +kernel
theorem dX9_undo_38 : decode cX9_undo 38 = .ok (.aload_n 0, 1) := by decide +kernel
theorem dX9_undo_39 : decode cX9_undo 39 = .ok (.getfield 22, 3) := by decide +kernel
theorem dX9_undo_42 : decode cX9_undo 42 = .ok (.sipush 1080, 3) := by decide +kernel
theorem dX9_undo_45 : decode cX9_undo 45 = .ok (.imul, 1) := by decide +kernel
theorem dX9_undo_46 : decode cX9_undo 46 = .ok (.iload_n 1, 1) := by decide +kernel
theorem dX9_undo_47 : decode cX9_undo 47 = .ok (.iadd, 1) := by decide +kernel
theorem dX9_undo_48 : decode cX9_undo 48 = .ok (.iaload, 1) := by decide +kernel
theorem dX9_undo_49 : decode cX9_undo 49 = .ok (.iastore, 1) := by decide +kernel
theorem dX9_undo_50 : decode cX9_undo 50 = .ok (.iinc 1 1, 3) := by decide +kernel
theorem dX9_undo_53 : decode cX9_undo 53 = .ok (.goto (-31), 3) := by decide +kernel
theorem dX9_undo_56 : decode cX9_undo 56 = .ok (.aload_n 0, 1) := by decide +kernel
theorem dX9_undo_57 : decode cX9_undo 57 = .ok (.getfield 22, 3) := by decide +kernel
theorem dX9_undo_60 : decode cX9_undo 60 = .ok (.ireturn, 1) := by decide +kernel
set_option maxRecDepth 20000 in
theorem ggX9_set_X9_isIn : GoodIn wsX9_set wsX9_isIn := goodIn_r _ [7] (by decide +kernel) (by decide +kernel)
set_option maxRecDepth 20000 in
theorem gX9_set_X9_isIn : GoodIn wsX9_set (va_wsS RX9 27 yX9_isIn wsX9_isIn) := goodIn_app (goodIn_of _ (by decide +kernel)) ggX9_set_X9_isIn
set_option maxRecDepth 20000 in
theorem ggX9_set_X9_records : GoodIn wsX9_set wsX9_records := goodIn_r _ [11, 12, 13, 2, 14, 15, 16, 17, 18, 19, 20, 21] (by decide +kernel) (by decide +kernel)
set_option maxRecDepth 20000 in
theorem gX9_set_X9_records : GoodIn wsX9_set (wsV RX9 32 RX9 yX9_records wsX9_records) := goodIn_app (goodIn_of _ (by decide +kernel)) ggX9_set_X9_records
theorem dX9_set_0 : decode cX9_set 0 = .ok (.iload_n 1, 1) := by decide +kernel
theorem dX9_set_1 : decode cX9_set 1 = .ok (.iconst 0, 1) := by decide +kernel
theorem dX9_set_2 : decode cX9_set 2 = .ok (.iconst 2, 1) := by decide +kernel
theorem dX9_set_3 : decode cX9_set 3 = .ok (.invokestatic 27, 3) := by decide +kernel
theorem dX9_set_6 : decode cX9_set 6 = .ok (.ifCond .eq 21, 3) := by decide +kernel
theorem dX9_set_9 : decode cX9_set 9 = .ok (.iload_n 2, 1) := by decide +kernel
theorem dX9_set_10 : decode cX9_set 10 = .ok (.iload_n 1, 1) := by decide +kernel
theorem dX9_set_11 : decode cX9_set 11 = .ok (.ifCond .ne 7, 3) := by decide +kernel
theorem dX9_set_14 : decode cX9_set 14 = .ok (.iconst 1, 1) := by decide +kernel
theorem dX9_set_15 : decode cX9_set 15 = .ok (.goto 4, 3) := by decide +kernel
theorem dX9_set_18 : decode cX9_set 18 = .ok (.iconst 0, 1) := by decide +kernel
theorem dX9_set_19 : decode cX9_set 19 = .ok (.bipush 100, 2) := by decide +kernel
theorem dX9_set_21 : decode cX9_set 21 = .ok (.invokestatic 27, 3) := by decide +kernel
theorem dX9_set_24 : decode cX9_set 24 = .ok (.ifCond .ne 6, 3) := by decide +kernel
theorem dX9_set_27 : decode cX9_set 27 = .ok (.ldc 31, 2) := by decide +kernel
theorem dX9_set_29 : decode cX9_set 29 = .ok (.ireturn, 1) := by decide +kernel
theorem dX9_set_30 : decode cX9_set 30 = .ok (.iload_n 1, 1) := by decide +kernel
theorem dX9_set_31 : decode cX9_set 31 = .ok (.ifCond .ne 17, 3) := by decide +kernel
theorem dX9_set_34 : decode cX9_set 34 = .ok (.aload_n 0, 1) := by decide +kernel
theorem dX9_set_35 : decode cX9_set 35 = .ok (.getfield 7, 3) := by decide +kernel
theorem dX9_set_38 : decode cX9_set 38 = .ok (.bipush 11, 2) := by decide +kernel
theorem dX9_set_40 : decode cX9_set 40 = .ok (.iaload, 1) := by decide +kernel
theorem dX9_set_41 : decode cX9_set 41 = .ok (.iconst 1, 1) := by decide +kernel
theorem dX9_set_42 : decode cX9_set 42 = .ok (.if_icmp .ne 6, 3) := by decide +kernel
theorem dX9_set_45 : decode cX9_set 45 = .ok (.ldc 26, 2) := by decide +kernel
theorem dX9_set_47 : decode cX9_set 47 = .ok (.ireturn, 1) := by decide +kernel
theorem dX9_set_48 : decode cX9_set 48 = .ok (.aload_n 0, 1) := by decide +kernel
theorem dX9_set_49 : decode cX9_set 49 = .ok (.invokevirtual 32, 3) := by decide +kernel
theorem dX9_set_52 : decode cX9_set 52 = .ok (.aload_n 0, 1) := by decide +kernel
theorem dX9_set_53 : decode cX9_set 53 = .ok (.getfield 7, 3) := by decide +kernel
theorem dX9_set_56 : decode cX9_set 56 = .ok (.bipush 6, 2) := by decide +kernel
theorem dX9_set_58 : decode cX9_set 58 = .ok (.iload_n 1, 1) := by decide +kernel
theorem dX9_set_59 : decode cX9_set 59 = .ok (.iadd, 1) := by decide +kernel
theorem dX9_set_60 : decode cX9_set 60 = .ok (.iaload, 1) := by decide +kernel
theorem dX9_set_61 : decode cX9_set 61 = .ok (.istore_n 3, 1) := by decide +kernel
theorem dX9_set_62 : decode cX9_set 62 = .ok (.aload_n 0, 1) := by decide +kernel
theorem dX9_set_63 : decode cX9_set 63 = .ok (.getfield 7, 3) := by decide +kernel
theorem dX9_set_66 : decode cX9_set 66 = .ok (.bipush 6, 2) := by decide +kernel
theorem dX9_set_68 : decode cX9_set 68 = .ok (.iload_n 1, 1) := by decide +kernel
theorem dX9_set_69 : decode cX9_set 69 = .ok (.iadd, 1) := by decide +kernel
theorem dX9_set_70 : decode cX9_set 70 = .ok (.iload_n 2, 1) := by decide +kernel
theorem dX9_set_71 : decode cX9_set 71 = .ok (.iastore, 1) := by decide +kernel
theorem dX9_set_72 : decode cX9_set 72 = .ok (.iload_n 3, 1) := by decide +kernel
theorem dX9_set_73 : decode cX9_set 73 = .ok (.ireturn, 1) := by decide +kernel
theorem dX9_paneAt_0 : decode cX9_paneAt 0 = .ok (.iload_n 1, 1) := by decide +kernel
theorem dX9_paneAt_1 : decode cX9_paneAt 1 = .ok (.aload_n 0, 1) := by decide +kernel
theorem dX9_paneAt_2 : decode cX9_paneAt 2 = .ok (.getfield 7, 3) := by decide +kernel
theorem dX9_paneAt_5 : decode cX9_paneAt 5 = .ok (.bipush 6, 2) := by decide +kernel
theorem dX9_paneAt_7 : decode cX9_paneAt 7 = .ok (.iaload, 1) := by decide +kernel
theorem dX9_paneAt_8 : decode cX9_paneAt 8 = .ok (.idiv, 1) := by decide +kernel
theorem dX9_paneAt_9 : decode cX9_paneAt 9 = .ok (.ireturn, 1) := by decide +kernel
theorem dX9_endOf_0 : decode cX9_endOf 0 = .ok (.iload_n 1, 1) := by decide +kernel
theorem dX9_endOf_1 : decode cX9_endOf 1 = .ok (.iconst 1, 1) := by decide +kernel
theorem dX9_endOf_2 : decode cX9_endOf 2 = .ok (.iadd, 1) := by decide +kernel
theorem dX9_endOf_3 : decode cX9_endOf 3 = .ok (.aload_n 0, 1) := by decide +kernel
theorem dX9_endOf_4 : decode cX9_endOf 4 = .ok (.getfield 7, 3) := by decide +kernel
theorem dX9_endOf_7 : decode cX9_endOf 7 = .ok (.bipush 6, 2) := by decide +kernel
theorem dX9_endOf_9 : decode cX9_endOf 9 = .ok (.iaload, 1) := by decide +kernel
theorem dX9_endOf_10 : decode cX9_endOf 10 = .ok (.imul, 1) := by decide +kernel
theorem dX9_endOf_11 : decode cX9_endOf 11 = .ok (.ireturn, 1) := by decide +kernel
set_option maxRecDepth 20000 in
theorem ggX9_find_X9_ofP : GoodIn wsX9_find wsX9_ofP := goodIn_r _ [6, 1, 7, 8, 9, 10, 11, 12, 13, 14] (by decide +kernel) (by decide +kernel)
set_option maxRecDepth 20000 in
theorem gX9_find_X9_ofP : GoodIn wsX9_find (wsV RX9 35 RX9 yX9_ofP wsX9_ofP) := goodIn_app (goodIn_of _ (by decide +kernel)) ggX9_find_X9_ofP
theorem dX9_find_0 : decode cX9_find 0 = .ok (.iconst 0, 1) := by decide +kernel
theorem dX9_find_1 : decode cX9_find 1 = .ok (.istore_n 2, 1) := by decide +kernel
theorem dX9_find_2 : decode cX9_find 2 = .ok (.iload_n 2, 1) := by decide +kernel
theorem dX9_find_3 : decode cX9_find 3 = .ok (.aload_n 0, 1) := by decide +kernel
theorem dX9_find_4 : decode cX9_find 4 = .ok (.getfield 7, 3) := by decide +kernel
theorem dX9_find_7 : decode cX9_find 7 = .ok (.bipush 10, 2) := by decide +kernel
theorem dX9_find_9 : decode cX9_find 9 = .ok (.iaload, 1) := by decide +kernel
theorem dX9_find_10 : decode cX9_find 10 = .ok (.if_icmp .ge 21, 3) := by decide +kernel
theorem dX9_find_13 : decode cX9_find 13 = .ok (.aload_n 0, 1) := by decide +kernel
theorem dX9_find_14 : decode cX9_find 14 = .ok (.iload_n 2, 1) := by decide +kernel
theorem dX9_find_15 : decode cX9_find 15 = .ok (.iconst 0, 1) := by decide +kernel
theorem dX9_find_16 : decode cX9_find 16 = .ok (.invokevirtual 35, 3) := by decide +kernel
theorem dX9_find_19 : decode cX9_find 19 = .ok (.iload_n 1, 1) := by decide +kernel
theorem dX9_find_20 : decode cX9_find 20 = .ok (.if_icmp .ne 5, 3) := by decide +kernel
theorem dX9_find_23 : decode cX9_find 23 = .ok (.iload_n 2, 1) := by decide +kernel
theorem dX9_find_24 : decode cX9_find 24 = .ok (.ireturn, 1) := by decide +kernel
theorem dX9_find_25 : decode cX9_find 25 = .ok (.iinc 2 1, 3) := by decide +kernel
theorem dX9_find_28 : decode cX9_find 28 = .ok (.goto (-26), 3) := by decide +kernel
theorem dX9_find_31 : decode cX9_find 31 = .ok (.iconst (-1), 1) := by decide +kernel
theorem dX9_find_32 : decode cX9_find 32 = .ok (.ireturn, 1) := by decide +kernel
set_option maxRecDepth 20000 in
theorem ggX9_modeOf_X9_find : GoodIn wsX9_modeOf wsX9_find := goodIn_r _ [5, 6, 7, 8, 9, 4, 10, 11, 12, 13, 14, 15, 16, 17, 18] (by decide +kernel) (by decide +kernel)
set_option maxRecDepth 20000 in
theorem gX9_modeOf_X9_find : GoodIn wsX9_modeOf (wsV RX9 39 RX9 yX9_find wsX9_find) := goodIn_app (goodIn_of _ (by decide +kernel)) ggX9_modeOf_X9_find
set_option maxRecDepth 20000 in
theorem ggX9_modeOf_X9_ofP : GoodIn wsX9_modeOf wsX9_ofP := goodIn_r _ [10, 6, 11, 12, 13, 14, 15, 16, 17, 18] (by decide +kernel) (by decide +kernel)
set_option maxRecDepth 20000 in
theorem gX9_modeOf_X9_ofP : GoodIn wsX9_modeOf (wsV RX9 35 RX9 yX9_ofP wsX9_ofP) := goodIn_app (goodIn_of _ (by decide +kernel)) ggX9_modeOf_X9_ofP
theorem dX9_modeOf_0 : decode cX9_modeOf 0 = .ok (.aload_n 0, 1) := by decide +kernel
theorem dX9_modeOf_1 : decode cX9_modeOf 1 = .ok (.iload_n 1, 1) := by decide +kernel
theorem dX9_modeOf_2 : decode cX9_modeOf 2 = .ok (.invokevirtual 39, 3) := by decide +kernel
theorem dX9_modeOf_5 : decode cX9_modeOf 5 = .ok (.istore_n 2, 1) := by decide +kernel
theorem dX9_modeOf_6 : decode cX9_modeOf 6 = .ok (.iload_n 2, 1) := by decide +kernel
theorem dX9_modeOf_7 : decode cX9_modeOf 7 = .ok (.ifCond .ge 7, 3) := by decide +kernel
theorem dX9_modeOf_10 : decode cX9_modeOf 10 = .ok (.iconst 0, 1) := by decide +kernel
theorem dX9_modeOf_11 : decode cX9_modeOf 11 = .ok (.goto 9, 3) := by decide +kernel
theorem dX9_modeOf_14 : decode cX9_modeOf 14 = .ok (.aload_n 0, 1) := by decide +kernel
theorem dX9_modeOf_15 : decode cX9_modeOf 15 = .ok (.iload_n 2, 1) := by decide +kernel
theorem dX9_modeOf_16 : decode cX9_modeOf 16 = .ok (.iconst 1, 1) := by decide +kernel
theorem dX9_modeOf_17 : decode cX9_modeOf 17 = .ok (.invokevirtual 35, 3) := by decide +kernel
theorem dX9_modeOf_20 : decode cX9_modeOf 20 = .ok (.ireturn, 1) := by decide +kernel
set_option maxRecDepth 20000 in
theorem ggX9_keeps_X9_find : GoodIn wsX9_keeps wsX9_find := goodIn_r _ [6, 1, 7, 8, 9, 5, 10, 15, 16, 17, 18, 19, 20, 21, 22] (by decide +kernel) (by decide +kernel)
set_option maxRecDepth 20000 in
theorem gX9_keeps_X9_find : GoodIn wsX9_keeps (wsV RX9 39 RX9 yX9_find wsX9_find) := goodIn_app (goodIn_of _ (by decide +kernel)) ggX9_keeps_X9_find
set_option maxRecDepth 20000 in
theorem ggX9_keeps_X9_setsP : GoodIn wsX9_keeps wsX9_setsP := goodIn_r _ [14, 1, 15, 16, 17, 18, 19, 20, 21, 22] (by decide +kernel) (by decide +kernel)
set_option maxRecDepth 20000 in
theorem gX9_keeps_X9_setsP : GoodIn wsX9_keeps (wsV RX9 43 RX9 yX9_setsP wsX9_setsP) := goodIn_app (goodIn_of _ (by decide +kernel)) ggX9_keeps_X9_setsP
theorem dX9_keeps_0 : decode cX9_keeps 0 = .ok (.aload_n 0, 1) := by decide +kernel
theorem dX9_keeps_1 : decode cX9_keeps 1 = .ok (.iload_n 1, 1) := by decide +kernel
theorem dX9_keeps_2 : decode cX9_keeps 2 = .ok (.invokevirtual 39, 3) := by decide +kernel
theorem dX9_keeps_5 : decode cX9_keeps 5 = .ok (.istore_n 2, 1) := by decide +kernel
theorem dX9_keeps_6 : decode cX9_keeps 6 = .ok (.iload_n 2, 1) := by decide +kernel
theorem dX9_keeps_7 : decode cX9_keeps 7 = .ok (.ifCond .ge 50, 3) := by decide +kernel
theorem dX9_keeps_10 : decode cX9_keeps 10 = .ok (.aload_n 0, 1) := by decide +kernel
theorem dX9_keeps_11 : decode cX9_keeps 11 = .ok (.getfield 7, 3) := by decide +kernel
theorem dX9_keeps_14 : decode cX9_keeps 14 = .ok (.bipush 10, 2) := by decide +kernel
theorem dX9_keeps_16 : decode cX9_keeps 16 = .ok (.iaload, 1) := by decide +kernel
theorem dX9_keeps_17 : decode cX9_keeps 17 = .ok (.istore_n 2, 1) := by decide +kernel
theorem dX9_keeps_18 : decode cX9_keeps 18 = .ok (.aload_n 0, 1) := by decide +kernel
theorem dX9_keeps_19 : decode cX9_keeps 19 = .ok (.getfield 7, 3) := by decide +kernel
theorem dX9_keeps_22 : decode cX9_keeps 22 = .ok (.bipush 10, 2) := by decide +kernel
theorem dX9_keeps_24 : decode cX9_keeps 24 = .ok (.dup2, 1) := by decide +kernel
theorem dX9_keeps_25 : decode cX9_keeps 25 = .ok (.iaload, 1) := by decide +kernel
theorem dX9_keeps_26 : decode cX9_keeps 26 = .ok (.iconst 1, 1) := by decide +kernel
theorem dX9_keeps_27 : decode cX9_keeps 27 = .ok (.iadd, 1) := by decide +kernel
theorem dX9_keeps_28 : decode cX9_keeps 28 = .ok (.iastore, 1) := by decide +kernel
theorem dX9_keeps_29 : decode cX9_keeps 29 = .ok (.iconst 0, 1) := by decide +kernel
theorem dX9_keeps_30 : decode cX9_keeps 30 = .ok (.istore_n 3, 1) := by decide +kernel
theorem dX9_keeps_31 : decode cX9_keeps 31 = .ok (.iload_n 3, 1) := by decide +kernel
theorem dX9_keeps_32 : decode cX9_keeps 32 = .ok (.bipush 8, 2) := by decide +kernel
theorem dX9_keeps_34 : decode cX9_keeps 34 = .ok (.if_icmp .ge 16, 3) := by decide +kernel
theorem dX9_keeps_37 : decode cX9_keeps 37 = .ok (.aload_n 0, 1) := by decide +kernel
theorem dX9_keeps_38 : decode cX9_keeps 38 = .ok (.iload_n 2, 1) := by decide +kernel
theorem dX9_keeps_39 : decode cX9_keeps 39 = .ok (.iload_n 3, 1) := by decide +kernel
theorem dX9_keeps_40 : decode cX9_keeps 40 = .ok (.iconst 0, 1) := by decide +kernel
theorem dX9_keeps_41 : decode cX9_keeps 41 = .ok (.invokevirtual 43, 3) := by decide +kernel
theorem dX9_keeps_44 : decode cX9_keeps 44 = .ok (.iinc 3 1, 3) := by decide +kernel
theorem dX9_keeps_47 : decode cX9_keeps 47 = .ok (.goto (-16), 3) := by decide +kernel
theorem dX9_keeps_50 : decode cX9_keeps 50 = .ok (.aload_n 0, 1) := by decide +kernel
theorem dX9_keeps_51 : decode cX9_keeps 51 = .ok (.iload_n 2, 1) := by decide +kernel
theorem dX9_keeps_52 : decode cX9_keeps 52 = .ok (.iconst 0, 1) := by decide +kernel
theorem dX9_keeps_53 : decode cX9_keeps 53 = .ok (.iload_n 1, 1) := by decide +kernel
theorem dX9_keeps_54 : decode cX9_keeps 54 = .ok (.invokevirtual 43, 3) := by decide +kernel
theorem dX9_keeps_57 : decode cX9_keeps 57 = .ok (.iload_n 2, 1) := by decide +kernel
theorem dX9_keeps_58 : decode cX9_keeps 58 = .ok (.ireturn, 1) := by decide +kernel
set_option maxRecDepth 20000 in
theorem ggX9_isShut_X9_modeOf : GoodIn wsX9_isShut wsX9_modeOf := goodIn_r _ [6, 7, 8, 9, 5, 10, 1, 11, 12, 13, 14, 19, 20, 21, 22, 23, 24, 25, 26] (by decide +kernel) (by decide +kernel)
set_option maxRecDepth 20000 in
theorem gX9_isShut_X9_modeOf : GoodIn wsX9_isShut (wsV RX9 47 RX9 yX9_modeOf wsX9_modeOf) := goodIn_app (goodIn_of _ (by decide +kernel)) ggX9_isShut_X9_modeOf
set_option maxRecDepth 20000 in
theorem ggX9_isShut_X9_endOf : GoodIn wsX9_isShut wsX9_endOf := goodIn_r _ [18, 1, 19, 20, 21, 22, 23, 24, 25, 26] (by decide +kernel) (by decide +kernel)
set_option maxRecDepth 20000 in
theorem gX9_isShut_X9_endOf : GoodIn wsX9_isShut (wsV RX9 50 RX9 yX9_endOf wsX9_endOf) := goodIn_app (goodIn_of _ (by decide +kernel)) ggX9_isShut_X9_endOf
theorem dX9_isShut_0 : decode cX9_isShut 0 = .ok (.aload_n 0, 1) := by decide +kernel
theorem dX9_isShut_1 : decode cX9_isShut 1 = .ok (.iload_n 1, 1) := by decide +kernel
theorem dX9_isShut_2 : decode cX9_isShut 2 = .ok (.invokevirtual 47, 3) := by decide +kernel
theorem dX9_isShut_5 : decode cX9_isShut 5 = .ok (.ifCond .ne 21, 3) := by decide +kernel
theorem dX9_isShut_8 : decode cX9_isShut 8 = .ok (.aload_n 0, 1) := by decide +kernel
theorem dX9_isShut_9 : decode cX9_isShut 9 = .ok (.getfield 7, 3) := by decide +kernel
theorem dX9_isShut_12 : decode cX9_isShut 12 = .ok (.iconst 0, 1) := by decide +kernel
theorem dX9_isShut_13 : decode cX9_isShut 13 = .ok (.iaload, 1) := by decide +kernel
theorem dX9_isShut_14 : decode cX9_isShut 14 = .ok (.aload_n 0, 1) := by decide +kernel
theorem dX9_isShut_15 : decode cX9_isShut 15 = .ok (.iload_n 1, 1) := by decide +kernel
theorem dX9_isShut_16 : decode cX9_isShut 16 = .ok (.invokevirtual 50, 3) := by decide +kernel
theorem dX9_isShut_19 : decode cX9_isShut 19 = .ok (.if_icmp .lt 7, 3) := by decide +kernel
theorem dX9_isShut_22 : decode cX9_isShut 22 = .ok (.iconst 1, 1) := by decide +kernel
theorem dX9_isShut_23 : decode cX9_isShut 23 = .ok (.goto 4, 3) := by decide +kernel
theorem dX9_isShut_26 : decode cX9_isShut 26 = .ok (.iconst 0, 1) := by decide +kernel
theorem dX9_isShut_27 : decode cX9_isShut 27 = .ok (.ireturn, 1) := by decide +kernel
set_option maxRecDepth 20000 in
theorem ggX9_counts_X9_ofE : GoodIn wsX9_counts wsX9_ofE := goodIn_r _ [5, 6, 10, 11, 12, 13, 14, 15, 16, 17] (by decide +kernel) (by decide +kernel)
set_option maxRecDepth 20000 in
theorem gX9_counts_X9_ofE : GoodIn wsX9_counts (wsV RX9 53 RX9 yX9_ofE wsX9_ofE) := goodIn_app (goodIn_of _ (by decide +kernel)) ggX9_counts_X9_ofE
set_option maxRecDepth 20000 in
theorem ggX9_counts_X9_isIn : GoodIn wsX9_counts wsX9_isIn := goodIn_r _ [9] (by decide +kernel) (by decide +kernel)
set_option maxRecDepth 20000 in
theorem gX9_counts_X9_isIn : GoodIn wsX9_counts (va_wsS RX9 27 yX9_isIn wsX9_isIn) := goodIn_app (goodIn_of _ (by decide +kernel)) ggX9_counts_X9_isIn
theorem dX9_counts_0 : decode cX9_counts 0 = .ok (.aload_n 0, 1) := by decide +kernel
theorem dX9_counts_1 : decode cX9_counts 1 = .ok (.iload_n 1, 1) := by decide +kernel
theorem dX9_counts_2 : decode cX9_counts 2 = .ok (.iconst 0, 1) := by decide +kernel
theorem dX9_counts_3 : decode cX9_counts 3 = .ok (.invokevirtual 53, 3) := by decide +kernel
theorem dX9_counts_6 : decode cX9_counts 6 = .ok (.iconst 1, 1) := by decide +kernel
theorem dX9_counts_7 : decode cX9_counts 7 = .ok (.if_icmp .ne 21, 3) := by decide +kernel
theorem dX9_counts_10 : decode cX9_counts 10 = .ok (.aload_n 0, 1) := by decide +kernel
theorem dX9_counts_11 : decode cX9_counts 11 = .ok (.iload_n 1, 1) := by decide +kernel
theorem dX9_counts_12 : decode cX9_counts 12 = .ok (.iconst 5, 1) := by decide +kernel
theorem dX9_counts_13 : decode cX9_counts 13 = .ok (.invokevirtual 53, 3) := by decide +kernel
theorem dX9_counts_16 : decode cX9_counts 16 = .ok (.iconst 0, 1) := by decide +kernel
theorem dX9_counts_17 : decode cX9_counts 17 = .ok (.iconst 1, 1) := by decide +kernel
theorem dX9_counts_18 : decode cX9_counts 18 = .ok (.invokestatic 27, 3) := by decide +kernel
theorem dX9_counts_21 : decode cX9_counts 21 = .ok (.ifCond .eq 7, 3) := by decide +kernel
theorem dX9_counts_24 : decode cX9_counts 24 = .ok (.iconst 1, 1) := by decide +kernel
theorem dX9_counts_25 : decode cX9_counts 25 = .ok (.goto 4, 3) := by decide +kernel
theorem dX9_counts_28 : decode cX9_counts 28 = .ok (.iconst 0, 1) := by decide +kernel
theorem dX9_counts_29 : decode cX9_counts 29 = .ok (.ireturn, 1) := by decide +kernel
set_option maxRecDepth 20000 in
theorem ggX9_sumOf_X9_counts : GoodIn wsX9_sumOf wsX9_counts := goodIn_r _ [5, 6, 7, 8, 4, 9, 10, 11, 12, 13, 18, 19, 20, 21, 22, 23, 24, 25] (by decide +kernel) (by decide +kernel)
set_option maxRecDepth 20000 in
theorem gX9_sumOf_X9_counts : GoodIn wsX9_sumOf (wsV RX9 56 RX9 yX9_counts wsX9_counts) := goodIn_app (goodIn_of _ (by decide +kernel)) ggX9_sumOf_X9_counts
set_option maxRecDepth 20000 in
theorem ggX9_sumOf_X9_ofE : GoodIn wsX9_sumOf wsX9_ofE := goodIn_r _ [9, 10, 18, 19, 20, 21, 22, 23, 24, 25] (by decide +kernel) (by decide +kernel)
set_option maxRecDepth 20000 in
theorem gX9_sumOf_X9_ofE : GoodIn wsX9_sumOf (wsV RX9 53 RX9 yX9_ofE wsX9_ofE) := goodIn_app (goodIn_of _ (by decide +kernel)) ggX9_sumOf_X9_ofE
set_option maxRecDepth 20000 in
theorem ggX9_sumOf_X9_paneAt : GoodIn wsX9_sumOf wsX9_paneAt := goodIn_r _ [17, 10, 18, 19, 20, 21, 22, 23, 24, 25] (by decide +kernel) (by decide +kernel)
set_option maxRecDepth 20000 in
theorem gX9_sumOf_X9_paneAt : GoodIn wsX9_sumOf (wsV RX9 60 RX9 yX9_paneAt wsX9_paneAt) := goodIn_app (goodIn_of _ (by decide +kernel)) ggX9_sumOf_X9_paneAt
theorem dX9_sumOf_0 : decode cX9_sumOf 0 = .ok (.iconst 0, 1) := by decide +kernel
theorem dX9_sumOf_1 : decode cX9_sumOf 1 = .ok (.istore_n 3, 1) := by decide +kernel
theorem dX9_sumOf_2 : decode cX9_sumOf 2 = .ok (.iconst 0, 1) := by decide +kernel
theorem dX9_sumOf_3 : decode cX9_sumOf 3 = .ok (.istore 4, 2) := by decide +kernel
theorem dX9_sumOf_5 : decode cX9_sumOf 5 = .ok (.iconst 0, 1) := by decide +kernel
theorem dX9_sumOf_6 : decode cX9_sumOf 6 = .ok (.istore 5, 2) := by decide +kernel
theorem dX9_sumOf_8 : decode cX9_sumOf 8 = .ok (.iconst 0, 1) := by decide +kernel
theorem dX9_sumOf_9 : decode cX9_sumOf 9 = .ok (.istore 6, 2) := by decide +kernel
theorem dX9_sumOf_11 : decode cX9_sumOf 11 = .ok (.iload 6, 2) := by decide +kernel
theorem dX9_sumOf_13 : decode cX9_sumOf 13 = .ok (.bipush 64, 2) := by decide +kernel
theorem dX9_sumOf_15 : decode cX9_sumOf 15 = .ok (.if_icmp .ge 62, 3) := by decide +kernel
theorem dX9_sumOf_18 : decode cX9_sumOf 18 = .ok (.aload_n 0, 1) := by decide +kernel
theorem dX9_sumOf_19 : decode cX9_sumOf 19 = .ok (.iload 6, 2) := by decide +kernel
theorem dX9_sumOf_21 : decode cX9_sumOf 21 = .ok (.invokevirtual 56, 3) := by decide +kernel
theorem dX9_sumOf_24 : decode cX9_sumOf 24 = .ok (.ifCond .eq 47, 3) := by decide +kernel
theorem dX9_sumOf_27 : decode cX9_sumOf 27 = .ok (.aload_n 0, 1) := by decide +kernel
theorem dX9_sumOf_28 : decode cX9_sumOf 28 = .ok (.aload_n 0, 1) := by decide +kernel
theorem dX9_sumOf_29 : decode cX9_sumOf 29 = .ok (.iload 6, 2) := by decide +kernel
theorem dX9_sumOf_31 : decode cX9_sumOf 31 = .ok (.iconst 1, 1) := by decide +kernel
theorem dX9_sumOf_32 : decode cX9_sumOf 32 = .ok (.invokevirtual 53, 3) := by decide +kernel
theorem dX9_sumOf_35 : decode cX9_sumOf 35 = .ok (.invokevirtual 60, 3) := by decide +kernel
theorem dX9_sumOf_38 : decode cX9_sumOf 38 = .ok (.iload_n 1, 1) := by decide +kernel
theorem dX9_sumOf_39 : decode cX9_sumOf 39 = .ok (.if_icmp .ne 32, 3) := by decide +kernel
theorem dX9_sumOf_42 : decode cX9_sumOf 42 = .ok (.iinc 3 1, 3) := by decide +kernel
theorem dX9_sumOf_45 : decode cX9_sumOf 45 = .ok (.iload 4, 2) := by decide +kernel
theorem dX9_sumOf_47 : decode cX9_sumOf 47 = .ok (.aload_n 0, 1) := by decide +kernel
theorem dX9_sumOf_48 : decode cX9_sumOf 48 = .ok (.iload 6, 2) := by decide +kernel
theorem dX9_sumOf_50 : decode cX9_sumOf 50 = .ok (.iconst 3, 1) := by decide +kernel
theorem dX9_sumOf_51 : decode cX9_sumOf 51 = .ok (.invokevirtual 53, 3) := by decide +kernel
theorem dX9_sumOf_54 : decode cX9_sumOf 54 = .ok (.iadd, 1) := by decide +kernel
theorem dX9_sumOf_55 : decode cX9_sumOf 55 = .ok (.istore 4, 2) := by decide +kernel
theorem dX9_sumOf_57 : decode cX9_sumOf 57 = .ok (.iload 5, 2) := by decide +kernel
theorem dX9_sumOf_59 : decode cX9_sumOf 59 = .ok (.iconst 1, 1) := by decide +kernel
theorem dX9_sumOf_60 : decode cX9_sumOf 60 = .ok (.aload_n 0, 1) := by decide +kernel
theorem dX9_sumOf_61 : decode cX9_sumOf 61 = .ok (.iload 6, 2) := by decide +kernel
theorem dX9_sumOf_63 : decode cX9_sumOf 63 = .ok (.iconst 2, 1) := by decide +kernel
theorem dX9_sumOf_64 : decode cX9_sumOf 64 = .ok (.invokevirtual 53, 3) := by decide +kernel
theorem dX9_sumOf_67 : decode cX9_sumOf 67 = .ok (.ishl, 1) := by decide +kernel
theorem dX9_sumOf_68 : decode cX9_sumOf 68 = .ok (.ior, 1) := by decide +kernel
theorem dX9_sumOf_69 : decode cX9_sumOf 69 = .ok (.istore 5, 2) := by decide +kernel
theorem dX9_sumOf_71 : decode cX9_sumOf 71 = .ok (.iinc 6 1, 3) := by decide +kernel
theorem dX9_sumOf_74 : decode cX9_sumOf 74 = .ok (.goto (-63), 3) := by decide +kernel
theorem dX9_sumOf_77 : decode cX9_sumOf 77 = .ok (.iload_n 2, 1) := by decide +kernel
theorem dX9_sumOf_78 : decode cX9_sumOf 78 = .ok (.ifCond .ne 7, 3) := by decide +kernel
theorem dX9_sumOf_81 : decode cX9_sumOf 81 = .ok (.iload_n 3, 1) := by decide +kernel
theorem dX9_sumOf_82 : decode cX9_sumOf 82 = .ok (.goto 15, 3) := by decide +kernel
theorem dX9_sumOf_85 : decode cX9_sumOf 85 = .ok (.iload_n 2, 1) := by decide +kernel
theorem dX9_sumOf_86 : decode cX9_sumOf 86 = .ok (.iconst 1, 1) := by decide +kernel
theorem dX9_sumOf_87 : decode cX9_sumOf 87 = .ok (.if_icmp .ne 8, 3) := by decide +kernel
theorem dX9_sumOf_90 : decode cX9_sumOf 90 = .ok (.iload 4, 2) := by decide +kernel
theorem dX9_sumOf_92 : decode cX9_sumOf 92 = .ok (.goto 5, 3) := by decide +kernel
theorem dX9_sumOf_95 : decode cX9_sumOf 95 = .ok (.iload 5, 2) := by decide +kernel
theorem dX9_sumOf_97 : decode cX9_sumOf 97 = .ok (.ireturn, 1) := by decide +kernel
theorem dX9_says_0 : decode cX9_says 0 = .ok (.aload_n 0, 1) := by decide +kernel
theorem dX9_says_1 : decode cX9_says 1 = .ok (.getfield 7, 3) := by decide +kernel
theorem dX9_says_4 : decode cX9_says 4 = .ok (.bipush 9, 2) := by decide +kernel
theorem dX9_says_6 : decode cX9_says 6 = .ok (.iaload, 1) := by decide +kernel
theorem dX9_says_7 : decode cX9_says 7 = .ok (.bipush 40, 2) := by decide +kernel
theorem dX9_says_9 : decode cX9_says 9 = .ok (.if_icmp .ne 61, 3) := by decide +kernel
theorem dX9_says_12 : decode cX9_says 12 = .ok (.aload_n 0, 1) := by decide +kernel
theorem dX9_says_13 : decode cX9_says 13 = .ok (.getfield 7, 3) := by decide +kernel
theorem dX9_says_16 : decode cX9_says 16 = .ok (.bipush 9, 2) := by decide +kernel
theorem dX9_says_18 : decode cX9_says 18 = .ok (.dup2, 1) := by decide +kernel
theorem dX9_says_19 : decode cX9_says 19 = .ok (.iaload, 1) := by decide +kernel
theorem dX9_says_20 : decode cX9_says 20 = .ok (.iconst 1, 1) := by decide +kernel
theorem dX9_says_21 : decode cX9_says 21 = .ok (.isub, 1) := by decide +kernel
theorem dX9_says_22 : decode cX9_says 22 = .ok (.iastore, 1) := by decide +kernel
theorem dX9_says_23 : decode cX9_says 23 = .ok (.iconst 0, 1) := by decide +kernel
theorem dX9_says_24 : decode cX9_says 24 = .ok (.istore 5, 2) := by decide +kernel
theorem dX9_says_26 : decode cX9_says 26 = .ok (.iload 5, 2) := by decide +kernel
theorem dX9_says_28 : decode cX9_says 28 = .ok (.iconst 4, 1) := by decide +kernel
theorem dX9_says_29 : decode cX9_says 29 = .ok (.aload_n 0, 1) := by decide +kernel
theorem dX9_says_30 : decode cX9_says 30 = .ok (.getfield 7, 3) := by decide +kernel
theorem dX9_says_33 : decode cX9_says 33 = .ok (.bipush 9, 2) := by decide +kernel
theorem dX9_says_35 : decode cX9_says 35 = .ok (.iaload, 1) := by decide +kernel
theorem dX9_says_36 : decode cX9_says 36 = .ok (.imul, 1) := by decide +kernel
theorem dX9_says_37 : decode cX9_says 37 = .ok (.if_icmp .ge 33, 3) := by decide +kernel
theorem dX9_says_40 : decode cX9_says 40 = .ok (.aload_n 0, 1) := by decide +kernel
theorem dX9_says_41 : decode cX9_says 41 = .ok (.getfield 7, 3) := by decide +kernel
theorem dX9_says_44 : decode cX9_says 44 = .ok (.sipush 908, 3) := by decide +kernel
theorem dX9_says_47 : decode cX9_says 47 = .ok (.iload 5, 2) := by decide +kernel
theorem dX9_says_49 : decode cX9_says 49 = .ok (.iadd, 1) := by decide +kernel
theorem dX9_says_50 : decode cX9_says 50 = .ok (.aload_n 0, 1) := by decide +kernel
theorem dX9_says_51 : decode cX9_says 51 = .ok (.getfield 7, 3) := by decide +kernel
theorem dX9_says_54 : decode cX9_says 54 = .ok (.sipush 908, 3) := by decide +kernel
theorem dX9_says_57 : decode cX9_says 57 = .ok (.iload 5, 2) := by decide +kernel
theorem dX9_says_59 : decode cX9_says 59 = .ok (.iadd, 1) := by decide +kernel
theorem dX9_says_60 : decode cX9_says 60 = .ok (.iconst 4, 1) := by decide +kernel
theorem dX9_says_61 : decode cX9_says 61 = .ok (.iadd, 1) := by decide +kernel
theorem dX9_says_62 : decode cX9_says 62 = .ok (.iaload, 1) := by decide +kernel
theorem dX9_says_63 : decode cX9_says 63 = .ok (.iastore, 1) := by decide +kernel
theorem dX9_says_64 : decode cX9_says 64 = .ok (.iinc 5 1, 3) := by decide +kernel
theorem dX9_says_67 : decode cX9_says 67 = .ok (.goto (-41), 3) := by decide +kernel
theorem dX9_says_70 : decode cX9_says 70 = .ok (.sipush 908, 3) := by decide +kernel
theorem dX9_says_73 : decode cX9_says 73 = .ok (.iconst 4, 1) := by decide +kernel
theorem dX9_says_74 : decode cX9_says 74 = .ok (.aload_n 0, 1) := by decide +kernel
theorem dX9_says_75 : decode cX9_says 75 = .ok (.getfield 7, 3) := by decide +kernel
theorem dX9_says_78 : decode cX9_says 78 = .ok (.bipush 9, 2) := by decide +kernel
theorem dX9_says_80 : decode cX9_says 80 = .ok (.iaload, 1) := by decide +kernel
theorem dX9_says_81 : decode cX9_says 81 = .ok (.imul, 1) := by decide +kernel
theorem dX9_says_82 : decode cX9_says 82 = .ok (.iadd, 1) := by decide +kernel
theorem dX9_says_83 : decode cX9_says 83 = .ok (.istore 5, 2) := by decide +kernel
theorem dX9_says_85 : decode cX9_says 85 = .ok (.aload_n 0, 1) := by decide +kernel
theorem dX9_says_86 : decode cX9_says 86 = .ok (.getfield 7, 3) := by decide +kernel
theorem dX9_says_89 : decode cX9_says 89 = .ok (.iload 5, 2) := by decide +kernel
theorem dX9_says_91 : decode cX9_says 91 = .ok (.iload_n 1, 1) := by decide +kernel
theorem dX9_says_92 : decode cX9_says 92 = .ok (.iastore, 1) := by decide +kernel
theorem dX9_says_93 : decode cX9_says 93 = .ok (.aload_n 0, 1) := by decide +kernel
theorem dX9_says_94 : decode cX9_says 94 = .ok (.getfield 7, 3) := by decide +kernel
theorem dX9_says_97 : decode cX9_says 97 = .ok (.iload 5, 2) := by decide +kernel
theorem dX9_says_99 : decode cX9_says 99 = .ok (.iconst 1, 1) := by decide +kernel
theorem dX9_says_100 : decode cX9_says 100 = .ok (.iadd, 1) := by decide +kernel
theorem dX9_says_101 : decode cX9_says 101 = .ok (.iload_n 2, 1) := by decide +kernel
theorem dX9_says_102 : decode cX9_says 102 = .ok (.iastore, 1) := by decide +kernel
theorem dX9_says_103 : decode cX9_says 103 = .ok (.aload_n 0, 1) := by decide +kernel
theorem dX9_says_104 : decode cX9_says 104 = .ok (.getfield 7, 3) := by decide +kernel
theorem dX9_says_107 : decode cX9_says 107 = .ok (.iload 5, 2) := by decide +kernel
theorem dX9_says_109 : decode cX9_says 109 = .ok (.iconst 2, 1) := by decide +kernel
theorem dX9_says_110 : decode cX9_says 110 = .ok (.iadd, 1) := by decide +kernel
theorem dX9_says_111 : decode cX9_says 111 = .ok (.iload_n 3, 1) := by decide +kernel
theorem dX9_says_112 : decode cX9_says 112 = .ok (.iastore, 1) := by decide +kernel
theorem dX9_says_113 : decode cX9_says 113 = .ok (.aload_n 0, 1) := by decide +kernel
theorem dX9_says_114 : decode cX9_says 114 = .ok (.getfield 7, 3) := by decide +kernel
theorem dX9_says_117 : decode cX9_says 117 = .ok (.iload 5, 2) := by decide +kernel
theorem dX9_says_119 : decode cX9_says 119 = .ok (.iconst 3, 1) := by decide +kernel
theorem dX9_says_120 : decode cX9_says 120 = .ok (.iadd, 1) := by decide +kernel
theorem dX9_says_121 : decode cX9_says 121 = .ok (.iload 4, 2) := by decide +kernel
theorem dX9_says_123 : decode cX9_says 123 = .ok (.iastore, 1) := by decide +kernel
theorem dX9_says_124 : decode cX9_says 124 = .ok (.aload_n 0, 1) := by decide +kernel
theorem dX9_says_125 : decode cX9_says 125 = .ok (.getfield 7, 3) := by decide +kernel
theorem dX9_says_128 : decode cX9_says 128 = .ok (.bipush 9, 2) := by decide +kernel
theorem dX9_says_130 : decode cX9_says 130 = .ok (.dup2, 1) := by decide +kernel
theorem dX9_says_131 : decode cX9_says 131 = .ok (.iaload, 1) := by decide +kernel
theorem dX9_says_132 : decode cX9_says 132 = .ok (.iconst 1, 1) := by decide +kernel
theorem dX9_says_133 : decode cX9_says 133 = .ok (.iadd, 1) := by decide +kernel
theorem dX9_says_134 : decode cX9_says 134 = .ok (.iastore, 1) := by decide +kernel
theorem dX9_says_135 : decode cX9_says 135 = .ok (.return_, 1) := by decide +kernel
set_option maxRecDepth 20000 in
theorem ggX9_tells_X9_ofP : GoodIn wsX9_tells wsX9_ofP := goodIn_r _ [6, 1, 34, 35, 36, 37, 38, 39, 40, 41] (by decide +kernel) (by decide +kernel)
set_option maxRecDepth 20000 in
theorem gX9_tells_X9_ofP : GoodIn wsX9_tells (wsV RX9 35 RX9 yX9_ofP wsX9_ofP) := goodIn_app (goodIn_of _ (by decide +kernel)) ggX9_tells_X9_ofP
set_option maxRecDepth 20000 in
theorem ggX9_tells_X9_sumOf : GoodIn wsX9_tells wsX9_sumOf := goodIn_r _ [10, 11, 12, 13, 5, 14, 15, 16, 17, 18, 1, 19, 20, 21, 22, 23, 24, 25, 34, 35, 36, 37, 38, 39, 40, 41] (by decide +kernel) (by decide +kernel)
set_option maxRecDepth 20000 in
theorem gX9_tells_X9_sumOf : GoodIn wsX9_tells (wsV RX9 63 RX9 yX9_sumOf wsX9_sumOf) := goodIn_app (goodIn_of _ (by decide +kernel)) ggX9_tells_X9_sumOf
set_option maxRecDepth 20000 in
theorem ggX9_tells_X9_setsP : GoodIn wsX9_tells wsX9_setsP := goodIn_r _ [29, 1, 34, 35, 36, 37, 38, 39, 40, 41] (by decide +kernel) (by decide +kernel)
set_option maxRecDepth 20000 in
theorem gX9_tells_X9_setsP : GoodIn wsX9_tells (wsV RX9 43 RX9 yX9_setsP wsX9_setsP) := goodIn_app (goodIn_of _ (by decide +kernel)) ggX9_tells_X9_setsP
set_option maxRecDepth 20000 in
theorem ggX9_tells_X9_says : GoodIn wsX9_tells wsX9_says := goodIn_r _ [33, 1, 34, 35, 36, 37, 38, 39, 40, 41] (by decide +kernel) (by decide +kernel)
set_option maxRecDepth 20000 in
theorem gX9_tells_X9_says : GoodIn wsX9_tells (wsV RX9 66 RX9 yX9_says wsX9_says) := goodIn_app (goodIn_of _ (by decide +kernel)) ggX9_tells_X9_says
theorem dX9_tells_0 : decode cX9_tells 0 = .ok (.aload_n 0, 1) := by decide +kernel
theorem dX9_tells_1 : decode cX9_tells 1 = .ok (.iload_n 1, 1) := by decide +kernel
theorem dX9_tells_2 : decode cX9_tells 2 = .ok (.iconst 0, 1) := by decide +kernel
theorem dX9_tells_3 : decode cX9_tells 3 = .ok (.invokevirtual 35, 3) := by decide +kernel
theorem dX9_tells_6 : decode cX9_tells 6 = .ok (.istore_n 2, 1) := by decide +kernel
theorem dX9_tells_7 : decode cX9_tells 7 = .ok (.aload_n 0, 1) := by decide +kernel
theorem dX9_tells_8 : decode cX9_tells 8 = .ok (.iload_n 2, 1) := by decide +kernel
theorem dX9_tells_9 : decode cX9_tells 9 = .ok (.iconst 0, 1) := by decide +kernel
theorem dX9_tells_10 : decode cX9_tells 10 = .ok (.invokevirtual 63, 3) := by decide +kernel
theorem dX9_tells_13 : decode cX9_tells 13 = .ok (.istore_n 3, 1) := by decide +kernel
theorem dX9_tells_14 : decode cX9_tells 14 = .ok (.iload_n 3, 1) := by decide +kernel
theorem dX9_tells_15 : decode cX9_tells 15 = .ok (.ifCond .le 69, 3) := by decide +kernel
theorem dX9_tells_18 : decode cX9_tells 18 = .ok (.aload_n 0, 1) := by decide +kernel
theorem dX9_tells_19 : decode cX9_tells 19 = .ok (.iload_n 1, 1) := by decide +kernel
theorem dX9_tells_20 : decode cX9_tells 20 = .ok (.iconst 5, 1) := by decide +kernel
theorem dX9_tells_21 : decode cX9_tells 21 = .ok (.iconst 1, 1) := by decide +kernel
theorem dX9_tells_22 : decode cX9_tells 22 = .ok (.invokevirtual 43, 3) := by decide +kernel
theorem dX9_tells_25 : decode cX9_tells 25 = .ok (.aload_n 0, 1) := by decide +kernel
theorem dX9_tells_26 : decode cX9_tells 26 = .ok (.iload_n 1, 1) := by decide +kernel
theorem dX9_tells_27 : decode cX9_tells 27 = .ok (.bipush 6, 2) := by decide +kernel
theorem dX9_tells_29 : decode cX9_tells 29 = .ok (.iload_n 3, 1) := by decide +kernel
theorem dX9_tells_30 : decode cX9_tells 30 = .ok (.invokevirtual 43, 3) := by decide +kernel
theorem dX9_tells_33 : decode cX9_tells 33 = .ok (.aload_n 0, 1) := by decide +kernel
theorem dX9_tells_34 : decode cX9_tells 34 = .ok (.iload_n 1, 1) := by decide +kernel
theorem dX9_tells_35 : decode cX9_tells 35 = .ok (.bipush 7, 2) := by decide +kernel
theorem dX9_tells_37 : decode cX9_tells 37 = .ok (.aload_n 0, 1) := by decide +kernel
theorem dX9_tells_38 : decode cX9_tells 38 = .ok (.iload_n 2, 1) := by decide +kernel
theorem dX9_tells_39 : decode cX9_tells 39 = .ok (.iconst 1, 1) := by decide +kernel
theorem dX9_tells_40 : decode cX9_tells 40 = .ok (.invokevirtual 63, 3) := by decide +kernel
theorem dX9_tells_43 : decode cX9_tells 43 = .ok (.invokevirtual 43, 3) := by decide +kernel
theorem dX9_tells_46 : decode cX9_tells 46 = .ok (.aload_n 0, 1) := by decide +kernel
theorem dX9_tells_47 : decode cX9_tells 47 = .ok (.iload_n 1, 1) := by decide +kernel
theorem dX9_tells_48 : decode cX9_tells 48 = .ok (.iconst 3, 1) := by decide +kernel
theorem dX9_tells_49 : decode cX9_tells 49 = .ok (.aload_n 0, 1) := by decide +kernel
theorem dX9_tells_50 : decode cX9_tells 50 = .ok (.iload_n 1, 1) := by decide +kernel
theorem dX9_tells_51 : decode cX9_tells 51 = .ok (.iconst 3, 1) := by decide +kernel
theorem dX9_tells_52 : decode cX9_tells 52 = .ok (.invokevirtual 35, 3) := by decide +kernel
theorem dX9_tells_55 : decode cX9_tells 55 = .ok (.iconst 1, 1) := by decide +kernel
theorem dX9_tells_56 : decode cX9_tells 56 = .ok (.iadd, 1) := by decide +kernel
theorem dX9_tells_57 : decode cX9_tells 57 = .ok (.invokevirtual 43, 3) := by decide +kernel
theorem dX9_tells_60 : decode cX9_tells 60 = .ok (.aload_n 0, 1) := by decide +kernel
theorem dX9_tells_61 : decode cX9_tells 61 = .ok (.getfield 7, 3) := by decide +kernel
theorem dX9_tells_64 : decode cX9_tells 64 = .ok (.iconst 3, 1) := by decide +kernel
theorem dX9_tells_65 : decode cX9_tells 65 = .ok (.dup2, 1) := by decide +kernel
theorem dX9_tells_66 : decode cX9_tells 66 = .ok (.iaload, 1) := by decide +kernel
theorem dX9_tells_67 : decode cX9_tells 67 = .ok (.iconst 1, 1) := by decide +kernel
theorem dX9_tells_68 : decode cX9_tells 68 = .ok (.iadd, 1) := by decide +kernel
theorem dX9_tells_69 : decode cX9_tells 69 = .ok (.iastore, 1) := by decide +kernel
theorem dX9_tells_70 : decode cX9_tells 70 = .ok (.aload_n 0, 1) := by decide +kernel
theorem dX9_tells_71 : decode cX9_tells 71 = .ok (.iconst 0, 1) := by decide +kernel
theorem dX9_tells_72 : decode cX9_tells 72 = .ok (.iload_n 2, 1) := by decide +kernel
theorem dX9_tells_73 : decode cX9_tells 73 = .ok (.iload_n 3, 1) := by decide +kernel
theorem dX9_tells_74 : decode cX9_tells 74 = .ok (.aload_n 0, 1) := by decide +kernel
theorem dX9_tells_75 : decode cX9_tells 75 = .ok (.iload_n 1, 1) := by decide +kernel
theorem dX9_tells_76 : decode cX9_tells 76 = .ok (.bipush 7, 2) := by decide +kernel
theorem dX9_tells_78 : decode cX9_tells 78 = .ok (.invokevirtual 35, 3) := by decide +kernel
theorem dX9_tells_81 : decode cX9_tells 81 = .ok (.invokevirtual 66, 3) := by decide +kernel
theorem dX9_tells_84 : decode cX9_tells 84 = .ok (.return_, 1) := by decide +kernel
set_option maxRecDepth 20000 in
theorem ggX9_takesBack_X9_ofP : GoodIn wsX9_takesBack wsX9_ofP := goodIn_r _ [6, 1, 15, 16, 17, 18, 19, 20, 21, 22] (by decide +kernel) (by decide +kernel)
set_option maxRecDepth 20000 in
theorem gX9_takesBack_X9_ofP : GoodIn wsX9_takesBack (wsV RX9 35 RX9 yX9_ofP wsX9_ofP) := goodIn_app (goodIn_of _ (by decide +kernel)) ggX9_takesBack_X9_ofP
set_option maxRecDepth 20000 in
theorem ggX9_takesBack_X9_setsP : GoodIn wsX9_takesBack wsX9_setsP := goodIn_r _ [10, 1, 15, 16, 17, 18, 19, 20, 21, 22] (by decide +kernel) (by decide +kernel)
set_option maxRecDepth 20000 in
theorem gX9_takesBack_X9_setsP : GoodIn wsX9_takesBack (wsV RX9 43 RX9 yX9_setsP wsX9_setsP) := goodIn_app (goodIn_of _ (by decide +kernel)) ggX9_takesBack_X9_setsP
set_option maxRecDepth 20000 in
theorem ggX9_takesBack_X9_says : GoodIn wsX9_takesBack wsX9_says := goodIn_r _ [14, 1, 15, 16, 17, 18, 19, 20, 21, 22] (by decide +kernel) (by decide +kernel)
set_option maxRecDepth 20000 in
theorem gX9_takesBack_X9_says : GoodIn wsX9_takesBack (wsV RX9 66 RX9 yX9_says wsX9_says) := goodIn_app (goodIn_of _ (by decide +kernel)) ggX9_takesBack_X9_says
theorem dX9_takesBack_0 : decode cX9_takesBack 0 = .ok (.aload_n 0, 1) := by decide +kernel
theorem dX9_takesBack_1 : decode cX9_takesBack 1 = .ok (.iload_n 1, 1) := by decide +kernel
theorem dX9_takesBack_2 : decode cX9_takesBack 2 = .ok (.iconst 5, 1) := by decide +kernel
theorem dX9_takesBack_3 : decode cX9_takesBack 3 = .ok (.invokevirtual 35, 3) := by decide +kernel
theorem dX9_takesBack_6 : decode cX9_takesBack 6 = .ok (.iconst 1, 1) := by decide +kernel
theorem dX9_takesBack_7 : decode cX9_takesBack 7 = .ok (.if_icmp .ne 59, 3) := by decide +kernel
theorem dX9_takesBack_10 : decode cX9_takesBack 10 = .ok (.aload_n 0, 1) := by decide +kernel
theorem dX9_takesBack_11 : decode cX9_takesBack 11 = .ok (.iload_n 1, 1) := by decide +kernel
theorem dX9_takesBack_12 : decode cX9_takesBack 12 = .ok (.iconst 5, 1) := by decide +kernel
theorem dX9_takesBack_13 : decode cX9_takesBack 13 = .ok (.iconst 0, 1) := by decide +kernel
theorem dX9_takesBack_14 : decode cX9_takesBack 14 = .ok (.invokevirtual 43, 3) := by decide +kernel
theorem dX9_takesBack_17 : decode cX9_takesBack 17 = .ok (.aload_n 0, 1) := by decide +kernel
theorem dX9_takesBack_18 : decode cX9_takesBack 18 = .ok (.iload_n 1, 1) := by decide +kernel
theorem dX9_takesBack_19 : decode cX9_takesBack 19 = .ok (.iconst 4, 1) := by decide +kernel
theorem dX9_takesBack_20 : decode cX9_takesBack 20 = .ok (.aload_n 0, 1) := by decide +kernel
theorem dX9_takesBack_21 : decode cX9_takesBack 21 = .ok (.iload_n 1, 1) := by decide +kernel
theorem dX9_takesBack_22 : decode cX9_takesBack 22 = .ok (.iconst 4, 1) := by decide +kernel
theorem dX9_takesBack_23 : decode cX9_takesBack 23 = .ok (.invokevirtual 35, 3) := by decide +kernel
theorem dX9_takesBack_26 : decode cX9_takesBack 26 = .ok (.iconst 1, 1) := by decide +kernel
theorem dX9_takesBack_27 : decode cX9_takesBack 27 = .ok (.iadd, 1) := by decide +kernel
theorem dX9_takesBack_28 : decode cX9_takesBack 28 = .ok (.invokevirtual 43, 3) := by decide +kernel
theorem dX9_takesBack_31 : decode cX9_takesBack 31 = .ok (.aload_n 0, 1) := by decide +kernel
theorem dX9_takesBack_32 : decode cX9_takesBack 32 = .ok (.getfield 7, 3) := by decide +kernel
theorem dX9_takesBack_35 : decode cX9_takesBack 35 = .ok (.iconst 4, 1) := by decide +kernel
theorem dX9_takesBack_36 : decode cX9_takesBack 36 = .ok (.dup2, 1) := by decide +kernel
theorem dX9_takesBack_37 : decode cX9_takesBack 37 = .ok (.iaload, 1) := by decide +kernel
theorem dX9_takesBack_38 : decode cX9_takesBack 38 = .ok (.iconst 1, 1) := by decide +kernel
theorem dX9_takesBack_39 : decode cX9_takesBack 39 = .ok (.iadd, 1) := by decide +kernel
theorem dX9_takesBack_40 : decode cX9_takesBack 40 = .ok (.iastore, 1) := by decide +kernel
theorem dX9_takesBack_41 : decode cX9_takesBack 41 = .ok (.aload_n 0, 1) := by decide +kernel
theorem dX9_takesBack_42 : decode cX9_takesBack 42 = .ok (.iconst 1, 1) := by decide +kernel
theorem dX9_takesBack_43 : decode cX9_takesBack 43 = .ok (.aload_n 0, 1) := by decide +kernel
theorem dX9_takesBack_44 : decode cX9_takesBack 44 = .ok (.iload_n 1, 1) := by decide +kernel
theorem dX9_takesBack_45 : decode cX9_takesBack 45 = .ok (.iconst 0, 1) := by decide +kernel
theorem dX9_takesBack_46 : decode cX9_takesBack 46 = .ok (.invokevirtual 35, 3) := by decide +kernel
theorem dX9_takesBack_49 : decode cX9_takesBack 49 = .ok (.aload_n 0, 1) := by decide +kernel
theorem dX9_takesBack_50 : decode cX9_takesBack 50 = .ok (.iload_n 1, 1) := by decide +kernel
theorem dX9_takesBack_51 : decode cX9_takesBack 51 = .ok (.bipush 6, 2) := by decide +kernel
theorem dX9_takesBack_53 : decode cX9_takesBack 53 = .ok (.invokevirtual 35, 3) := by decide +kernel
theorem dX9_takesBack_56 : decode cX9_takesBack 56 = .ok (.aload_n 0, 1) := by decide +kernel
theorem dX9_takesBack_57 : decode cX9_takesBack 57 = .ok (.iload_n 1, 1) := by decide +kernel
theorem dX9_takesBack_58 : decode cX9_takesBack 58 = .ok (.bipush 7, 2) := by decide +kernel
theorem dX9_takesBack_60 : decode cX9_takesBack 60 = .ok (.invokevirtual 35, 3) := by decide +kernel
theorem dX9_takesBack_63 : decode cX9_takesBack 63 = .ok (.invokevirtual 66, 3) := by decide +kernel
theorem dX9_takesBack_66 : decode cX9_takesBack 66 = .ok (.return_, 1) := by decide +kernel
set_option maxRecDepth 20000 in
theorem ggX9_nextKept_X9_ofP : GoodIn wsX9_nextKept wsX9_ofP := goodIn_r _ [6, 1, 7, 8, 9, 10, 11, 12, 13, 14] (by decide +kernel) (by decide +kernel)
set_option maxRecDepth 20000 in
theorem gX9_nextKept_X9_ofP : GoodIn wsX9_nextKept (wsV RX9 35 RX9 yX9_ofP wsX9_ofP) := goodIn_app (goodIn_of _ (by decide +kernel)) ggX9_nextKept_X9_ofP
theorem dX9_nextKept_0 : decode cX9_nextKept 0 = .ok (.iconst (-1), 1) := by decide +kernel
theorem dX9_nextKept_1 : decode cX9_nextKept 1 = .ok (.istore_n 2, 1) := by decide +kernel
theorem dX9_nextKept_2 : decode cX9_nextKept 2 = .ok (.iconst 0, 1) := by decide +kernel
theorem dX9_nextKept_3 : decode cX9_nextKept 3 = .ok (.istore_n 3, 1) := by decide +kernel
theorem dX9_nextKept_4 : decode cX9_nextKept 4 = .ok (.iload_n 3, 1) := by decide +kernel
theorem dX9_nextKept_5 : decode cX9_nextKept 5 = .ok (.aload_n 0, 1) := by decide +kernel
theorem dX9_nextKept_6 : decode cX9_nextKept 6 = .ok (.getfield 7, 3) := by decide +kernel
theorem dX9_nextKept_9 : decode cX9_nextKept 9 = .ok (.bipush 10, 2) := by decide +kernel
theorem dX9_nextKept_11 : decode cX9_nextKept 11 = .ok (.iaload, 1) := by decide +kernel
theorem dX9_nextKept_12 : decode cX9_nextKept 12 = .ok (.if_icmp .ge 44, 3) := by decide +kernel
theorem dX9_nextKept_15 : decode cX9_nextKept 15 = .ok (.aload_n 0, 1) := by decide +kernel
theorem dX9_nextKept_16 : decode cX9_nextKept 16 = .ok (.iload_n 3, 1) := by decide +kernel
theorem dX9_nextKept_17 : decode cX9_nextKept 17 = .ok (.iconst 0, 1) := by decide +kernel
theorem dX9_nextKept_18 : decode cX9_nextKept 18 = .ok (.invokevirtual 35, 3) := by decide +kernel
theorem dX9_nextKept_21 : decode cX9_nextKept 21 = .ok (.iload_n 1, 1) := by decide +kernel
theorem dX9_nextKept_22 : decode cX9_nextKept 22 = .ok (.if_icmp .le 26, 3) := by decide +kernel
theorem dX9_nextKept_25 : decode cX9_nextKept 25 = .ok (.iload_n 2, 1) := by decide +kernel
theorem dX9_nextKept_26 : decode cX9_nextKept 26 = .ok (.ifCond .lt 18, 3) := by decide +kernel
theorem dX9_nextKept_29 : decode cX9_nextKept 29 = .ok (.aload_n 0, 1) := by decide +kernel
theorem dX9_nextKept_30 : decode cX9_nextKept 30 = .ok (.iload_n 3, 1) := by decide +kernel
theorem dX9_nextKept_31 : decode cX9_nextKept 31 = .ok (.iconst 0, 1) := by decide +kernel
theorem dX9_nextKept_32 : decode cX9_nextKept 32 = .ok (.invokevirtual 35, 3) := by decide +kernel
theorem dX9_nextKept_35 : decode cX9_nextKept 35 = .ok (.aload_n 0, 1) := by decide +kernel
theorem dX9_nextKept_36 : decode cX9_nextKept 36 = .ok (.iload_n 2, 1) := by decide +kernel
theorem dX9_nextKept_37 : decode cX9_nextKept 37 = .ok (.iconst 0, 1) := by decide +kernel
theorem dX9_nextKept_38 : decode cX9_nextKept 38 = .ok (.invokevirtual 35, 3) := by decide +kernel
theorem dX9_nextKept_41 : decode cX9_nextKept 41 = .ok (.if_icmp .ge 7, 3) := by decide +kernel
theorem dX9_nextKept_44 : decode cX9_nextKept 44 = .ok (.iload_n 3, 1) := by decide +kernel
theorem dX9_nextKept_45 : decode cX9_nextKept 45 = .ok (.goto 4, 3) := by decide +kernel
theorem dX9_nextKept_48 : decode cX9_nextKept 48 = .ok (.iload_n 2, 1) := by decide +kernel
theorem dX9_nextKept_49 : decode cX9_nextKept 49 = .ok (.istore_n 2, 1) := by decide +kernel
theorem dX9_nextKept_50 : decode cX9_nextKept 50 = .ok (.iinc 3 1, 3) := by decide +kernel
theorem dX9_nextKept_53 : decode cX9_nextKept 53 = .ok (.goto (-49), 3) := by decide +kernel
theorem dX9_nextKept_56 : decode cX9_nextKept 56 = .ok (.iload_n 2, 1) := by decide +kernel
theorem dX9_nextKept_57 : decode cX9_nextKept 57 = .ok (.ireturn, 1) := by decide +kernel
set_option maxRecDepth 20000 in
theorem ggX9_rises_X9_nextKept : GoodIn wsX9_rises wsX9_nextKept := goodIn_r _ [6, 1, 7, 8, 9, 5, 10, 46, 47, 48, 49, 50, 51, 52, 53] (by decide +kernel) (by decide +kernel)
set_option maxRecDepth 20000 in
theorem gX9_rises_X9_nextKept : GoodIn wsX9_rises (wsV RX9 70 RX9 yX9_nextKept wsX9_nextKept) := goodIn_app (goodIn_of _ (by decide +kernel)) ggX9_rises_X9_nextKept
set_option maxRecDepth 20000 in
theorem ggX9_rises_X9_ofP : GoodIn wsX9_rises wsX9_ofP := goodIn_r _ [10, 1, 46, 47, 48, 49, 50, 51, 52, 53] (by decide +kernel) (by decide +kernel)
set_option maxRecDepth 20000 in
theorem gX9_rises_X9_ofP : GoodIn wsX9_rises (wsV RX9 35 RX9 yX9_ofP wsX9_ofP) := goodIn_app (goodIn_of _ (by decide +kernel)) ggX9_rises_X9_ofP
set_option maxRecDepth 20000 in
theorem ggX9_rises_X9_endOf : GoodIn wsX9_rises wsX9_endOf := goodIn_r _ [14, 1, 46, 47, 48, 49, 50, 51, 52, 53] (by decide +kernel) (by decide +kernel)
set_option maxRecDepth 20000 in
theorem gX9_rises_X9_endOf : GoodIn wsX9_rises (wsV RX9 50 RX9 yX9_endOf wsX9_endOf) := goodIn_app (goodIn_of _ (by decide +kernel)) ggX9_rises_X9_endOf
set_option maxRecDepth 20000 in
theorem ggX9_rises_X9_tells : GoodIn wsX9_rises wsX9_tells := goodIn_r _ [18, 1, 7, 8, 9, 5, 10, 19, 20, 21, 22, 23, 24, 25, 26, 27, 28, 29, 30, 31, 32, 33, 34, 35, 36, 37, 38, 39, 40, 41, 42, 43, 44, 45, 46, 47, 48, 49, 50, 51, 52, 53] (by decide +kernel) (by decide +kernel)
set_option maxRecDepth 20000 in
theorem gX9_rises_X9_tells : GoodIn wsX9_rises (wsV RX9 73 RX9 yX9_tells wsX9_tells) := goodIn_app (goodIn_of _ (by decide +kernel)) ggX9_rises_X9_tells
set_option maxRecDepth 20000 in
theorem ggX9_rises_X9_setsP : GoodIn wsX9_rises wsX9_setsP := goodIn_r _ [41, 1, 46, 47, 48, 49, 50, 51, 52, 53] (by decide +kernel) (by decide +kernel)
set_option maxRecDepth 20000 in
theorem gX9_rises_X9_setsP : GoodIn wsX9_rises (wsV RX9 43 RX9 yX9_setsP wsX9_setsP) := goodIn_app (goodIn_of _ (by decide +kernel)) ggX9_rises_X9_setsP
theorem dX9_rises_0 : decode cX9_rises 0 = .ok (.aload_n 0, 1) := by decide +kernel
theorem dX9_rises_1 : decode cX9_rises 1 = .ok (.getfield 7, 3) := by decide +kernel
theorem dX9_rises_4 : decode cX9_rises 4 = .ok (.iconst 0, 1) := by decide +kernel
theorem dX9_rises_5 : decode cX9_rises 5 = .ok (.iaload, 1) := by decide +kernel
theorem dX9_rises_6 : decode cX9_rises 6 = .ok (.istore_n 2, 1) := by decide +kernel
theorem dX9_rises_7 : decode cX9_rises 7 = .ok (.aload_n 0, 1) := by decide +kernel
theorem dX9_rises_8 : decode cX9_rises 8 = .ok (.getfield 7, 3) := by decide +kernel
theorem dX9_rises_11 : decode cX9_rises 11 = .ok (.iconst 0, 1) := by decide +kernel
theorem dX9_rises_12 : decode cX9_rises 12 = .ok (.iload_n 1, 1) := by decide +kernel
theorem dX9_rises_13 : decode cX9_rises 13 = .ok (.iastore, 1) := by decide +kernel
theorem dX9_rises_14 : decode cX9_rises 14 = .ok (.aload_n 0, 1) := by decide +kernel
theorem dX9_rises_15 : decode cX9_rises 15 = .ok (.iconst (-1), 1) := by decide +kernel
theorem dX9_rises_16 : decode cX9_rises 16 = .ok (.invokevirtual 70, 3) := by decide +kernel
theorem dX9_rises_19 : decode cX9_rises 19 = .ok (.istore_n 3, 1) := by decide +kernel
theorem dX9_rises_20 : decode cX9_rises 20 = .ok (.iload_n 3, 1) := by decide +kernel
theorem dX9_rises_21 : decode cX9_rises 21 = .ok (.ifCond .lt 90, 3) := by decide +kernel
theorem dX9_rises_24 : decode cX9_rises 24 = .ok (.aload_n 0, 1) := by decide +kernel
theorem dX9_rises_25 : decode cX9_rises 25 = .ok (.iload_n 3, 1) := by decide +kernel
theorem dX9_rises_26 : decode cX9_rises 26 = .ok (.iconst 0, 1) := by decide +kernel
theorem dX9_rises_27 : decode cX9_rises 27 = .ok (.invokevirtual 35, 3) := by decide +kernel
theorem dX9_rises_30 : decode cX9_rises 30 = .ok (.istore 4, 2) := by decide +kernel
theorem dX9_rises_32 : decode cX9_rises 32 = .ok (.aload_n 0, 1) := by decide +kernel
theorem dX9_rises_33 : decode cX9_rises 33 = .ok (.iload_n 3, 1) := by decide +kernel
theorem dX9_rises_34 : decode cX9_rises 34 = .ok (.iconst 1, 1) := by decide +kernel
theorem dX9_rises_35 : decode cX9_rises 35 = .ok (.invokevirtual 35, 3) := by decide +kernel
theorem dX9_rises_38 : decode cX9_rises 38 = .ok (.ifCond .ne 31, 3) := by decide +kernel
theorem dX9_rises_41 : decode cX9_rises 41 = .ok (.aload_n 0, 1) := by decide +kernel
theorem dX9_rises_42 : decode cX9_rises 42 = .ok (.iload 4, 2) := by decide +kernel
theorem dX9_rises_44 : decode cX9_rises 44 = .ok (.invokevirtual 50, 3) := by decide +kernel
theorem dX9_rises_47 : decode cX9_rises 47 = .ok (.iload_n 2, 1) := by decide +kernel
theorem dX9_rises_48 : decode cX9_rises 48 = .ok (.if_icmp .le 21, 3) := by decide +kernel
theorem dX9_rises_51 : decode cX9_rises 51 = .ok (.aload_n 0, 1) := by decide +kernel
theorem dX9_rises_52 : decode cX9_rises 52 = .ok (.iload 4, 2) := by decide +kernel
theorem dX9_rises_54 : decode cX9_rises 54 = .ok (.invokevirtual 50, 3) := by decide +kernel
theorem dX9_rises_57 : decode cX9_rises 57 = .ok (.iload_n 1, 1) := by decide +kernel
theorem dX9_rises_58 : decode cX9_rises 58 = .ok (.if_icmp .gt 11, 3) := by decide +kernel
theorem dX9_rises_61 : decode cX9_rises 61 = .ok (.aload_n 0, 1) := by decide +kernel
theorem dX9_rises_62 : decode cX9_rises 62 = .ok (.iload_n 3, 1) := by decide +kernel
theorem dX9_rises_63 : decode cX9_rises 63 = .ok (.invokevirtual 73, 3) := by decide +kernel
theorem dX9_rises_66 : decode cX9_rises 66 = .ok (.goto 35, 3) := by decide +kernel
theorem dX9_rises_69 : decode cX9_rises 69 = .ok (.aload_n 0, 1) := by decide +kernel
theorem dX9_rises_70 : decode cX9_rises 70 = .ok (.iload_n 3, 1) := by decide +kernel
theorem dX9_rises_71 : decode cX9_rises 71 = .ok (.iconst 1, 1) := by decide +kernel
theorem dX9_rises_72 : decode cX9_rises 72 = .ok (.invokevirtual 35, 3) := by decide +kernel
theorem dX9_rises_75 : decode cX9_rises 75 = .ok (.iconst 1, 1) := by decide +kernel
theorem dX9_rises_76 : decode cX9_rises 76 = .ok (.if_icmp .ne 25, 3) := by decide +kernel
theorem dX9_rises_79 : decode cX9_rises 79 = .ok (.aload_n 0, 1) := by decide +kernel
theorem dX9_rises_80 : decode cX9_rises 80 = .ok (.iload_n 3, 1) := by decide +kernel
theorem dX9_rises_81 : decode cX9_rises 81 = .ok (.iconst 2, 1) := by decide +kernel
theorem dX9_rises_82 : decode cX9_rises 82 = .ok (.invokevirtual 35, 3) := by decide +kernel
theorem dX9_rises_85 : decode cX9_rises 85 = .ok (.iload_n 1, 1) := by decide +kernel
theorem dX9_rises_86 : decode cX9_rises 86 = .ok (.if_icmp .gt 15, 3) := by decide +kernel
theorem dX9_rises_89 : decode cX9_rises 89 = .ok (.aload_n 0, 1) := by decide +kernel
theorem dX9_rises_90 : decode cX9_rises 90 = .ok (.iload_n 3, 1) := by decide +kernel
theorem dX9_rises_91 : decode cX9_rises 91 = .ok (.iconst 1, 1) := by decide +kernel
theorem dX9_rises_92 : decode cX9_rises 92 = .ok (.iconst 2, 1) := by decide +kernel
theorem dX9_rises_93 : decode cX9_rises 93 = .ok (.invokevirtual 43, 3) := by decide +kernel
theorem dX9_rises_96 : decode cX9_rises 96 = .ok (.aload_n 0, 1) := by decide +kernel
theorem dX9_rises_97 : decode cX9_rises 97 = .ok (.iload_n 3, 1) := by decide +kernel
theorem dX9_rises_98 : decode cX9_rises 98 = .ok (.invokevirtual 73, 3) := by decide +kernel
theorem dX9_rises_101 : decode cX9_rises 101 = .ok (.aload_n 0, 1) := by decide +kernel
theorem dX9_rises_102 : decode cX9_rises 102 = .ok (.iload 4, 2) := by decide +kernel
theorem dX9_rises_104 : decode cX9_rises 104 = .ok (.invokevirtual 70, 3) := by decide +kernel
theorem dX9_rises_107 : decode cX9_rises 107 = .ok (.istore_n 3, 1) := by decide +kernel
theorem dX9_rises_108 : decode cX9_rises 108 = .ok (.goto (-88), 3) := by decide +kernel
theorem dX9_rises_111 : decode cX9_rises 111 = .ok (.return_, 1) := by decide +kernel
set_option maxRecDepth 20000 in
theorem ggX9_wasIll_X9_ofE : GoodIn wsX9_wasIll wsX9_ofE := goodIn_r _ [5, 6, 7, 8, 9, 10, 11, 12, 13, 14] (by decide +kernel) (by decide +kernel)
set_option maxRecDepth 20000 in
theorem gX9_wasIll_X9_ofE : GoodIn wsX9_wasIll (wsV RX9 53 RX9 yX9_ofE wsX9_ofE) := goodIn_app (goodIn_of _ (by decide +kernel)) ggX9_wasIll_X9_ofE
theorem dX9_wasIll_0 : decode cX9_wasIll 0 = .ok (.iconst 0, 1) := by decide +kernel
theorem dX9_wasIll_1 : decode cX9_wasIll 1 = .ok (.istore_n 2, 1) := by decide +kernel
theorem dX9_wasIll_2 : decode cX9_wasIll 2 = .ok (.iconst 0, 1) := by decide +kernel
theorem dX9_wasIll_3 : decode cX9_wasIll 3 = .ok (.istore_n 3, 1) := by decide +kernel
theorem dX9_wasIll_4 : decode cX9_wasIll 4 = .ok (.iload_n 3, 1) := by decide +kernel
theorem dX9_wasIll_5 : decode cX9_wasIll 5 = .ok (.bipush 64, 2) := by decide +kernel
theorem dX9_wasIll_7 : decode cX9_wasIll 7 = .ok (.if_icmp .ge 59, 3) := by decide +kernel
theorem dX9_wasIll_10 : decode cX9_wasIll 10 = .ok (.iload_n 2, 1) := by decide +kernel
theorem dX9_wasIll_11 : decode cX9_wasIll 11 = .ok (.ifCond .ne 43, 3) := by decide +kernel
theorem dX9_wasIll_14 : decode cX9_wasIll 14 = .ok (.aload_n 0, 1) := by decide +kernel
theorem dX9_wasIll_15 : decode cX9_wasIll 15 = .ok (.iload_n 3, 1) := by decide +kernel
theorem dX9_wasIll_16 : decode cX9_wasIll 16 = .ok (.iconst 0, 1) := by decide +kernel
theorem dX9_wasIll_17 : decode cX9_wasIll 17 = .ok (.invokevirtual 53, 3) := by decide +kernel
theorem dX9_wasIll_20 : decode cX9_wasIll 20 = .ok (.iconst 1, 1) := by decide +kernel
theorem dX9_wasIll_21 : decode cX9_wasIll 21 = .ok (.if_icmp .ne 37, 3) := by decide +kernel
theorem dX9_wasIll_24 : decode cX9_wasIll 24 = .ok (.aload_n 0, 1) := by decide +kernel
theorem dX9_wasIll_25 : decode cX9_wasIll 25 = .ok (.iload_n 3, 1) := by decide +kernel
theorem dX9_wasIll_26 : decode cX9_wasIll 26 = .ok (.iconst 2, 1) := by decide +kernel
theorem dX9_wasIll_27 : decode cX9_wasIll 27 = .ok (.invokevirtual 53, 3) := by decide +kernel
theorem dX9_wasIll_30 : decode cX9_wasIll 30 = .ok (.iload_n 1, 1) := by decide +kernel
theorem dX9_wasIll_31 : decode cX9_wasIll 31 = .ok (.if_icmp .ne 27, 3) := by decide +kernel
theorem dX9_wasIll_34 : decode cX9_wasIll 34 = .ok (.aload_n 0, 1) := by decide +kernel
theorem dX9_wasIll_35 : decode cX9_wasIll 35 = .ok (.iload_n 3, 1) := by decide +kernel
theorem dX9_wasIll_36 : decode cX9_wasIll 36 = .ok (.iconst 4, 1) := by decide +kernel
theorem dX9_wasIll_37 : decode cX9_wasIll 37 = .ok (.invokevirtual 53, 3) := by decide +kernel
theorem dX9_wasIll_40 : decode cX9_wasIll 40 = .ok (.iconst 2, 1) := by decide +kernel
theorem dX9_wasIll_41 : decode cX9_wasIll 41 = .ok (.if_icmp .ne 17, 3) := by decide +kernel
theorem dX9_wasIll_44 : decode cX9_wasIll 44 = .ok (.aload_n 0, 1) := by decide +kernel
theorem dX9_wasIll_45 : decode cX9_wasIll 45 = .ok (.iload_n 3, 1) := by decide +kernel
theorem dX9_wasIll_46 : decode cX9_wasIll 46 = .ok (.iconst 5, 1) := by decide +kernel
theorem dX9_wasIll_47 : decode cX9_wasIll 47 = .ok (.invokevirtual 53, 3) := by decide +kernel
theorem dX9_wasIll_50 : decode cX9_wasIll 50 = .ok (.iconst 1, 1) := by decide +kernel
theorem dX9_wasIll_51 : decode cX9_wasIll 51 = .ok (.if_icmp .ne 7, 3) := by decide +kernel
theorem dX9_wasIll_54 : decode cX9_wasIll 54 = .ok (.iconst 1, 1) := by decide +kernel
theorem dX9_wasIll_55 : decode cX9_wasIll 55 = .ok (.goto 4, 3) := by decide +kernel
theorem dX9_wasIll_58 : decode cX9_wasIll 58 = .ok (.iconst 0, 1) := by decide +kernel
theorem dX9_wasIll_59 : decode cX9_wasIll 59 = .ok (.istore_n 2, 1) := by decide +kernel
theorem dX9_wasIll_60 : decode cX9_wasIll 60 = .ok (.iinc 3 1, 3) := by decide +kernel
theorem dX9_wasIll_63 : decode cX9_wasIll 63 = .ok (.goto (-59), 3) := by decide +kernel
theorem dX9_wasIll_66 : decode cX9_wasIll 66 = .ok (.iload_n 2, 1) := by decide +kernel
theorem dX9_wasIll_67 : decode cX9_wasIll 67 = .ok (.ireturn, 1) := by decide +kernel
set_option maxRecDepth 20000 in
theorem ggX9_isExcuse_X9_paneAt : GoodIn wsX9_isExcuse wsX9_paneAt := goodIn_r _ [6, 1, 19, 20, 21, 22, 23, 24, 25, 26] (by decide +kernel) (by decide +kernel)
set_option maxRecDepth 20000 in
theorem gX9_isExcuse_X9_paneAt : GoodIn wsX9_isExcuse (wsV RX9 60 RX9 yX9_paneAt wsX9_paneAt) := goodIn_app (goodIn_of _ (by decide +kernel)) ggX9_isExcuse_X9_paneAt
set_option maxRecDepth 20000 in
theorem ggX9_isExcuse_X9_endOf : GoodIn wsX9_isExcuse wsX9_endOf := goodIn_r _ [10, 1, 19, 20, 21, 22, 23, 24, 25, 26] (by decide +kernel) (by decide +kernel)
set_option maxRecDepth 20000 in
theorem gX9_isExcuse_X9_endOf : GoodIn wsX9_isExcuse (wsV RX9 50 RX9 yX9_endOf wsX9_endOf) := goodIn_app (goodIn_of _ (by decide +kernel)) ggX9_isExcuse_X9_endOf
set_option maxRecDepth 20000 in
theorem ggX9_isExcuse_X9_wasIll : GoodIn wsX9_isExcuse wsX9_wasIll := goodIn_r _ [14, 15, 16, 17, 5, 18, 1, 19, 20, 21, 22, 23, 24, 25, 26] (by decide +kernel) (by decide +kernel)
set_option maxRecDepth 20000 in
theorem gX9_isExcuse_X9_wasIll : GoodIn wsX9_isExcuse (wsV RX9 77 RX9 yX9_wasIll wsX9_wasIll) := goodIn_app (goodIn_of _ (by decide +kernel)) ggX9_isExcuse_X9_wasIll
theorem dX9_isExcuse_0 : decode cX9_isExcuse 0 = .ok (.aload_n 0, 1) := by decide +kernel
theorem dX9_isExcuse_1 : decode cX9_isExcuse 1 = .ok (.getfield 7, 3) := by decide +kernel
theorem dX9_isExcuse_4 : decode cX9_isExcuse 4 = .ok (.iconst 0, 1) := by decide +kernel
theorem dX9_isExcuse_5 : decode cX9_isExcuse 5 = .ok (.iaload, 1) := by decide +kernel
theorem dX9_isExcuse_6 : decode cX9_isExcuse 6 = .ok (.aload_n 0, 1) := by decide +kernel
theorem dX9_isExcuse_7 : decode cX9_isExcuse 7 = .ok (.aload_n 0, 1) := by decide +kernel
theorem dX9_isExcuse_8 : decode cX9_isExcuse 8 = .ok (.iload_n 1, 1) := by decide +kernel
theorem dX9_isExcuse_9 : decode cX9_isExcuse 9 = .ok (.invokevirtual 60, 3) := by decide +kernel
theorem dX9_isExcuse_12 : decode cX9_isExcuse 12 = .ok (.invokevirtual 50, 3) := by decide +kernel
theorem dX9_isExcuse_15 : decode cX9_isExcuse 15 = .ok (.isub, 1) := by decide +kernel
theorem dX9_isExcuse_16 : decode cX9_isExcuse 16 = .ok (.iconst 1, 1) := by decide +kernel
theorem dX9_isExcuse_17 : decode cX9_isExcuse 17 = .ok (.iadd, 1) := by decide +kernel
theorem dX9_isExcuse_18 : decode cX9_isExcuse 18 = .ok (.istore 4, 2) := by decide +kernel
theorem dX9_isExcuse_20 : decode cX9_isExcuse 20 = .ok (.iload_n 3, 1) := by decide +kernel
theorem dX9_isExcuse_21 : decode cX9_isExcuse 21 = .ok (.tableswitch 75 1 3 #[27, 40, 61], 27) := by decide +kernel
theorem dX9_isExcuse_48 : decode cX9_isExcuse 48 = .ok (.iload 4, 2) := by decide +kernel
theorem dX9_isExcuse_50 : decode cX9_isExcuse 50 = .ok (.bipush 10, 2) := by decide +kernel
theorem dX9_isExcuse_52 : decode cX9_isExcuse 52 = .ok (.if_icmp .gt 7, 3) := by decide +kernel
theorem dX9_isExcuse_55 : decode cX9_isExcuse 55 = .ok (.iconst 1, 1) := by decide +kernel
theorem dX9_isExcuse_56 : decode cX9_isExcuse 56 = .ok (.goto 4, 3) := by decide +kernel
theorem dX9_isExcuse_59 : decode cX9_isExcuse 59 = .ok (.iconst 0, 1) := by decide +kernel
theorem dX9_isExcuse_60 : decode cX9_isExcuse 60 = .ok (.ireturn, 1) := by decide +kernel
theorem dX9_isExcuse_61 : decode cX9_isExcuse 61 = .ok (.iload 4, 2) := by decide +kernel
theorem dX9_isExcuse_63 : decode cX9_isExcuse 63 = .ok (.bipush 40, 2) := by decide +kernel
theorem dX9_isExcuse_65 : decode cX9_isExcuse 65 = .ok (.if_icmp .gt 15, 3) := by decide +kernel
theorem dX9_isExcuse_68 : decode cX9_isExcuse 68 = .ok (.aload_n 0, 1) := by decide +kernel
theorem dX9_isExcuse_69 : decode cX9_isExcuse 69 = .ok (.iload_n 2, 1) := by decide +kernel
theorem dX9_isExcuse_70 : decode cX9_isExcuse 70 = .ok (.invokevirtual 77, 3) := by decide +kernel
theorem dX9_isExcuse_73 : decode cX9_isExcuse 73 = .ok (.ifCond .ne 7, 3) := by decide +kernel
theorem dX9_isExcuse_76 : decode cX9_isExcuse 76 = .ok (.iconst 1, 1) := by decide +kernel
theorem dX9_isExcuse_77 : decode cX9_isExcuse 77 = .ok (.goto 4, 3) := by decide +kernel
theorem dX9_isExcuse_80 : decode cX9_isExcuse 80 = .ok (.iconst 0, 1) := by decide +kernel
theorem dX9_isExcuse_81 : decode cX9_isExcuse 81 = .ok (.ireturn, 1) := by decide +kernel
theorem dX9_isExcuse_82 : decode cX9_isExcuse 82 = .ok (.iload_n 1, 1) := by decide +kernel
theorem dX9_isExcuse_83 : decode cX9_isExcuse 83 = .ok (.bipush 7, 2) := by decide +kernel
theorem dX9_isExcuse_85 : decode cX9_isExcuse 85 = .ok (.irem, 1) := by decide +kernel
theorem dX9_isExcuse_86 : decode cX9_isExcuse 86 = .ok (.iconst 5, 1) := by decide +kernel
theorem dX9_isExcuse_87 : decode cX9_isExcuse 87 = .ok (.if_icmp .lt 7, 3) := by decide +kernel
theorem dX9_isExcuse_90 : decode cX9_isExcuse 90 = .ok (.iconst 1, 1) := by decide +kernel
theorem dX9_isExcuse_91 : decode cX9_isExcuse 91 = .ok (.goto 4, 3) := by decide +kernel
theorem dX9_isExcuse_94 : decode cX9_isExcuse 94 = .ok (.iconst 0, 1) := by decide +kernel
theorem dX9_isExcuse_95 : decode cX9_isExcuse 95 = .ok (.ireturn, 1) := by decide +kernel
theorem dX9_isExcuse_96 : decode cX9_isExcuse 96 = .ok (.iconst 0, 1) := by decide +kernel
theorem dX9_isExcuse_97 : decode cX9_isExcuse 97 = .ok (.ireturn, 1) := by decide +kernel
theorem dX9_placeIn_0 : decode cX9_placeIn 0 = .ok (.iconst 0, 1) := by decide +kernel
theorem dX9_placeIn_1 : decode cX9_placeIn 1 = .ok (.istore_n 2, 1) := by decide +kernel
theorem dX9_placeIn_2 : decode cX9_placeIn 2 = .ok (.iload_n 2, 1) := by decide +kernel
theorem dX9_placeIn_3 : decode cX9_placeIn 3 = .ok (.iconst 4, 1) := by decide +kernel
theorem dX9_placeIn_4 : decode cX9_placeIn 4 = .ok (.if_icmp .ge 36, 3) := by decide +kernel
theorem dX9_placeIn_7 : decode cX9_placeIn 7 = .ok (.aload_n 0, 1) := by decide +kernel
theorem dX9_placeIn_8 : decode cX9_placeIn 8 = .ok (.getfield 7, 3) := by decide +kernel
theorem dX9_placeIn_11 : decode cX9_placeIn 11 = .ok (.sipush 1068, 3) := by decide +kernel
theorem dX9_placeIn_14 : decode cX9_placeIn 14 = .ok (.iconst 4, 1) := by decide +kernel
theorem dX9_placeIn_15 : decode cX9_placeIn 15 = .ok (.iload_n 1, 1) := by decide +kernel
theorem dX9_placeIn_16 : decode cX9_placeIn 16 = .ok (.imul, 1) := by decide +kernel
theorem dX9_placeIn_17 : decode cX9_placeIn 17 = .ok (.iadd, 1) := by decide +kernel
theorem dX9_placeIn_18 : decode cX9_placeIn 18 = .ok (.iload_n 2, 1) := by decide +kernel
theorem dX9_placeIn_19 : decode cX9_placeIn 19 = .ok (.iadd, 1) := by decide +kernel
theorem dX9_placeIn_20 : decode cX9_placeIn 20 = .ok (.iaload, 1) := by decide +kernel
theorem dX9_placeIn_21 : decode cX9_placeIn 21 = .ok (.ifCond .ne 13, 3) := by decide +kernel
theorem dX9_placeIn_24 : decode cX9_placeIn 24 = .ok (.sipush 1068, 3) := by decide +kernel
theorem dX9_placeIn_27 : decode cX9_placeIn 27 = .ok (.iconst 4, 1) := by decide +kernel
theorem dX9_placeIn_28 : decode cX9_placeIn 28 = .ok (.iload_n 1, 1) := by decide +kernel
theorem dX9_placeIn_29 : decode cX9_placeIn 29 = .ok (.imul, 1) := by decide +kernel
theorem dX9_placeIn_30 : decode cX9_placeIn 30 = .ok (.iadd, 1) := by decide +kernel
theorem dX9_placeIn_31 : decode cX9_placeIn 31 = .ok (.iload_n 2, 1) := by decide +kernel
theorem dX9_placeIn_32 : decode cX9_placeIn 32 = .ok (.iadd, 1) := by decide +kernel
theorem dX9_placeIn_33 : decode cX9_placeIn 33 = .ok (.ireturn, 1) := by decide +kernel
theorem dX9_placeIn_34 : decode cX9_placeIn 34 = .ok (.iinc 2 1, 3) := by decide +kernel
theorem dX9_placeIn_37 : decode cX9_placeIn 37 = .ok (.goto (-35), 3) := by decide +kernel
theorem dX9_placeIn_40 : decode cX9_placeIn 40 = .ok (.iconst (-1), 1) := by decide +kernel
theorem dX9_placeIn_41 : decode cX9_placeIn 41 = .ok (.ireturn, 1) := by decide +kernel
set_option maxRecDepth 20000 in
theorem ggX9_placeFor_X9_placeIn : GoodIn wsX9_placeFor wsX9_placeIn := goodIn_r _ [5, 6, 7, 8, 9, 10, 11, 12, 13, 14] (by decide +kernel) (by decide +kernel)
set_option maxRecDepth 20000 in
theorem gX9_placeFor_X9_placeIn : GoodIn wsX9_placeFor (wsV RX9 80 RX9 yX9_placeIn wsX9_placeIn) := goodIn_app (goodIn_of _ (by decide +kernel)) ggX9_placeFor_X9_placeIn
theorem dX9_placeFor_0 : decode cX9_placeFor 0 = .ok (.iload_n 1, 1) := by decide +kernel
theorem dX9_placeFor_1 : decode cX9_placeFor 1 = .ok (.iconst 3, 1) := by decide +kernel
theorem dX9_placeFor_2 : decode cX9_placeFor 2 = .ok (.if_icmp .ge 13, 3) := by decide +kernel
theorem dX9_placeFor_5 : decode cX9_placeFor 5 = .ok (.aload_n 0, 1) := by decide +kernel
theorem dX9_placeFor_6 : decode cX9_placeFor 6 = .ok (.iload_n 1, 1) := by decide +kernel
theorem dX9_placeFor_7 : decode cX9_placeFor 7 = .ok (.iconst 1, 1) := by decide +kernel
theorem dX9_placeFor_8 : decode cX9_placeFor 8 = .ok (.isub, 1) := by decide +kernel
theorem dX9_placeFor_9 : decode cX9_placeFor 9 = .ok (.invokevirtual 80, 3) := by decide +kernel
theorem dX9_placeFor_12 : decode cX9_placeFor 12 = .ok (.goto 4, 3) := by decide +kernel
theorem dX9_placeFor_15 : decode cX9_placeFor 15 = .ok (.iconst (-1), 1) := by decide +kernel
theorem dX9_placeFor_16 : decode cX9_placeFor 16 = .ok (.istore_n 2, 1) := by decide +kernel
theorem dX9_placeFor_17 : decode cX9_placeFor 17 = .ok (.iload_n 2, 1) := by decide +kernel
theorem dX9_placeFor_18 : decode cX9_placeFor 18 = .ok (.ifCond .ge 11, 3) := by decide +kernel
theorem dX9_placeFor_21 : decode cX9_placeFor 21 = .ok (.aload_n 0, 1) := by decide +kernel
theorem dX9_placeFor_22 : decode cX9_placeFor 22 = .ok (.iconst 2, 1) := by decide +kernel
theorem dX9_placeFor_23 : decode cX9_placeFor 23 = .ok (.invokevirtual 80, 3) := by decide +kernel
theorem dX9_placeFor_26 : decode cX9_placeFor 26 = .ok (.goto 4, 3) := by decide +kernel
theorem dX9_placeFor_29 : decode cX9_placeFor 29 = .ok (.iload_n 2, 1) := by decide +kernel
theorem dX9_placeFor_30 : decode cX9_placeFor 30 = .ok (.ireturn, 1) := by decide +kernel
set_option maxRecDepth 20000 in
theorem ggX9_judgeOf_X9_paneAt : GoodIn wsX9_judgeOf wsX9_paneAt := goodIn_r _ [5, 6, 47, 48, 49, 50, 51, 52, 53, 54] (by decide +kernel) (by decide +kernel)
set_option maxRecDepth 20000 in
theorem gX9_judgeOf_X9_paneAt : GoodIn wsX9_judgeOf (wsV RX9 60 RX9 yX9_paneAt wsX9_paneAt) := goodIn_app (goodIn_of _ (by decide +kernel)) ggX9_judgeOf_X9_paneAt
set_option maxRecDepth 20000 in
theorem ggX9_judgeOf_X9_modeOf : GoodIn wsX9_judgeOf wsX9_modeOf := goodIn_r _ [10, 11, 12, 13, 4, 14, 6, 15, 16, 17, 18, 47, 48, 49, 50, 51, 52, 53, 54] (by decide +kernel) (by decide +kernel)
set_option maxRecDepth 20000 in
theorem gX9_judgeOf_X9_modeOf : GoodIn wsX9_judgeOf (wsV RX9 47 RX9 yX9_modeOf wsX9_modeOf) := goodIn_app (goodIn_of _ (by decide +kernel)) ggX9_judgeOf_X9_modeOf
set_option maxRecDepth 20000 in
theorem ggX9_judgeOf_X9_isShut : GoodIn wsX9_judgeOf wsX9_isShut := goodIn_r _ [22, 6, 7, 8, 9, 4, 10, 11, 12, 13, 14, 15, 16, 17, 18, 23, 24, 25, 26, 47, 48, 49, 50, 51, 52, 53, 54] (by decide +kernel) (by decide +kernel)
set_option maxRecDepth 20000 in
theorem gX9_judgeOf_X9_isShut : GoodIn wsX9_judgeOf (wsV RX9 83 RX9 yX9_isShut wsX9_isShut) := goodIn_app (goodIn_of _ (by decide +kernel)) ggX9_judgeOf_X9_isShut
set_option maxRecDepth 20000 in
theorem ggX9_judgeOf_X9_isExcuse : GoodIn wsX9_judgeOf wsX9_isExcuse := goodIn_r _ [30, 6, 1, 2, 3, 4, 5, 23, 24, 25, 26, 31, 32, 33, 34, 35, 36, 37, 38, 47, 48, 49, 50, 51, 52, 53, 54] (by decide +kernel) (by decide +kernel)
set_option maxRecDepth 20000 in
theorem gX9_judgeOf_X9_isExcuse : GoodIn wsX9_judgeOf (wsV RX9 86 RX9 yX9_isExcuse wsX9_isExcuse) := goodIn_app (goodIn_of _ (by decide +kernel)) ggX9_judgeOf_X9_isExcuse
set_option maxRecDepth 20000 in
theorem ggX9_judgeOf_X9_placeFor : GoodIn wsX9_judgeOf wsX9_placeFor := goodIn_r _ [42, 43, 44, 45, 4, 46, 6, 47, 48, 49, 50, 51, 52, 53, 54] (by decide +kernel) (by decide +kernel)
set_option maxRecDepth 20000 in
theorem gX9_judgeOf_X9_placeFor : GoodIn wsX9_judgeOf (wsV RX9 89 RX9 yX9_placeFor wsX9_placeFor) := goodIn_app (goodIn_of _ (by decide +kernel)) ggX9_judgeOf_X9_placeFor
theorem dX9_judgeOf_0 : decode cX9_judgeOf 0 = .ok (.aload_n 0, 1) := by decide +kernel
theorem dX9_judgeOf_1 : decode cX9_judgeOf 1 = .ok (.iload_n 1, 1) := by decide +kernel
theorem dX9_judgeOf_2 : decode cX9_judgeOf 2 = .ok (.invokevirtual 60, 3) := by decide +kernel
theorem dX9_judgeOf_5 : decode cX9_judgeOf 5 = .ok (.istore 4, 2) := by decide +kernel
theorem dX9_judgeOf_7 : decode cX9_judgeOf 7 = .ok (.aload_n 0, 1) := by decide +kernel
theorem dX9_judgeOf_8 : decode cX9_judgeOf 8 = .ok (.iload 4, 2) := by decide +kernel
theorem dX9_judgeOf_10 : decode cX9_judgeOf 10 = .ok (.invokevirtual 47, 3) := by decide +kernel
theorem dX9_judgeOf_13 : decode cX9_judgeOf 13 = .ok (.iconst 2, 1) := by decide +kernel
theorem dX9_judgeOf_14 : decode cX9_judgeOf 14 = .ok (.if_icmp .ne 5, 3) := by decide +kernel
theorem dX9_judgeOf_17 : decode cX9_judgeOf 17 = .ok (.iconst 3, 1) := by decide +kernel
theorem dX9_judgeOf_18 : decode cX9_judgeOf 18 = .ok (.ireturn, 1) := by decide +kernel
theorem dX9_judgeOf_19 : decode cX9_judgeOf 19 = .ok (.aload_n 0, 1) := by decide +kernel
theorem dX9_judgeOf_20 : decode cX9_judgeOf 20 = .ok (.iload 4, 2) := by decide +kernel
theorem dX9_judgeOf_22 : decode cX9_judgeOf 22 = .ok (.invokevirtual 83, 3) := by decide +kernel
theorem dX9_judgeOf_25 : decode cX9_judgeOf 25 = .ok (.ifCond .ne 5, 3) := by decide +kernel
theorem dX9_judgeOf_28 : decode cX9_judgeOf 28 = .ok (.iconst 0, 1) := by decide +kernel
theorem dX9_judgeOf_29 : decode cX9_judgeOf 29 = .ok (.ireturn, 1) := by decide +kernel
theorem dX9_judgeOf_30 : decode cX9_judgeOf 30 = .ok (.aload_n 0, 1) := by decide +kernel
theorem dX9_judgeOf_31 : decode cX9_judgeOf 31 = .ok (.iload_n 1, 1) := by decide +kernel
theorem dX9_judgeOf_32 : decode cX9_judgeOf 32 = .ok (.iload_n 2, 1) := by decide +kernel
theorem dX9_judgeOf_33 : decode cX9_judgeOf 33 = .ok (.iload_n 3, 1) := by decide +kernel
theorem dX9_judgeOf_34 : decode cX9_judgeOf 34 = .ok (.invokevirtual 86, 3) := by decide +kernel
theorem dX9_judgeOf_37 : decode cX9_judgeOf 37 = .ok (.ifCond .eq 15, 3) := by decide +kernel
theorem dX9_judgeOf_40 : decode cX9_judgeOf 40 = .ok (.aload_n 0, 1) := by decide +kernel
theorem dX9_judgeOf_41 : decode cX9_judgeOf 41 = .ok (.iload_n 3, 1) := by decide +kernel
theorem dX9_judgeOf_42 : decode cX9_judgeOf 42 = .ok (.invokevirtual 89, 3) := by decide +kernel
theorem dX9_judgeOf_45 : decode cX9_judgeOf 45 = .ok (.ifCond .lt 7, 3) := by decide +kernel
theorem dX9_judgeOf_48 : decode cX9_judgeOf 48 = .ok (.iconst 1, 1) := by decide +kernel
theorem dX9_judgeOf_49 : decode cX9_judgeOf 49 = .ok (.goto 4, 3) := by decide +kernel
theorem dX9_judgeOf_52 : decode cX9_judgeOf 52 = .ok (.iconst 2, 1) := by decide +kernel
theorem dX9_judgeOf_53 : decode cX9_judgeOf 53 = .ok (.ireturn, 1) := by decide +kernel
set_option maxRecDepth 20000 in
theorem ggX9_comes_X9_ofE : GoodIn wsX9_comes wsX9_ofE := goodIn_r _ [6, 1, 90, 91, 92, 93, 94, 95, 96, 97] (by decide +kernel) (by decide +kernel)
set_option maxRecDepth 20000 in
theorem gX9_comes_X9_ofE : GoodIn wsX9_comes (wsV RX9 53 RX9 yX9_ofE wsX9_ofE) := goodIn_app (goodIn_of _ (by decide +kernel)) ggX9_comes_X9_ofE
set_option maxRecDepth 20000 in
theorem ggX9_comes_X9_judgeOf : GoodIn wsX9_comes wsX9_judgeOf := goodIn_r _ [10, 11, 12, 13, 5, 14, 1, 15, 16, 17, 18, 19, 20, 21, 22, 23, 24, 25, 26, 27, 28, 29, 30, 31, 32, 33, 34, 35, 36, 37, 38, 39, 40, 41, 42, 2, 3, 4, 6, 43, 44, 45, 46, 47, 48, 49, 50, 90, 91, 92, 93, 94, 95, 96, 97] (by decide +kernel) (by decide +kernel)
set_option maxRecDepth 20000 in
theorem gX9_comes_X9_judgeOf : GoodIn wsX9_comes (wsV RX9 92 RX9 yX9_judgeOf wsX9_judgeOf) := goodIn_app (goodIn_of _ (by decide +kernel)) ggX9_comes_X9_judgeOf
set_option maxRecDepth 20000 in
theorem ggX9_comes_X9_paneAt : GoodIn wsX9_comes wsX9_paneAt := goodIn_r _ [14, 1, 90, 91, 92, 93, 94, 95, 96, 97] (by decide +kernel) (by decide +kernel)
set_option maxRecDepth 20000 in
theorem gX9_comes_X9_paneAt : GoodIn wsX9_comes (wsV RX9 60 RX9 yX9_paneAt wsX9_paneAt) := goodIn_app (goodIn_of _ (by decide +kernel)) ggX9_comes_X9_paneAt
set_option maxRecDepth 20000 in
theorem ggX9_comes_X9_keeps : GoodIn wsX9_comes wsX9_keeps := goodIn_r _ [54, 1, 19, 20, 21, 5, 22, 23, 24, 25, 26, 55, 56, 57, 58, 90, 91, 92, 93, 94, 95, 96, 97] (by decide +kernel) (by decide +kernel)
set_option maxRecDepth 20000 in
theorem gX9_comes_X9_keeps : GoodIn wsX9_comes (wsV RX9 96 RX9 yX9_keeps wsX9_keeps) := goodIn_app (goodIn_of _ (by decide +kernel)) ggX9_comes_X9_keeps
set_option maxRecDepth 20000 in
theorem ggX9_comes_X9_placeFor : GoodIn wsX9_comes wsX9_placeFor := goodIn_r _ [46, 47, 48, 49, 5, 50, 1, 90, 91, 92, 93, 94, 95, 96, 97] (by decide +kernel) (by decide +kernel)
set_option maxRecDepth 20000 in
theorem gX9_comes_X9_placeFor : GoodIn wsX9_comes (wsV RX9 89 RX9 yX9_placeFor wsX9_placeFor) := goodIn_app (goodIn_of _ (by decide +kernel)) ggX9_comes_X9_placeFor
set_option maxRecDepth 20000 in
theorem ggX9_comes_X9_takesBack : GoodIn wsX9_comes wsX9_takesBack := goodIn_r _ [62, 1, 23, 24, 25, 5, 26, 55, 56, 57, 58, 63, 64, 65, 66, 90, 91, 92, 93, 94, 95, 96, 97] (by decide +kernel) (by decide +kernel)
set_option maxRecDepth 20000 in
theorem gX9_comes_X9_takesBack : GoodIn wsX9_comes (wsV RX9 99 RX9 yX9_takesBack wsX9_takesBack) := goodIn_app (goodIn_of _ (by decide +kernel)) ggX9_comes_X9_takesBack
set_option maxRecDepth 20000 in
theorem ggX9_comes_X9_setsP : GoodIn wsX9_comes wsX9_setsP := goodIn_r _ [58, 1, 90, 91, 92, 93, 94, 95, 96, 97] (by decide +kernel) (by decide +kernel)
set_option maxRecDepth 20000 in
theorem gX9_comes_X9_setsP : GoodIn wsX9_comes (wsV RX9 43 RX9 yX9_setsP wsX9_setsP) := goodIn_app (goodIn_of _ (by decide +kernel)) ggX9_comes_X9_setsP
set_option maxRecDepth 20000 in
theorem ggX9_comes_X9_rises : GoodIn wsX9_comes wsX9_rises := goodIn_r _ [70, 1, 71, 72, 73, 5, 74, 23, 24, 25, 26, 31, 32, 33, 34, 75, 76, 77, 78, 79, 80, 81, 82, 83, 84, 85, 86, 2, 3, 4, 6, 87, 88, 89, 11, 12, 13, 14, 55, 56, 57, 58, 63, 64, 65, 66, 90, 91, 92, 93, 94, 95, 96, 97] (by decide +kernel) (by decide +kernel)
set_option maxRecDepth 20000 in
theorem gX9_comes_X9_rises : GoodIn wsX9_comes (wsV RX9 102 RX9 yX9_rises wsX9_rises) := goodIn_app (goodIn_of _ (by decide +kernel)) ggX9_comes_X9_rises
theorem dX9_comes_0 : decode cX9_comes 0 = .ok (.aload_n 0, 1) := by decide +kernel
theorem dX9_comes_1 : decode cX9_comes 1 = .ok (.getfield 7, 3) := by decide +kernel
theorem dX9_comes_4 : decode cX9_comes 4 = .ok (.bipush 11, 2) := by decide +kernel
theorem dX9_comes_6 : decode cX9_comes 6 = .ok (.iconst 1, 1) := by decide +kernel
theorem dX9_comes_7 : decode cX9_comes 7 = .ok (.iastore, 1) := by decide +kernel
theorem dX9_comes_8 : decode cX9_comes 8 = .ok (.aload_n 0, 1) := by decide +kernel
theorem dX9_comes_9 : decode cX9_comes 9 = .ok (.iload_n 1, 1) := by decide +kernel
theorem dX9_comes_10 : decode cX9_comes 10 = .ok (.iconst 0, 1) := by decide +kernel
theorem dX9_comes_11 : decode cX9_comes 11 = .ok (.invokevirtual 53, 3) := by decide +kernel
theorem dX9_comes_14 : decode cX9_comes 14 = .ok (.iconst 1, 1) := by decide +kernel
theorem dX9_comes_15 : decode cX9_comes 15 = .ok (.if_icmp .ne 15, 3) := by decide +kernel
theorem dX9_comes_18 : decode cX9_comes 18 = .ok (.aload_n 0, 1) := by decide +kernel
theorem dX9_comes_19 : decode cX9_comes 19 = .ok (.getfield 7, 3) := by decide +kernel
theorem dX9_comes_22 : decode cX9_comes 22 = .ok (.iconst 5, 1) := by decide +kernel
theorem dX9_comes_23 : decode cX9_comes 23 = .ok (.dup2, 1) := by decide +kernel
theorem dX9_comes_24 : decode cX9_comes 24 = .ok (.iaload, 1) := by decide +kernel
theorem dX9_comes_25 : decode cX9_comes 25 = .ok (.iconst 1, 1) := by decide +kernel
theorem dX9_comes_26 : decode cX9_comes 26 = .ok (.iadd, 1) := by decide +kernel
theorem dX9_comes_27 : decode cX9_comes 27 = .ok (.iastore, 1) := by decide +kernel
theorem dX9_comes_28 : decode cX9_comes 28 = .ok (.iconst 4, 1) := by decide +kernel
theorem dX9_comes_29 : decode cX9_comes 29 = .ok (.ireturn, 1) := by decide +kernel
theorem dX9_comes_30 : decode cX9_comes 30 = .ok (.aload_n 0, 1) := by decide +kernel
theorem dX9_comes_31 : decode cX9_comes 31 = .ok (.iload_n 2, 1) := by decide +kernel
theorem dX9_comes_32 : decode cX9_comes 32 = .ok (.iload_n 3, 1) := by decide +kernel
theorem dX9_comes_33 : decode cX9_comes 33 = .ok (.iload 5, 2) := by decide +kernel
theorem dX9_comes_35 : decode cX9_comes 35 = .ok (.invokevirtual 92, 3) := by decide +kernel
theorem dX9_comes_38 : decode cX9_comes 38 = .ok (.istore 6, 2) := by decide +kernel
theorem dX9_comes_40 : decode cX9_comes 40 = .ok (.aload_n 0, 1) := by decide +kernel
theorem dX9_comes_41 : decode cX9_comes 41 = .ok (.aload_n 0, 1) := by decide +kernel
theorem dX9_comes_42 : decode cX9_comes 42 = .ok (.iload_n 2, 1) := by decide +kernel
theorem dX9_comes_43 : decode cX9_comes 43 = .ok (.invokevirtual 60, 3) := by decide +kernel
theorem dX9_comes_46 : decode cX9_comes 46 = .ok (.invokevirtual 96, 3) := by decide +kernel
theorem dX9_comes_49 : decode cX9_comes 49 = .ok (.istore 7, 2) := by decide +kernel
theorem dX9_comes_51 : decode cX9_comes 51 = .ok (.iload 6, 2) := by decide +kernel
theorem dX9_comes_53 : decode cX9_comes 53 = .ok (.iconst 1, 1) := by decide +kernel
theorem dX9_comes_54 : decode cX9_comes 54 = .ok (.if_icmp .ne 54, 3) := by decide +kernel
theorem dX9_comes_57 : decode cX9_comes 57 = .ok (.aload_n 0, 1) := by decide +kernel
theorem dX9_comes_58 : decode cX9_comes 58 = .ok (.getfield 7, 3) := by decide +kernel
theorem dX9_comes_61 : decode cX9_comes 61 = .ok (.aload_n 0, 1) := by decide +kernel
theorem dX9_comes_62 : decode cX9_comes 62 = .ok (.iload 5, 2) := by decide +kernel
theorem dX9_comes_64 : decode cX9_comes 64 = .ok (.invokevirtual 89, 3) := by decide +kernel
theorem dX9_comes_67 : decode cX9_comes 67 = .ok (.iload_n 1, 1) := by decide +kernel
theorem dX9_comes_68 : decode cX9_comes 68 = .ok (.iconst 1, 1) := by decide +kernel
theorem dX9_comes_69 : decode cX9_comes 69 = .ok (.iadd, 1) := by decide +kernel
theorem dX9_comes_70 : decode cX9_comes 70 = .ok (.iastore, 1) := by decide +kernel
theorem dX9_comes_71 : decode cX9_comes 71 = .ok (.aload_n 0, 1) := by decide +kernel
theorem dX9_comes_72 : decode cX9_comes 72 = .ok (.iload 7, 2) := by decide +kernel
theorem dX9_comes_74 : decode cX9_comes 74 = .ok (.invokevirtual 99, 3) := by decide +kernel
theorem dX9_comes_77 : decode cX9_comes 77 = .ok (.aload_n 0, 1) := by decide +kernel
theorem dX9_comes_78 : decode cX9_comes 78 = .ok (.iload 7, 2) := by decide +kernel
theorem dX9_comes_80 : decode cX9_comes 80 = .ok (.iconst 1, 1) := by decide +kernel
theorem dX9_comes_81 : decode cX9_comes 81 = .ok (.iconst 1, 1) := by decide +kernel
theorem dX9_comes_82 : decode cX9_comes 82 = .ok (.invokevirtual 43, 3) := by decide +kernel
theorem dX9_comes_85 : decode cX9_comes 85 = .ok (.aload_n 0, 1) := by decide +kernel
theorem dX9_comes_86 : decode cX9_comes 86 = .ok (.iload 7, 2) := by decide +kernel
theorem dX9_comes_88 : decode cX9_comes 88 = .ok (.iconst 2, 1) := by decide +kernel
theorem dX9_comes_89 : decode cX9_comes 89 = .ok (.aload_n 0, 1) := by decide +kernel
theorem dX9_comes_90 : decode cX9_comes 90 = .ok (.getfield 7, 3) := by decide +kernel
theorem dX9_comes_93 : decode cX9_comes 93 = .ok (.iconst 0, 1) := by decide +kernel
theorem dX9_comes_94 : decode cX9_comes 94 = .ok (.iaload, 1) := by decide +kernel
theorem dX9_comes_95 : decode cX9_comes 95 = .ok (.aload_n 0, 1) := by decide +kernel
theorem dX9_comes_96 : decode cX9_comes 96 = .ok (.getfield 7, 3) := by decide +kernel
theorem dX9_comes_99 : decode cX9_comes 99 = .ok (.bipush 8, 2) := by decide +kernel
theorem dX9_comes_101 : decode cX9_comes 101 = .ok (.iaload, 1) := by decide +kernel
theorem dX9_comes_102 : decode cX9_comes 102 = .ok (.iadd, 1) := by decide +kernel
theorem dX9_comes_103 : decode cX9_comes 103 = .ok (.iconst 1, 1) := by decide +kernel
theorem dX9_comes_104 : decode cX9_comes 104 = .ok (.iadd, 1) := by decide +kernel
theorem dX9_comes_105 : decode cX9_comes 105 = .ok (.invokevirtual 43, 3) := by decide +kernel
theorem dX9_comes_108 : decode cX9_comes 108 = .ok (.bipush 12, 2) := by decide +kernel
theorem dX9_comes_110 : decode cX9_comes 110 = .ok (.bipush 6, 2) := by decide +kernel
theorem dX9_comes_112 : decode cX9_comes 112 = .ok (.iload_n 1, 1) := by decide +kernel
theorem dX9_comes_113 : decode cX9_comes 113 = .ok (.imul, 1) := by decide +kernel
theorem dX9_comes_114 : decode cX9_comes 114 = .ok (.iadd, 1) := by decide +kernel
theorem dX9_comes_115 : decode cX9_comes 115 = .ok (.istore 8, 2) := by decide +kernel
theorem dX9_comes_117 : decode cX9_comes 117 = .ok (.aload_n 0, 1) := by decide +kernel
theorem dX9_comes_118 : decode cX9_comes 118 = .ok (.getfield 7, 3) := by decide +kernel
theorem dX9_comes_121 : decode cX9_comes 121 = .ok (.iload 8, 2) := by decide +kernel
theorem dX9_comes_123 : decode cX9_comes 123 = .ok (.iconst 0, 1) := by decide +kernel
theorem dX9_comes_124 : decode cX9_comes 124 = .ok (.iadd, 1) := by decide +kernel
theorem dX9_comes_125 : decode cX9_comes 125 = .ok (.iconst 1, 1) := by decide +kernel
theorem dX9_comes_126 : decode cX9_comes 126 = .ok (.iastore, 1) := by decide +kernel
theorem dX9_comes_127 : decode cX9_comes 127 = .ok (.aload_n 0, 1) := by decide +kernel
theorem dX9_comes_128 : decode cX9_comes 128 = .ok (.getfield 7, 3) := by decide +kernel
theorem dX9_comes_131 : decode cX9_comes 131 = .ok (.iload 8, 2) := by decide +kernel
theorem dX9_comes_133 : decode cX9_comes 133 = .ok (.iconst 1, 1) := by decide +kernel
theorem dX9_comes_134 : decode cX9_comes 134 = .ok (.iadd, 1) := by decide +kernel
theorem dX9_comes_135 : decode cX9_comes 135 = .ok (.iload_n 2, 1) := by decide +kernel
theorem dX9_comes_136 : decode cX9_comes 136 = .ok (.iastore, 1) := by decide +kernel
theorem dX9_comes_137 : decode cX9_comes 137 = .ok (.aload_n 0, 1) := by decide +kernel
theorem dX9_comes_138 : decode cX9_comes 138 = .ok (.getfield 7, 3) := by decide +kernel
theorem dX9_comes_141 : decode cX9_comes 141 = .ok (.iload 8, 2) := by decide +kernel
theorem dX9_comes_143 : decode cX9_comes 143 = .ok (.iconst 2, 1) := by decide +kernel
theorem dX9_comes_144 : decode cX9_comes 144 = .ok (.iadd, 1) := by decide +kernel
theorem dX9_comes_145 : decode cX9_comes 145 = .ok (.iload_n 3, 1) := by decide +kernel
theorem dX9_comes_146 : decode cX9_comes 146 = .ok (.iastore, 1) := by decide +kernel
theorem dX9_comes_147 : decode cX9_comes 147 = .ok (.aload_n 0, 1) := by decide +kernel
theorem dX9_comes_148 : decode cX9_comes 148 = .ok (.getfield 7, 3) := by decide +kernel
theorem dX9_comes_151 : decode cX9_comes 151 = .ok (.iload 8, 2) := by decide +kernel
theorem dX9_comes_153 : decode cX9_comes 153 = .ok (.iconst 3, 1) := by decide +kernel
theorem dX9_comes_154 : decode cX9_comes 154 = .ok (.iadd, 1) := by decide +kernel
theorem dX9_comes_155 : decode cX9_comes 155 = .ok (.iload 4, 2) := by decide +kernel
theorem dX9_comes_157 : decode cX9_comes 157 = .ok (.iastore, 1) := by decide +kernel
theorem dX9_comes_158 : decode cX9_comes 158 = .ok (.aload_n 0, 1) := by decide +kernel
theorem dX9_comes_159 : decode cX9_comes 159 = .ok (.getfield 7, 3) := by decide +kernel
theorem dX9_comes_162 : decode cX9_comes 162 = .ok (.iload 8, 2) := by decide +kernel
theorem dX9_comes_164 : decode cX9_comes 164 = .ok (.iconst 4, 1) := by decide +kernel
theorem dX9_comes_165 : decode cX9_comes 165 = .ok (.iadd, 1) := by decide +kernel
theorem dX9_comes_166 : decode cX9_comes 166 = .ok (.iload 5, 2) := by decide +kernel
theorem dX9_comes_168 : decode cX9_comes 168 = .ok (.iastore, 1) := by decide +kernel
theorem dX9_comes_169 : decode cX9_comes 169 = .ok (.aload_n 0, 1) := by decide +kernel
theorem dX9_comes_170 : decode cX9_comes 170 = .ok (.getfield 7, 3) := by decide +kernel
theorem dX9_comes_173 : decode cX9_comes 173 = .ok (.iload 8, 2) := by decide +kernel
theorem dX9_comes_175 : decode cX9_comes 175 = .ok (.iconst 5, 1) := by decide +kernel
theorem dX9_comes_176 : decode cX9_comes 176 = .ok (.iadd, 1) := by decide +kernel
theorem dX9_comes_177 : decode cX9_comes 177 = .ok (.iload 6, 2) := by decide +kernel
theorem dX9_comes_179 : decode cX9_comes 179 = .ok (.iastore, 1) := by decide +kernel
theorem dX9_comes_180 : decode cX9_comes 180 = .ok (.iload_n 2, 1) := by decide +kernel
theorem dX9_comes_181 : decode cX9_comes 181 = .ok (.aload_n 0, 1) := by decide +kernel
theorem dX9_comes_182 : decode cX9_comes 182 = .ok (.getfield 7, 3) := by decide +kernel
theorem dX9_comes_185 : decode cX9_comes 185 = .ok (.iconst 1, 1) := by decide +kernel
theorem dX9_comes_186 : decode cX9_comes 186 = .ok (.iaload, 1) := by decide +kernel
theorem dX9_comes_187 : decode cX9_comes 187 = .ok (.if_icmp .le 41, 3) := by decide +kernel
theorem dX9_comes_190 : decode cX9_comes 190 = .ok (.aload_n 0, 1) := by decide +kernel
theorem dX9_comes_191 : decode cX9_comes 191 = .ok (.getfield 7, 3) := by decide +kernel
theorem dX9_comes_194 : decode cX9_comes 194 = .ok (.iconst 1, 1) := by decide +kernel
theorem dX9_comes_195 : decode cX9_comes 195 = .ok (.iload_n 2, 1) := by decide +kernel
theorem dX9_comes_196 : decode cX9_comes 196 = .ok (.iastore, 1) := by decide +kernel
theorem dX9_comes_197 : decode cX9_comes 197 = .ok (.iload_n 2, 1) := by decide +kernel
theorem dX9_comes_198 : decode cX9_comes 198 = .ok (.aload_n 0, 1) := by decide +kernel
theorem dX9_comes_199 : decode cX9_comes 199 = .ok (.getfield 7, 3) := by decide +kernel
theorem dX9_comes_202 : decode cX9_comes 202 = .ok (.bipush 7, 2) := by decide +kernel
theorem dX9_comes_204 : decode cX9_comes 204 = .ok (.iaload, 1) := by decide +kernel
theorem dX9_comes_205 : decode cX9_comes 205 = .ok (.isub, 1) := by decide +kernel
theorem dX9_comes_206 : decode cX9_comes 206 = .ok (.aload_n 0, 1) := by decide +kernel
theorem dX9_comes_207 : decode cX9_comes 207 = .ok (.getfield 7, 3) := by decide +kernel
theorem dX9_comes_210 : decode cX9_comes 210 = .ok (.iconst 0, 1) := by decide +kernel
theorem dX9_comes_211 : decode cX9_comes 211 = .ok (.iaload, 1) := by decide +kernel
theorem dX9_comes_212 : decode cX9_comes 212 = .ok (.if_icmp .le 16, 3) := by decide +kernel
theorem dX9_comes_215 : decode cX9_comes 215 = .ok (.aload_n 0, 1) := by decide +kernel
theorem dX9_comes_216 : decode cX9_comes 216 = .ok (.iload_n 2, 1) := by decide +kernel
theorem dX9_comes_217 : decode cX9_comes 217 = .ok (.aload_n 0, 1) := by decide +kernel
theorem dX9_comes_218 : decode cX9_comes 218 = .ok (.getfield 7, 3) := by decide +kernel
theorem dX9_comes_221 : decode cX9_comes 221 = .ok (.bipush 7, 2) := by decide +kernel
theorem dX9_comes_223 : decode cX9_comes 223 = .ok (.iaload, 1) := by decide +kernel
theorem dX9_comes_224 : decode cX9_comes 224 = .ok (.isub, 1) := by decide +kernel
theorem dX9_comes_225 : decode cX9_comes 225 = .ok (.invokevirtual 102, 3) := by decide +kernel
theorem dX9_comes_228 : decode cX9_comes 228 = .ok (.iload 6, 2) := by decide +kernel
theorem dX9_comes_230 : decode cX9_comes 230 = .ok (.ireturn, 1) := by decide +kernel
set_option maxRecDepth 20000 in
theorem ggX9_isEvent_X9_isIn : GoodIn wsX9_isEvent wsX9_isIn := goodIn_r _ [4] (by decide +kernel) (by decide +kernel)
set_option maxRecDepth 20000 in
theorem gX9_isEvent_X9_isIn : GoodIn wsX9_isEvent (va_wsS RX9 27 yX9_isIn wsX9_isIn) := goodIn_app (goodIn_of _ (by decide +kernel)) ggX9_isEvent_X9_isIn
theorem dX9_isEvent_0 : decode cX9_isEvent 0 = .ok (.iload_n 0, 1) := by decide +kernel
theorem dX9_isEvent_1 : decode cX9_isEvent 1 = .ok (.iconst 0, 1) := by decide +kernel
theorem dX9_isEvent_2 : decode cX9_isEvent 2 = .ok (.bipush 63, 2) := by decide +kernel
theorem dX9_isEvent_4 : decode cX9_isEvent 4 = .ok (.invokestatic 27, 3) := by decide +kernel
theorem dX9_isEvent_7 : decode cX9_isEvent 7 = .ok (.ifCond .eq 48, 3) := by decide +kernel
theorem dX9_isEvent_10 : decode cX9_isEvent 10 = .ok (.iload_n 1, 1) := by decide +kernel
theorem dX9_isEvent_11 : decode cX9_isEvent 11 = .ok (.iconst 0, 1) := by decide +kernel
theorem dX9_isEvent_12 : decode cX9_isEvent 12 = .ok (.sipush 1999, 3) := by decide +kernel
theorem dX9_isEvent_15 : decode cX9_isEvent 15 = .ok (.invokestatic 27, 3) := by decide +kernel
theorem dX9_isEvent_18 : decode cX9_isEvent 18 = .ok (.ifCond .eq 37, 3) := by decide +kernel
theorem dX9_isEvent_21 : decode cX9_isEvent 21 = .ok (.iload_n 2, 1) := by decide +kernel
theorem dX9_isEvent_22 : decode cX9_isEvent 22 = .ok (.iconst 0, 1) := by decide +kernel
theorem dX9_isEvent_23 : decode cX9_isEvent 23 = .ok (.iconst 5, 1) := by decide +kernel
theorem dX9_isEvent_24 : decode cX9_isEvent 24 = .ok (.invokestatic 27, 3) := by decide +kernel
theorem dX9_isEvent_27 : decode cX9_isEvent 27 = .ok (.ifCond .eq 28, 3) := by decide +kernel
theorem dX9_isEvent_30 : decode cX9_isEvent 30 = .ok (.iload_n 3, 1) := by decide +kernel
theorem dX9_isEvent_31 : decode cX9_isEvent 31 = .ok (.bipush (-100), 2) := by decide +kernel
theorem dX9_isEvent_33 : decode cX9_isEvent 33 = .ok (.bipush 100, 2) := by decide +kernel
theorem dX9_isEvent_35 : decode cX9_isEvent 35 = .ok (.invokestatic 27, 3) := by decide +kernel
theorem dX9_isEvent_38 : decode cX9_isEvent 38 = .ok (.ifCond .eq 17, 3) := by decide +kernel
theorem dX9_isEvent_41 : decode cX9_isEvent 41 = .ok (.iload 4, 2) := by decide +kernel
theorem dX9_isEvent_43 : decode cX9_isEvent 43 = .ok (.iconst 0, 1) := by decide +kernel
theorem dX9_isEvent_44 : decode cX9_isEvent 44 = .ok (.iconst 3, 1) := by decide +kernel
theorem dX9_isEvent_45 : decode cX9_isEvent 45 = .ok (.invokestatic 27, 3) := by decide +kernel
theorem dX9_isEvent_48 : decode cX9_isEvent 48 = .ok (.ifCond .eq 7, 3) := by decide +kernel
theorem dX9_isEvent_51 : decode cX9_isEvent 51 = .ok (.iconst 1, 1) := by decide +kernel
theorem dX9_isEvent_52 : decode cX9_isEvent 52 = .ok (.goto 4, 3) := by decide +kernel
theorem dX9_isEvent_55 : decode cX9_isEvent 55 = .ok (.iconst 0, 1) := by decide +kernel
theorem dX9_isEvent_56 : decode cX9_isEvent 56 = .ok (.ireturn, 1) := by decide +kernel
set_option maxRecDepth 20000 in
theorem ggX9_event_X9_isEvent : GoodIn wsX9_event wsX9_isEvent := goodIn_r _ [5, 6, 7, 4, 8] (by decide +kernel) (by decide +kernel)
set_option maxRecDepth 20000 in
theorem gX9_event_X9_isEvent : GoodIn wsX9_event (va_wsS RX9 105 yX9_isEvent wsX9_isEvent) := goodIn_app (goodIn_of _ (by decide +kernel)) ggX9_event_X9_isEvent
set_option maxRecDepth 20000 in
theorem ggX9_event_X9_records : GoodIn wsX9_event wsX9_records := goodIn_r _ [12, 13, 14, 15, 104, 105, 106, 107, 108, 109, 110, 111] (by decide +kernel) (by decide +kernel)
set_option maxRecDepth 20000 in
theorem gX9_event_X9_records : GoodIn wsX9_event (wsV RX9 32 RX9 yX9_records wsX9_records) := goodIn_app (goodIn_of _ (by decide +kernel)) ggX9_event_X9_records
set_option maxRecDepth 20000 in
theorem ggX9_event_X9_comes : GoodIn wsX9_event wsX9_comes := goodIn_r _ [19, 15, 20, 21, 22, 4, 23, 24, 25, 26, 27, 28, 29, 30, 31, 32, 33, 34, 35, 36, 37, 38, 39, 40, 41, 42, 43, 44, 45, 46, 47, 48, 49, 50, 51, 52, 53, 54, 55, 56, 57, 58, 59, 60, 61, 62, 63, 64, 65, 66, 67, 68, 69, 70, 71, 72, 73, 74, 75, 76, 77, 78, 79, 80, 81, 82, 83, 84, 85, 86, 87, 88, 89, 90, 91, 92, 93, 94, 95, 96, 97, 98, 99, 100, 101, 102, 103, 6, 7, 8, 104, 105, 106, 107, 108, 109, 110, 111] (by decide +kernel) (by decide +kernel)
set_option maxRecDepth 20000 in
theorem gX9_event_X9_comes : GoodIn wsX9_event (wsV RX9 109 RX9 yX9_comes wsX9_comes) := goodIn_app (goodIn_of _ (by decide +kernel)) ggX9_event_X9_comes
theorem dX9_event_0 : decode cX9_event 0 = .ok (.iload_n 1, 1) := by decide +kernel
theorem dX9_event_1 : decode cX9_event 1 = .ok (.iload_n 2, 1) := by decide +kernel
theorem dX9_event_2 : decode cX9_event 2 = .ok (.iload_n 3, 1) := by decide +kernel
theorem dX9_event_3 : decode cX9_event 3 = .ok (.iload 4, 2) := by decide +kernel
theorem dX9_event_5 : decode cX9_event 5 = .ok (.iload 5, 2) := by decide +kernel
theorem dX9_event_7 : decode cX9_event 7 = .ok (.invokestatic 105, 3) := by decide +kernel
theorem dX9_event_10 : decode cX9_event 10 = .ok (.ifCond .ne 6, 3) := by decide +kernel
theorem dX9_event_13 : decode cX9_event 13 = .ok (.ldc 31, 2) := by decide +kernel
theorem dX9_event_15 : decode cX9_event 15 = .ok (.ireturn, 1) := by decide +kernel
theorem dX9_event_16 : decode cX9_event 16 = .ok (.aload_n 0, 1) := by decide +kernel
theorem dX9_event_17 : decode cX9_event 17 = .ok (.invokevirtual 32, 3) := by decide +kernel
theorem dX9_event_20 : decode cX9_event 20 = .ok (.aload_n 0, 1) := by decide +kernel
theorem dX9_event_21 : decode cX9_event 21 = .ok (.iload_n 1, 1) := by decide +kernel
theorem dX9_event_22 : decode cX9_event 22 = .ok (.iload_n 2, 1) := by decide +kernel
theorem dX9_event_23 : decode cX9_event 23 = .ok (.iload_n 3, 1) := by decide +kernel
theorem dX9_event_24 : decode cX9_event 24 = .ok (.iload 4, 2) := by decide +kernel
theorem dX9_event_26 : decode cX9_event 26 = .ok (.iload 5, 2) := by decide +kernel
theorem dX9_event_28 : decode cX9_event 28 = .ok (.invokevirtual 109, 3) := by decide +kernel
theorem dX9_event_31 : decode cX9_event 31 = .ok (.ireturn, 1) := by decide +kernel
set_option maxRecDepth 20000 in
theorem ggX9_move_X9_isIn : GoodIn wsX9_move wsX9_isIn := goodIn_r _ [7] (by decide +kernel) (by decide +kernel)
set_option maxRecDepth 20000 in
theorem gX9_move_X9_isIn : GoodIn wsX9_move (va_wsS RX9 27 yX9_isIn wsX9_isIn) := goodIn_app (goodIn_of _ (by decide +kernel)) ggX9_move_X9_isIn
set_option maxRecDepth 20000 in
theorem ggX9_move_X9_records : GoodIn wsX9_move wsX9_records := goodIn_r _ [11, 12, 13, 2, 42, 43, 44, 45, 46, 47, 48, 49] (by decide +kernel) (by decide +kernel)
set_option maxRecDepth 20000 in
theorem gX9_move_X9_records : GoodIn wsX9_move (wsV RX9 32 RX9 yX9_records wsX9_records) := goodIn_app (goodIn_of _ (by decide +kernel)) ggX9_move_X9_records
set_option maxRecDepth 20000 in
theorem ggX9_move_X9_endOf : GoodIn wsX9_move wsX9_endOf := goodIn_r _ [17, 2, 42, 43, 44, 45, 46, 47, 48, 49] (by decide +kernel) (by decide +kernel)
set_option maxRecDepth 20000 in
theorem gX9_move_X9_endOf : GoodIn wsX9_move (wsV RX9 50 RX9 yX9_endOf wsX9_endOf) := goodIn_app (goodIn_of _ (by decide +kernel)) ggX9_move_X9_endOf
set_option maxRecDepth 20000 in
theorem ggX9_move_X9_modeOf : GoodIn wsX9_move wsX9_modeOf := goodIn_r _ [21, 22, 23, 24, 6, 25, 2, 26, 27, 28, 29, 42, 43, 44, 45, 46, 47, 48, 49] (by decide +kernel) (by decide +kernel)
set_option maxRecDepth 20000 in
theorem gX9_move_X9_modeOf : GoodIn wsX9_move (wsV RX9 47 RX9 yX9_modeOf wsX9_modeOf) := goodIn_app (goodIn_of _ (by decide +kernel)) ggX9_move_X9_modeOf
set_option maxRecDepth 20000 in
theorem ggX9_move_X9_find : GoodIn wsX9_move wsX9_find := goodIn_r _ [25, 2, 26, 27, 28, 6, 29, 42, 43, 44, 45, 46, 47, 48, 49] (by decide +kernel) (by decide +kernel)
set_option maxRecDepth 20000 in
theorem gX9_move_X9_find : GoodIn wsX9_move (wsV RX9 39 RX9 yX9_find wsX9_find) := goodIn_app (goodIn_of _ (by decide +kernel)) ggX9_move_X9_find
set_option maxRecDepth 20000 in
theorem ggX9_move_X9_takesBack : GoodIn wsX9_move wsX9_takesBack := goodIn_r _ [33, 2, 26, 27, 28, 6, 29, 34, 35, 36, 37, 38, 39, 40, 41, 42, 43, 44, 45, 46, 47, 48, 49] (by decide +kernel) (by decide +kernel)
set_option maxRecDepth 20000 in
theorem gX9_move_X9_takesBack : GoodIn wsX9_move (wsV RX9 99 RX9 yX9_takesBack wsX9_takesBack) := goodIn_app (goodIn_of _ (by decide +kernel)) ggX9_move_X9_takesBack
theorem dX9_move_0 : decode cX9_move 0 = .ok (.iload_n 1, 1) := by decide +kernel
theorem dX9_move_1 : decode cX9_move 1 = .ok (.iconst 1, 1) := by decide +kernel
theorem dX9_move_2 : decode cX9_move 2 = .ok (.bipush 100, 2) := by decide +kernel
theorem dX9_move_4 : decode cX9_move 4 = .ok (.invokestatic 27, 3) := by decide +kernel
theorem dX9_move_7 : decode cX9_move 7 = .ok (.ifCond .ne 6, 3) := by decide +kernel
theorem dX9_move_10 : decode cX9_move 10 = .ok (.ldc 31, 2) := by decide +kernel
theorem dX9_move_12 : decode cX9_move 12 = .ok (.ireturn, 1) := by decide +kernel
theorem dX9_move_13 : decode cX9_move 13 = .ok (.aload_n 0, 1) := by decide +kernel
theorem dX9_move_14 : decode cX9_move 14 = .ok (.getfield 7, 3) := by decide +kernel
theorem dX9_move_17 : decode cX9_move 17 = .ok (.iconst 2, 1) := by decide +kernel
theorem dX9_move_18 : decode cX9_move 18 = .ok (.iaload, 1) := by decide +kernel
theorem dX9_move_19 : decode cX9_move 19 = .ok (.iconst 1, 1) := by decide +kernel
theorem dX9_move_20 : decode cX9_move 20 = .ok (.if_icmp .eq 13, 3) := by decide +kernel
theorem dX9_move_23 : decode cX9_move 23 = .ok (.aload_n 0, 1) := by decide +kernel
theorem dX9_move_24 : decode cX9_move 24 = .ok (.getfield 7, 3) := by decide +kernel
theorem dX9_move_27 : decode cX9_move 27 = .ok (.iconst 0, 1) := by decide +kernel
theorem dX9_move_28 : decode cX9_move 28 = .ok (.iaload, 1) := by decide +kernel
theorem dX9_move_29 : decode cX9_move 29 = .ok (.iconst (-1), 1) := by decide +kernel
theorem dX9_move_30 : decode cX9_move 30 = .ok (.if_icmp .ne 6, 3) := by decide +kernel
theorem dX9_move_33 : decode cX9_move 33 = .ok (.ldc 26, 2) := by decide +kernel
theorem dX9_move_35 : decode cX9_move 35 = .ok (.ireturn, 1) := by decide +kernel
theorem dX9_move_36 : decode cX9_move 36 = .ok (.aload_n 0, 1) := by decide +kernel
theorem dX9_move_37 : decode cX9_move 37 = .ok (.invokevirtual 32, 3) := by decide +kernel
theorem dX9_move_40 : decode cX9_move 40 = .ok (.aload_n 0, 1) := by decide +kernel
theorem dX9_move_41 : decode cX9_move 41 = .ok (.getfield 7, 3) := by decide +kernel
theorem dX9_move_44 : decode cX9_move 44 = .ok (.iconst 0, 1) := by decide +kernel
theorem dX9_move_45 : decode cX9_move 45 = .ok (.iaload, 1) := by decide +kernel
theorem dX9_move_46 : decode cX9_move 46 = .ok (.istore_n 2, 1) := by decide +kernel
theorem dX9_move_47 : decode cX9_move 47 = .ok (.iload_n 2, 1) := by decide +kernel
theorem dX9_move_48 : decode cX9_move 48 = .ok (.iload_n 1, 1) := by decide +kernel
theorem dX9_move_49 : decode cX9_move 49 = .ok (.isub, 1) := by decide +kernel
theorem dX9_move_50 : decode cX9_move 50 = .ok (.iconst (-1), 1) := by decide +kernel
theorem dX9_move_51 : decode cX9_move 51 = .ok (.if_icmp .ge 7, 3) := by decide +kernel
theorem dX9_move_54 : decode cX9_move 54 = .ok (.iconst (-1), 1) := by decide +kernel
theorem dX9_move_55 : decode cX9_move 55 = .ok (.goto 6, 3) := by decide +kernel
theorem dX9_move_58 : decode cX9_move 58 = .ok (.iload_n 2, 1) := by decide +kernel
theorem dX9_move_59 : decode cX9_move 59 = .ok (.iload_n 1, 1) := by decide +kernel
theorem dX9_move_60 : decode cX9_move 60 = .ok (.isub, 1) := by decide +kernel
theorem dX9_move_61 : decode cX9_move 61 = .ok (.istore_n 3, 1) := by decide +kernel
theorem dX9_move_62 : decode cX9_move 62 = .ok (.iconst 0, 1) := by decide +kernel
theorem dX9_move_63 : decode cX9_move 63 = .ok (.istore 4, 2) := by decide +kernel
theorem dX9_move_65 : decode cX9_move 65 = .ok (.iconst 0, 1) := by decide +kernel
theorem dX9_move_66 : decode cX9_move 66 = .ok (.istore 5, 2) := by decide +kernel
theorem dX9_move_68 : decode cX9_move 68 = .ok (.aload_n 0, 1) := by decide +kernel
theorem dX9_move_69 : decode cX9_move 69 = .ok (.iload 5, 2) := by decide +kernel
theorem dX9_move_71 : decode cX9_move 71 = .ok (.invokevirtual 50, 3) := by decide +kernel
theorem dX9_move_74 : decode cX9_move 74 = .ok (.iload_n 2, 1) := by decide +kernel
theorem dX9_move_75 : decode cX9_move 75 = .ok (.if_icmp .gt 50, 3) := by decide +kernel
theorem dX9_move_78 : decode cX9_move 78 = .ok (.aload_n 0, 1) := by decide +kernel
theorem dX9_move_79 : decode cX9_move 79 = .ok (.iload 5, 2) := by decide +kernel
theorem dX9_move_81 : decode cX9_move 81 = .ok (.invokevirtual 50, 3) := by decide +kernel
theorem dX9_move_84 : decode cX9_move 84 = .ok (.iload_n 3, 1) := by decide +kernel
theorem dX9_move_85 : decode cX9_move 85 = .ok (.if_icmp .le 34, 3) := by decide +kernel
theorem dX9_move_88 : decode cX9_move 88 = .ok (.aload_n 0, 1) := by decide +kernel
theorem dX9_move_89 : decode cX9_move 89 = .ok (.iload 5, 2) := by decide +kernel
theorem dX9_move_91 : decode cX9_move 91 = .ok (.invokevirtual 47, 3) := by decide +kernel
theorem dX9_move_94 : decode cX9_move 94 = .ok (.ifCond .ne 25, 3) := by decide +kernel
theorem dX9_move_97 : decode cX9_move 97 = .ok (.iinc 4 1, 3) := by decide +kernel
theorem dX9_move_100 : decode cX9_move 100 = .ok (.aload_n 0, 1) := by decide +kernel
theorem dX9_move_101 : decode cX9_move 101 = .ok (.iload 5, 2) := by decide +kernel
theorem dX9_move_103 : decode cX9_move 103 = .ok (.invokevirtual 39, 3) := by decide +kernel
theorem dX9_move_106 : decode cX9_move 106 = .ok (.ifCond .lt 13, 3) := by decide +kernel
theorem dX9_move_109 : decode cX9_move 109 = .ok (.aload_n 0, 1) := by decide +kernel
theorem dX9_move_110 : decode cX9_move 110 = .ok (.aload_n 0, 1) := by decide +kernel
theorem dX9_move_111 : decode cX9_move 111 = .ok (.iload 5, 2) := by decide +kernel
theorem dX9_move_113 : decode cX9_move 113 = .ok (.invokevirtual 39, 3) := by decide +kernel
theorem dX9_move_116 : decode cX9_move 116 = .ok (.invokevirtual 99, 3) := by decide +kernel
theorem dX9_move_119 : decode cX9_move 119 = .ok (.iinc 5 1, 3) := by decide +kernel
theorem dX9_move_122 : decode cX9_move 122 = .ok (.goto (-54), 3) := by decide +kernel
theorem dX9_move_125 : decode cX9_move 125 = .ok (.aload_n 0, 1) := by decide +kernel
theorem dX9_move_126 : decode cX9_move 126 = .ok (.getfield 7, 3) := by decide +kernel
theorem dX9_move_129 : decode cX9_move 129 = .ok (.iconst 0, 1) := by decide +kernel
theorem dX9_move_130 : decode cX9_move 130 = .ok (.iload_n 3, 1) := by decide +kernel
theorem dX9_move_131 : decode cX9_move 131 = .ok (.iastore, 1) := by decide +kernel
theorem dX9_move_132 : decode cX9_move 132 = .ok (.aload_n 0, 1) := by decide +kernel
theorem dX9_move_133 : decode cX9_move 133 = .ok (.getfield 7, 3) := by decide +kernel
theorem dX9_move_136 : decode cX9_move 136 = .ok (.iconst 2, 1) := by decide +kernel
theorem dX9_move_137 : decode cX9_move 137 = .ok (.iconst 1, 1) := by decide +kernel
theorem dX9_move_138 : decode cX9_move 138 = .ok (.iastore, 1) := by decide +kernel
theorem dX9_move_139 : decode cX9_move 139 = .ok (.iload 4, 2) := by decide +kernel
theorem dX9_move_141 : decode cX9_move 141 = .ok (.ireturn, 1) := by decide +kernel
set_option maxRecDepth 20000 in
theorem ggX9_isPane_X9_isIn : GoodIn wsX9_isPane wsX9_isIn := goodIn_r _ [5] (by decide +kernel) (by decide +kernel)
set_option maxRecDepth 20000 in
theorem gX9_isPane_X9_isIn : GoodIn wsX9_isPane (va_wsS RX9 27 yX9_isIn wsX9_isIn) := goodIn_app (goodIn_of _ (by decide +kernel)) ggX9_isPane_X9_isIn
theorem dX9_isPane_0 : decode cX9_isPane 0 = .ok (.iload_n 1, 1) := by decide +kernel
theorem dX9_isPane_1 : decode cX9_isPane 1 = .ok (.iconst 0, 1) := by decide +kernel
theorem dX9_isPane_2 : decode cX9_isPane 2 = .ok (.sipush 1999, 3) := by decide +kernel
theorem dX9_isPane_5 : decode cX9_isPane 5 = .ok (.invokestatic 27, 3) := by decide +kernel
theorem dX9_isPane_8 : decode cX9_isPane 8 = .ok (.ifCond .eq 22, 3) := by decide +kernel
theorem dX9_isPane_11 : decode cX9_isPane 11 = .ok (.iload_n 1, 1) := by decide +kernel
theorem dX9_isPane_12 : decode cX9_isPane 12 = .ok (.aload_n 0, 1) := by decide +kernel
theorem dX9_isPane_13 : decode cX9_isPane 13 = .ok (.getfield 7, 3) := by decide +kernel
theorem dX9_isPane_16 : decode cX9_isPane 16 = .ok (.bipush 6, 2) := by decide +kernel
theorem dX9_isPane_18 : decode cX9_isPane 18 = .ok (.iaload, 1) := by decide +kernel
theorem dX9_isPane_19 : decode cX9_isPane 19 = .ok (.imul, 1) := by decide +kernel
theorem dX9_isPane_20 : decode cX9_isPane 20 = .ok (.sipush 2000, 3) := by decide +kernel
theorem dX9_isPane_23 : decode cX9_isPane 23 = .ok (.if_icmp .ge 7, 3) := by decide +kernel
theorem dX9_isPane_26 : decode cX9_isPane 26 = .ok (.iconst 1, 1) := by decide +kernel
theorem dX9_isPane_27 : decode cX9_isPane 27 = .ok (.goto 4, 3) := by decide +kernel
theorem dX9_isPane_30 : decode cX9_isPane 30 = .ok (.iconst 0, 1) := by decide +kernel
theorem dX9_isPane_31 : decode cX9_isPane 31 = .ok (.ireturn, 1) := by decide +kernel
set_option maxRecDepth 20000 in
theorem ggX9_stateOf_X9_modeOf : GoodIn wsX9_stateOf wsX9_modeOf := goodIn_r _ [5, 6, 7, 8, 4, 9, 10, 11, 12, 13, 14, 23, 24, 25, 26, 27, 28, 29, 30] (by decide +kernel) (by decide +kernel)
set_option maxRecDepth 20000 in
theorem gX9_stateOf_X9_modeOf : GoodIn wsX9_stateOf (wsV RX9 47 RX9 yX9_modeOf wsX9_modeOf) := goodIn_app (goodIn_of _ (by decide +kernel)) ggX9_stateOf_X9_modeOf
set_option maxRecDepth 20000 in
theorem ggX9_stateOf_X9_isShut : GoodIn wsX9_stateOf wsX9_isShut := goodIn_r _ [18, 10, 1, 2, 3, 4, 5, 6, 7, 8, 9, 11, 12, 13, 14, 19, 20, 21, 22, 23, 24, 25, 26, 27, 28, 29, 30] (by decide +kernel) (by decide +kernel)
set_option maxRecDepth 20000 in
theorem gX9_stateOf_X9_isShut : GoodIn wsX9_stateOf (wsV RX9 83 RX9 yX9_isShut wsX9_isShut) := goodIn_app (goodIn_of _ (by decide +kernel)) ggX9_stateOf_X9_isShut
theorem dX9_stateOf_0 : decode cX9_stateOf 0 = .ok (.aload_n 0, 1) := by decide +kernel
theorem dX9_stateOf_1 : decode cX9_stateOf 1 = .ok (.iload_n 1, 1) := by decide +kernel
theorem dX9_stateOf_2 : decode cX9_stateOf 2 = .ok (.invokevirtual 47, 3) := by decide +kernel
theorem dX9_stateOf_5 : decode cX9_stateOf 5 = .ok (.istore_n 2, 1) := by decide +kernel
theorem dX9_stateOf_6 : decode cX9_stateOf 6 = .ok (.iload_n 2, 1) := by decide +kernel
theorem dX9_stateOf_7 : decode cX9_stateOf 7 = .ok (.ifCond .eq 7, 3) := by decide +kernel
theorem dX9_stateOf_10 : decode cX9_stateOf 10 = .ok (.iload_n 2, 1) := by decide +kernel
theorem dX9_stateOf_11 : decode cX9_stateOf 11 = .ok (.iconst 1, 1) := by decide +kernel
theorem dX9_stateOf_12 : decode cX9_stateOf 12 = .ok (.iadd, 1) := by decide +kernel
theorem dX9_stateOf_13 : decode cX9_stateOf 13 = .ok (.ireturn, 1) := by decide +kernel
theorem dX9_stateOf_14 : decode cX9_stateOf 14 = .ok (.aload_n 0, 1) := by decide +kernel
theorem dX9_stateOf_15 : decode cX9_stateOf 15 = .ok (.iload_n 1, 1) := by decide +kernel
theorem dX9_stateOf_16 : decode cX9_stateOf 16 = .ok (.invokevirtual 83, 3) := by decide +kernel
theorem dX9_stateOf_19 : decode cX9_stateOf 19 = .ok (.ifCond .eq 7, 3) := by decide +kernel
theorem dX9_stateOf_22 : decode cX9_stateOf 22 = .ok (.iconst 1, 1) := by decide +kernel
theorem dX9_stateOf_23 : decode cX9_stateOf 23 = .ok (.goto 4, 3) := by decide +kernel
theorem dX9_stateOf_26 : decode cX9_stateOf 26 = .ok (.iconst 0, 1) := by decide +kernel
theorem dX9_stateOf_27 : decode cX9_stateOf 27 = .ok (.ireturn, 1) := by decide +kernel
set_option maxRecDepth 20000 in
theorem ggX9_paneOf_X9_isPane : GoodIn wsX9_paneOf wsX9_isPane := goodIn_r _ [7, 8, 9, 10, 6, 11, 52, 53, 54, 55, 56, 57, 58, 59] (by decide +kernel) (by decide +kernel)
set_option maxRecDepth 20000 in
theorem gX9_paneOf_X9_isPane : GoodIn wsX9_paneOf (wsV RX9 113 RX9 yX9_isPane wsX9_isPane) := goodIn_app (goodIn_of _ (by decide +kernel)) ggX9_paneOf_X9_isPane
set_option maxRecDepth 20000 in
theorem ggX9_paneOf_X9_isIn : GoodIn wsX9_paneOf wsX9_isIn := goodIn_r _ [11] (by decide +kernel) (by decide +kernel)
set_option maxRecDepth 20000 in
theorem gX9_paneOf_X9_isIn : GoodIn wsX9_paneOf (va_wsS RX9 27 yX9_isIn wsX9_isIn) := goodIn_app (goodIn_of _ (by decide +kernel)) ggX9_paneOf_X9_isIn
set_option maxRecDepth 20000 in
theorem ggX9_paneOf_X9_find : GoodIn wsX9_paneOf wsX9_find := goodIn_r _ [15, 8, 16, 17, 18, 6, 19, 52, 53, 54, 55, 56, 57, 58, 59] (by decide +kernel) (by decide +kernel)
set_option maxRecDepth 20000 in
theorem gX9_paneOf_X9_find : GoodIn wsX9_paneOf (wsV RX9 39 RX9 yX9_find wsX9_find) := goodIn_app (goodIn_of _ (by decide +kernel)) ggX9_paneOf_X9_find
set_option maxRecDepth 20000 in
theorem ggX9_paneOf_X9_stateOf : GoodIn wsX9_paneOf wsX9_stateOf := goodIn_r _ [23, 24, 25, 26, 6, 27, 12, 13, 14, 15, 8, 16, 17, 18, 19, 28, 29, 30, 31, 32, 33, 34, 35, 52, 53, 54, 55, 56, 57, 58, 59] (by decide +kernel) (by decide +kernel)
set_option maxRecDepth 20000 in
theorem gX9_paneOf_X9_stateOf : GoodIn wsX9_paneOf (wsV RX9 116 RX9 yX9_stateOf wsX9_stateOf) := goodIn_app (goodIn_of _ (by decide +kernel)) ggX9_paneOf_X9_stateOf
set_option maxRecDepth 20000 in
theorem ggX9_paneOf_X9_sumOf : GoodIn wsX9_paneOf wsX9_sumOf := goodIn_r _ [39, 40, 41, 42, 6, 43, 44, 45, 46, 47, 8, 9, 10, 11, 48, 49, 50, 51, 52, 53, 54, 55, 56, 57, 58, 59] (by decide +kernel) (by decide +kernel)
set_option maxRecDepth 20000 in
theorem gX9_paneOf_X9_sumOf : GoodIn wsX9_paneOf (wsV RX9 63 RX9 yX9_sumOf wsX9_sumOf) := goodIn_app (goodIn_of _ (by decide +kernel)) ggX9_paneOf_X9_sumOf
set_option maxRecDepth 20000 in
theorem ggX9_paneOf_X9_ofP : GoodIn wsX9_paneOf wsX9_ofP := goodIn_r _ [19, 8, 52, 53, 54, 55, 56, 57, 58, 59] (by decide +kernel) (by decide +kernel)
set_option maxRecDepth 20000 in
theorem gX9_paneOf_X9_ofP : GoodIn wsX9_paneOf (wsV RX9 35 RX9 yX9_ofP wsX9_ofP) := goodIn_app (goodIn_of _ (by decide +kernel)) ggX9_paneOf_X9_ofP
theorem dX9_paneOf_0 : decode cX9_paneOf 0 = .ok (.aload_n 0, 1) := by decide +kernel
theorem dX9_paneOf_1 : decode cX9_paneOf 1 = .ok (.iload_n 1, 1) := by decide +kernel
theorem dX9_paneOf_2 : decode cX9_paneOf 2 = .ok (.invokevirtual 113, 3) := by decide +kernel
theorem dX9_paneOf_5 : decode cX9_paneOf 5 = .ok (.ifCond .eq 13, 3) := by decide +kernel
theorem dX9_paneOf_8 : decode cX9_paneOf 8 = .ok (.iload_n 2, 1) := by decide +kernel
theorem dX9_paneOf_9 : decode cX9_paneOf 9 = .ok (.iconst 0, 1) := by decide +kernel
theorem dX9_paneOf_10 : decode cX9_paneOf 10 = .ok (.bipush 6, 2) := by decide +kernel
theorem dX9_paneOf_12 : decode cX9_paneOf 12 = .ok (.invokestatic 27, 3) := by decide +kernel
theorem dX9_paneOf_15 : decode cX9_paneOf 15 = .ok (.ifCond .ne 6, 3) := by decide +kernel
theorem dX9_paneOf_18 : decode cX9_paneOf 18 = .ok (.ldc 31, 2) := by decide +kernel
theorem dX9_paneOf_20 : decode cX9_paneOf 20 = .ok (.ireturn, 1) := by decide +kernel
theorem dX9_paneOf_21 : decode cX9_paneOf 21 = .ok (.aload_n 0, 1) := by decide +kernel
theorem dX9_paneOf_22 : decode cX9_paneOf 22 = .ok (.iload_n 1, 1) := by decide +kernel
theorem dX9_paneOf_23 : decode cX9_paneOf 23 = .ok (.invokevirtual 39, 3) := by decide +kernel
theorem dX9_paneOf_26 : decode cX9_paneOf 26 = .ok (.istore_n 3, 1) := by decide +kernel
theorem dX9_paneOf_27 : decode cX9_paneOf 27 = .ok (.iload_n 2, 1) := by decide +kernel
theorem dX9_paneOf_28 : decode cX9_paneOf 28 = .ok (.tableswitch 77 0 4 #[36, 42, 42, 42, 51], 36) := by decide +kernel
theorem dX9_paneOf_64 : decode cX9_paneOf 64 = .ok (.aload_n 0, 1) := by decide +kernel
theorem dX9_paneOf_65 : decode cX9_paneOf 65 = .ok (.iload_n 1, 1) := by decide +kernel
theorem dX9_paneOf_66 : decode cX9_paneOf 66 = .ok (.invokevirtual 116, 3) := by decide +kernel
theorem dX9_paneOf_69 : decode cX9_paneOf 69 = .ok (.ireturn, 1) := by decide +kernel
theorem dX9_paneOf_70 : decode cX9_paneOf 70 = .ok (.aload_n 0, 1) := by decide +kernel
theorem dX9_paneOf_71 : decode cX9_paneOf 71 = .ok (.iload_n 1, 1) := by decide +kernel
theorem dX9_paneOf_72 : decode cX9_paneOf 72 = .ok (.iload_n 2, 1) := by decide +kernel
theorem dX9_paneOf_73 : decode cX9_paneOf 73 = .ok (.iconst 1, 1) := by decide +kernel
theorem dX9_paneOf_74 : decode cX9_paneOf 74 = .ok (.isub, 1) := by decide +kernel
theorem dX9_paneOf_75 : decode cX9_paneOf 75 = .ok (.invokevirtual 63, 3) := by decide +kernel
theorem dX9_paneOf_78 : decode cX9_paneOf 78 = .ok (.ireturn, 1) := by decide +kernel
theorem dX9_paneOf_79 : decode cX9_paneOf 79 = .ok (.iload_n 3, 1) := by decide +kernel
theorem dX9_paneOf_80 : decode cX9_paneOf 80 = .ok (.ifCond .lt 13, 3) := by decide +kernel
theorem dX9_paneOf_83 : decode cX9_paneOf 83 = .ok (.aload_n 0, 1) := by decide +kernel
theorem dX9_paneOf_84 : decode cX9_paneOf 84 = .ok (.iload_n 3, 1) := by decide +kernel
theorem dX9_paneOf_85 : decode cX9_paneOf 85 = .ok (.iconst 1, 1) := by decide +kernel
theorem dX9_paneOf_86 : decode cX9_paneOf 86 = .ok (.invokevirtual 35, 3) := by decide +kernel
theorem dX9_paneOf_89 : decode cX9_paneOf 89 = .ok (.iconst 1, 1) := by decide +kernel
theorem dX9_paneOf_90 : decode cX9_paneOf 90 = .ok (.if_icmp .eq 8, 3) := by decide +kernel
theorem dX9_paneOf_93 : decode cX9_paneOf 93 = .ok (.ldc 119, 2) := by decide +kernel
theorem dX9_paneOf_95 : decode cX9_paneOf 95 = .ok (.goto 9, 3) := by decide +kernel
theorem dX9_paneOf_98 : decode cX9_paneOf 98 = .ok (.aload_n 0, 1) := by decide +kernel
theorem dX9_paneOf_99 : decode cX9_paneOf 99 = .ok (.iload_n 3, 1) := by decide +kernel
theorem dX9_paneOf_100 : decode cX9_paneOf 100 = .ok (.iconst 2, 1) := by decide +kernel
theorem dX9_paneOf_101 : decode cX9_paneOf 101 = .ok (.invokevirtual 35, 3) := by decide +kernel
theorem dX9_paneOf_104 : decode cX9_paneOf 104 = .ok (.ireturn, 1) := by decide +kernel
theorem dX9_paneOf_105 : decode cX9_paneOf 105 = .ok (.iload_n 3, 1) := by decide +kernel
theorem dX9_paneOf_106 : decode cX9_paneOf 106 = .ok (.ifCond .ge 7, 3) := by decide +kernel
theorem dX9_paneOf_109 : decode cX9_paneOf 109 = .ok (.iconst 0, 1) := by decide +kernel
theorem dX9_paneOf_110 : decode cX9_paneOf 110 = .ok (.goto 18, 3) := by decide +kernel
theorem dX9_paneOf_113 : decode cX9_paneOf 113 = .ok (.aload_n 0, 1) := by decide +kernel
theorem dX9_paneOf_114 : decode cX9_paneOf 114 = .ok (.iload_n 3, 1) := by decide +kernel
theorem dX9_paneOf_115 : decode cX9_paneOf 115 = .ok (.iload_n 2, 1) := by decide +kernel
theorem dX9_paneOf_116 : decode cX9_paneOf 116 = .ok (.iconst 5, 1) := by decide +kernel
theorem dX9_paneOf_117 : decode cX9_paneOf 117 = .ok (.if_icmp .ne 7, 3) := by decide +kernel
theorem dX9_paneOf_120 : decode cX9_paneOf 120 = .ok (.iconst 3, 1) := by decide +kernel
theorem dX9_paneOf_121 : decode cX9_paneOf 121 = .ok (.goto 4, 3) := by decide +kernel
theorem dX9_paneOf_124 : decode cX9_paneOf 124 = .ok (.iconst 4, 1) := by decide +kernel
theorem dX9_paneOf_125 : decode cX9_paneOf 125 = .ok (.invokevirtual 35, 3) := by decide +kernel
theorem dX9_paneOf_128 : decode cX9_paneOf 128 = .ok (.ireturn, 1) := by decide +kernel
theorem dX9_bitsOf_0 : decode cX9_bitsOf 0 = .ok (.fload_n 0, 1) := by decide +kernel
theorem dX9_bitsOf_1 : decode cX9_bitsOf 1 = .ok (.fconst 0, 1) := by decide +kernel
theorem dX9_bitsOf_2 : decode cX9_bitsOf 2 = .ok (.fcmp .l, 1) := by decide +kernel
theorem dX9_bitsOf_3 : decode cX9_bitsOf 3 = .ok (.ifCond .ne 5, 3) := by decide +kernel
theorem dX9_bitsOf_6 : decode cX9_bitsOf 6 = .ok (.iconst 0, 1) := by decide +kernel
theorem dX9_bitsOf_7 : decode cX9_bitsOf 7 = .ok (.ireturn, 1) := by decide +kernel
theorem dX9_bitsOf_8 : decode cX9_bitsOf 8 = .ok (.fload_n 0, 1) := by decide +kernel
theorem dX9_bitsOf_9 : decode cX9_bitsOf 9 = .ok (.fconst 0, 1) := by decide +kernel
theorem dX9_bitsOf_10 : decode cX9_bitsOf 10 = .ok (.fcmp .g, 1) := by decide +kernel
theorem dX9_bitsOf_11 : decode cX9_bitsOf 11 = .ok (.ifCond .ge 8, 3) := by decide +kernel
theorem dX9_bitsOf_14 : decode cX9_bitsOf 14 = .ok (.fload_n 0, 1) := by decide +kernel
theorem dX9_bitsOf_15 : decode cX9_bitsOf 15 = .ok (.fneg, 1) := by decide +kernel
theorem dX9_bitsOf_16 : decode cX9_bitsOf 16 = .ok (.goto 4, 3) := by decide +kernel
theorem dX9_bitsOf_19 : decode cX9_bitsOf 19 = .ok (.fload_n 0, 1) := by decide +kernel
theorem dX9_bitsOf_20 : decode cX9_bitsOf 20 = .ok (.fstore_n 1, 1) := by decide +kernel
theorem dX9_bitsOf_21 : decode cX9_bitsOf 21 = .ok (.bipush 127, 2) := by decide +kernel
theorem dX9_bitsOf_23 : decode cX9_bitsOf 23 = .ok (.istore_n 2, 1) := by decide +kernel
theorem dX9_bitsOf_24 : decode cX9_bitsOf 24 = .ok (.fload_n 1, 1) := by decide +kernel
theorem dX9_bitsOf_25 : decode cX9_bitsOf 25 = .ok (.fconst 2, 1) := by decide +kernel
theorem dX9_bitsOf_26 : decode cX9_bitsOf 26 = .ok (.fcmp .l, 1) := by decide +kernel
theorem dX9_bitsOf_27 : decode cX9_bitsOf 27 = .ok (.ifCond .lt 13, 3) := by decide +kernel
theorem dX9_bitsOf_30 : decode cX9_bitsOf 30 = .ok (.fload_n 1, 1) := by decide +kernel
theorem dX9_bitsOf_31 : decode cX9_bitsOf 31 = .ok (.fconst 2, 1) := by decide +kernel
theorem dX9_bitsOf_32 : decode cX9_bitsOf 32 = .ok (.fdiv, 1) := by decide +kernel
theorem dX9_bitsOf_33 : decode cX9_bitsOf 33 = .ok (.fstore_n 1, 1) := by decide +kernel
theorem dX9_bitsOf_34 : decode cX9_bitsOf 34 = .ok (.iinc 2 1, 3) := by decide +kernel
theorem dX9_bitsOf_37 : decode cX9_bitsOf 37 = .ok (.goto (-13), 3) := by decide +kernel
theorem dX9_bitsOf_40 : decode cX9_bitsOf 40 = .ok (.fload_n 1, 1) := by decide +kernel
theorem dX9_bitsOf_41 : decode cX9_bitsOf 41 = .ok (.fconst 1, 1) := by decide +kernel
theorem dX9_bitsOf_42 : decode cX9_bitsOf 42 = .ok (.fcmp .g, 1) := by decide +kernel
theorem dX9_bitsOf_43 : decode cX9_bitsOf 43 = .ok (.ifCond .ge 13, 3) := by decide +kernel
theorem dX9_bitsOf_46 : decode cX9_bitsOf 46 = .ok (.fload_n 1, 1) := by decide +kernel
theorem dX9_bitsOf_47 : decode cX9_bitsOf 47 = .ok (.fconst 2, 1) := by decide +kernel
theorem dX9_bitsOf_48 : decode cX9_bitsOf 48 = .ok (.fmul, 1) := by decide +kernel
theorem dX9_bitsOf_49 : decode cX9_bitsOf 49 = .ok (.fstore_n 1, 1) := by decide +kernel
theorem dX9_bitsOf_50 : decode cX9_bitsOf 50 = .ok (.iinc 2 (-1), 3) := by decide +kernel
theorem dX9_bitsOf_53 : decode cX9_bitsOf 53 = .ok (.goto (-13), 3) := by decide +kernel
theorem dX9_bitsOf_56 : decode cX9_bitsOf 56 = .ok (.iload_n 2, 1) := by decide +kernel
theorem dX9_bitsOf_57 : decode cX9_bitsOf 57 = .ok (.bipush 23, 2) := by decide +kernel
theorem dX9_bitsOf_59 : decode cX9_bitsOf 59 = .ok (.ishl, 1) := by decide +kernel
theorem dX9_bitsOf_60 : decode cX9_bitsOf 60 = .ok (.fload_n 1, 1) := by decide +kernel
theorem dX9_bitsOf_61 : decode cX9_bitsOf 61 = .ok (.fconst 1, 1) := by decide +kernel
theorem dX9_bitsOf_62 : decode cX9_bitsOf 62 = .ok (.fsub, 1) := by decide +kernel
theorem dX9_bitsOf_63 : decode cX9_bitsOf 63 = .ok (.ldc 120, 2) := by decide +kernel
theorem dX9_bitsOf_65 : decode cX9_bitsOf 65 = .ok (.fmul, 1) := by decide +kernel
theorem dX9_bitsOf_66 : decode cX9_bitsOf 66 = .ok (.f2i, 1) := by decide +kernel
theorem dX9_bitsOf_67 : decode cX9_bitsOf 67 = .ok (.iadd, 1) := by decide +kernel
theorem dX9_bitsOf_68 : decode cX9_bitsOf 68 = .ok (.istore_n 3, 1) := by decide +kernel
theorem dX9_bitsOf_69 : decode cX9_bitsOf 69 = .ok (.fload_n 0, 1) := by decide +kernel
theorem dX9_bitsOf_70 : decode cX9_bitsOf 70 = .ok (.fconst 0, 1) := by decide +kernel
theorem dX9_bitsOf_71 : decode cX9_bitsOf 71 = .ok (.fcmp .g, 1) := by decide +kernel
theorem dX9_bitsOf_72 : decode cX9_bitsOf 72 = .ok (.ifCond .ge 10, 3) := by decide +kernel
theorem dX9_bitsOf_75 : decode cX9_bitsOf 75 = .ok (.iload_n 3, 1) := by decide +kernel
theorem dX9_bitsOf_76 : decode cX9_bitsOf 76 = .ok (.ldc 121, 2) := by decide +kernel
theorem dX9_bitsOf_78 : decode cX9_bitsOf 78 = .ok (.ior, 1) := by decide +kernel
theorem dX9_bitsOf_79 : decode cX9_bitsOf 79 = .ok (.goto 4, 3) := by decide +kernel
theorem dX9_bitsOf_82 : decode cX9_bitsOf 82 = .ok (.iload_n 3, 1) := by decide +kernel
theorem dX9_bitsOf_83 : decode cX9_bitsOf 83 = .ok (.ireturn, 1) := by decide +kernel
set_option maxRecDepth 20000 in
theorem ggX9_mean_X9_isPane : GoodIn wsX9_mean wsX9_isPane := goodIn_r _ [7, 8, 9, 10, 6, 11, 33, 34, 35, 36, 37, 38, 39, 40] (by decide +kernel) (by decide +kernel)
set_option maxRecDepth 20000 in
theorem gX9_mean_X9_isPane : GoodIn wsX9_mean (wsV RX9 113 RX9 yX9_isPane wsX9_isPane) := goodIn_app (goodIn_of _ (by decide +kernel)) ggX9_mean_X9_isPane
set_option maxRecDepth 20000 in
theorem ggX9_mean_X9_sumOf : GoodIn wsX9_mean wsX9_sumOf := goodIn_r _ [15, 16, 17, 18, 6, 19, 20, 21, 22, 23, 8, 9, 10, 11, 24, 25, 26, 27, 33, 34, 35, 36, 37, 38, 39, 40] (by decide +kernel) (by decide +kernel)
set_option maxRecDepth 20000 in
theorem gX9_mean_X9_sumOf : GoodIn wsX9_mean (wsV RX9 63 RX9 yX9_sumOf wsX9_sumOf) := goodIn_app (goodIn_of _ (by decide +kernel)) ggX9_mean_X9_sumOf
set_option maxRecDepth 20000 in
theorem ggX9_mean_X9_bitsOf : GoodIn wsX9_mean wsX9_bitsOf := goodIn_r _ [30, 31, 32] (by decide +kernel) (by decide +kernel)
set_option maxRecDepth 20000 in
theorem gX9_mean_X9_bitsOf : GoodIn wsX9_mean (va_wsS RX9 122 yX9_bitsOf wsX9_bitsOf) := goodIn_app (goodIn_of _ (by decide +kernel)) ggX9_mean_X9_bitsOf
theorem dX9_mean_0 : decode cX9_mean 0 = .ok (.aload_n 0, 1) := by decide +kernel
theorem dX9_mean_1 : decode cX9_mean 1 = .ok (.iload_n 1, 1) := by decide +kernel
theorem dX9_mean_2 : decode cX9_mean 2 = .ok (.invokevirtual 113, 3) := by decide +kernel
theorem dX9_mean_5 : decode cX9_mean 5 = .ok (.ifCond .ne 6, 3) := by decide +kernel
theorem dX9_mean_8 : decode cX9_mean 8 = .ok (.ldc 31, 2) := by decide +kernel
theorem dX9_mean_10 : decode cX9_mean 10 = .ok (.ireturn, 1) := by decide +kernel
theorem dX9_mean_11 : decode cX9_mean 11 = .ok (.aload_n 0, 1) := by decide +kernel
theorem dX9_mean_12 : decode cX9_mean 12 = .ok (.iload_n 1, 1) := by decide +kernel
theorem dX9_mean_13 : decode cX9_mean 13 = .ok (.iconst 0, 1) := by decide +kernel
theorem dX9_mean_14 : decode cX9_mean 14 = .ok (.invokevirtual 63, 3) := by decide +kernel
theorem dX9_mean_17 : decode cX9_mean 17 = .ok (.istore_n 2, 1) := by decide +kernel
theorem dX9_mean_18 : decode cX9_mean 18 = .ok (.iload_n 2, 1) := by decide +kernel
theorem dX9_mean_19 : decode cX9_mean 19 = .ok (.ifCond .ne 8, 3) := by decide +kernel
theorem dX9_mean_22 : decode cX9_mean 22 = .ok (.ldc 119, 2) := by decide +kernel
theorem dX9_mean_24 : decode cX9_mean 24 = .ok (.goto 16, 3) := by decide +kernel
theorem dX9_mean_27 : decode cX9_mean 27 = .ok (.aload_n 0, 1) := by decide +kernel
theorem dX9_mean_28 : decode cX9_mean 28 = .ok (.iload_n 1, 1) := by decide +kernel
theorem dX9_mean_29 : decode cX9_mean 29 = .ok (.iconst 1, 1) := by decide +kernel
theorem dX9_mean_30 : decode cX9_mean 30 = .ok (.invokevirtual 63, 3) := by decide +kernel
theorem dX9_mean_33 : decode cX9_mean 33 = .ok (.i2f, 1) := by decide +kernel
theorem dX9_mean_34 : decode cX9_mean 34 = .ok (.iload_n 2, 1) := by decide +kernel
theorem dX9_mean_35 : decode cX9_mean 35 = .ok (.i2f, 1) := by decide +kernel
theorem dX9_mean_36 : decode cX9_mean 36 = .ok (.fdiv, 1) := by decide +kernel
theorem dX9_mean_37 : decode cX9_mean 37 = .ok (.invokestatic 122, 3) := by decide +kernel
theorem dX9_mean_40 : decode cX9_mean 40 = .ok (.ireturn, 1) := by decide +kernel
set_option maxRecDepth 20000 in
theorem ggX9_standing_X9_isPane : GoodIn wsX9_standing wsX9_isPane := goodIn_r _ [7, 8, 9, 10, 6, 11, 20, 21, 22, 23, 24, 25, 26, 27] (by decide +kernel) (by decide +kernel)
set_option maxRecDepth 20000 in
theorem gX9_standing_X9_isPane : GoodIn wsX9_standing (wsV RX9 113 RX9 yX9_isPane wsX9_isPane) := goodIn_app (goodIn_of _ (by decide +kernel)) ggX9_standing_X9_isPane
set_option maxRecDepth 20000 in
theorem ggX9_standing_X9_isIn : GoodIn wsX9_standing wsX9_isIn := goodIn_r _ [11] (by decide +kernel) (by decide +kernel)
set_option maxRecDepth 20000 in
theorem gX9_standing_X9_isIn : GoodIn wsX9_standing (va_wsS RX9 27 yX9_isIn wsX9_isIn) := goodIn_app (goodIn_of _ (by decide +kernel)) ggX9_standing_X9_isIn
set_option maxRecDepth 20000 in
theorem ggX9_standing_X9_find : GoodIn wsX9_standing wsX9_find := goodIn_r _ [15, 8, 16, 17, 18, 6, 19, 20, 21, 22, 23, 24, 25, 26, 27] (by decide +kernel) (by decide +kernel)
set_option maxRecDepth 20000 in
theorem gX9_standing_X9_find : GoodIn wsX9_standing (wsV RX9 39 RX9 yX9_find wsX9_find) := goodIn_app (goodIn_of _ (by decide +kernel)) ggX9_standing_X9_find
set_option maxRecDepth 20000 in
theorem ggX9_standing_X9_ofP : GoodIn wsX9_standing wsX9_ofP := goodIn_r _ [19, 8, 20, 21, 22, 23, 24, 25, 26, 27] (by decide +kernel) (by decide +kernel)
set_option maxRecDepth 20000 in
theorem gX9_standing_X9_ofP : GoodIn wsX9_standing (wsV RX9 35 RX9 yX9_ofP wsX9_ofP) := goodIn_app (goodIn_of _ (by decide +kernel)) ggX9_standing_X9_ofP
theorem dX9_standing_0 : decode cX9_standing 0 = .ok (.aload_n 0, 1) := by decide +kernel
theorem dX9_standing_1 : decode cX9_standing 1 = .ok (.iload_n 1, 1) := by decide +kernel
theorem dX9_standing_2 : decode cX9_standing 2 = .ok (.invokevirtual 113, 3) := by decide +kernel
theorem dX9_standing_5 : decode cX9_standing 5 = .ok (.ifCond .eq 12, 3) := by decide +kernel
theorem dX9_standing_8 : decode cX9_standing 8 = .ok (.iload_n 2, 1) := by decide +kernel
theorem dX9_standing_9 : decode cX9_standing 9 = .ok (.iconst 0, 1) := by decide +kernel
theorem dX9_standing_10 : decode cX9_standing 10 = .ok (.iconst 1, 1) := by decide +kernel
theorem dX9_standing_11 : decode cX9_standing 11 = .ok (.invokestatic 27, 3) := by decide +kernel
theorem dX9_standing_14 : decode cX9_standing 14 = .ok (.ifCond .ne 6, 3) := by decide +kernel
theorem dX9_standing_17 : decode cX9_standing 17 = .ok (.ldc 31, 2) := by decide +kernel
theorem dX9_standing_19 : decode cX9_standing 19 = .ok (.ireturn, 1) := by decide +kernel
theorem dX9_standing_20 : decode cX9_standing 20 = .ok (.aload_n 0, 1) := by decide +kernel
theorem dX9_standing_21 : decode cX9_standing 21 = .ok (.iload_n 1, 1) := by decide +kernel
theorem dX9_standing_22 : decode cX9_standing 22 = .ok (.invokevirtual 39, 3) := by decide +kernel
theorem dX9_standing_25 : decode cX9_standing 25 = .ok (.istore_n 3, 1) := by decide +kernel
theorem dX9_standing_26 : decode cX9_standing 26 = .ok (.iload_n 3, 1) := by decide +kernel
theorem dX9_standing_27 : decode cX9_standing 27 = .ok (.ifCond .lt 12, 3) := by decide +kernel
theorem dX9_standing_30 : decode cX9_standing 30 = .ok (.aload_n 0, 1) := by decide +kernel
theorem dX9_standing_31 : decode cX9_standing 31 = .ok (.iload_n 3, 1) := by decide +kernel
theorem dX9_standing_32 : decode cX9_standing 32 = .ok (.iconst 5, 1) := by decide +kernel
theorem dX9_standing_33 : decode cX9_standing 33 = .ok (.invokevirtual 35, 3) := by decide +kernel
theorem dX9_standing_36 : decode cX9_standing 36 = .ok (.ifCond .ne 8, 3) := by decide +kernel
theorem dX9_standing_39 : decode cX9_standing 39 = .ok (.ldc 119, 2) := by decide +kernel
theorem dX9_standing_41 : decode cX9_standing 41 = .ok (.goto 12, 3) := by decide +kernel
theorem dX9_standing_44 : decode cX9_standing 44 = .ok (.aload_n 0, 1) := by decide +kernel
theorem dX9_standing_45 : decode cX9_standing 45 = .ok (.iload_n 3, 1) := by decide +kernel
theorem dX9_standing_46 : decode cX9_standing 46 = .ok (.bipush 6, 2) := by decide +kernel
theorem dX9_standing_48 : decode cX9_standing 48 = .ok (.iload_n 2, 1) := by decide +kernel
theorem dX9_standing_49 : decode cX9_standing 49 = .ok (.iadd, 1) := by decide +kernel
theorem dX9_standing_50 : decode cX9_standing 50 = .ok (.invokevirtual 35, 3) := by decide +kernel
theorem dX9_standing_53 : decode cX9_standing 53 = .ok (.ireturn, 1) := by decide +kernel
set_option maxRecDepth 20000 in
theorem ggX9_nextPane_X9_isIn : GoodIn wsX9_nextPane wsX9_isIn := goodIn_r _ [6] (by decide +kernel) (by decide +kernel)
set_option maxRecDepth 20000 in
theorem gX9_nextPane_X9_isIn : GoodIn wsX9_nextPane (va_wsS RX9 27 yX9_isIn wsX9_isIn) := goodIn_app (goodIn_of _ (by decide +kernel)) ggX9_nextPane_X9_isIn
set_option maxRecDepth 20000 in
theorem ggX9_nextPane_X9_nextKept : GoodIn wsX9_nextPane wsX9_nextKept := goodIn_r _ [10, 11, 12, 13, 14, 5, 15, 32, 33, 34, 35, 36, 37, 38, 39] (by decide +kernel) (by decide +kernel)
set_option maxRecDepth 20000 in
theorem gX9_nextPane_X9_nextKept : GoodIn wsX9_nextPane (wsV RX9 70 RX9 yX9_nextKept wsX9_nextKept) := goodIn_app (goodIn_of _ (by decide +kernel)) ggX9_nextPane_X9_nextKept
set_option maxRecDepth 20000 in
theorem ggX9_nextPane_X9_ofP : GoodIn wsX9_nextPane wsX9_ofP := goodIn_r _ [15, 11, 32, 33, 34, 35, 36, 37, 38, 39] (by decide +kernel) (by decide +kernel)
set_option maxRecDepth 20000 in
theorem gX9_nextPane_X9_ofP : GoodIn wsX9_nextPane (wsV RX9 35 RX9 yX9_ofP wsX9_ofP) := goodIn_app (goodIn_of _ (by decide +kernel)) ggX9_nextPane_X9_ofP
set_option maxRecDepth 20000 in
theorem ggX9_nextPane_X9_sumOf : GoodIn wsX9_nextPane wsX9_sumOf := goodIn_r _ [19, 20, 21, 22, 5, 23, 24, 25, 26, 27, 11, 3, 4, 6, 28, 29, 30, 31, 32, 33, 34, 35, 36, 37, 38, 39] (by decide +kernel) (by decide +kernel)
set_option maxRecDepth 20000 in
theorem gX9_nextPane_X9_sumOf : GoodIn wsX9_nextPane (wsV RX9 63 RX9 yX9_sumOf wsX9_sumOf) := goodIn_app (goodIn_of _ (by decide +kernel)) ggX9_nextPane_X9_sumOf
theorem dX9_nextPane_0 : decode cX9_nextPane 0 = .ok (.iload_n 1, 1) := by decide +kernel
theorem dX9_nextPane_1 : decode cX9_nextPane 1 = .ok (.iconst (-1), 1) := by decide +kernel
theorem dX9_nextPane_2 : decode cX9_nextPane 2 = .ok (.sipush 1999, 3) := by decide +kernel
theorem dX9_nextPane_5 : decode cX9_nextPane 5 = .ok (.invokestatic 27, 3) := by decide +kernel
theorem dX9_nextPane_8 : decode cX9_nextPane 8 = .ok (.ifCond .ne 6, 3) := by decide +kernel
theorem dX9_nextPane_11 : decode cX9_nextPane 11 = .ok (.ldc 31, 2) := by decide +kernel
theorem dX9_nextPane_13 : decode cX9_nextPane 13 = .ok (.ireturn, 1) := by decide +kernel
theorem dX9_nextPane_14 : decode cX9_nextPane 14 = .ok (.aload_n 0, 1) := by decide +kernel
theorem dX9_nextPane_15 : decode cX9_nextPane 15 = .ok (.iload_n 1, 1) := by decide +kernel
theorem dX9_nextPane_16 : decode cX9_nextPane 16 = .ok (.invokevirtual 70, 3) := by decide +kernel
theorem dX9_nextPane_19 : decode cX9_nextPane 19 = .ok (.istore_n 2, 1) := by decide +kernel
theorem dX9_nextPane_20 : decode cX9_nextPane 20 = .ok (.iload_n 2, 1) := by decide +kernel
theorem dX9_nextPane_21 : decode cX9_nextPane 21 = .ok (.ifCond .lt 30, 3) := by decide +kernel
theorem dX9_nextPane_24 : decode cX9_nextPane 24 = .ok (.aload_n 0, 1) := by decide +kernel
theorem dX9_nextPane_25 : decode cX9_nextPane 25 = .ok (.iload_n 2, 1) := by decide +kernel
theorem dX9_nextPane_26 : decode cX9_nextPane 26 = .ok (.iconst 0, 1) := by decide +kernel
theorem dX9_nextPane_27 : decode cX9_nextPane 27 = .ok (.invokevirtual 35, 3) := by decide +kernel
theorem dX9_nextPane_30 : decode cX9_nextPane 30 = .ok (.istore_n 3, 1) := by decide +kernel
theorem dX9_nextPane_31 : decode cX9_nextPane 31 = .ok (.aload_n 0, 1) := by decide +kernel
theorem dX9_nextPane_32 : decode cX9_nextPane 32 = .ok (.iload_n 3, 1) := by decide +kernel
theorem dX9_nextPane_33 : decode cX9_nextPane 33 = .ok (.iconst 0, 1) := by decide +kernel
theorem dX9_nextPane_34 : decode cX9_nextPane 34 = .ok (.invokevirtual 63, 3) := by decide +kernel
theorem dX9_nextPane_37 : decode cX9_nextPane 37 = .ok (.ifCond .le 5, 3) := by decide +kernel
theorem dX9_nextPane_40 : decode cX9_nextPane 40 = .ok (.iload_n 3, 1) := by decide +kernel
theorem dX9_nextPane_41 : decode cX9_nextPane 41 = .ok (.ireturn, 1) := by decide +kernel
theorem dX9_nextPane_42 : decode cX9_nextPane 42 = .ok (.aload_n 0, 1) := by decide +kernel
theorem dX9_nextPane_43 : decode cX9_nextPane 43 = .ok (.iload_n 3, 1) := by decide +kernel
theorem dX9_nextPane_44 : decode cX9_nextPane 44 = .ok (.invokevirtual 70, 3) := by decide +kernel
theorem dX9_nextPane_47 : decode cX9_nextPane 47 = .ok (.istore_n 2, 1) := by decide +kernel
theorem dX9_nextPane_48 : decode cX9_nextPane 48 = .ok (.goto (-28), 3) := by decide +kernel
theorem dX9_nextPane_51 : decode cX9_nextPane 51 = .ok (.ldc 119, 2) := by decide +kernel
theorem dX9_nextPane_53 : decode cX9_nextPane 53 = .ok (.ireturn, 1) := by decide +kernel
set_option maxRecDepth 20000 in
theorem ggX9_wordAt_X9_isIn : GoodIn wsX9_wordAt wsX9_isIn := goodIn_r _ [7] (by decide +kernel) (by decide +kernel)
set_option maxRecDepth 20000 in
theorem gX9_wordAt_X9_isIn : GoodIn wsX9_wordAt (va_wsS RX9 27 yX9_isIn wsX9_isIn) := goodIn_app (goodIn_of _ (by decide +kernel)) ggX9_wordAt_X9_isIn
theorem dX9_wordAt_0 : decode cX9_wordAt 0 = .ok (.iload_n 1, 1) := by decide +kernel
theorem dX9_wordAt_1 : decode cX9_wordAt 1 = .ok (.ifCond .lt 12, 3) := by decide +kernel
theorem dX9_wordAt_4 : decode cX9_wordAt 4 = .ok (.iload_n 2, 1) := by decide +kernel
theorem dX9_wordAt_5 : decode cX9_wordAt 5 = .ok (.iconst 0, 1) := by decide +kernel
theorem dX9_wordAt_6 : decode cX9_wordAt 6 = .ok (.iconst 3, 1) := by decide +kernel
theorem dX9_wordAt_7 : decode cX9_wordAt 7 = .ok (.invokestatic 27, 3) := by decide +kernel
theorem dX9_wordAt_10 : decode cX9_wordAt 10 = .ok (.ifCond .ne 6, 3) := by decide +kernel
theorem dX9_wordAt_13 : decode cX9_wordAt 13 = .ok (.ldc 31, 2) := by decide +kernel
theorem dX9_wordAt_15 : decode cX9_wordAt 15 = .ok (.ireturn, 1) := by decide +kernel
theorem dX9_wordAt_16 : decode cX9_wordAt 16 = .ok (.iload_n 1, 1) := by decide +kernel
theorem dX9_wordAt_17 : decode cX9_wordAt 17 = .ok (.aload_n 0, 1) := by decide +kernel
theorem dX9_wordAt_18 : decode cX9_wordAt 18 = .ok (.getfield 7, 3) := by decide +kernel
theorem dX9_wordAt_21 : decode cX9_wordAt 21 = .ok (.bipush 9, 2) := by decide +kernel
theorem dX9_wordAt_23 : decode cX9_wordAt 23 = .ok (.iaload, 1) := by decide +kernel
theorem dX9_wordAt_24 : decode cX9_wordAt 24 = .ok (.if_icmp .ge 20, 3) := by decide +kernel
theorem dX9_wordAt_27 : decode cX9_wordAt 27 = .ok (.aload_n 0, 1) := by decide +kernel
theorem dX9_wordAt_28 : decode cX9_wordAt 28 = .ok (.getfield 7, 3) := by decide +kernel
theorem dX9_wordAt_31 : decode cX9_wordAt 31 = .ok (.sipush 908, 3) := by decide +kernel
theorem dX9_wordAt_34 : decode cX9_wordAt 34 = .ok (.iconst 4, 1) := by decide +kernel
theorem dX9_wordAt_35 : decode cX9_wordAt 35 = .ok (.iload_n 1, 1) := by decide +kernel
theorem dX9_wordAt_36 : decode cX9_wordAt 36 = .ok (.imul, 1) := by decide +kernel
theorem dX9_wordAt_37 : decode cX9_wordAt 37 = .ok (.iadd, 1) := by decide +kernel
theorem dX9_wordAt_38 : decode cX9_wordAt 38 = .ok (.iload_n 2, 1) := by decide +kernel
theorem dX9_wordAt_39 : decode cX9_wordAt 39 = .ok (.iadd, 1) := by decide +kernel
theorem dX9_wordAt_40 : decode cX9_wordAt 40 = .ok (.iaload, 1) := by decide +kernel
theorem dX9_wordAt_41 : decode cX9_wordAt 41 = .ok (.goto 5, 3) := by decide +kernel
theorem dX9_wordAt_44 : decode cX9_wordAt 44 = .ok (.ldc 119, 2) := by decide +kernel
theorem dX9_wordAt_46 : decode cX9_wordAt 46 = .ok (.ireturn, 1) := by decide +kernel
set_option maxRecDepth 20000 in
theorem ggX9_eventOf_X9_isIn : GoodIn wsX9_eventOf wsX9_isIn := goodIn_r _ [6] (by decide +kernel) (by decide +kernel)
set_option maxRecDepth 20000 in
theorem gX9_eventOf_X9_isIn : GoodIn wsX9_eventOf (va_wsS RX9 27 yX9_isIn wsX9_isIn) := goodIn_app (goodIn_of _ (by decide +kernel)) ggX9_eventOf_X9_isIn
set_option maxRecDepth 20000 in
theorem ggX9_eventOf_X9_ofE : GoodIn wsX9_eventOf wsX9_ofE := goodIn_r _ [10, 11, 16, 17, 18, 19, 20, 21, 22, 23] (by decide +kernel) (by decide +kernel)
set_option maxRecDepth 20000 in
theorem gX9_eventOf_X9_ofE : GoodIn wsX9_eventOf (wsV RX9 53 RX9 yX9_ofE wsX9_ofE) := goodIn_app (goodIn_of _ (by decide +kernel)) ggX9_eventOf_X9_ofE
set_option maxRecDepth 20000 in
theorem ggX9_eventOf_X9_paneAt : GoodIn wsX9_eventOf wsX9_paneAt := goodIn_r _ [15, 11, 16, 17, 18, 19, 20, 21, 22, 23] (by decide +kernel) (by decide +kernel)
set_option maxRecDepth 20000 in
theorem gX9_eventOf_X9_paneAt : GoodIn wsX9_eventOf (wsV RX9 60 RX9 yX9_paneAt wsX9_paneAt) := goodIn_app (goodIn_of _ (by decide +kernel)) ggX9_eventOf_X9_paneAt
theorem dX9_eventOf_0 : decode cX9_eventOf 0 = .ok (.iload_n 1, 1) := by decide +kernel
theorem dX9_eventOf_1 : decode cX9_eventOf 1 = .ok (.iconst 0, 1) := by decide +kernel
theorem dX9_eventOf_2 : decode cX9_eventOf 2 = .ok (.bipush 63, 2) := by decide +kernel
theorem dX9_eventOf_4 : decode cX9_eventOf 4 = .ok (.invokestatic 27, 3) := by decide +kernel
theorem dX9_eventOf_7 : decode cX9_eventOf 7 = .ok (.ifCond .eq 12, 3) := by decide +kernel
theorem dX9_eventOf_10 : decode cX9_eventOf 10 = .ok (.iload_n 2, 1) := by decide +kernel
theorem dX9_eventOf_11 : decode cX9_eventOf 11 = .ok (.iconst 0, 1) := by decide +kernel
theorem dX9_eventOf_12 : decode cX9_eventOf 12 = .ok (.iconst 5, 1) := by decide +kernel
theorem dX9_eventOf_13 : decode cX9_eventOf 13 = .ok (.invokestatic 27, 3) := by decide +kernel
theorem dX9_eventOf_16 : decode cX9_eventOf 16 = .ok (.ifCond .ne 6, 3) := by decide +kernel
theorem dX9_eventOf_19 : decode cX9_eventOf 19 = .ok (.ldc 31, 2) := by decide +kernel
theorem dX9_eventOf_21 : decode cX9_eventOf 21 = .ok (.ireturn, 1) := by decide +kernel
theorem dX9_eventOf_22 : decode cX9_eventOf 22 = .ok (.aload_n 0, 1) := by decide +kernel
theorem dX9_eventOf_23 : decode cX9_eventOf 23 = .ok (.iload_n 1, 1) := by decide +kernel
theorem dX9_eventOf_24 : decode cX9_eventOf 24 = .ok (.iconst 0, 1) := by decide +kernel
theorem dX9_eventOf_25 : decode cX9_eventOf 25 = .ok (.invokevirtual 53, 3) := by decide +kernel
theorem dX9_eventOf_28 : decode cX9_eventOf 28 = .ok (.ifCond .ne 6, 3) := by decide +kernel
theorem dX9_eventOf_31 : decode cX9_eventOf 31 = .ok (.ldc 119, 2) := by decide +kernel
theorem dX9_eventOf_33 : decode cX9_eventOf 33 = .ok (.ireturn, 1) := by decide +kernel
theorem dX9_eventOf_34 : decode cX9_eventOf 34 = .ok (.iload_n 2, 1) := by decide +kernel
theorem dX9_eventOf_35 : decode cX9_eventOf 35 = .ok (.iconst 5, 1) := by decide +kernel
theorem dX9_eventOf_36 : decode cX9_eventOf 36 = .ok (.if_icmp .ne 16, 3) := by decide +kernel
theorem dX9_eventOf_39 : decode cX9_eventOf 39 = .ok (.aload_n 0, 1) := by decide +kernel
theorem dX9_eventOf_40 : decode cX9_eventOf 40 = .ok (.aload_n 0, 1) := by decide +kernel
theorem dX9_eventOf_41 : decode cX9_eventOf 41 = .ok (.iload_n 1, 1) := by decide +kernel
theorem dX9_eventOf_42 : decode cX9_eventOf 42 = .ok (.iconst 1, 1) := by decide +kernel
theorem dX9_eventOf_43 : decode cX9_eventOf 43 = .ok (.invokevirtual 53, 3) := by decide +kernel
theorem dX9_eventOf_46 : decode cX9_eventOf 46 = .ok (.invokevirtual 60, 3) := by decide +kernel
theorem dX9_eventOf_49 : decode cX9_eventOf 49 = .ok (.goto 11, 3) := by decide +kernel
theorem dX9_eventOf_52 : decode cX9_eventOf 52 = .ok (.aload_n 0, 1) := by decide +kernel
theorem dX9_eventOf_53 : decode cX9_eventOf 53 = .ok (.iload_n 1, 1) := by decide +kernel
theorem dX9_eventOf_54 : decode cX9_eventOf 54 = .ok (.iload_n 2, 1) := by decide +kernel
theorem dX9_eventOf_55 : decode cX9_eventOf 55 = .ok (.iconst 1, 1) := by decide +kernel
theorem dX9_eventOf_56 : decode cX9_eventOf 56 = .ok (.iadd, 1) := by decide +kernel
theorem dX9_eventOf_57 : decode cX9_eventOf 57 = .ok (.invokevirtual 53, 3) := by decide +kernel
theorem dX9_eventOf_60 : decode cX9_eventOf 60 = .ok (.ireturn, 1) := by decide +kernel
set_option maxRecDepth 20000 in
theorem ggX9_judge_X9_isEvent : GoodIn wsX9_judge wsX9_isEvent := goodIn_r _ [5, 6, 7, 4, 8] (by decide +kernel) (by decide +kernel)
set_option maxRecDepth 20000 in
theorem gX9_judge_X9_isEvent : GoodIn wsX9_judge (va_wsS RX9 105 yX9_isEvent wsX9_isEvent) := goodIn_app (goodIn_of _ (by decide +kernel)) ggX9_judge_X9_isEvent
set_option maxRecDepth 20000 in
theorem ggX9_judge_X9_judgeOf : GoodIn wsX9_judge wsX9_judgeOf := goodIn_r _ [12, 13, 14, 15, 4, 16, 17, 18, 19, 20, 21, 22, 23, 24, 25, 26, 27, 28, 29, 30, 31, 32, 33, 34, 35, 36, 37, 38, 39, 40, 41, 42, 43, 44, 45, 46, 47, 48, 49, 50, 51, 52, 53, 54, 55, 56, 57, 58, 59, 60, 61, 62, 63, 64, 65] (by decide +kernel) (by decide +kernel)
set_option maxRecDepth 20000 in
theorem gX9_judge_X9_judgeOf : GoodIn wsX9_judge (wsV RX9 92 RX9 yX9_judgeOf wsX9_judgeOf) := goodIn_app (goodIn_of _ (by decide +kernel)) ggX9_judge_X9_judgeOf
theorem dX9_judge_0 : decode cX9_judge 0 = .ok (.iconst 0, 1) := by decide +kernel
theorem dX9_judge_1 : decode cX9_judge 1 = .ok (.iload_n 1, 1) := by decide +kernel
theorem dX9_judge_2 : decode cX9_judge 2 = .ok (.iload_n 2, 1) := by decide +kernel
theorem dX9_judge_3 : decode cX9_judge 3 = .ok (.iconst 0, 1) := by decide +kernel
theorem dX9_judge_4 : decode cX9_judge 4 = .ok (.iload_n 3, 1) := by decide +kernel
theorem dX9_judge_5 : decode cX9_judge 5 = .ok (.invokestatic 105, 3) := by decide +kernel
theorem dX9_judge_8 : decode cX9_judge 8 = .ok (.ifCond .eq 13, 3) := by decide +kernel
theorem dX9_judge_11 : decode cX9_judge 11 = .ok (.aload_n 0, 1) := by decide +kernel
theorem dX9_judge_12 : decode cX9_judge 12 = .ok (.iload_n 1, 1) := by decide +kernel
theorem dX9_judge_13 : decode cX9_judge 13 = .ok (.iload_n 2, 1) := by decide +kernel
theorem dX9_judge_14 : decode cX9_judge 14 = .ok (.iload_n 3, 1) := by decide +kernel
theorem dX9_judge_15 : decode cX9_judge 15 = .ok (.invokevirtual 92, 3) := by decide +kernel
theorem dX9_judge_18 : decode cX9_judge 18 = .ok (.goto 5, 3) := by decide +kernel
theorem dX9_judge_21 : decode cX9_judge 21 = .ok (.ldc 31, 2) := by decide +kernel
theorem dX9_judge_23 : decode cX9_judge 23 = .ok (.ireturn, 1) := by decide +kernel
set_option maxRecDepth 20000 in
theorem ggX9_lateness_X9_isIn : GoodIn wsX9_lateness wsX9_isIn := goodIn_r _ [7] (by decide +kernel) (by decide +kernel)
set_option maxRecDepth 20000 in
theorem gX9_lateness_X9_isIn : GoodIn wsX9_lateness (va_wsS RX9 27 yX9_isIn wsX9_isIn) := goodIn_app (goodIn_of _ (by decide +kernel)) ggX9_lateness_X9_isIn
set_option maxRecDepth 20000 in
theorem ggX9_lateness_X9_paneAt : GoodIn wsX9_lateness wsX9_paneAt := goodIn_r _ [11, 2, 32, 33, 34, 35, 36, 37, 38, 39] (by decide +kernel) (by decide +kernel)
set_option maxRecDepth 20000 in
theorem gX9_lateness_X9_paneAt : GoodIn wsX9_lateness (wsV RX9 60 RX9 yX9_paneAt wsX9_paneAt) := goodIn_app (goodIn_of _ (by decide +kernel)) ggX9_lateness_X9_paneAt
set_option maxRecDepth 20000 in
theorem ggX9_lateness_X9_isShut : GoodIn wsX9_lateness wsX9_isShut := goodIn_r _ [15, 2, 16, 17, 18, 6, 19, 20, 21, 22, 23, 24, 25, 26, 27, 28, 29, 30, 31, 32, 33, 34, 35, 36, 37, 38, 39] (by decide +kernel) (by decide +kernel)
set_option maxRecDepth 20000 in
theorem gX9_lateness_X9_isShut : GoodIn wsX9_lateness (wsV RX9 83 RX9 yX9_isShut wsX9_isShut) := goodIn_app (goodIn_of _ (by decide +kernel)) ggX9_lateness_X9_isShut
set_option maxRecDepth 20000 in
theorem ggX9_lateness_X9_endOf : GoodIn wsX9_lateness wsX9_endOf := goodIn_r _ [31, 2, 32, 33, 34, 35, 36, 37, 38, 39] (by decide +kernel) (by decide +kernel)
set_option maxRecDepth 20000 in
theorem gX9_lateness_X9_endOf : GoodIn wsX9_lateness (wsV RX9 50 RX9 yX9_endOf wsX9_endOf) := goodIn_app (goodIn_of _ (by decide +kernel)) ggX9_lateness_X9_endOf
theorem dX9_lateness_0 : decode cX9_lateness 0 = .ok (.iload_n 1, 1) := by decide +kernel
theorem dX9_lateness_1 : decode cX9_lateness 1 = .ok (.iconst 0, 1) := by decide +kernel
theorem dX9_lateness_2 : decode cX9_lateness 2 = .ok (.sipush 1999, 3) := by decide +kernel
theorem dX9_lateness_5 : decode cX9_lateness 5 = .ok (.invokestatic 27, 3) := by decide +kernel
theorem dX9_lateness_8 : decode cX9_lateness 8 = .ok (.ifCond .ne 6, 3) := by decide +kernel
theorem dX9_lateness_11 : decode cX9_lateness 11 = .ok (.ldc 31, 2) := by decide +kernel
theorem dX9_lateness_13 : decode cX9_lateness 13 = .ok (.ireturn, 1) := by decide +kernel
theorem dX9_lateness_14 : decode cX9_lateness 14 = .ok (.aload_n 0, 1) := by decide +kernel
theorem dX9_lateness_15 : decode cX9_lateness 15 = .ok (.iload_n 1, 1) := by decide +kernel
theorem dX9_lateness_16 : decode cX9_lateness 16 = .ok (.invokevirtual 60, 3) := by decide +kernel
theorem dX9_lateness_19 : decode cX9_lateness 19 = .ok (.istore_n 2, 1) := by decide +kernel
theorem dX9_lateness_20 : decode cX9_lateness 20 = .ok (.aload_n 0, 1) := by decide +kernel
theorem dX9_lateness_21 : decode cX9_lateness 21 = .ok (.iload_n 2, 1) := by decide +kernel
theorem dX9_lateness_22 : decode cX9_lateness 22 = .ok (.invokevirtual 83, 3) := by decide +kernel
theorem dX9_lateness_25 : decode cX9_lateness 25 = .ok (.ifCond .eq 20, 3) := by decide +kernel
theorem dX9_lateness_28 : decode cX9_lateness 28 = .ok (.aload_n 0, 1) := by decide +kernel
theorem dX9_lateness_29 : decode cX9_lateness 29 = .ok (.getfield 7, 3) := by decide +kernel
theorem dX9_lateness_32 : decode cX9_lateness 32 = .ok (.iconst 0, 1) := by decide +kernel
theorem dX9_lateness_33 : decode cX9_lateness 33 = .ok (.iaload, 1) := by decide +kernel
theorem dX9_lateness_34 : decode cX9_lateness 34 = .ok (.aload_n 0, 1) := by decide +kernel
theorem dX9_lateness_35 : decode cX9_lateness 35 = .ok (.iload_n 2, 1) := by decide +kernel
theorem dX9_lateness_36 : decode cX9_lateness 36 = .ok (.invokevirtual 50, 3) := by decide +kernel
theorem dX9_lateness_39 : decode cX9_lateness 39 = .ok (.isub, 1) := by decide +kernel
theorem dX9_lateness_40 : decode cX9_lateness 40 = .ok (.iconst 1, 1) := by decide +kernel
theorem dX9_lateness_41 : decode cX9_lateness 41 = .ok (.iadd, 1) := by decide +kernel
theorem dX9_lateness_42 : decode cX9_lateness 42 = .ok (.goto 5, 3) := by decide +kernel
theorem dX9_lateness_45 : decode cX9_lateness 45 = .ok (.ldc 119, 2) := by decide +kernel
theorem dX9_lateness_47 : decode cX9_lateness 47 = .ok (.ireturn, 1) := by decide +kernel
set_option maxRecDepth 20000 in
theorem ggX9_latestExcused_X9_isIn : GoodIn wsX9_latestExcused wsX9_isIn := goodIn_r _ [6] (by decide +kernel) (by decide +kernel)
set_option maxRecDepth 20000 in
theorem gX9_latestExcused_X9_isIn : GoodIn wsX9_latestExcused (va_wsS RX9 27 yX9_isIn wsX9_isIn) := goodIn_app (goodIn_of _ (by decide +kernel)) ggX9_latestExcused_X9_isIn
set_option maxRecDepth 20000 in
theorem ggX9_latestExcused_X9_paneAt : GoodIn wsX9_latestExcused wsX9_paneAt := goodIn_r _ [10, 11, 44, 45, 46, 47, 48, 49, 50, 51] (by decide +kernel) (by decide +kernel)
set_option maxRecDepth 20000 in
theorem gX9_latestExcused_X9_paneAt : GoodIn wsX9_latestExcused (wsV RX9 60 RX9 yX9_paneAt wsX9_paneAt) := goodIn_app (goodIn_of _ (by decide +kernel)) ggX9_latestExcused_X9_paneAt
set_option maxRecDepth 20000 in
theorem ggX9_latestExcused_X9_isShut : GoodIn wsX9_latestExcused wsX9_isShut := goodIn_r _ [15, 11, 16, 17, 18, 5, 19, 20, 21, 22, 23, 24, 25, 26, 27, 28, 29, 30, 31, 44, 45, 46, 47, 48, 49, 50, 51] (by decide +kernel) (by decide +kernel)
set_option maxRecDepth 20000 in
theorem gX9_latestExcused_X9_isShut : GoodIn wsX9_latestExcused (wsV RX9 83 RX9 yX9_isShut wsX9_isShut) := goodIn_app (goodIn_of _ (by decide +kernel)) ggX9_latestExcused_X9_isShut
set_option maxRecDepth 20000 in
theorem ggX9_latestExcused_X9_isExcuse : GoodIn wsX9_latestExcused wsX9_isExcuse := goodIn_r _ [35, 11, 7, 8, 9, 5, 10, 28, 29, 30, 31, 36, 37, 38, 39, 40, 41, 42, 43, 44, 45, 46, 47, 48, 49, 50, 51] (by decide +kernel) (by decide +kernel)
set_option maxRecDepth 20000 in
theorem gX9_latestExcused_X9_isExcuse : GoodIn wsX9_latestExcused (wsV RX9 86 RX9 yX9_isExcuse wsX9_isExcuse) := goodIn_app (goodIn_of _ (by decide +kernel)) ggX9_latestExcused_X9_isExcuse
theorem dX9_latestExcused_0 : decode cX9_latestExcused 0 = .ok (.iload_n 1, 1) := by decide +kernel
theorem dX9_latestExcused_1 : decode cX9_latestExcused 1 = .ok (.iconst 0, 1) := by decide +kernel
theorem dX9_latestExcused_2 : decode cX9_latestExcused 2 = .ok (.iconst 5, 1) := by decide +kernel
theorem dX9_latestExcused_3 : decode cX9_latestExcused 3 = .ok (.invokestatic 27, 3) := by decide +kernel
theorem dX9_latestExcused_6 : decode cX9_latestExcused 6 = .ok (.ifCond .eq 12, 3) := by decide +kernel
theorem dX9_latestExcused_9 : decode cX9_latestExcused 9 = .ok (.iload_n 2, 1) := by decide +kernel
theorem dX9_latestExcused_10 : decode cX9_latestExcused 10 = .ok (.iconst 1, 1) := by decide +kernel
theorem dX9_latestExcused_11 : decode cX9_latestExcused 11 = .ok (.iconst 3, 1) := by decide +kernel
theorem dX9_latestExcused_12 : decode cX9_latestExcused 12 = .ok (.invokestatic 27, 3) := by decide +kernel
theorem dX9_latestExcused_15 : decode cX9_latestExcused 15 = .ok (.ifCond .ne 6, 3) := by decide +kernel
theorem dX9_latestExcused_18 : decode cX9_latestExcused 18 = .ok (.ldc 31, 2) := by decide +kernel
theorem dX9_latestExcused_20 : decode cX9_latestExcused 20 = .ok (.ireturn, 1) := by decide +kernel
theorem dX9_latestExcused_21 : decode cX9_latestExcused 21 = .ok (.sipush 1999, 3) := by decide +kernel
theorem dX9_latestExcused_24 : decode cX9_latestExcused 24 = .ok (.istore_n 3, 1) := by decide +kernel
theorem dX9_latestExcused_25 : decode cX9_latestExcused 25 = .ok (.iload_n 3, 1) := by decide +kernel
theorem dX9_latestExcused_26 : decode cX9_latestExcused 26 = .ok (.ifCond .lt 33, 3) := by decide +kernel
theorem dX9_latestExcused_29 : decode cX9_latestExcused 29 = .ok (.aload_n 0, 1) := by decide +kernel
theorem dX9_latestExcused_30 : decode cX9_latestExcused 30 = .ok (.aload_n 0, 1) := by decide +kernel
theorem dX9_latestExcused_31 : decode cX9_latestExcused 31 = .ok (.iload_n 3, 1) := by decide +kernel
theorem dX9_latestExcused_32 : decode cX9_latestExcused 32 = .ok (.invokevirtual 60, 3) := by decide +kernel
theorem dX9_latestExcused_35 : decode cX9_latestExcused 35 = .ok (.invokevirtual 83, 3) := by decide +kernel
theorem dX9_latestExcused_38 : decode cX9_latestExcused 38 = .ok (.ifCond .eq 15, 3) := by decide +kernel
theorem dX9_latestExcused_41 : decode cX9_latestExcused 41 = .ok (.aload_n 0, 1) := by decide +kernel
theorem dX9_latestExcused_42 : decode cX9_latestExcused 42 = .ok (.iload_n 3, 1) := by decide +kernel
theorem dX9_latestExcused_43 : decode cX9_latestExcused 43 = .ok (.iload_n 1, 1) := by decide +kernel
theorem dX9_latestExcused_44 : decode cX9_latestExcused 44 = .ok (.iload_n 2, 1) := by decide +kernel
theorem dX9_latestExcused_45 : decode cX9_latestExcused 45 = .ok (.invokevirtual 86, 3) := by decide +kernel
theorem dX9_latestExcused_48 : decode cX9_latestExcused 48 = .ok (.ifCond .eq 5, 3) := by decide +kernel
theorem dX9_latestExcused_51 : decode cX9_latestExcused 51 = .ok (.iload_n 3, 1) := by decide +kernel
theorem dX9_latestExcused_52 : decode cX9_latestExcused 52 = .ok (.ireturn, 1) := by decide +kernel
theorem dX9_latestExcused_53 : decode cX9_latestExcused 53 = .ok (.iinc 3 (-1), 3) := by decide +kernel
theorem dX9_latestExcused_56 : decode cX9_latestExcused 56 = .ok (.goto (-31), 3) := by decide +kernel
theorem dX9_latestExcused_59 : decode cX9_latestExcused 59 = .ok (.ldc 119, 2) := by decide +kernel
theorem dX9_latestExcused_61 : decode cX9_latestExcused 61 = .ok (.ireturn, 1) := by decide +kernel
set_option maxRecDepth 20000 in
theorem ggX9_filed_X9_isIn : GoodIn wsX9_filed wsX9_isIn := goodIn_r _ [7] (by decide +kernel) (by decide +kernel)
set_option maxRecDepth 20000 in
theorem gX9_filed_X9_isIn : GoodIn wsX9_filed (va_wsS RX9 27 yX9_isIn wsX9_isIn) := goodIn_app (goodIn_of _ (by decide +kernel)) ggX9_filed_X9_isIn
theorem dX9_filed_0 : decode cX9_filed 0 = .ok (.iload_n 1, 1) := by decide +kernel
theorem dX9_filed_1 : decode cX9_filed 1 = .ok (.iconst 0, 1) := by decide +kernel
theorem dX9_filed_2 : decode cX9_filed 2 = .ok (.iconst 2, 1) := by decide +kernel
theorem dX9_filed_3 : decode cX9_filed 3 = .ok (.invokestatic 27, 3) := by decide +kernel
theorem dX9_filed_6 : decode cX9_filed 6 = .ok (.ifCond .eq 12, 3) := by decide +kernel
theorem dX9_filed_9 : decode cX9_filed 9 = .ok (.iload_n 2, 1) := by decide +kernel
theorem dX9_filed_10 : decode cX9_filed 10 = .ok (.iconst 0, 1) := by decide +kernel
theorem dX9_filed_11 : decode cX9_filed 11 = .ok (.iconst 3, 1) := by decide +kernel
theorem dX9_filed_12 : decode cX9_filed 12 = .ok (.invokestatic 27, 3) := by decide +kernel
theorem dX9_filed_15 : decode cX9_filed 15 = .ok (.ifCond .ne 6, 3) := by decide +kernel
theorem dX9_filed_18 : decode cX9_filed 18 = .ok (.ldc 31, 2) := by decide +kernel
theorem dX9_filed_20 : decode cX9_filed 20 = .ok (.ireturn, 1) := by decide +kernel
theorem dX9_filed_21 : decode cX9_filed 21 = .ok (.aload_n 0, 1) := by decide +kernel
theorem dX9_filed_22 : decode cX9_filed 22 = .ok (.getfield 7, 3) := by decide +kernel
theorem dX9_filed_25 : decode cX9_filed 25 = .ok (.sipush 1068, 3) := by decide +kernel
theorem dX9_filed_28 : decode cX9_filed 28 = .ok (.iconst 4, 1) := by decide +kernel
theorem dX9_filed_29 : decode cX9_filed 29 = .ok (.iload_n 1, 1) := by decide +kernel
theorem dX9_filed_30 : decode cX9_filed 30 = .ok (.imul, 1) := by decide +kernel
theorem dX9_filed_31 : decode cX9_filed 31 = .ok (.iadd, 1) := by decide +kernel
theorem dX9_filed_32 : decode cX9_filed 32 = .ok (.iload_n 2, 1) := by decide +kernel
theorem dX9_filed_33 : decode cX9_filed 33 = .ok (.iadd, 1) := by decide +kernel
theorem dX9_filed_34 : decode cX9_filed 34 = .ok (.iaload, 1) := by decide +kernel
theorem dX9_filed_35 : decode cX9_filed 35 = .ok (.istore_n 3, 1) := by decide +kernel
theorem dX9_filed_36 : decode cX9_filed 36 = .ok (.iload_n 3, 1) := by decide +kernel
theorem dX9_filed_37 : decode cX9_filed 37 = .ok (.ifCond .ne 8, 3) := by decide +kernel
theorem dX9_filed_40 : decode cX9_filed 40 = .ok (.ldc 119, 2) := by decide +kernel
theorem dX9_filed_42 : decode cX9_filed 42 = .ok (.goto 6, 3) := by decide +kernel
theorem dX9_filed_45 : decode cX9_filed 45 = .ok (.iload_n 3, 1) := by decide +kernel
theorem dX9_filed_46 : decode cX9_filed 46 = .ok (.iconst 1, 1) := by decide +kernel
theorem dX9_filed_47 : decode cX9_filed 47 = .ok (.isub, 1) := by decide +kernel
theorem dX9_filed_48 : decode cX9_filed 48 = .ok (.ireturn, 1) := by decide +kernel
set_option maxRecDepth 20000 in
theorem ggX9_trust_X9_isIn : GoodIn wsX9_trust wsX9_isIn := goodIn_r _ [7] (by decide +kernel) (by decide +kernel)
set_option maxRecDepth 20000 in
theorem gX9_trust_X9_isIn : GoodIn wsX9_trust (va_wsS RX9 27 yX9_isIn wsX9_isIn) := goodIn_app (goodIn_of _ (by decide +kernel)) ggX9_trust_X9_isIn
set_option maxRecDepth 20000 in
theorem ggX9_trust_X9_ofE : GoodIn wsX9_trust wsX9_ofE := goodIn_r _ [11, 12, 18, 19, 20, 21, 22, 23, 24, 25] (by decide +kernel) (by decide +kernel)
set_option maxRecDepth 20000 in
theorem gX9_trust_X9_ofE : GoodIn wsX9_trust (wsV RX9 53 RX9 yX9_ofE wsX9_ofE) := goodIn_app (goodIn_of _ (by decide +kernel)) ggX9_trust_X9_ofE
set_option maxRecDepth 20000 in
theorem ggX9_trust_X9_bitsOf : GoodIn wsX9_trust wsX9_bitsOf := goodIn_r _ [15, 16, 17] (by decide +kernel) (by decide +kernel)
set_option maxRecDepth 20000 in
theorem gX9_trust_X9_bitsOf : GoodIn wsX9_trust (va_wsS RX9 122 yX9_bitsOf wsX9_bitsOf) := goodIn_app (goodIn_of _ (by decide +kernel)) ggX9_trust_X9_bitsOf
theorem dX9_trust_0 : decode cX9_trust 0 = .ok (.iload_n 1, 1) := by decide +kernel
theorem dX9_trust_1 : decode cX9_trust 1 = .ok (.iconst 0, 1) := by decide +kernel
theorem dX9_trust_2 : decode cX9_trust 2 = .ok (.iconst 5, 1) := by decide +kernel
theorem dX9_trust_3 : decode cX9_trust 3 = .ok (.invokestatic 27, 3) := by decide +kernel
theorem dX9_trust_6 : decode cX9_trust 6 = .ok (.ifCond .ne 6, 3) := by decide +kernel
theorem dX9_trust_9 : decode cX9_trust 9 = .ok (.ldc 31, 2) := by decide +kernel
theorem dX9_trust_11 : decode cX9_trust 11 = .ok (.ireturn, 1) := by decide +kernel
theorem dX9_trust_12 : decode cX9_trust 12 = .ok (.fconst 0, 1) := by decide +kernel
theorem dX9_trust_13 : decode cX9_trust 13 = .ok (.fstore_n 2, 1) := by decide +kernel
theorem dX9_trust_14 : decode cX9_trust 14 = .ok (.iconst 0, 1) := by decide +kernel
theorem dX9_trust_15 : decode cX9_trust 15 = .ok (.istore_n 3, 1) := by decide +kernel
theorem dX9_trust_16 : decode cX9_trust 16 = .ok (.iconst 0, 1) := by decide +kernel
theorem dX9_trust_17 : decode cX9_trust 17 = .ok (.istore 4, 2) := by decide +kernel
theorem dX9_trust_19 : decode cX9_trust 19 = .ok (.iload 4, 2) := by decide +kernel
theorem dX9_trust_21 : decode cX9_trust 21 = .ok (.bipush 64, 2) := by decide +kernel
theorem dX9_trust_23 : decode cX9_trust 23 = .ok (.if_icmp .ge 68, 3) := by decide +kernel
theorem dX9_trust_26 : decode cX9_trust 26 = .ok (.aload_n 0, 1) := by decide +kernel
theorem dX9_trust_27 : decode cX9_trust 27 = .ok (.iload 4, 2) := by decide +kernel
theorem dX9_trust_29 : decode cX9_trust 29 = .ok (.iconst 0, 1) := by decide +kernel
theorem dX9_trust_30 : decode cX9_trust 30 = .ok (.invokevirtual 53, 3) := by decide +kernel
theorem dX9_trust_33 : decode cX9_trust 33 = .ok (.iconst 1, 1) := by decide +kernel
theorem dX9_trust_34 : decode cX9_trust 34 = .ok (.if_icmp .ne 51, 3) := by decide +kernel
theorem dX9_trust_37 : decode cX9_trust 37 = .ok (.aload_n 0, 1) := by decide +kernel
theorem dX9_trust_38 : decode cX9_trust 38 = .ok (.iload 4, 2) := by decide +kernel
theorem dX9_trust_40 : decode cX9_trust 40 = .ok (.iconst 2, 1) := by decide +kernel
theorem dX9_trust_41 : decode cX9_trust 41 = .ok (.invokevirtual 53, 3) := by decide +kernel
theorem dX9_trust_44 : decode cX9_trust 44 = .ok (.iload_n 1, 1) := by decide +kernel
theorem dX9_trust_45 : decode cX9_trust 45 = .ok (.if_icmp .ne 40, 3) := by decide +kernel
theorem dX9_trust_48 : decode cX9_trust 48 = .ok (.iinc 3 1, 3) := by decide +kernel
theorem dX9_trust_51 : decode cX9_trust 51 = .ok (.fload_n 2, 1) := by decide +kernel
theorem dX9_trust_52 : decode cX9_trust 52 = .ok (.aload_n 0, 1) := by decide +kernel
theorem dX9_trust_53 : decode cX9_trust 53 = .ok (.iload 4, 2) := by decide +kernel
theorem dX9_trust_55 : decode cX9_trust 55 = .ok (.iconst 5, 1) := by decide +kernel
theorem dX9_trust_56 : decode cX9_trust 56 = .ok (.invokevirtual 53, 3) := by decide +kernel
theorem dX9_trust_59 : decode cX9_trust 59 = .ok (.ifCond .ne 7, 3) := by decide +kernel
theorem dX9_trust_62 : decode cX9_trust 62 = .ok (.fconst 1, 1) := by decide +kernel
theorem dX9_trust_63 : decode cX9_trust 63 = .ok (.goto 20, 3) := by decide +kernel
theorem dX9_trust_66 : decode cX9_trust 66 = .ok (.aload_n 0, 1) := by decide +kernel
theorem dX9_trust_67 : decode cX9_trust 67 = .ok (.iload 4, 2) := by decide +kernel
theorem dX9_trust_69 : decode cX9_trust 69 = .ok (.iconst 5, 1) := by decide +kernel
theorem dX9_trust_70 : decode cX9_trust 70 = .ok (.invokevirtual 53, 3) := by decide +kernel
theorem dX9_trust_73 : decode cX9_trust 73 = .ok (.iconst 1, 1) := by decide +kernel
theorem dX9_trust_74 : decode cX9_trust 74 = .ok (.if_icmp .ne 8, 3) := by decide +kernel
theorem dX9_trust_77 : decode cX9_trust 77 = .ok (.ldc 126, 2) := by decide +kernel
theorem dX9_trust_79 : decode cX9_trust 79 = .ok (.goto 4, 3) := by decide +kernel
theorem dX9_trust_82 : decode cX9_trust 82 = .ok (.fconst 0, 1) := by decide +kernel
theorem dX9_trust_83 : decode cX9_trust 83 = .ok (.fadd, 1) := by decide +kernel
theorem dX9_trust_84 : decode cX9_trust 84 = .ok (.fstore_n 2, 1) := by decide +kernel
theorem dX9_trust_85 : decode cX9_trust 85 = .ok (.iinc 4 1, 3) := by decide +kernel
theorem dX9_trust_88 : decode cX9_trust 88 = .ok (.goto (-69), 3) := by decide +kernel
theorem dX9_trust_91 : decode cX9_trust 91 = .ok (.iload_n 3, 1) := by decide +kernel
theorem dX9_trust_92 : decode cX9_trust 92 = .ok (.ifCond .ne 8, 3) := by decide +kernel
theorem dX9_trust_95 : decode cX9_trust 95 = .ok (.ldc 119, 2) := by decide +kernel
theorem dX9_trust_97 : decode cX9_trust 97 = .ok (.goto 10, 3) := by decide +kernel
theorem dX9_trust_100 : decode cX9_trust 100 = .ok (.fload_n 2, 1) := by decide +kernel
theorem dX9_trust_101 : decode cX9_trust 101 = .ok (.iload_n 3, 1) := by decide +kernel
theorem dX9_trust_102 : decode cX9_trust 102 = .ok (.i2f, 1) := by decide +kernel
theorem dX9_trust_103 : decode cX9_trust 103 = .ok (.fdiv, 1) := by decide +kernel
theorem dX9_trust_104 : decode cX9_trust 104 = .ok (.invokestatic 122, 3) := by decide +kernel
theorem dX9_trust_107 : decode cX9_trust 107 = .ok (.ireturn, 1) := by decide +kernel
set_option maxRecDepth 20000 in
theorem ggX9_results_X9_ofE : GoodIn wsX9_results wsX9_ofE := goodIn_r _ [5, 6, 10, 11, 12, 13, 14, 15, 16, 17] (by decide +kernel) (by decide +kernel)
set_option maxRecDepth 20000 in
theorem gX9_results_X9_ofE : GoodIn wsX9_results (wsV RX9 53 RX9 yX9_ofE wsX9_ofE) := goodIn_app (goodIn_of _ (by decide +kernel)) ggX9_results_X9_ofE
set_option maxRecDepth 20000 in
theorem ggX9_results_X9_isIn : GoodIn wsX9_results wsX9_isIn := goodIn_r _ [9] (by decide +kernel) (by decide +kernel)
set_option maxRecDepth 20000 in
theorem gX9_results_X9_isIn : GoodIn wsX9_results (va_wsS RX9 27 yX9_isIn wsX9_isIn) := goodIn_app (goodIn_of _ (by decide +kernel)) ggX9_results_X9_isIn
theorem dX9_results_0 : decode cX9_results 0 = .ok (.iconst 0, 1) := by decide +kernel
theorem dX9_results_1 : decode cX9_results 1 = .ok (.istore_n 3, 1) := by decide +kernel
theorem dX9_results_2 : decode cX9_results 2 = .ok (.iconst 0, 1) := by decide +kernel
theorem dX9_results_3 : decode cX9_results 3 = .ok (.istore 4, 2) := by decide +kernel
theorem dX9_results_5 : decode cX9_results 5 = .ok (.iload 4, 2) := by decide +kernel
theorem dX9_results_7 : decode cX9_results 7 = .ok (.bipush 64, 2) := by decide +kernel
theorem dX9_results_9 : decode cX9_results 9 = .ok (.if_icmp .ge 43, 3) := by decide +kernel
theorem dX9_results_12 : decode cX9_results 12 = .ok (.iload_n 3, 1) := by decide +kernel
theorem dX9_results_13 : decode cX9_results 13 = .ok (.aload_n 0, 1) := by decide +kernel
theorem dX9_results_14 : decode cX9_results 14 = .ok (.iload 4, 2) := by decide +kernel
theorem dX9_results_16 : decode cX9_results 16 = .ok (.iconst 0, 1) := by decide +kernel
theorem dX9_results_17 : decode cX9_results 17 = .ok (.invokevirtual 53, 3) := by decide +kernel
theorem dX9_results_20 : decode cX9_results 20 = .ok (.iconst 1, 1) := by decide +kernel
theorem dX9_results_21 : decode cX9_results 21 = .ok (.if_icmp .ne 22, 3) := by decide +kernel
theorem dX9_results_24 : decode cX9_results 24 = .ok (.aload_n 0, 1) := by decide +kernel
theorem dX9_results_25 : decode cX9_results 25 = .ok (.iload 4, 2) := by decide +kernel
theorem dX9_results_27 : decode cX9_results 27 = .ok (.iconst 5, 1) := by decide +kernel
theorem dX9_results_28 : decode cX9_results 28 = .ok (.invokevirtual 53, 3) := by decide +kernel
theorem dX9_results_31 : decode cX9_results 31 = .ok (.iload_n 1, 1) := by decide +kernel
theorem dX9_results_32 : decode cX9_results 32 = .ok (.iload_n 2, 1) := by decide +kernel
theorem dX9_results_33 : decode cX9_results 33 = .ok (.invokestatic 27, 3) := by decide +kernel
theorem dX9_results_36 : decode cX9_results 36 = .ok (.ifCond .eq 7, 3) := by decide +kernel
theorem dX9_results_39 : decode cX9_results 39 = .ok (.iconst 1, 1) := by decide +kernel
theorem dX9_results_40 : decode cX9_results 40 = .ok (.goto 4, 3) := by decide +kernel
theorem dX9_results_43 : decode cX9_results 43 = .ok (.iconst 0, 1) := by decide +kernel
theorem dX9_results_44 : decode cX9_results 44 = .ok (.iadd, 1) := by decide +kernel
theorem dX9_results_45 : decode cX9_results 45 = .ok (.istore_n 3, 1) := by decide +kernel
theorem dX9_results_46 : decode cX9_results 46 = .ok (.iinc 4 1, 3) := by decide +kernel
theorem dX9_results_49 : decode cX9_results 49 = .ok (.goto (-44), 3) := by decide +kernel
theorem dX9_results_52 : decode cX9_results 52 = .ok (.iload_n 3, 1) := by decide +kernel
theorem dX9_results_53 : decode cX9_results 53 = .ok (.ireturn, 1) := by decide +kernel
set_option maxRecDepth 20000 in
theorem ggX9_cases_X9_ofP : GoodIn wsX9_cases wsX9_ofP := goodIn_r _ [6, 1, 7, 8, 9, 10, 11, 12, 13, 14] (by decide +kernel) (by decide +kernel)
set_option maxRecDepth 20000 in
theorem gX9_cases_X9_ofP : GoodIn wsX9_cases (wsV RX9 35 RX9 yX9_ofP wsX9_ofP) := goodIn_app (goodIn_of _ (by decide +kernel)) ggX9_cases_X9_ofP
theorem dX9_cases_0 : decode cX9_cases 0 = .ok (.iconst 0, 1) := by decide +kernel
theorem dX9_cases_1 : decode cX9_cases 1 = .ok (.istore_n 1, 1) := by decide +kernel
theorem dX9_cases_2 : decode cX9_cases 2 = .ok (.iconst 0, 1) := by decide +kernel
theorem dX9_cases_3 : decode cX9_cases 3 = .ok (.istore_n 2, 1) := by decide +kernel
theorem dX9_cases_4 : decode cX9_cases 4 = .ok (.iload_n 2, 1) := by decide +kernel
theorem dX9_cases_5 : decode cX9_cases 5 = .ok (.aload_n 0, 1) := by decide +kernel
theorem dX9_cases_6 : decode cX9_cases 6 = .ok (.getfield 7, 3) := by decide +kernel
theorem dX9_cases_9 : decode cX9_cases 9 = .ok (.bipush 10, 2) := by decide +kernel
theorem dX9_cases_11 : decode cX9_cases 11 = .ok (.iaload, 1) := by decide +kernel
theorem dX9_cases_12 : decode cX9_cases 12 = .ok (.if_icmp .ge 27, 3) := by decide +kernel
theorem dX9_cases_15 : decode cX9_cases 15 = .ok (.iload_n 1, 1) := by decide +kernel
theorem dX9_cases_16 : decode cX9_cases 16 = .ok (.aload_n 0, 1) := by decide +kernel
theorem dX9_cases_17 : decode cX9_cases 17 = .ok (.iload_n 2, 1) := by decide +kernel
theorem dX9_cases_18 : decode cX9_cases 18 = .ok (.iconst 1, 1) := by decide +kernel
theorem dX9_cases_19 : decode cX9_cases 19 = .ok (.invokevirtual 35, 3) := by decide +kernel
theorem dX9_cases_22 : decode cX9_cases 22 = .ok (.iconst 2, 1) := by decide +kernel
theorem dX9_cases_23 : decode cX9_cases 23 = .ok (.if_icmp .ne 7, 3) := by decide +kernel
theorem dX9_cases_26 : decode cX9_cases 26 = .ok (.iconst 1, 1) := by decide +kernel
theorem dX9_cases_27 : decode cX9_cases 27 = .ok (.goto 4, 3) := by decide +kernel
theorem dX9_cases_30 : decode cX9_cases 30 = .ok (.iconst 0, 1) := by decide +kernel
theorem dX9_cases_31 : decode cX9_cases 31 = .ok (.iadd, 1) := by decide +kernel
theorem dX9_cases_32 : decode cX9_cases 32 = .ok (.istore_n 1, 1) := by decide +kernel
theorem dX9_cases_33 : decode cX9_cases 33 = .ok (.iinc 2 1, 3) := by decide +kernel
theorem dX9_cases_36 : decode cX9_cases 36 = .ok (.goto (-32), 3) := by decide +kernel
theorem dX9_cases_39 : decode cX9_cases 39 = .ok (.iload_n 1, 1) := by decide +kernel
theorem dX9_cases_40 : decode cX9_cases 40 = .ok (.ireturn, 1) := by decide +kernel
set_option maxRecDepth 20000 in
theorem ggX9_count_X9_isIn : GoodIn wsX9_count wsX9_isIn := goodIn_r _ [8] (by decide +kernel) (by decide +kernel)
set_option maxRecDepth 20000 in
theorem gX9_count_X9_isIn : GoodIn wsX9_count (va_wsS RX9 27 yX9_isIn wsX9_isIn) := goodIn_app (goodIn_of _ (by decide +kernel)) ggX9_count_X9_isIn
set_option maxRecDepth 20000 in
theorem ggX9_count_X9_results : GoodIn wsX9_count wsX9_results := goodIn_r _ [12, 13, 14, 15, 7, 16, 1, 5, 6, 8, 25, 26, 27, 28, 29, 30, 31, 32] (by decide +kernel) (by decide +kernel)
set_option maxRecDepth 20000 in
theorem gX9_count_X9_results : GoodIn wsX9_count (wsV RX9 127 RX9 yX9_results wsX9_results) := goodIn_app (goodIn_of _ (by decide +kernel)) ggX9_count_X9_results
set_option maxRecDepth 20000 in
theorem ggX9_count_X9_cases : GoodIn wsX9_count wsX9_cases := goodIn_r _ [20, 1, 21, 22, 23, 7, 24, 25, 26, 27, 28, 29, 30, 31, 32] (by decide +kernel) (by decide +kernel)
set_option maxRecDepth 20000 in
theorem gX9_count_X9_cases : GoodIn wsX9_count (wsV RX9 130 RX9 yX9_cases wsX9_cases) := goodIn_app (goodIn_of _ (by decide +kernel)) ggX9_count_X9_cases
theorem dX9_count_0 : decode cX9_count 0 = .ok (.iload_n 1, 1) := by decide +kernel
theorem dX9_count_1 : decode cX9_count 1 = .ok (.bipush 20, 2) := by decide +kernel
theorem dX9_count_3 : decode cX9_count 3 = .ok (.bipush 22, 2) := by decide +kernel
theorem dX9_count_5 : decode cX9_count 5 = .ok (.invokestatic 27, 3) := by decide +kernel
theorem dX9_count_8 : decode cX9_count 8 = .ok (.ifCond .eq 16, 3) := by decide +kernel
theorem dX9_count_11 : decode cX9_count 11 = .ok (.aload_n 0, 1) := by decide +kernel
theorem dX9_count_12 : decode cX9_count 12 = .ok (.getfield 7, 3) := by decide +kernel
theorem dX9_count_15 : decode cX9_count 15 = .ok (.bipush 6, 2) := by decide +kernel
theorem dX9_count_17 : decode cX9_count 17 = .ok (.iload_n 1, 1) := by decide +kernel
theorem dX9_count_18 : decode cX9_count 18 = .ok (.iadd, 1) := by decide +kernel
theorem dX9_count_19 : decode cX9_count 19 = .ok (.bipush 20, 2) := by decide +kernel
theorem dX9_count_21 : decode cX9_count 21 = .ok (.isub, 1) := by decide +kernel
theorem dX9_count_22 : decode cX9_count 22 = .ok (.iaload, 1) := by decide +kernel
theorem dX9_count_23 : decode cX9_count 23 = .ok (.ireturn, 1) := by decide +kernel
theorem dX9_count_24 : decode cX9_count 24 = .ok (.iload_n 1, 1) := by decide +kernel
theorem dX9_count_25 : decode cX9_count 25 = .ok (.tableswitch 164 0 13 #[71, 78, 85, 92, 99, 106, 113, 120, 128, 135, 142, 147, 154, 159], 71) := by decide +kernel
theorem dX9_count_96 : decode cX9_count 96 = .ok (.aload_n 0, 1) := by decide +kernel
theorem dX9_count_97 : decode cX9_count 97 = .ok (.iconst 0, 1) := by decide +kernel
theorem dX9_count_98 : decode cX9_count 98 = .ok (.iconst 3, 1) := by decide +kernel
theorem dX9_count_99 : decode cX9_count 99 = .ok (.invokevirtual 127, 3) := by decide +kernel
theorem dX9_count_102 : decode cX9_count 102 = .ok (.ireturn, 1) := by decide +kernel
theorem dX9_count_103 : decode cX9_count 103 = .ok (.aload_n 0, 1) := by decide +kernel
theorem dX9_count_104 : decode cX9_count 104 = .ok (.iconst 0, 1) := by decide +kernel
theorem dX9_count_105 : decode cX9_count 105 = .ok (.iconst 1, 1) := by decide +kernel
theorem dX9_count_106 : decode cX9_count 106 = .ok (.invokevirtual 127, 3) := by decide +kernel
theorem dX9_count_109 : decode cX9_count 109 = .ok (.ireturn, 1) := by decide +kernel
theorem dX9_count_110 : decode cX9_count 110 = .ok (.aload_n 0, 1) := by decide +kernel
theorem dX9_count_111 : decode cX9_count 111 = .ok (.iconst 1, 1) := by decide +kernel
theorem dX9_count_112 : decode cX9_count 112 = .ok (.iconst 1, 1) := by decide +kernel
theorem dX9_count_113 : decode cX9_count 113 = .ok (.invokevirtual 127, 3) := by decide +kernel
theorem dX9_count_116 : decode cX9_count 116 = .ok (.ireturn, 1) := by decide +kernel
theorem dX9_count_117 : decode cX9_count 117 = .ok (.aload_n 0, 1) := by decide +kernel
theorem dX9_count_118 : decode cX9_count 118 = .ok (.iconst 2, 1) := by decide +kernel
theorem dX9_count_119 : decode cX9_count 119 = .ok (.iconst 3, 1) := by decide +kernel
theorem dX9_count_120 : decode cX9_count 120 = .ok (.invokevirtual 127, 3) := by decide +kernel
theorem dX9_count_123 : decode cX9_count 123 = .ok (.ireturn, 1) := by decide +kernel
theorem dX9_count_124 : decode cX9_count 124 = .ok (.aload_n 0, 1) := by decide +kernel
theorem dX9_count_125 : decode cX9_count 125 = .ok (.getfield 7, 3) := by decide +kernel
theorem dX9_count_128 : decode cX9_count 128 = .ok (.iconst 5, 1) := by decide +kernel
theorem dX9_count_129 : decode cX9_count 129 = .ok (.iaload, 1) := by decide +kernel
theorem dX9_count_130 : decode cX9_count 130 = .ok (.ireturn, 1) := by decide +kernel
theorem dX9_count_131 : decode cX9_count 131 = .ok (.aload_n 0, 1) := by decide +kernel
theorem dX9_count_132 : decode cX9_count 132 = .ok (.getfield 7, 3) := by decide +kernel
theorem dX9_count_135 : decode cX9_count 135 = .ok (.iconst 0, 1) := by decide +kernel
theorem dX9_count_136 : decode cX9_count 136 = .ok (.iaload, 1) := by decide +kernel
theorem dX9_count_137 : decode cX9_count 137 = .ok (.ireturn, 1) := by decide +kernel
theorem dX9_count_138 : decode cX9_count 138 = .ok (.aload_n 0, 1) := by decide +kernel
theorem dX9_count_139 : decode cX9_count 139 = .ok (.getfield 7, 3) := by decide +kernel
theorem dX9_count_142 : decode cX9_count 142 = .ok (.iconst 1, 1) := by decide +kernel
theorem dX9_count_143 : decode cX9_count 143 = .ok (.iaload, 1) := by decide +kernel
theorem dX9_count_144 : decode cX9_count 144 = .ok (.ireturn, 1) := by decide +kernel
theorem dX9_count_145 : decode cX9_count 145 = .ok (.aload_n 0, 1) := by decide +kernel
theorem dX9_count_146 : decode cX9_count 146 = .ok (.getfield 7, 3) := by decide +kernel
theorem dX9_count_149 : decode cX9_count 149 = .ok (.bipush 9, 2) := by decide +kernel
theorem dX9_count_151 : decode cX9_count 151 = .ok (.iaload, 1) := by decide +kernel
theorem dX9_count_152 : decode cX9_count 152 = .ok (.ireturn, 1) := by decide +kernel
theorem dX9_count_153 : decode cX9_count 153 = .ok (.aload_n 0, 1) := by decide +kernel
theorem dX9_count_154 : decode cX9_count 154 = .ok (.getfield 7, 3) := by decide +kernel
theorem dX9_count_157 : decode cX9_count 157 = .ok (.iconst 3, 1) := by decide +kernel
theorem dX9_count_158 : decode cX9_count 158 = .ok (.iaload, 1) := by decide +kernel
theorem dX9_count_159 : decode cX9_count 159 = .ok (.ireturn, 1) := by decide +kernel
theorem dX9_count_160 : decode cX9_count 160 = .ok (.aload_n 0, 1) := by decide +kernel
theorem dX9_count_161 : decode cX9_count 161 = .ok (.getfield 7, 3) := by decide +kernel
theorem dX9_count_164 : decode cX9_count 164 = .ok (.iconst 4, 1) := by decide +kernel
theorem dX9_count_165 : decode cX9_count 165 = .ok (.iaload, 1) := by decide +kernel
theorem dX9_count_166 : decode cX9_count 166 = .ok (.ireturn, 1) := by decide +kernel
theorem dX9_count_167 : decode cX9_count 167 = .ok (.aload_n 0, 1) := by decide +kernel
theorem dX9_count_168 : decode cX9_count 168 = .ok (.invokevirtual 130, 3) := by decide +kernel
theorem dX9_count_171 : decode cX9_count 171 = .ok (.ireturn, 1) := by decide +kernel
theorem dX9_count_172 : decode cX9_count 172 = .ok (.aload_n 0, 1) := by decide +kernel
theorem dX9_count_173 : decode cX9_count 173 = .ok (.getfield 7, 3) := by decide +kernel
theorem dX9_count_176 : decode cX9_count 176 = .ok (.iconst 2, 1) := by decide +kernel
theorem dX9_count_177 : decode cX9_count 177 = .ok (.iaload, 1) := by decide +kernel
theorem dX9_count_178 : decode cX9_count 178 = .ok (.ireturn, 1) := by decide +kernel
theorem dX9_count_179 : decode cX9_count 179 = .ok (.aload_n 0, 1) := by decide +kernel
theorem dX9_count_180 : decode cX9_count 180 = .ok (.getfield 22, 3) := by decide +kernel
theorem dX9_count_183 : decode cX9_count 183 = .ok (.ireturn, 1) := by decide +kernel
theorem dX9_count_184 : decode cX9_count 184 = .ok (.aload_n 0, 1) := by decide +kernel
theorem dX9_count_185 : decode cX9_count 185 = .ok (.getfield 134, 3) := by decide +kernel
theorem dX9_count_188 : decode cX9_count 188 = .ok (.ireturn, 1) := by decide +kernel
theorem dX9_count_189 : decode cX9_count 189 = .ok (.ldc 31, 2) := by decide +kernel
theorem dX9_count_191 : decode cX9_count 191 = .ok (.ireturn, 1) := by decide +kernel
set_option maxRecDepth 20000 in
theorem ggX9_type_X9_isIn : GoodIn wsX9_type wsX9_isIn := goodIn_r _ [8] (by decide +kernel) (by decide +kernel)
set_option maxRecDepth 20000 in
theorem gX9_type_X9_isIn : GoodIn wsX9_type (va_wsS RX9 27 yX9_isIn wsX9_isIn) := goodIn_app (goodIn_of _ (by decide +kernel)) ggX9_type_X9_isIn
theorem dX9_type_0 : decode cX9_type 0 = .ok (.iload_n 1, 1) := by decide +kernel
theorem dX9_type_1 : decode cX9_type 1 = .ok (.bipush 32, 2) := by decide +kernel
theorem dX9_type_3 : decode cX9_type 3 = .ok (.bipush 126, 2) := by decide +kernel
theorem dX9_type_5 : decode cX9_type 5 = .ok (.invokestatic 27, 3) := by decide +kernel
theorem dX9_type_8 : decode cX9_type 8 = .ok (.ifCond .ne 6, 3) := by decide +kernel
theorem dX9_type_11 : decode cX9_type 11 = .ok (.ldc 31, 2) := by decide +kernel
theorem dX9_type_13 : decode cX9_type 13 = .ok (.ireturn, 1) := by decide +kernel
theorem dX9_type_14 : decode cX9_type 14 = .ok (.aload_n 0, 1) := by decide +kernel
theorem dX9_type_15 : decode cX9_type 15 = .ok (.getfield 134, 3) := by decide +kernel
theorem dX9_type_18 : decode cX9_type 18 = .ok (.bipush 80, 2) := by decide +kernel
theorem dX9_type_20 : decode cX9_type 20 = .ok (.if_icmp .ne 6, 3) := by decide +kernel
theorem dX9_type_23 : decode cX9_type 23 = .ok (.ldc 137, 2) := by decide +kernel
theorem dX9_type_25 : decode cX9_type 25 = .ok (.ireturn, 1) := by decide +kernel
theorem dX9_type_26 : decode cX9_type 26 = .ok (.aload_n 0, 1) := by decide +kernel
theorem dX9_type_27 : decode cX9_type 27 = .ok (.getfield 16, 3) := by decide +kernel
theorem dX9_type_30 : decode cX9_type 30 = .ok (.aload_n 0, 1) := by decide +kernel
theorem dX9_type_31 : decode cX9_type 31 = .ok (.getfield 134, 3) := by decide +kernel
theorem dX9_type_34 : decode cX9_type 34 = .ok (.iload_n 1, 1) := by decide +kernel
theorem dX9_type_35 : decode cX9_type 35 = .ok (.iastore, 1) := by decide +kernel
theorem dX9_type_36 : decode cX9_type 36 = .ok (.aload_n 0, 1) := by decide +kernel
theorem dX9_type_37 : decode cX9_type 37 = .ok (.dup, 1) := by decide +kernel
theorem dX9_type_38 : decode cX9_type 38 = .ok (.getfield 134, 3) := by decide +kernel
theorem dX9_type_41 : decode cX9_type 41 = .ok (.iconst 1, 1) := by decide +kernel
theorem dX9_type_42 : decode cX9_type 42 = .ok (.iadd, 1) := by decide +kernel
theorem dX9_type_43 : decode cX9_type 43 = .ok (.putfield 134, 3) := by decide +kernel
theorem dX9_type_46 : decode cX9_type 46 = .ok (.aload_n 0, 1) := by decide +kernel
theorem dX9_type_47 : decode cX9_type 47 = .ok (.getfield 134, 3) := by decide +kernel
theorem dX9_type_50 : decode cX9_type 50 = .ok (.ireturn, 1) := by decide +kernel
theorem dX9_clearText_0 : decode cX9_clearText 0 = .ok (.aload_n 0, 1) := by decide +kernel
theorem dX9_clearText_1 : decode cX9_clearText 1 = .ok (.getfield 134, 3) := by decide +kernel
theorem dX9_clearText_4 : decode cX9_clearText 4 = .ok (.istore_n 1, 1) := by decide +kernel
theorem dX9_clearText_5 : decode cX9_clearText 5 = .ok (.aload_n 0, 1) := by decide +kernel
theorem dX9_clearText_6 : decode cX9_clearText 6 = .ok (.iconst 0, 1) := by decide +kernel
theorem dX9_clearText_7 : decode cX9_clearText 7 = .ok (.putfield 134, 3) := by decide +kernel
theorem dX9_clearText_10 : decode cX9_clearText 10 = .ok (.iload_n 1, 1) := by decide +kernel
theorem dX9_clearText_11 : decode cX9_clearText 11 = .ok (.ireturn, 1) := by decide +kernel
theorem dX9_passes_0 : decode cX9_passes 0 = .ok (.aload_n 0, 1) := by decide +kernel
theorem dX9_passes_1 : decode cX9_passes 1 = .ok (.getfield 138, 3) := by decide +kernel
theorem dX9_passes_4 : decode cX9_passes 4 = .ok (.aload_n 0, 1) := by decide +kernel
theorem dX9_passes_5 : decode cX9_passes 5 = .ok (.getfield 134, 3) := by decide +kernel
theorem dX9_passes_8 : decode cX9_passes 8 = .ok (.if_icmp .ge 20, 3) := by decide +kernel
theorem dX9_passes_11 : decode cX9_passes 11 = .ok (.aload_n 0, 1) := by decide +kernel
theorem dX9_passes_12 : decode cX9_passes 12 = .ok (.getfield 16, 3) := by decide +kernel
theorem dX9_passes_15 : decode cX9_passes 15 = .ok (.aload_n 0, 1) := by decide +kernel
theorem dX9_passes_16 : decode cX9_passes 16 = .ok (.getfield 138, 3) := by decide +kernel
theorem dX9_passes_19 : decode cX9_passes 19 = .ok (.iaload, 1) := by decide +kernel
theorem dX9_passes_20 : decode cX9_passes 20 = .ok (.iload_n 1, 1) := by decide +kernel
theorem dX9_passes_21 : decode cX9_passes 21 = .ok (.if_icmp .ne 7, 3) := by decide +kernel
theorem dX9_passes_24 : decode cX9_passes 24 = .ok (.iconst 1, 1) := by decide +kernel
theorem dX9_passes_25 : decode cX9_passes 25 = .ok (.goto 4, 3) := by decide +kernel
theorem dX9_passes_28 : decode cX9_passes 28 = .ok (.iconst 0, 1) := by decide +kernel
theorem dX9_passes_29 : decode cX9_passes 29 = .ok (.istore_n 2, 1) := by decide +kernel
theorem dX9_passes_30 : decode cX9_passes 30 = .ok (.aload_n 0, 1) := by decide +kernel
theorem dX9_passes_31 : decode cX9_passes 31 = .ok (.dup, 1) := by decide +kernel
theorem dX9_passes_32 : decode cX9_passes 32 = .ok (.getfield 138, 3) := by decide +kernel
theorem dX9_passes_35 : decode cX9_passes 35 = .ok (.iload_n 2, 1) := by decide +kernel
theorem dX9_passes_36 : decode cX9_passes 36 = .ok (.ifCond .eq 7, 3) := by decide +kernel
theorem dX9_passes_39 : decode cX9_passes 39 = .ok (.iconst 1, 1) := by decide +kernel
theorem dX9_passes_40 : decode cX9_passes 40 = .ok (.goto 4, 3) := by decide +kernel
theorem dX9_passes_43 : decode cX9_passes 43 = .ok (.iconst 0, 1) := by decide +kernel
theorem dX9_passes_44 : decode cX9_passes 44 = .ok (.iadd, 1) := by decide +kernel
theorem dX9_passes_45 : decode cX9_passes 45 = .ok (.putfield 138, 3) := by decide +kernel
theorem dX9_passes_48 : decode cX9_passes 48 = .ok (.iload_n 2, 1) := by decide +kernel
theorem dX9_passes_49 : decode cX9_passes 49 = .ok (.ireturn, 1) := by decide +kernel
set_option maxRecDepth 20000 in
theorem ggX9_passesNumber_X9_isIn : GoodIn wsX9_passesNumber wsX9_isIn := goodIn_r _ [8] (by decide +kernel) (by decide +kernel)
set_option maxRecDepth 20000 in
theorem gX9_passesNumber_X9_isIn : GoodIn wsX9_passesNumber (va_wsS RX9 27 yX9_isIn wsX9_isIn) := goodIn_app (goodIn_of _ (by decide +kernel)) ggX9_passesNumber_X9_isIn
theorem dX9_passesNumber_0 : decode cX9_passesNumber 0 = .ok (.iconst 0, 1) := by decide +kernel
theorem dX9_passesNumber_1 : decode cX9_passesNumber 1 = .ok (.istore_n 1, 1) := by decide +kernel
theorem dX9_passesNumber_2 : decode cX9_passesNumber 2 = .ok (.aload_n 0, 1) := by decide +kernel
theorem dX9_passesNumber_3 : decode cX9_passesNumber 3 = .ok (.iconst 0, 1) := by decide +kernel
theorem dX9_passesNumber_4 : decode cX9_passesNumber 4 = .ok (.putfield 141, 3) := by decide +kernel
theorem dX9_passesNumber_7 : decode cX9_passesNumber 7 = .ok (.aload_n 0, 1) := by decide +kernel
theorem dX9_passesNumber_8 : decode cX9_passesNumber 8 = .ok (.getfield 138, 3) := by decide +kernel
theorem dX9_passesNumber_11 : decode cX9_passesNumber 11 = .ok (.aload_n 0, 1) := by decide +kernel
theorem dX9_passesNumber_12 : decode cX9_passesNumber 12 = .ok (.getfield 134, 3) := by decide +kernel
theorem dX9_passesNumber_15 : decode cX9_passesNumber 15 = .ok (.if_icmp .ge 67, 3) := by decide +kernel
theorem dX9_passesNumber_18 : decode cX9_passesNumber 18 = .ok (.aload_n 0, 1) := by decide +kernel
theorem dX9_passesNumber_19 : decode cX9_passesNumber 19 = .ok (.getfield 16, 3) := by decide +kernel
theorem dX9_passesNumber_22 : decode cX9_passesNumber 22 = .ok (.aload_n 0, 1) := by decide +kernel
theorem dX9_passesNumber_23 : decode cX9_passesNumber 23 = .ok (.getfield 138, 3) := by decide +kernel
theorem dX9_passesNumber_26 : decode cX9_passesNumber 26 = .ok (.iaload, 1) := by decide +kernel
theorem dX9_passesNumber_27 : decode cX9_passesNumber 27 = .ok (.bipush 48, 2) := by decide +kernel
theorem dX9_passesNumber_29 : decode cX9_passesNumber 29 = .ok (.bipush 57, 2) := by decide +kernel
theorem dX9_passesNumber_31 : decode cX9_passesNumber 31 = .ok (.invokestatic 27, 3) := by decide +kernel
theorem dX9_passesNumber_34 : decode cX9_passesNumber 34 = .ok (.ifCond .eq 48, 3) := by decide +kernel
theorem dX9_passesNumber_37 : decode cX9_passesNumber 37 = .ok (.iload_n 1, 1) := by decide +kernel
theorem dX9_passesNumber_38 : decode cX9_passesNumber 38 = .ok (.iconst 5, 1) := by decide +kernel
theorem dX9_passesNumber_39 : decode cX9_passesNumber 39 = .ok (.if_icmp .ge 43, 3) := by decide +kernel
theorem dX9_passesNumber_42 : decode cX9_passesNumber 42 = .ok (.aload_n 0, 1) := by decide +kernel
theorem dX9_passesNumber_43 : decode cX9_passesNumber 43 = .ok (.bipush 10, 2) := by decide +kernel
theorem dX9_passesNumber_45 : decode cX9_passesNumber 45 = .ok (.aload_n 0, 1) := by decide +kernel
theorem dX9_passesNumber_46 : decode cX9_passesNumber 46 = .ok (.getfield 141, 3) := by decide +kernel
theorem dX9_passesNumber_49 : decode cX9_passesNumber 49 = .ok (.imul, 1) := by decide +kernel
theorem dX9_passesNumber_50 : decode cX9_passesNumber 50 = .ok (.aload_n 0, 1) := by decide +kernel
theorem dX9_passesNumber_51 : decode cX9_passesNumber 51 = .ok (.getfield 16, 3) := by decide +kernel
theorem dX9_passesNumber_54 : decode cX9_passesNumber 54 = .ok (.aload_n 0, 1) := by decide +kernel
theorem dX9_passesNumber_55 : decode cX9_passesNumber 55 = .ok (.getfield 138, 3) := by decide +kernel
theorem dX9_passesNumber_58 : decode cX9_passesNumber 58 = .ok (.iaload, 1) := by decide +kernel
theorem dX9_passesNumber_59 : decode cX9_passesNumber 59 = .ok (.iadd, 1) := by decide +kernel
theorem dX9_passesNumber_60 : decode cX9_passesNumber 60 = .ok (.bipush 48, 2) := by decide +kernel
theorem dX9_passesNumber_62 : decode cX9_passesNumber 62 = .ok (.isub, 1) := by decide +kernel
theorem dX9_passesNumber_63 : decode cX9_passesNumber 63 = .ok (.putfield 141, 3) := by decide +kernel
theorem dX9_passesNumber_66 : decode cX9_passesNumber 66 = .ok (.iinc 1 1, 3) := by decide +kernel
theorem dX9_passesNumber_69 : decode cX9_passesNumber 69 = .ok (.aload_n 0, 1) := by decide +kernel
theorem dX9_passesNumber_70 : decode cX9_passesNumber 70 = .ok (.dup, 1) := by decide +kernel
theorem dX9_passesNumber_71 : decode cX9_passesNumber 71 = .ok (.getfield 138, 3) := by decide +kernel
theorem dX9_passesNumber_74 : decode cX9_passesNumber 74 = .ok (.iconst 1, 1) := by decide +kernel
theorem dX9_passesNumber_75 : decode cX9_passesNumber 75 = .ok (.iadd, 1) := by decide +kernel
theorem dX9_passesNumber_76 : decode cX9_passesNumber 76 = .ok (.putfield 138, 3) := by decide +kernel
theorem dX9_passesNumber_79 : decode cX9_passesNumber 79 = .ok (.goto (-72), 3) := by decide +kernel
theorem dX9_passesNumber_82 : decode cX9_passesNumber 82 = .ok (.iload_n 1, 1) := by decide +kernel
theorem dX9_passesNumber_83 : decode cX9_passesNumber 83 = .ok (.iconst 1, 1) := by decide +kernel
theorem dX9_passesNumber_84 : decode cX9_passesNumber 84 = .ok (.iconst 4, 1) := by decide +kernel
theorem dX9_passesNumber_85 : decode cX9_passesNumber 85 = .ok (.invokestatic 27, 3) := by decide +kernel
theorem dX9_passesNumber_88 : decode cX9_passesNumber 88 = .ok (.ireturn, 1) := by decide +kernel
set_option maxRecDepth 20000 in
theorem ggX9_excuseHere_X9_passes : GoodIn wsX9_excuseHere wsX9_passes := goodIn_r _ [5, 6, 7, 8, 9, 10, 11, 12, 13, 14, 15, 16] (by decide +kernel) (by decide +kernel)
set_option maxRecDepth 20000 in
theorem gX9_excuseHere_X9_passes : GoodIn wsX9_excuseHere (wsV RX9 144 RX9 yX9_passes wsX9_passes) := goodIn_app (goodIn_of _ (by decide +kernel)) ggX9_excuseHere_X9_passes
theorem dX9_excuseHere_0 : decode cX9_excuseHere 0 = .ok (.aload_n 0, 1) := by decide +kernel
theorem dX9_excuseHere_1 : decode cX9_excuseHere 1 = .ok (.bipush 110, 2) := by decide +kernel
theorem dX9_excuseHere_3 : decode cX9_excuseHere 3 = .ok (.invokevirtual 144, 3) := by decide +kernel
theorem dX9_excuseHere_6 : decode cX9_excuseHere 6 = .ok (.ifCond .eq 7, 3) := by decide +kernel
theorem dX9_excuseHere_9 : decode cX9_excuseHere 9 = .ok (.iconst 1, 1) := by decide +kernel
theorem dX9_excuseHere_10 : decode cX9_excuseHere 10 = .ok (.goto 30, 3) := by decide +kernel
theorem dX9_excuseHere_13 : decode cX9_excuseHere 13 = .ok (.aload_n 0, 1) := by decide +kernel
theorem dX9_excuseHere_14 : decode cX9_excuseHere 14 = .ok (.bipush 105, 2) := by decide +kernel
theorem dX9_excuseHere_16 : decode cX9_excuseHere 16 = .ok (.invokevirtual 144, 3) := by decide +kernel
theorem dX9_excuseHere_19 : decode cX9_excuseHere 19 = .ok (.ifCond .eq 7, 3) := by decide +kernel
theorem dX9_excuseHere_22 : decode cX9_excuseHere 22 = .ok (.iconst 2, 1) := by decide +kernel
theorem dX9_excuseHere_23 : decode cX9_excuseHere 23 = .ok (.goto 17, 3) := by decide +kernel
theorem dX9_excuseHere_26 : decode cX9_excuseHere 26 = .ok (.aload_n 0, 1) := by decide +kernel
theorem dX9_excuseHere_27 : decode cX9_excuseHere 27 = .ok (.bipush 102, 2) := by decide +kernel
theorem dX9_excuseHere_29 : decode cX9_excuseHere 29 = .ok (.invokevirtual 144, 3) := by decide +kernel
theorem dX9_excuseHere_32 : decode cX9_excuseHere 32 = .ok (.ifCond .eq 7, 3) := by decide +kernel
theorem dX9_excuseHere_35 : decode cX9_excuseHere 35 = .ok (.iconst 3, 1) := by decide +kernel
theorem dX9_excuseHere_36 : decode cX9_excuseHere 36 = .ok (.goto 4, 3) := by decide +kernel
theorem dX9_excuseHere_39 : decode cX9_excuseHere 39 = .ok (.iconst 0, 1) := by decide +kernel
theorem dX9_excuseHere_40 : decode cX9_excuseHere 40 = .ok (.ireturn, 1) := by decide +kernel
set_option maxRecDepth 20000 in
theorem ggX9_passesEvent_X9_passesNumber : GoodIn wsX9_passesEvent wsX9_passesNumber := goodIn_r _ [7, 2, 8, 9, 10, 11, 12, 6, 13, 22, 23, 24, 25, 26, 27, 28, 29] (by decide +kernel) (by decide +kernel)
set_option maxRecDepth 20000 in
theorem gX9_passesEvent_X9_passesNumber : GoodIn wsX9_passesEvent (wsV RX9 147 RX9 yX9_passesNumber wsX9_passesNumber) := goodIn_app (goodIn_of _ (by decide +kernel)) ggX9_passesEvent_X9_passesNumber
set_option maxRecDepth 20000 in
theorem ggX9_passesEvent_X9_passes : GoodIn wsX9_passesEvent wsX9_passes := goodIn_r _ [17, 8, 9, 10, 22, 23, 24, 25, 26, 27, 28, 29] (by decide +kernel) (by decide +kernel)
set_option maxRecDepth 20000 in
theorem gX9_passesEvent_X9_passes : GoodIn wsX9_passesEvent (wsV RX9 144 RX9 yX9_passes wsX9_passes) := goodIn_app (goodIn_of _ (by decide +kernel)) ggX9_passesEvent_X9_passes
set_option maxRecDepth 20000 in
theorem ggX9_passesEvent_X9_excuseHere : GoodIn wsX9_passesEvent wsX9_excuseHere := goodIn_r _ [21, 14, 15, 16, 6, 17, 8, 9, 10, 22, 23, 24, 25, 26, 27, 28, 29] (by decide +kernel) (by decide +kernel)
set_option maxRecDepth 20000 in
theorem gX9_passesEvent_X9_excuseHere : GoodIn wsX9_passesEvent (wsV RX9 151 RX9 yX9_excuseHere wsX9_excuseHere) := goodIn_app (goodIn_of _ (by decide +kernel)) ggX9_passesEvent_X9_excuseHere
theorem dX9_passesEvent_0 : decode cX9_passesEvent 0 = .ok (.iconst 0, 1) := by decide +kernel
theorem dX9_passesEvent_1 : decode cX9_passesEvent 1 = .ok (.istore_n 1, 1) := by decide +kernel
theorem dX9_passesEvent_2 : decode cX9_passesEvent 2 = .ok (.iload_n 1, 1) := by decide +kernel
theorem dX9_passesEvent_3 : decode cX9_passesEvent 3 = .ok (.iconst 3, 1) := by decide +kernel
theorem dX9_passesEvent_4 : decode cX9_passesEvent 4 = .ok (.if_icmp .ge 39, 3) := by decide +kernel
theorem dX9_passesEvent_7 : decode cX9_passesEvent 7 = .ok (.aload_n 0, 1) := by decide +kernel
theorem dX9_passesEvent_8 : decode cX9_passesEvent 8 = .ok (.invokevirtual 147, 3) := by decide +kernel
theorem dX9_passesEvent_11 : decode cX9_passesEvent 11 = .ok (.ifCond .ne 5, 3) := by decide +kernel
theorem dX9_passesEvent_14 : decode cX9_passesEvent 14 = .ok (.iconst 0, 1) := by decide +kernel
theorem dX9_passesEvent_15 : decode cX9_passesEvent 15 = .ok (.ireturn, 1) := by decide +kernel
theorem dX9_passesEvent_16 : decode cX9_passesEvent 16 = .ok (.aload_n 0, 1) := by decide +kernel
theorem dX9_passesEvent_17 : decode cX9_passesEvent 17 = .ok (.getfield 19, 3) := by decide +kernel
theorem dX9_passesEvent_20 : decode cX9_passesEvent 20 = .ok (.iload_n 1, 1) := by decide +kernel
theorem dX9_passesEvent_21 : decode cX9_passesEvent 21 = .ok (.aload_n 0, 1) := by decide +kernel
theorem dX9_passesEvent_22 : decode cX9_passesEvent 22 = .ok (.getfield 141, 3) := by decide +kernel
theorem dX9_passesEvent_25 : decode cX9_passesEvent 25 = .ok (.iastore, 1) := by decide +kernel
theorem dX9_passesEvent_26 : decode cX9_passesEvent 26 = .ok (.aload_n 0, 1) := by decide +kernel
theorem dX9_passesEvent_27 : decode cX9_passesEvent 27 = .ok (.bipush 44, 2) := by decide +kernel
theorem dX9_passesEvent_29 : decode cX9_passesEvent 29 = .ok (.invokevirtual 144, 3) := by decide +kernel
theorem dX9_passesEvent_32 : decode cX9_passesEvent 32 = .ok (.ifCond .ne 5, 3) := by decide +kernel
theorem dX9_passesEvent_35 : decode cX9_passesEvent 35 = .ok (.iconst 0, 1) := by decide +kernel
theorem dX9_passesEvent_36 : decode cX9_passesEvent 36 = .ok (.ireturn, 1) := by decide +kernel
theorem dX9_passesEvent_37 : decode cX9_passesEvent 37 = .ok (.iinc 1 1, 3) := by decide +kernel
theorem dX9_passesEvent_40 : decode cX9_passesEvent 40 = .ok (.goto (-38), 3) := by decide +kernel
theorem dX9_passesEvent_43 : decode cX9_passesEvent 43 = .ok (.aload_n 0, 1) := by decide +kernel
theorem dX9_passesEvent_44 : decode cX9_passesEvent 44 = .ok (.bipush 45, 2) := by decide +kernel
theorem dX9_passesEvent_46 : decode cX9_passesEvent 46 = .ok (.invokevirtual 144, 3) := by decide +kernel
theorem dX9_passesEvent_49 : decode cX9_passesEvent 49 = .ok (.istore_n 1, 1) := by decide +kernel
theorem dX9_passesEvent_50 : decode cX9_passesEvent 50 = .ok (.aload_n 0, 1) := by decide +kernel
theorem dX9_passesEvent_51 : decode cX9_passesEvent 51 = .ok (.invokevirtual 147, 3) := by decide +kernel
theorem dX9_passesEvent_54 : decode cX9_passesEvent 54 = .ok (.ifCond .ne 5, 3) := by decide +kernel
theorem dX9_passesEvent_57 : decode cX9_passesEvent 57 = .ok (.iconst 0, 1) := by decide +kernel
theorem dX9_passesEvent_58 : decode cX9_passesEvent 58 = .ok (.ireturn, 1) := by decide +kernel
theorem dX9_passesEvent_59 : decode cX9_passesEvent 59 = .ok (.aload_n 0, 1) := by decide +kernel
theorem dX9_passesEvent_60 : decode cX9_passesEvent 60 = .ok (.getfield 19, 3) := by decide +kernel
theorem dX9_passesEvent_63 : decode cX9_passesEvent 63 = .ok (.iconst 3, 1) := by decide +kernel
theorem dX9_passesEvent_64 : decode cX9_passesEvent 64 = .ok (.iload_n 1, 1) := by decide +kernel
theorem dX9_passesEvent_65 : decode cX9_passesEvent 65 = .ok (.ifCond .eq 11, 3) := by decide +kernel
theorem dX9_passesEvent_68 : decode cX9_passesEvent 68 = .ok (.aload_n 0, 1) := by decide +kernel
theorem dX9_passesEvent_69 : decode cX9_passesEvent 69 = .ok (.getfield 141, 3) := by decide +kernel
theorem dX9_passesEvent_72 : decode cX9_passesEvent 72 = .ok (.ineg, 1) := by decide +kernel
theorem dX9_passesEvent_73 : decode cX9_passesEvent 73 = .ok (.goto 7, 3) := by decide +kernel
theorem dX9_passesEvent_76 : decode cX9_passesEvent 76 = .ok (.aload_n 0, 1) := by decide +kernel
theorem dX9_passesEvent_77 : decode cX9_passesEvent 77 = .ok (.getfield 141, 3) := by decide +kernel
theorem dX9_passesEvent_80 : decode cX9_passesEvent 80 = .ok (.iastore, 1) := by decide +kernel
theorem dX9_passesEvent_81 : decode cX9_passesEvent 81 = .ok (.aload_n 0, 1) := by decide +kernel
theorem dX9_passesEvent_82 : decode cX9_passesEvent 82 = .ok (.getfield 19, 3) := by decide +kernel
theorem dX9_passesEvent_85 : decode cX9_passesEvent 85 = .ok (.iconst 4, 1) := by decide +kernel
theorem dX9_passesEvent_86 : decode cX9_passesEvent 86 = .ok (.aload_n 0, 1) := by decide +kernel
theorem dX9_passesEvent_87 : decode cX9_passesEvent 87 = .ok (.invokevirtual 151, 3) := by decide +kernel
theorem dX9_passesEvent_90 : decode cX9_passesEvent 90 = .ok (.iastore, 1) := by decide +kernel
theorem dX9_passesEvent_91 : decode cX9_passesEvent 91 = .ok (.aload_n 0, 1) := by decide +kernel
theorem dX9_passesEvent_92 : decode cX9_passesEvent 92 = .ok (.bipush 59, 2) := by decide +kernel
theorem dX9_passesEvent_94 : decode cX9_passesEvent 94 = .ok (.invokevirtual 144, 3) := by decide +kernel
theorem dX9_passesEvent_97 : decode cX9_passesEvent 97 = .ok (.ireturn, 1) := by decide +kernel
set_option maxRecDepth 20000 in
theorem ggX9_faultOf_X9_passesEvent : GoodIn wsX9_faultOf wsX9_passesEvent := goodIn_r _ [8, 3, 9, 10, 11, 12, 7, 13, 1, 2, 14, 15, 16, 17, 18, 19, 20, 21, 22, 23, 24, 25, 29, 30, 31, 32, 33, 34, 35, 36] (by decide +kernel) (by decide +kernel)
set_option maxRecDepth 20000 in
theorem gX9_faultOf_X9_passesEvent : GoodIn wsX9_faultOf (wsV RX9 154 RX9 yX9_passesEvent wsX9_passesEvent) := goodIn_app (goodIn_of _ (by decide +kernel)) ggX9_faultOf_X9_passesEvent
set_option maxRecDepth 20000 in
theorem ggX9_faultOf_X9_isEvent : GoodIn wsX9_faultOf wsX9_isEvent := goodIn_r _ [28, 15, 16, 7, 17] (by decide +kernel) (by decide +kernel)
set_option maxRecDepth 20000 in
theorem gX9_faultOf_X9_isEvent : GoodIn wsX9_faultOf (va_wsS RX9 105 yX9_isEvent wsX9_isEvent) := goodIn_app (goodIn_of _ (by decide +kernel)) ggX9_faultOf_X9_isEvent
theorem dX9_faultOf_0 : decode cX9_faultOf 0 = .ok (.aload_n 0, 1) := by decide +kernel
theorem dX9_faultOf_1 : decode cX9_faultOf 1 = .ok (.iconst 0, 1) := by decide +kernel
theorem dX9_faultOf_2 : decode cX9_faultOf 2 = .ok (.putfield 138, 3) := by decide +kernel
theorem dX9_faultOf_5 : decode cX9_faultOf 5 = .ok (.aload_n 0, 1) := by decide +kernel
theorem dX9_faultOf_6 : decode cX9_faultOf 6 = .ok (.getfield 138, 3) := by decide +kernel
theorem dX9_faultOf_9 : decode cX9_faultOf 9 = .ok (.aload_n 0, 1) := by decide +kernel
theorem dX9_faultOf_10 : decode cX9_faultOf 10 = .ok (.getfield 134, 3) := by decide +kernel
theorem dX9_faultOf_13 : decode cX9_faultOf 13 = .ok (.if_icmp .ge 66, 3) := by decide +kernel
theorem dX9_faultOf_16 : decode cX9_faultOf 16 = .ok (.aload_n 0, 1) := by decide +kernel
theorem dX9_faultOf_17 : decode cX9_faultOf 17 = .ok (.getfield 138, 3) := by decide +kernel
theorem dX9_faultOf_20 : decode cX9_faultOf 20 = .ok (.istore_n 1, 1) := by decide +kernel
theorem dX9_faultOf_21 : decode cX9_faultOf 21 = .ok (.aload_n 0, 1) := by decide +kernel
theorem dX9_faultOf_22 : decode cX9_faultOf 22 = .ok (.invokevirtual 154, 3) := by decide +kernel
theorem dX9_faultOf_25 : decode cX9_faultOf 25 = .ok (.ifCond .ne 9, 3) := by decide +kernel
theorem dX9_faultOf_28 : decode cX9_faultOf 28 = .ok (.sipush 1000, 3) := by decide +kernel
theorem dX9_faultOf_31 : decode cX9_faultOf 31 = .ok (.iload_n 1, 1) := by decide +kernel
theorem dX9_faultOf_32 : decode cX9_faultOf 32 = .ok (.iadd, 1) := by decide +kernel
theorem dX9_faultOf_33 : decode cX9_faultOf 33 = .ok (.ireturn, 1) := by decide +kernel
theorem dX9_faultOf_34 : decode cX9_faultOf 34 = .ok (.aload_n 0, 1) := by decide +kernel
theorem dX9_faultOf_35 : decode cX9_faultOf 35 = .ok (.getfield 19, 3) := by decide +kernel
theorem dX9_faultOf_38 : decode cX9_faultOf 38 = .ok (.iconst 0, 1) := by decide +kernel
theorem dX9_faultOf_39 : decode cX9_faultOf 39 = .ok (.iaload, 1) := by decide +kernel
theorem dX9_faultOf_40 : decode cX9_faultOf 40 = .ok (.aload_n 0, 1) := by decide +kernel
theorem dX9_faultOf_41 : decode cX9_faultOf 41 = .ok (.getfield 19, 3) := by decide +kernel
theorem dX9_faultOf_44 : decode cX9_faultOf 44 = .ok (.iconst 1, 1) := by decide +kernel
theorem dX9_faultOf_45 : decode cX9_faultOf 45 = .ok (.iaload, 1) := by decide +kernel
theorem dX9_faultOf_46 : decode cX9_faultOf 46 = .ok (.aload_n 0, 1) := by decide +kernel
theorem dX9_faultOf_47 : decode cX9_faultOf 47 = .ok (.getfield 19, 3) := by decide +kernel
theorem dX9_faultOf_50 : decode cX9_faultOf 50 = .ok (.iconst 2, 1) := by decide +kernel
theorem dX9_faultOf_51 : decode cX9_faultOf 51 = .ok (.iaload, 1) := by decide +kernel
theorem dX9_faultOf_52 : decode cX9_faultOf 52 = .ok (.aload_n 0, 1) := by decide +kernel
theorem dX9_faultOf_53 : decode cX9_faultOf 53 = .ok (.getfield 19, 3) := by decide +kernel
theorem dX9_faultOf_56 : decode cX9_faultOf 56 = .ok (.iconst 3, 1) := by decide +kernel
theorem dX9_faultOf_57 : decode cX9_faultOf 57 = .ok (.iaload, 1) := by decide +kernel
theorem dX9_faultOf_58 : decode cX9_faultOf 58 = .ok (.aload_n 0, 1) := by decide +kernel
theorem dX9_faultOf_59 : decode cX9_faultOf 59 = .ok (.getfield 19, 3) := by decide +kernel
theorem dX9_faultOf_62 : decode cX9_faultOf 62 = .ok (.iconst 4, 1) := by decide +kernel
theorem dX9_faultOf_63 : decode cX9_faultOf 63 = .ok (.iaload, 1) := by decide +kernel
theorem dX9_faultOf_64 : decode cX9_faultOf 64 = .ok (.invokestatic 105, 3) := by decide +kernel
theorem dX9_faultOf_67 : decode cX9_faultOf 67 = .ok (.ifCond .ne 9, 3) := by decide +kernel
theorem dX9_faultOf_70 : decode cX9_faultOf 70 = .ok (.sipush 2000, 3) := by decide +kernel
theorem dX9_faultOf_73 : decode cX9_faultOf 73 = .ok (.iload_n 1, 1) := by decide +kernel
theorem dX9_faultOf_74 : decode cX9_faultOf 74 = .ok (.iadd, 1) := by decide +kernel
theorem dX9_faultOf_75 : decode cX9_faultOf 75 = .ok (.ireturn, 1) := by decide +kernel
theorem dX9_faultOf_76 : decode cX9_faultOf 76 = .ok (.goto (-71), 3) := by decide +kernel
theorem dX9_faultOf_79 : decode cX9_faultOf 79 = .ok (.iconst (-1), 1) := by decide +kernel
theorem dX9_faultOf_80 : decode cX9_faultOf 80 = .ok (.ireturn, 1) := by decide +kernel
set_option maxRecDepth 20000 in
theorem ggX9_fault_X9_isIn : GoodIn wsX9_fault wsX9_isIn := goodIn_r _ [6] (by decide +kernel) (by decide +kernel)
set_option maxRecDepth 20000 in
theorem gX9_fault_X9_isIn : GoodIn wsX9_fault (va_wsS RX9 27 yX9_isIn wsX9_isIn) := goodIn_app (goodIn_of _ (by decide +kernel)) ggX9_fault_X9_isIn
set_option maxRecDepth 20000 in
theorem ggX9_fault_X9_faultOf : GoodIn wsX9_fault wsX9_faultOf := goodIn_r _ [10, 11, 12, 13, 14, 15, 16, 5, 17, 18, 19, 20, 21, 22, 23, 3, 4, 6, 24, 25, 26, 27, 28, 29, 30, 31, 32, 33, 34, 35, 36, 37, 38, 39, 40, 41, 42] (by decide +kernel) (by decide +kernel)
set_option maxRecDepth 20000 in
theorem gX9_fault_X9_faultOf : GoodIn wsX9_fault (wsV RX9 157 RX9 yX9_faultOf wsX9_faultOf) := goodIn_app (goodIn_of _ (by decide +kernel)) ggX9_fault_X9_faultOf
theorem dX9_fault_0 : decode cX9_fault 0 = .ok (.iload_n 1, 1) := by decide +kernel
theorem dX9_fault_1 : decode cX9_fault 1 = .ok (.iconst 0, 1) := by decide +kernel
theorem dX9_fault_2 : decode cX9_fault 2 = .ok (.iconst 1, 1) := by decide +kernel
theorem dX9_fault_3 : decode cX9_fault 3 = .ok (.invokestatic 27, 3) := by decide +kernel
theorem dX9_fault_6 : decode cX9_fault 6 = .ok (.ifCond .ne 6, 3) := by decide +kernel
theorem dX9_fault_9 : decode cX9_fault 9 = .ok (.ldc 31, 2) := by decide +kernel
theorem dX9_fault_11 : decode cX9_fault 11 = .ok (.ireturn, 1) := by decide +kernel
theorem dX9_fault_12 : decode cX9_fault 12 = .ok (.aload_n 0, 1) := by decide +kernel
theorem dX9_fault_13 : decode cX9_fault 13 = .ok (.invokevirtual 157, 3) := by decide +kernel
theorem dX9_fault_16 : decode cX9_fault 16 = .ok (.istore_n 2, 1) := by decide +kernel
theorem dX9_fault_17 : decode cX9_fault 17 = .ok (.iload_n 2, 1) := by decide +kernel
theorem dX9_fault_18 : decode cX9_fault 18 = .ok (.ifCond .ge 6, 3) := by decide +kernel
theorem dX9_fault_21 : decode cX9_fault 21 = .ok (.ldc 119, 2) := by decide +kernel
theorem dX9_fault_23 : decode cX9_fault 23 = .ok (.ireturn, 1) := by decide +kernel
theorem dX9_fault_24 : decode cX9_fault 24 = .ok (.iload_n 1, 1) := by decide +kernel
theorem dX9_fault_25 : decode cX9_fault 25 = .ok (.ifCond .ne 11, 3) := by decide +kernel
theorem dX9_fault_28 : decode cX9_fault 28 = .ok (.iload_n 2, 1) := by decide +kernel
theorem dX9_fault_29 : decode cX9_fault 29 = .ok (.sipush 1000, 3) := by decide +kernel
theorem dX9_fault_32 : decode cX9_fault 32 = .ok (.irem, 1) := by decide +kernel
theorem dX9_fault_33 : decode cX9_fault 33 = .ok (.goto 8, 3) := by decide +kernel
theorem dX9_fault_36 : decode cX9_fault 36 = .ok (.iload_n 2, 1) := by decide +kernel
theorem dX9_fault_37 : decode cX9_fault 37 = .ok (.sipush 1000, 3) := by decide +kernel
theorem dX9_fault_40 : decode cX9_fault 40 = .ok (.idiv, 1) := by decide +kernel
theorem dX9_fault_41 : decode cX9_fault 41 = .ok (.ireturn, 1) := by decide +kernel
set_option maxRecDepth 20000 in
theorem ggX9_play_X9_faultOf : GoodIn wsX9_play wsX9_faultOf := goodIn_r _ [9, 2, 3, 4, 10, 11, 12, 8, 13, 14, 15, 16, 17, 18, 19, 20, 21, 22, 23, 24, 25, 26, 27, 28, 29, 30, 31, 32, 33, 129, 130, 131, 132, 133, 134, 135, 136] (by decide +kernel) (by decide +kernel)
set_option maxRecDepth 20000 in
theorem gX9_play_X9_faultOf : GoodIn wsX9_play (wsV RX9 157 RX9 yX9_faultOf wsX9_faultOf) := goodIn_app (goodIn_of _ (by decide +kernel)) ggX9_play_X9_faultOf
set_option maxRecDepth 20000 in
theorem ggX9_play_X9_records : GoodIn wsX9_play wsX9_records := goodIn_r _ [37, 38, 39, 40, 129, 130, 131, 132, 133, 134, 135, 136] (by decide +kernel) (by decide +kernel)
set_option maxRecDepth 20000 in
theorem gX9_play_X9_records : GoodIn wsX9_play (wsV RX9 32 RX9 yX9_records wsX9_records) := goodIn_app (goodIn_of _ (by decide +kernel)) ggX9_play_X9_records
set_option maxRecDepth 20000 in
theorem ggX9_play_X9_passesEvent : GoodIn wsX9_play wsX9_passesEvent := goodIn_r _ [13, 4, 14, 15, 16, 17, 8, 18, 2, 3, 19, 20, 21, 22, 23, 24, 25, 26, 27, 28, 29, 30, 129, 130, 131, 132, 133, 134, 135, 136] (by decide +kernel) (by decide +kernel)
set_option maxRecDepth 20000 in
theorem gX9_play_X9_passesEvent : GoodIn wsX9_play (wsV RX9 154 RX9 yX9_passesEvent wsX9_passesEvent) := goodIn_app (goodIn_of _ (by decide +kernel)) ggX9_play_X9_passesEvent
set_option maxRecDepth 20000 in
theorem ggX9_play_X9_comes : GoodIn wsX9_play wsX9_comes := goodIn_r _ [44, 40, 45, 46, 47, 8, 48, 49, 50, 51, 52, 53, 54, 55, 56, 57, 58, 59, 60, 61, 62, 63, 64, 65, 66, 67, 68, 69, 70, 71, 72, 73, 74, 75, 76, 77, 78, 79, 80, 81, 82, 83, 84, 85, 86, 87, 88, 89, 90, 91, 92, 93, 94, 95, 96, 97, 98, 99, 100, 101, 102, 103, 104, 105, 106, 107, 108, 109, 110, 111, 112, 113, 114, 115, 116, 117, 118, 119, 120, 121, 122, 123, 124, 125, 126, 127, 128, 20, 21, 22, 129, 130, 131, 132, 133, 134, 135, 136] (by decide +kernel) (by decide +kernel)
set_option maxRecDepth 20000 in
theorem gX9_play_X9_comes : GoodIn wsX9_play (wsV RX9 109 RX9 yX9_comes wsX9_comes) := goodIn_app (goodIn_of _ (by decide +kernel)) ggX9_play_X9_comes
theorem dX9_play_0 : decode cX9_play 0 = .ok (.aload_n 0, 1) := by decide +kernel
theorem dX9_play_1 : decode cX9_play 1 = .ok (.invokevirtual 157, 3) := by decide +kernel
theorem dX9_play_4 : decode cX9_play 4 = .ok (.ifCond .lt 6, 3) := by decide +kernel
theorem dX9_play_7 : decode cX9_play 7 = .ok (.ldc 26, 2) := by decide +kernel
theorem dX9_play_9 : decode cX9_play 9 = .ok (.ireturn, 1) := by decide +kernel
theorem dX9_play_10 : decode cX9_play 10 = .ok (.aload_n 0, 1) := by decide +kernel
theorem dX9_play_11 : decode cX9_play 11 = .ok (.invokevirtual 32, 3) := by decide +kernel
theorem dX9_play_14 : decode cX9_play 14 = .ok (.iconst 0, 1) := by decide +kernel
theorem dX9_play_15 : decode cX9_play 15 = .ok (.istore_n 1, 1) := by decide +kernel
theorem dX9_play_16 : decode cX9_play 16 = .ok (.aload_n 0, 1) := by decide +kernel
theorem dX9_play_17 : decode cX9_play 17 = .ok (.iconst 0, 1) := by decide +kernel
theorem dX9_play_18 : decode cX9_play 18 = .ok (.putfield 138, 3) := by decide +kernel
theorem dX9_play_21 : decode cX9_play 21 = .ok (.aload_n 0, 1) := by decide +kernel
theorem dX9_play_22 : decode cX9_play 22 = .ok (.getfield 138, 3) := by decide +kernel
theorem dX9_play_25 : decode cX9_play 25 = .ok (.aload_n 0, 1) := by decide +kernel
theorem dX9_play_26 : decode cX9_play 26 = .ok (.getfield 134, 3) := by decide +kernel
theorem dX9_play_29 : decode cX9_play 29 = .ok (.if_icmp .ge 61, 3) := by decide +kernel
theorem dX9_play_32 : decode cX9_play 32 = .ok (.aload_n 0, 1) := by decide +kernel
theorem dX9_play_33 : decode cX9_play 33 = .ok (.invokevirtual 154, 3) := by decide +kernel
theorem dX9_play_36 : decode cX9_play 36 = .ok (.istore_n 2, 1) := by decide +kernel
theorem dX9_play_37 : decode cX9_play 37 = .ok (.iload_n 1, 1) := by decide +kernel
theorem dX9_play_38 : decode cX9_play 38 = .ok (.iload_n 2, 1) := by decide +kernel
theorem dX9_play_39 : decode cX9_play 39 = .ok (.ifCond .eq 45, 3) := by decide +kernel
theorem dX9_play_42 : decode cX9_play 42 = .ok (.aload_n 0, 1) := by decide +kernel
theorem dX9_play_43 : decode cX9_play 43 = .ok (.aload_n 0, 1) := by decide +kernel
theorem dX9_play_44 : decode cX9_play 44 = .ok (.getfield 19, 3) := by decide +kernel
theorem dX9_play_47 : decode cX9_play 47 = .ok (.iconst 0, 1) := by decide +kernel
theorem dX9_play_48 : decode cX9_play 48 = .ok (.iaload, 1) := by decide +kernel
theorem dX9_play_49 : decode cX9_play 49 = .ok (.aload_n 0, 1) := by decide +kernel
theorem dX9_play_50 : decode cX9_play 50 = .ok (.getfield 19, 3) := by decide +kernel
theorem dX9_play_53 : decode cX9_play 53 = .ok (.iconst 1, 1) := by decide +kernel
theorem dX9_play_54 : decode cX9_play 54 = .ok (.iaload, 1) := by decide +kernel
theorem dX9_play_55 : decode cX9_play 55 = .ok (.aload_n 0, 1) := by decide +kernel
theorem dX9_play_56 : decode cX9_play 56 = .ok (.getfield 19, 3) := by decide +kernel
theorem dX9_play_59 : decode cX9_play 59 = .ok (.iconst 2, 1) := by decide +kernel
theorem dX9_play_60 : decode cX9_play 60 = .ok (.iaload, 1) := by decide +kernel
theorem dX9_play_61 : decode cX9_play 61 = .ok (.aload_n 0, 1) := by decide +kernel
theorem dX9_play_62 : decode cX9_play 62 = .ok (.getfield 19, 3) := by decide +kernel
theorem dX9_play_65 : decode cX9_play 65 = .ok (.iconst 3, 1) := by decide +kernel
theorem dX9_play_66 : decode cX9_play 66 = .ok (.iaload, 1) := by decide +kernel
theorem dX9_play_67 : decode cX9_play 67 = .ok (.aload_n 0, 1) := by decide +kernel
theorem dX9_play_68 : decode cX9_play 68 = .ok (.getfield 19, 3) := by decide +kernel
theorem dX9_play_71 : decode cX9_play 71 = .ok (.iconst 4, 1) := by decide +kernel
theorem dX9_play_72 : decode cX9_play 72 = .ok (.iaload, 1) := by decide +kernel
theorem dX9_play_73 : decode cX9_play 73 = .ok (.invokevirtual 109, 3) := by decide +kernel
theorem dX9_play_76 : decode cX9_play 76 = .ok (.iconst 2, 1) := by decide +kernel
theorem dX9_play_77 : decode cX9_play 77 = .ok (.if_icmp .ge 7, 3) := by decide +kernel
theorem dX9_play_80 : decode cX9_play 80 = .ok (.iconst 1, 1) := by decide +kernel
theorem dX9_play_81 : decode cX9_play 81 = .ok (.goto 4, 3) := by decide +kernel
theorem dX9_play_84 : decode cX9_play 84 = .ok (.iconst 0, 1) := by decide +kernel
theorem dX9_play_85 : decode cX9_play 85 = .ok (.iadd, 1) := by decide +kernel
theorem dX9_play_86 : decode cX9_play 86 = .ok (.istore_n 1, 1) := by decide +kernel
theorem dX9_play_87 : decode cX9_play 87 = .ok (.goto (-66), 3) := by decide +kernel
theorem dX9_play_90 : decode cX9_play 90 = .ok (.iload_n 1, 1) := by decide +kernel
theorem dX9_play_91 : decode cX9_play 91 = .ok (.ireturn, 1) := by decide +kernel
