set_option maxRecDepth 20000 in
theorem ggX0_init_X5_init : GoodIn wsX0_init wsX5_init := goodIn_r _ [10, 11, 2, 3, 12, 13, 14, 15, 16, 17, 18, 19, 20, 21, 22] (by decide +kernel) (by decide +kernel)
set_option maxRecDepth 20000 in
theorem gX0_init_X5_init : GoodIn wsX0_init (wsX5_init) := ggX0_init_X5_init
theorem dX0_init_0 : decode cX0_init 0 = .ok (.aload_n 0, 1) := by decide +kernel
theorem dX0_init_1 : decode cX0_init 1 = .ok (.invokespecial 5, 3) := by decide +kernel
theorem dX0_init_4 : decode cX0_init 4 = .ok (.aload_n 0, 1) := by decide +kernel
theorem dX0_init_5 : decode cX0_init 5 = .ok (.new 11, 3) := by decide +kernel
theorem dX0_init_8 : decode cX0_init 8 = .ok (.dup, 1) := by decide +kernel
theorem dX0_init_9 : decode cX0_init 9 = .ok (.iconst 3, 1) := by decide +kernel
theorem dX0_init_10 : decode cX0_init 10 = .ok (.iconst 5, 1) := by decide +kernel
theorem dX0_init_11 : decode cX0_init 11 = .ok (.invokespecial 13, 3) := by decide +kernel
theorem dX0_init_14 : decode cX0_init 14 = .ok (.putfield 16, 3) := by decide +kernel
theorem dX0_init_17 : decode cX0_init 17 = .ok (.return_, 1) := by decide +kernel
set_option maxRecDepth 20000 in
theorem ggX0_copyFrom_X5_copyFrom : GoodIn wsX0_copyFrom wsX5_copyFrom := goodIn_r _ [6, 7, 8, 9, 10, 11, 13, 14, 15] (by decide +kernel) (by decide +kernel)
set_option maxRecDepth 20000 in
theorem gX0_copyFrom_X5_copyFrom : GoodIn wsX0_copyFrom (wsV RX0 20 RX5 yX5_copyFrom wsX5_copyFrom) := goodIn_app (goodIn_of _ (by decide +kernel)) ggX0_copyFrom_X5_copyFrom
theorem dX0_copyFrom_0 : decode cX0_copyFrom 0 = .ok (.aload_n 0, 1) := by decide +kernel
theorem dX0_copyFrom_1 : decode cX0_copyFrom 1 = .ok (.getfield 16, 3) := by decide +kernel
theorem dX0_copyFrom_4 : decode cX0_copyFrom 4 = .ok (.aload_n 1, 1) := by decide +kernel
theorem dX0_copyFrom_5 : decode cX0_copyFrom 5 = .ok (.getfield 16, 3) := by decide +kernel
theorem dX0_copyFrom_8 : decode cX0_copyFrom 8 = .ok (.invokevirtual 20, 3) := by decide +kernel
theorem dX0_copyFrom_11 : decode cX0_copyFrom 11 = .ok (.return_, 1) := by decide +kernel
set_option maxRecDepth 20000 in
theorem ggX0_read_X5_get : GoodIn wsX0_read wsX5_get := goodIn_r _ [7, 8, 9, 10, 12, 13, 14] (by decide +kernel) (by decide +kernel)
set_option maxRecDepth 20000 in
theorem gX0_read_X5_get : GoodIn wsX0_read (wsV RX0 24 RX5 yX5_get wsX5_get) := goodIn_app (goodIn_of _ (by decide +kernel)) ggX0_read_X5_get
theorem dX0_read_0 : decode cX0_read 0 = .ok (.iload_n 2, 1) := by decide +kernel
theorem dX0_read_1 : decode cX0_read 1 = .ok (.aload_n 0, 1) := by decide +kernel
theorem dX0_read_2 : decode cX0_read 2 = .ok (.getfield 16, 3) := by decide +kernel
theorem dX0_read_5 : decode cX0_read 5 = .ok (.iload_n 1, 1) := by decide +kernel
theorem dX0_read_6 : decode cX0_read 6 = .ok (.iconst 4, 1) := by decide +kernel
theorem dX0_read_7 : decode cX0_read 7 = .ok (.invokevirtual 24, 3) := by decide +kernel
theorem dX0_read_10 : decode cX0_read 10 = .ok (.if_icmp .ge 15, 3) := by decide +kernel
theorem dX0_read_13 : decode cX0_read 13 = .ok (.aload_n 0, 1) := by decide +kernel
theorem dX0_read_14 : decode cX0_read 14 = .ok (.getfield 16, 3) := by decide +kernel
theorem dX0_read_17 : decode cX0_read 17 = .ok (.iload_n 1, 1) := by decide +kernel
theorem dX0_read_18 : decode cX0_read 18 = .ok (.iload_n 2, 1) := by decide +kernel
theorem dX0_read_19 : decode cX0_read 19 = .ok (.invokevirtual 24, 3) := by decide +kernel
theorem dX0_read_22 : decode cX0_read 22 = .ok (.goto 5, 3) := by decide +kernel
theorem dX0_read_25 : decode cX0_read 25 = .ok (.ldc 28, 2) := by decide +kernel
theorem dX0_read_27 : decode cX0_read 27 = .ok (.ireturn, 1) := by decide +kernel
set_option maxRecDepth 20000 in
theorem ggX0_hasPlaceFor_X0_cabinetFor : GoodIn wsX0_hasPlaceFor wsX0_cabinetFor := goodIn_r _ [5, 6, 7, 8, 4, 9, 10, 11, 12, 13, 14, 15, 16, 17, 18, 19, 20, 21, 22] (by decide +kernel) (by decide +kernel)
set_option maxRecDepth 20000 in
theorem gX0_hasPlaceFor_X0_cabinetFor : GoodIn wsX0_hasPlaceFor (wsV RX0 29 RX0 yX0_cabinetFor wsX0_cabinetFor) := goodIn_app (goodIn_of _ (by decide +kernel)) ggX0_hasPlaceFor_X0_cabinetFor
set_option maxRecDepth 20000 in
theorem ggX0_hasPlaceFor_X0_isFull : GoodIn wsX0_hasPlaceFor wsX0_isFull := goodIn_r _ [9, 10, 11, 12, 13, 14, 15, 16, 17, 18, 19, 20, 21, 22] (by decide +kernel) (by decide +kernel)
set_option maxRecDepth 20000 in
theorem gX0_hasPlaceFor_X0_isFull : GoodIn wsX0_hasPlaceFor (wsV RX0 33 RX0 yX0_isFull wsX0_isFull) := goodIn_app (goodIn_of _ (by decide +kernel)) ggX0_hasPlaceFor_X0_isFull
theorem dX0_hasPlaceFor_0 : decode cX0_hasPlaceFor 0 = .ok (.aload_n 0, 1) := by decide +kernel
theorem dX0_hasPlaceFor_1 : decode cX0_hasPlaceFor 1 = .ok (.aload_n 0, 1) := by decide +kernel
theorem dX0_hasPlaceFor_2 : decode cX0_hasPlaceFor 2 = .ok (.iload_n 1, 1) := by decide +kernel
theorem dX0_hasPlaceFor_3 : decode cX0_hasPlaceFor 3 = .ok (.invokevirtual 29, 3) := by decide +kernel
theorem dX0_hasPlaceFor_6 : decode cX0_hasPlaceFor 6 = .ok (.invokevirtual 33, 3) := by decide +kernel
theorem dX0_hasPlaceFor_9 : decode cX0_hasPlaceFor 9 = .ok (.ifCond .ne 7, 3) := by decide +kernel
theorem dX0_hasPlaceFor_12 : decode cX0_hasPlaceFor 12 = .ok (.iconst 1, 1) := by decide +kernel
theorem dX0_hasPlaceFor_13 : decode cX0_hasPlaceFor 13 = .ok (.goto 4, 3) := by decide +kernel
theorem dX0_hasPlaceFor_16 : decode cX0_hasPlaceFor 16 = .ok (.iconst 0, 1) := by decide +kernel
theorem dX0_hasPlaceFor_17 : decode cX0_hasPlaceFor 17 = .ok (.ireturn, 1) := by decide +kernel
set_option maxRecDepth 20000 in
theorem ggX0_file_X0_cabinetFor : GoodIn wsX0_file wsX0_cabinetFor := goodIn_r _ [6, 7, 8, 9, 5, 10, 1, 11, 12, 13, 14, 15, 16, 17, 18, 23, 24, 25, 26] (by decide +kernel) (by decide +kernel)
set_option maxRecDepth 20000 in
theorem gX0_file_X0_cabinetFor : GoodIn wsX0_file (wsV RX0 29 RX0 yX0_cabinetFor wsX0_cabinetFor) := goodIn_app (goodIn_of _ (by decide +kernel)) ggX0_file_X0_cabinetFor
set_option maxRecDepth 20000 in
theorem ggX0_file_X0_isFull : GoodIn wsX0_file wsX0_isFull := goodIn_r _ [10, 1, 11, 12, 13, 14, 15, 16, 17, 18, 23, 24, 25, 26] (by decide +kernel) (by decide +kernel)
set_option maxRecDepth 20000 in
theorem gX0_file_X0_isFull : GoodIn wsX0_file (wsV RX0 33 RX0 yX0_isFull wsX0_isFull) := goodIn_app (goodIn_of _ (by decide +kernel)) ggX0_file_X0_isFull
set_option maxRecDepth 20000 in
theorem ggX0_file_X5_get : GoodIn wsX0_file wsX5_get := goodIn_r _ [15, 16, 17, 18, 24, 25, 26] (by decide +kernel) (by decide +kernel)
set_option maxRecDepth 20000 in
theorem gX0_file_X5_get : GoodIn wsX0_file (wsV RX0 24 RX5 yX5_get wsX5_get) := goodIn_app (goodIn_of _ (by decide +kernel)) ggX0_file_X5_get
set_option maxRecDepth 20000 in
theorem ggX0_file_X5_put : GoodIn wsX0_file wsX5_put := goodIn_r _ [22, 16, 17, 18, 24, 25, 26] (by decide +kernel) (by decide +kernel)
set_option maxRecDepth 20000 in
theorem gX0_file_X5_put : GoodIn wsX0_file (wsV RX0 37 RX5 yX5_put wsX5_put) := goodIn_app (goodIn_of _ (by decide +kernel)) ggX0_file_X5_put
theorem dX0_file_0 : decode cX0_file 0 = .ok (.aload_n 0, 1) := by decide +kernel
theorem dX0_file_1 : decode cX0_file 1 = .ok (.iload_n 1, 1) := by decide +kernel
theorem dX0_file_2 : decode cX0_file 2 = .ok (.invokevirtual 29, 3) := by decide +kernel
theorem dX0_file_5 : decode cX0_file 5 = .ok (.istore_n 3, 1) := by decide +kernel
theorem dX0_file_6 : decode cX0_file 6 = .ok (.aload_n 0, 1) := by decide +kernel
theorem dX0_file_7 : decode cX0_file 7 = .ok (.iload_n 3, 1) := by decide +kernel
theorem dX0_file_8 : decode cX0_file 8 = .ok (.invokevirtual 33, 3) := by decide +kernel
theorem dX0_file_11 : decode cX0_file 11 = .ok (.ifCond .ne 38, 3) := by decide +kernel
theorem dX0_file_14 : decode cX0_file 14 = .ok (.aload_n 0, 1) := by decide +kernel
theorem dX0_file_15 : decode cX0_file 15 = .ok (.getfield 16, 3) := by decide +kernel
theorem dX0_file_18 : decode cX0_file 18 = .ok (.iload_n 3, 1) := by decide +kernel
theorem dX0_file_19 : decode cX0_file 19 = .ok (.iconst 4, 1) := by decide +kernel
theorem dX0_file_20 : decode cX0_file 20 = .ok (.invokevirtual 24, 3) := by decide +kernel
theorem dX0_file_23 : decode cX0_file 23 = .ok (.istore 4, 2) := by decide +kernel
theorem dX0_file_25 : decode cX0_file 25 = .ok (.aload_n 0, 1) := by decide +kernel
theorem dX0_file_26 : decode cX0_file 26 = .ok (.getfield 16, 3) := by decide +kernel
theorem dX0_file_29 : decode cX0_file 29 = .ok (.iload_n 3, 1) := by decide +kernel
theorem dX0_file_30 : decode cX0_file 30 = .ok (.iload 4, 2) := by decide +kernel
theorem dX0_file_32 : decode cX0_file 32 = .ok (.iload_n 2, 1) := by decide +kernel
theorem dX0_file_33 : decode cX0_file 33 = .ok (.invokevirtual 37, 3) := by decide +kernel
theorem dX0_file_36 : decode cX0_file 36 = .ok (.aload_n 0, 1) := by decide +kernel
theorem dX0_file_37 : decode cX0_file 37 = .ok (.getfield 16, 3) := by decide +kernel
theorem dX0_file_40 : decode cX0_file 40 = .ok (.iload_n 3, 1) := by decide +kernel
theorem dX0_file_41 : decode cX0_file 41 = .ok (.iconst 4, 1) := by decide +kernel
theorem dX0_file_42 : decode cX0_file 42 = .ok (.iload 4, 2) := by decide +kernel
theorem dX0_file_44 : decode cX0_file 44 = .ok (.iconst 1, 1) := by decide +kernel
theorem dX0_file_45 : decode cX0_file 45 = .ok (.iadd, 1) := by decide +kernel
theorem dX0_file_46 : decode cX0_file 46 = .ok (.invokevirtual 37, 3) := by decide +kernel
theorem dX0_file_49 : decode cX0_file 49 = .ok (.return_, 1) := by decide +kernel
set_option maxRecDepth 20000 in
theorem ggX0_cabinetFor_X0_isFull : GoodIn wsX0_cabinetFor wsX0_isFull := goodIn_r _ [5, 6, 7, 8, 9, 10, 11, 12, 13, 14, 15, 16, 17, 18] (by decide +kernel) (by decide +kernel)
set_option maxRecDepth 20000 in
theorem gX0_cabinetFor_X0_isFull : GoodIn wsX0_cabinetFor (wsV RX0 33 RX0 yX0_isFull wsX0_isFull) := goodIn_app (goodIn_of _ (by decide +kernel)) ggX0_cabinetFor_X0_isFull
theorem dX0_cabinetFor_0 : decode cX0_cabinetFor 0 = .ok (.iload_n 1, 1) := by decide +kernel
theorem dX0_cabinetFor_1 : decode cX0_cabinetFor 1 = .ok (.iconst 1, 1) := by decide +kernel
theorem dX0_cabinetFor_2 : decode cX0_cabinetFor 2 = .ok (.if_icmp .ne 13, 3) := by decide +kernel
theorem dX0_cabinetFor_5 : decode cX0_cabinetFor 5 = .ok (.aload_n 0, 1) := by decide +kernel
theorem dX0_cabinetFor_6 : decode cX0_cabinetFor 6 = .ok (.iconst 0, 1) := by decide +kernel
theorem dX0_cabinetFor_7 : decode cX0_cabinetFor 7 = .ok (.invokevirtual 33, 3) := by decide +kernel
theorem dX0_cabinetFor_10 : decode cX0_cabinetFor 10 = .ok (.ifCond .ne 5, 3) := by decide +kernel
theorem dX0_cabinetFor_13 : decode cX0_cabinetFor 13 = .ok (.iconst 0, 1) := by decide +kernel
theorem dX0_cabinetFor_14 : decode cX0_cabinetFor 14 = .ok (.ireturn, 1) := by decide +kernel
theorem dX0_cabinetFor_15 : decode cX0_cabinetFor 15 = .ok (.iload_n 1, 1) := by decide +kernel
theorem dX0_cabinetFor_16 : decode cX0_cabinetFor 16 = .ok (.iconst 2, 1) := by decide +kernel
theorem dX0_cabinetFor_17 : decode cX0_cabinetFor 17 = .ok (.if_icmp .ne 15, 3) := by decide +kernel
theorem dX0_cabinetFor_20 : decode cX0_cabinetFor 20 = .ok (.aload_n 0, 1) := by decide +kernel
theorem dX0_cabinetFor_21 : decode cX0_cabinetFor 21 = .ok (.iconst 1, 1) := by decide +kernel
theorem dX0_cabinetFor_22 : decode cX0_cabinetFor 22 = .ok (.invokevirtual 33, 3) := by decide +kernel
theorem dX0_cabinetFor_25 : decode cX0_cabinetFor 25 = .ok (.ifCond .ne 7, 3) := by decide +kernel
theorem dX0_cabinetFor_28 : decode cX0_cabinetFor 28 = .ok (.iconst 1, 1) := by decide +kernel
theorem dX0_cabinetFor_29 : decode cX0_cabinetFor 29 = .ok (.goto 4, 3) := by decide +kernel
theorem dX0_cabinetFor_32 : decode cX0_cabinetFor 32 = .ok (.iconst 2, 1) := by decide +kernel
theorem dX0_cabinetFor_33 : decode cX0_cabinetFor 33 = .ok (.ireturn, 1) := by decide +kernel
set_option maxRecDepth 20000 in
theorem ggX0_isFull_X5_get : GoodIn wsX0_isFull wsX5_get := goodIn_r _ [6, 7, 8, 9, 11, 12, 13] (by decide +kernel) (by decide +kernel)
set_option maxRecDepth 20000 in
theorem gX0_isFull_X5_get : GoodIn wsX0_isFull (wsV RX0 24 RX5 yX5_get wsX5_get) := goodIn_app (goodIn_of _ (by decide +kernel)) ggX0_isFull_X5_get
theorem dX0_isFull_0 : decode cX0_isFull 0 = .ok (.aload_n 0, 1) := by decide +kernel
theorem dX0_isFull_1 : decode cX0_isFull 1 = .ok (.getfield 16, 3) := by decide +kernel
theorem dX0_isFull_4 : decode cX0_isFull 4 = .ok (.iload_n 1, 1) := by decide +kernel
theorem dX0_isFull_5 : decode cX0_isFull 5 = .ok (.iconst 4, 1) := by decide +kernel
theorem dX0_isFull_6 : decode cX0_isFull 6 = .ok (.invokevirtual 24, 3) := by decide +kernel
theorem dX0_isFull_9 : decode cX0_isFull 9 = .ok (.iconst 4, 1) := by decide +kernel
theorem dX0_isFull_10 : decode cX0_isFull 10 = .ok (.if_icmp .lt 7, 3) := by decide +kernel
theorem dX0_isFull_13 : decode cX0_isFull 13 = .ok (.iconst 1, 1) := by decide +kernel
theorem dX0_isFull_14 : decode cX0_isFull 14 = .ok (.goto 4, 3) := by decide +kernel
theorem dX0_isFull_17 : decode cX0_isFull 17 = .ok (.iconst 0, 1) := by decide +kernel
theorem dX0_isFull_18 : decode cX0_isFull 18 = .ok (.ireturn, 1) := by decide +kernel
set_option maxRecDepth 20000 in
theorem ggX1_init_X2_init : GoodIn wsX1_init wsX2_init := goodIn_r _ [22, 23, 2, 3, 24, 25, 26, 27, 28, 29, 30, 31, 32, 33, 34, 35, 36, 37, 38, 39, 77, 78, 79, 62, 63] (by decide +kernel) (by decide +kernel)
set_option maxRecDepth 20000 in
theorem gX1_init_X2_init_n11 : GoodIn wsX1_init (wsX2_init) := ggX1_init_X2_init
set_option maxRecDepth 20000 in
theorem ggX1_init_X4_init : GoodIn wsX1_init wsX4_init := goodIn_r _ [41, 42, 2, 3, 43, 25, 26, 44, 45, 46, 47, 48, 49, 29, 30, 31, 32, 33, 34, 35, 36, 37, 38, 39, 50, 51, 52, 53, 54, 55, 77, 78, 79, 73, 74, 75, 80, 81, 82, 83] (by decide +kernel) (by decide +kernel)
set_option maxRecDepth 20000 in
theorem gX1_init_X4_init_n20 : GoodIn wsX1_init (wsX4_init) := ggX1_init_X4_init
set_option maxRecDepth 20000 in
theorem ggX1_init_X0_init : GoodIn wsX1_init wsX0_init := goodIn_r _ [57, 58, 2, 3, 59, 25, 26, 60, 61, 29, 30, 31, 32, 33, 34, 35, 36, 37, 38, 39, 77, 78, 79, 76] (by decide +kernel) (by decide +kernel)
set_option maxRecDepth 20000 in
theorem gX1_init_X0_init_n27 : GoodIn wsX1_init (wsX0_init) := ggX1_init_X0_init
theorem dX1_init_0 : decode cX1_init 0 = .ok (.aload_n 0, 1) := by decide +kernel
theorem dX1_init_1 : decode cX1_init 1 = .ok (.invokespecial 3, 3) := by decide +kernel
theorem dX1_init_4 : decode cX1_init 4 = .ok (.aload_n 0, 1) := by decide +kernel
theorem dX1_init_5 : decode cX1_init 5 = .ok (.new 9, 3) := by decide +kernel
theorem dX1_init_8 : decode cX1_init 8 = .ok (.dup, 1) := by decide +kernel
theorem dX1_init_9 : decode cX1_init 9 = .ok (.invokespecial 11, 3) := by decide +kernel
theorem dX1_init_12 : decode cX1_init 12 = .ok (.putfield 12, 3) := by decide +kernel
theorem dX1_init_15 : decode cX1_init 15 = .ok (.aload_n 0, 1) := by decide +kernel
theorem dX1_init_16 : decode cX1_init 16 = .ok (.new 18, 3) := by decide +kernel
theorem dX1_init_19 : decode cX1_init 19 = .ok (.dup, 1) := by decide +kernel
theorem dX1_init_20 : decode cX1_init 20 = .ok (.invokespecial 20, 3) := by decide +kernel
theorem dX1_init_23 : decode cX1_init 23 = .ok (.putfield 21, 3) := by decide +kernel
theorem dX1_init_26 : decode cX1_init 26 = .ok (.aload_n 0, 1) := by decide +kernel
theorem dX1_init_27 : decode cX1_init 27 = .ok (.new 25, 3) := by decide +kernel
theorem dX1_init_30 : decode cX1_init 30 = .ok (.dup, 1) := by decide +kernel
theorem dX1_init_31 : decode cX1_init 31 = .ok (.invokespecial 27, 3) := by decide +kernel
theorem dX1_init_34 : decode cX1_init 34 = .ok (.putfield 28, 3) := by decide +kernel
theorem dX1_init_37 : decode cX1_init 37 = .ok (.aload_n 0, 1) := by decide +kernel
theorem dX1_init_38 : decode cX1_init 38 = .ok (.bipush 10, 2) := by decide +kernel
theorem dX1_init_40 : decode cX1_init 40 = .ok (.putfield 32, 3) := by decide +kernel
theorem dX1_init_43 : decode cX1_init 43 = .ok (.aload_n 0, 1) := by decide +kernel
theorem dX1_init_44 : decode cX1_init 44 = .ok (.iconst 5, 1) := by decide +kernel
theorem dX1_init_45 : decode cX1_init 45 = .ok (.putfield 36, 3) := by decide +kernel
theorem dX1_init_48 : decode cX1_init 48 = .ok (.aload_n 0, 1) := by decide +kernel
theorem dX1_init_49 : decode cX1_init 49 = .ok (.bipush 10, 2) := by decide +kernel
theorem dX1_init_51 : decode cX1_init 51 = .ok (.putfield 39, 3) := by decide +kernel
theorem dX1_init_54 : decode cX1_init 54 = .ok (.aload_n 0, 1) := by decide +kernel
theorem dX1_init_55 : decode cX1_init 55 = .ok (.iconst (-1), 1) := by decide +kernel
theorem dX1_init_56 : decode cX1_init 56 = .ok (.putfield 42, 3) := by decide +kernel
theorem dX1_init_59 : decode cX1_init 59 = .ok (.aload_n 0, 1) := by decide +kernel
theorem dX1_init_60 : decode cX1_init 60 = .ok (.iconst (-1), 1) := by decide +kernel
theorem dX1_init_61 : decode cX1_init 61 = .ok (.putfield 45, 3) := by decide +kernel
theorem dX1_init_64 : decode cX1_init 64 = .ok (.return_, 1) := by decide +kernel
theorem dX1_events_0 : decode cX1_events 0 = .ok (.aload_n 0, 1) := by decide +kernel
theorem dX1_events_1 : decode cX1_events 1 = .ok (.getfield 12, 3) := by decide +kernel
theorem dX1_events_4 : decode cX1_events 4 = .ok (.areturn, 1) := by decide +kernel
theorem dX1_panes_0 : decode cX1_panes 0 = .ok (.aload_n 0, 1) := by decide +kernel
theorem dX1_panes_1 : decode cX1_panes 1 = .ok (.getfield 21, 3) := by decide +kernel
theorem dX1_panes_4 : decode cX1_panes 4 = .ok (.areturn, 1) := by decide +kernel
theorem dX1_cabinets_0 : decode cX1_cabinets 0 = .ok (.aload_n 0, 1) := by decide +kernel
theorem dX1_cabinets_1 : decode cX1_cabinets 1 = .ok (.getfield 28, 3) := by decide +kernel
theorem dX1_cabinets_4 : decode cX1_cabinets 4 = .ok (.areturn, 1) := by decide +kernel
set_option maxRecDepth 20000 in
theorem ggX1_copyFrom_X2_copyFrom : GoodIn wsX1_copyFrom wsX2_copyFrom := goodIn_r _ [14, 15, 16, 17, 18, 19, 20, 21, 22, 23, 24, 25, 26, 62, 63, 64, 65, 66] (by decide +kernel) (by decide +kernel)
set_option maxRecDepth 20000 in
theorem gX1_copyFrom_X2_copyFrom : GoodIn wsX1_copyFrom (wsV RX1 48 RX2 yX2_copyFrom wsX2_copyFrom) := goodIn_app (goodIn_of _ (by decide +kernel)) ggX1_copyFrom_X2_copyFrom
set_option maxRecDepth 20000 in
theorem ggX1_copyFrom_X4_copyFrom : GoodIn wsX1_copyFrom wsX4_copyFrom := goodIn_r _ [31, 32, 33, 34, 35, 18, 19, 20, 21, 22, 23, 24, 25, 26, 36, 37, 38, 39, 40, 41, 42, 43, 44, 45, 67, 68, 69, 64, 65, 66, 70, 71, 72, 73] (by decide +kernel) (by decide +kernel)
set_option maxRecDepth 20000 in
theorem gX1_copyFrom_X4_copyFrom : GoodIn wsX1_copyFrom (wsV RX1 52 RX4 yX4_copyFrom wsX4_copyFrom) := goodIn_app (goodIn_of _ (by decide +kernel)) ggX1_copyFrom_X4_copyFrom
set_option maxRecDepth 20000 in
theorem ggX1_copyFrom_X0_copyFrom : GoodIn wsX1_copyFrom wsX0_copyFrom := goodIn_r _ [50, 51, 52, 18, 19, 20, 21, 22, 23, 24, 25, 26, 74, 64, 65, 66] (by decide +kernel) (by decide +kernel)
set_option maxRecDepth 20000 in
theorem gX1_copyFrom_X0_copyFrom : GoodIn wsX1_copyFrom (wsV RX1 55 RX0 yX0_copyFrom wsX0_copyFrom) := goodIn_app (goodIn_of _ (by decide +kernel)) ggX1_copyFrom_X0_copyFrom
theorem dX1_copyFrom_0 : decode cX1_copyFrom 0 = .ok (.aload_n 0, 1) := by decide +kernel
theorem dX1_copyFrom_1 : decode cX1_copyFrom 1 = .ok (.getfield 12, 3) := by decide +kernel
theorem dX1_copyFrom_4 : decode cX1_copyFrom 4 = .ok (.aload_n 1, 1) := by decide +kernel
theorem dX1_copyFrom_5 : decode cX1_copyFrom 5 = .ok (.getfield 12, 3) := by decide +kernel
theorem dX1_copyFrom_8 : decode cX1_copyFrom 8 = .ok (.invokevirtual 48, 3) := by decide +kernel
theorem dX1_copyFrom_11 : decode cX1_copyFrom 11 = .ok (.aload_n 0, 1) := by decide +kernel
theorem dX1_copyFrom_12 : decode cX1_copyFrom 12 = .ok (.getfield 21, 3) := by decide +kernel
theorem dX1_copyFrom_15 : decode cX1_copyFrom 15 = .ok (.aload_n 1, 1) := by decide +kernel
theorem dX1_copyFrom_16 : decode cX1_copyFrom 16 = .ok (.getfield 21, 3) := by decide +kernel
theorem dX1_copyFrom_19 : decode cX1_copyFrom 19 = .ok (.invokevirtual 52, 3) := by decide +kernel
theorem dX1_copyFrom_22 : decode cX1_copyFrom 22 = .ok (.aload_n 0, 1) := by decide +kernel
theorem dX1_copyFrom_23 : decode cX1_copyFrom 23 = .ok (.getfield 28, 3) := by decide +kernel
theorem dX1_copyFrom_26 : decode cX1_copyFrom 26 = .ok (.aload_n 1, 1) := by decide +kernel
theorem dX1_copyFrom_27 : decode cX1_copyFrom 27 = .ok (.getfield 28, 3) := by decide +kernel
theorem dX1_copyFrom_30 : decode cX1_copyFrom 30 = .ok (.invokevirtual 55, 3) := by decide +kernel
theorem dX1_copyFrom_33 : decode cX1_copyFrom 33 = .ok (.aload_n 0, 1) := by decide +kernel
theorem dX1_copyFrom_34 : decode cX1_copyFrom 34 = .ok (.aload_n 1, 1) := by decide +kernel
theorem dX1_copyFrom_35 : decode cX1_copyFrom 35 = .ok (.getfield 32, 3) := by decide +kernel
theorem dX1_copyFrom_38 : decode cX1_copyFrom 38 = .ok (.putfield 32, 3) := by decide +kernel
theorem dX1_copyFrom_41 : decode cX1_copyFrom 41 = .ok (.aload_n 0, 1) := by decide +kernel
theorem dX1_copyFrom_42 : decode cX1_copyFrom 42 = .ok (.aload_n 1, 1) := by decide +kernel
theorem dX1_copyFrom_43 : decode cX1_copyFrom 43 = .ok (.getfield 36, 3) := by decide +kernel
theorem dX1_copyFrom_46 : decode cX1_copyFrom 46 = .ok (.putfield 36, 3) := by decide +kernel
theorem dX1_copyFrom_49 : decode cX1_copyFrom 49 = .ok (.aload_n 0, 1) := by decide +kernel
theorem dX1_copyFrom_50 : decode cX1_copyFrom 50 = .ok (.aload_n 1, 1) := by decide +kernel
theorem dX1_copyFrom_51 : decode cX1_copyFrom 51 = .ok (.getfield 39, 3) := by decide +kernel
theorem dX1_copyFrom_54 : decode cX1_copyFrom 54 = .ok (.putfield 39, 3) := by decide +kernel
theorem dX1_copyFrom_57 : decode cX1_copyFrom 57 = .ok (.aload_n 0, 1) := by decide +kernel
theorem dX1_copyFrom_58 : decode cX1_copyFrom 58 = .ok (.aload_n 1, 1) := by decide +kernel
theorem dX1_copyFrom_59 : decode cX1_copyFrom 59 = .ok (.getfield 42, 3) := by decide +kernel
theorem dX1_copyFrom_62 : decode cX1_copyFrom 62 = .ok (.putfield 42, 3) := by decide +kernel
theorem dX1_copyFrom_65 : decode cX1_copyFrom 65 = .ok (.aload_n 0, 1) := by decide +kernel
theorem dX1_copyFrom_66 : decode cX1_copyFrom 66 = .ok (.aload_n 1, 1) := by decide +kernel
theorem dX1_copyFrom_67 : decode cX1_copyFrom 67 = .ok (.getfield 45, 3) := by decide +kernel
theorem dX1_copyFrom_70 : decode cX1_copyFrom 70 = .ok (.putfield 45, 3) := by decide +kernel
theorem dX1_copyFrom_73 : decode cX1_copyFrom 73 = .ok (.aload_n 0, 1) := by decide +kernel
theorem dX1_copyFrom_74 : decode cX1_copyFrom 74 = .ok (.aload_n 1, 1) := by decide +kernel
theorem dX1_copyFrom_75 : decode cX1_copyFrom 75 = .ok (.getfield 58, 3) := by decide +kernel
theorem dX1_copyFrom_78 : decode cX1_copyFrom 78 = .ok (.putfield 58, 3) := by decide +kernel
theorem dX1_copyFrom_81 : decode cX1_copyFrom 81 = .ok (.return_, 1) := by decide +kernel
theorem dX1_setting_0 : decode cX1_setting 0 = .ok (.iload_n 1, 1) := by decide +kernel
theorem dX1_setting_1 : decode cX1_setting 1 = .ok (.ifCond .ne 8, 3) := by decide +kernel
theorem dX1_setting_4 : decode cX1_setting 4 = .ok (.aload_n 0, 1) := by decide +kernel
theorem dX1_setting_5 : decode cX1_setting 5 = .ok (.getfield 32, 3) := by decide +kernel
theorem dX1_setting_8 : decode cX1_setting 8 = .ok (.ireturn, 1) := by decide +kernel
theorem dX1_setting_9 : decode cX1_setting 9 = .ok (.iload_n 1, 1) := by decide +kernel
theorem dX1_setting_10 : decode cX1_setting 10 = .ok (.iconst 1, 1) := by decide +kernel
theorem dX1_setting_11 : decode cX1_setting 11 = .ok (.if_icmp .ne 10, 3) := by decide +kernel
theorem dX1_setting_14 : decode cX1_setting 14 = .ok (.aload_n 0, 1) := by decide +kernel
theorem dX1_setting_15 : decode cX1_setting 15 = .ok (.getfield 36, 3) := by decide +kernel
theorem dX1_setting_18 : decode cX1_setting 18 = .ok (.goto 7, 3) := by decide +kernel
theorem dX1_setting_21 : decode cX1_setting 21 = .ok (.aload_n 0, 1) := by decide +kernel
theorem dX1_setting_22 : decode cX1_setting 22 = .ok (.getfield 39, 3) := by decide +kernel
theorem dX1_setting_25 : decode cX1_setting 25 = .ok (.ireturn, 1) := by decide +kernel
set_option maxRecDepth 20000 in
theorem ggX1_changeSetting_X1_setting : GoodIn wsX1_changeSetting wsX1_setting := goodIn_r _ [8, 1, 2, 3, 9, 10, 11, 12, 13, 14, 15, 16, 17] (by decide +kernel) (by decide +kernel)
set_option maxRecDepth 20000 in
theorem gX1_changeSetting_X1_setting : GoodIn wsX1_changeSetting (wsV RX1 62 RX1 yX1_setting wsX1_setting) := goodIn_app (goodIn_of _ (by decide +kernel)) ggX1_changeSetting_X1_setting
theorem dX1_changeSetting_0 : decode cX1_changeSetting 0 = .ok (.aload_n 0, 1) := by decide +kernel
theorem dX1_changeSetting_1 : decode cX1_changeSetting 1 = .ok (.iload_n 1, 1) := by decide +kernel
theorem dX1_changeSetting_2 : decode cX1_changeSetting 2 = .ok (.invokevirtual 62, 3) := by decide +kernel
theorem dX1_changeSetting_5 : decode cX1_changeSetting 5 = .ok (.istore_n 3, 1) := by decide +kernel
theorem dX1_changeSetting_6 : decode cX1_changeSetting 6 = .ok (.iload_n 1, 1) := by decide +kernel
theorem dX1_changeSetting_7 : decode cX1_changeSetting 7 = .ok (.ifCond .ne 11, 3) := by decide +kernel
theorem dX1_changeSetting_10 : decode cX1_changeSetting 10 = .ok (.aload_n 0, 1) := by decide +kernel
theorem dX1_changeSetting_11 : decode cX1_changeSetting 11 = .ok (.iload_n 2, 1) := by decide +kernel
theorem dX1_changeSetting_12 : decode cX1_changeSetting 12 = .ok (.putfield 32, 3) := by decide +kernel
theorem dX1_changeSetting_15 : decode cX1_changeSetting 15 = .ok (.goto 21, 3) := by decide +kernel
theorem dX1_changeSetting_18 : decode cX1_changeSetting 18 = .ok (.iload_n 1, 1) := by decide +kernel
theorem dX1_changeSetting_19 : decode cX1_changeSetting 19 = .ok (.iconst 1, 1) := by decide +kernel
theorem dX1_changeSetting_20 : decode cX1_changeSetting 20 = .ok (.if_icmp .ne 11, 3) := by decide +kernel
theorem dX1_changeSetting_23 : decode cX1_changeSetting 23 = .ok (.aload_n 0, 1) := by decide +kernel
theorem dX1_changeSetting_24 : decode cX1_changeSetting 24 = .ok (.iload_n 2, 1) := by decide +kernel
theorem dX1_changeSetting_25 : decode cX1_changeSetting 25 = .ok (.putfield 36, 3) := by decide +kernel
theorem dX1_changeSetting_28 : decode cX1_changeSetting 28 = .ok (.goto 8, 3) := by decide +kernel
theorem dX1_changeSetting_31 : decode cX1_changeSetting 31 = .ok (.aload_n 0, 1) := by decide +kernel
theorem dX1_changeSetting_32 : decode cX1_changeSetting 32 = .ok (.iload_n 2, 1) := by decide +kernel
theorem dX1_changeSetting_33 : decode cX1_changeSetting 33 = .ok (.putfield 39, 3) := by decide +kernel
theorem dX1_changeSetting_36 : decode cX1_changeSetting 36 = .ok (.iload_n 3, 1) := by decide +kernel
theorem dX1_changeSetting_37 : decode cX1_changeSetting 37 = .ok (.ireturn, 1) := by decide +kernel
set_option maxRecDepth 20000 in
theorem ggX1_hasEvents_X2_withOutcome : GoodIn wsX1_hasEvents wsX2_withOutcome := goodIn_r _ [6, 7, 8, 9, 5, 10, 11, 12, 13, 14, 15, 16, 17, 18, 19, 29, 30, 31, 32, 33] (by decide +kernel) (by decide +kernel)
set_option maxRecDepth 20000 in
theorem gX1_hasEvents_X2_withOutcome : GoodIn wsX1_hasEvents (wsV RX1 66 RX2 yX2_withOutcome wsX2_withOutcome) := goodIn_app (goodIn_of _ (by decide +kernel)) ggX1_hasEvents_X2_withOutcome
theorem dX1_hasEvents_0 : decode cX1_hasEvents 0 = .ok (.aload_n 0, 1) := by decide +kernel
theorem dX1_hasEvents_1 : decode cX1_hasEvents 1 = .ok (.getfield 12, 3) := by decide +kernel
theorem dX1_hasEvents_4 : decode cX1_hasEvents 4 = .ok (.iconst 0, 1) := by decide +kernel
theorem dX1_hasEvents_5 : decode cX1_hasEvents 5 = .ok (.iconst 3, 1) := by decide +kernel
theorem dX1_hasEvents_6 : decode cX1_hasEvents 6 = .ok (.invokevirtual 66, 3) := by decide +kernel
theorem dX1_hasEvents_9 : decode cX1_hasEvents 9 = .ok (.ifCond .le 7, 3) := by decide +kernel
theorem dX1_hasEvents_12 : decode cX1_hasEvents 12 = .ok (.iconst 1, 1) := by decide +kernel
theorem dX1_hasEvents_13 : decode cX1_hasEvents 13 = .ok (.goto 4, 3) := by decide +kernel
theorem dX1_hasEvents_16 : decode cX1_hasEvents 16 = .ok (.iconst 0, 1) := by decide +kernel
theorem dX1_hasEvents_17 : decode cX1_hasEvents 17 = .ok (.ireturn, 1) := by decide +kernel
set_option maxRecDepth 20000 in
theorem ggX1_number_X2_withOutcome : GoodIn wsX1_number wsX2_withOutcome := goodIn_r _ [10, 11, 12, 13, 9, 14, 15, 16, 17, 18, 19, 20, 21, 22, 23, 38, 39, 40, 41, 42] (by decide +kernel) (by decide +kernel)
set_option maxRecDepth 20000 in
theorem gX1_number_X2_withOutcome : GoodIn wsX1_number (wsV RX1 66 RX2 yX2_withOutcome wsX2_withOutcome) := goodIn_app (goodIn_of _ (by decide +kernel)) ggX1_number_X2_withOutcome
set_option maxRecDepth 20000 in
theorem ggX1_number_X2_doubles : GoodIn wsX1_number wsX2_doubles := goodIn_r _ [27, 28, 38, 39] (by decide +kernel) (by decide +kernel)
set_option maxRecDepth 20000 in
theorem gX1_number_X2_doubles : GoodIn wsX1_number (wsV RX1 70 RX2 yX2_doubles wsX2_doubles) := goodIn_app (goodIn_of _ (by decide +kernel)) ggX1_number_X2_doubles
theorem dX1_number_0 : decode cX1_number 0 = .ok (.iload_n 1, 1) := by decide +kernel
theorem dX1_number_1 : decode cX1_number 1 = .ok (.tableswitch 134 0 11 #[63, 73, 83, 93, 103, 111, 116, 134, 134, 134, 134, 121], 63) := by decide +kernel
theorem dX1_number_64 : decode cX1_number 64 = .ok (.aload_n 0, 1) := by decide +kernel
theorem dX1_number_65 : decode cX1_number 65 = .ok (.getfield 12, 3) := by decide +kernel
theorem dX1_number_68 : decode cX1_number 68 = .ok (.iconst 0, 1) := by decide +kernel
theorem dX1_number_69 : decode cX1_number 69 = .ok (.iconst 3, 1) := by decide +kernel
theorem dX1_number_70 : decode cX1_number 70 = .ok (.invokevirtual 66, 3) := by decide +kernel
theorem dX1_number_73 : decode cX1_number 73 = .ok (.ireturn, 1) := by decide +kernel
theorem dX1_number_74 : decode cX1_number 74 = .ok (.aload_n 0, 1) := by decide +kernel
theorem dX1_number_75 : decode cX1_number 75 = .ok (.getfield 12, 3) := by decide +kernel
theorem dX1_number_78 : decode cX1_number 78 = .ok (.iconst 0, 1) := by decide +kernel
theorem dX1_number_79 : decode cX1_number 79 = .ok (.iconst 1, 1) := by decide +kernel
theorem dX1_number_80 : decode cX1_number 80 = .ok (.invokevirtual 66, 3) := by decide +kernel
theorem dX1_number_83 : decode cX1_number 83 = .ok (.ireturn, 1) := by decide +kernel
theorem dX1_number_84 : decode cX1_number 84 = .ok (.aload_n 0, 1) := by decide +kernel
theorem dX1_number_85 : decode cX1_number 85 = .ok (.getfield 12, 3) := by decide +kernel
theorem dX1_number_88 : decode cX1_number 88 = .ok (.iconst 1, 1) := by decide +kernel
theorem dX1_number_89 : decode cX1_number 89 = .ok (.iconst 1, 1) := by decide +kernel
theorem dX1_number_90 : decode cX1_number 90 = .ok (.invokevirtual 66, 3) := by decide +kernel
theorem dX1_number_93 : decode cX1_number 93 = .ok (.ireturn, 1) := by decide +kernel
theorem dX1_number_94 : decode cX1_number 94 = .ok (.aload_n 0, 1) := by decide +kernel
theorem dX1_number_95 : decode cX1_number 95 = .ok (.getfield 12, 3) := by decide +kernel
theorem dX1_number_98 : decode cX1_number 98 = .ok (.iconst 2, 1) := by decide +kernel
theorem dX1_number_99 : decode cX1_number 99 = .ok (.iconst 3, 1) := by decide +kernel
theorem dX1_number_100 : decode cX1_number 100 = .ok (.invokevirtual 66, 3) := by decide +kernel
theorem dX1_number_103 : decode cX1_number 103 = .ok (.ireturn, 1) := by decide +kernel
theorem dX1_number_104 : decode cX1_number 104 = .ok (.aload_n 0, 1) := by decide +kernel
theorem dX1_number_105 : decode cX1_number 105 = .ok (.getfield 12, 3) := by decide +kernel
theorem dX1_number_108 : decode cX1_number 108 = .ok (.invokevirtual 70, 3) := by decide +kernel
theorem dX1_number_111 : decode cX1_number 111 = .ok (.ireturn, 1) := by decide +kernel
theorem dX1_number_112 : decode cX1_number 112 = .ok (.aload_n 0, 1) := by decide +kernel
theorem dX1_number_113 : decode cX1_number 113 = .ok (.getfield 42, 3) := by decide +kernel
theorem dX1_number_116 : decode cX1_number 116 = .ok (.ireturn, 1) := by decide +kernel
theorem dX1_number_117 : decode cX1_number 117 = .ok (.aload_n 0, 1) := by decide +kernel
theorem dX1_number_118 : decode cX1_number 118 = .ok (.getfield 45, 3) := by decide +kernel
theorem dX1_number_121 : decode cX1_number 121 = .ok (.ireturn, 1) := by decide +kernel
theorem dX1_number_122 : decode cX1_number 122 = .ok (.aload_n 0, 1) := by decide +kernel
theorem dX1_number_123 : decode cX1_number 123 = .ok (.getfield 58, 3) := by decide +kernel
theorem dX1_number_126 : decode cX1_number 126 = .ok (.ifCond .eq 7, 3) := by decide +kernel
theorem dX1_number_129 : decode cX1_number 129 = .ok (.iconst 1, 1) := by decide +kernel
theorem dX1_number_130 : decode cX1_number 130 = .ok (.goto 4, 3) := by decide +kernel
theorem dX1_number_133 : decode cX1_number 133 = .ok (.iconst 0, 1) := by decide +kernel
theorem dX1_number_134 : decode cX1_number 134 = .ok (.ireturn, 1) := by decide +kernel
theorem dX1_number_135 : decode cX1_number 135 = .ok (.ldc 74, 2) := by decide +kernel
theorem dX1_number_137 : decode cX1_number 137 = .ok (.ireturn, 1) := by decide +kernel
theorem dX1_paneAt_0 : decode cX1_paneAt 0 = .ok (.aload_n 0, 1) := by decide +kernel
theorem dX1_paneAt_1 : decode cX1_paneAt 1 = .ok (.getfield 32, 3) := by decide +kernel
theorem dX1_paneAt_4 : decode cX1_paneAt 4 = .ok (.ifCond .le 12, 3) := by decide +kernel
theorem dX1_paneAt_7 : decode cX1_paneAt 7 = .ok (.iload_n 1, 1) := by decide +kernel
theorem dX1_paneAt_8 : decode cX1_paneAt 8 = .ok (.aload_n 0, 1) := by decide +kernel
theorem dX1_paneAt_9 : decode cX1_paneAt 9 = .ok (.getfield 32, 3) := by decide +kernel
theorem dX1_paneAt_12 : decode cX1_paneAt 12 = .ok (.idiv, 1) := by decide +kernel
theorem dX1_paneAt_13 : decode cX1_paneAt 13 = .ok (.goto 4, 3) := by decide +kernel
theorem dX1_paneAt_16 : decode cX1_paneAt 16 = .ok (.iconst 0, 1) := by decide +kernel
theorem dX1_paneAt_17 : decode cX1_paneAt 17 = .ok (.ireturn, 1) := by decide +kernel
theorem dX1_endOf_0 : decode cX1_endOf 0 = .ok (.iload_n 1, 1) := by decide +kernel
theorem dX1_endOf_1 : decode cX1_endOf 1 = .ok (.iconst 1, 1) := by decide +kernel
theorem dX1_endOf_2 : decode cX1_endOf 2 = .ok (.iadd, 1) := by decide +kernel
theorem dX1_endOf_3 : decode cX1_endOf 3 = .ok (.aload_n 0, 1) := by decide +kernel
theorem dX1_endOf_4 : decode cX1_endOf 4 = .ok (.getfield 32, 3) := by decide +kernel
theorem dX1_endOf_7 : decode cX1_endOf 7 = .ok (.imul, 1) := by decide +kernel
theorem dX1_endOf_8 : decode cX1_endOf 8 = .ok (.ireturn, 1) := by decide +kernel
set_option maxRecDepth 20000 in
theorem ggX1_hasTimes_X8_isWithin : GoodIn wsX1_hasTimes wsX8_isWithin := goodIn_r _ [4] (by decide +kernel) (by decide +kernel)
set_option maxRecDepth 20000 in
theorem gX1_hasTimes_X8_isWithin_n75 : GoodIn wsX1_hasTimes (wsX8_isWithin) := ggX1_hasTimes_X8_isWithin
theorem dX1_hasTimes_0 : decode cX1_hasTimes 0 = .ok (.iload_n 1, 1) := by decide +kernel
theorem dX1_hasTimes_1 : decode cX1_hasTimes 1 = .ok (.iconst 0, 1) := by decide +kernel
theorem dX1_hasTimes_2 : decode cX1_hasTimes 2 = .ok (.sipush 1999, 3) := by decide +kernel
theorem dX1_hasTimes_5 : decode cX1_hasTimes 5 = .ok (.invokestatic 75, 3) := by decide +kernel
theorem dX1_hasTimes_8 : decode cX1_hasTimes 8 = .ok (.ifCond .eq 19, 3) := by decide +kernel
theorem dX1_hasTimes_11 : decode cX1_hasTimes 11 = .ok (.iload_n 1, 1) := by decide +kernel
theorem dX1_hasTimes_12 : decode cX1_hasTimes 12 = .ok (.aload_n 0, 1) := by decide +kernel
theorem dX1_hasTimes_13 : decode cX1_hasTimes 13 = .ok (.getfield 32, 3) := by decide +kernel
theorem dX1_hasTimes_16 : decode cX1_hasTimes 16 = .ok (.imul, 1) := by decide +kernel
theorem dX1_hasTimes_17 : decode cX1_hasTimes 17 = .ok (.sipush 1999, 3) := by decide +kernel
theorem dX1_hasTimes_20 : decode cX1_hasTimes 20 = .ok (.if_icmp .gt 7, 3) := by decide +kernel
theorem dX1_hasTimes_23 : decode cX1_hasTimes 23 = .ok (.iconst 1, 1) := by decide +kernel
theorem dX1_hasTimes_24 : decode cX1_hasTimes 24 = .ok (.goto 4, 3) := by decide +kernel
theorem dX1_hasTimes_27 : decode cX1_hasTimes 27 = .ok (.iconst 0, 1) := by decide +kernel
theorem dX1_hasTimes_28 : decode cX1_hasTimes 28 = .ok (.ireturn, 1) := by decide +kernel
set_option maxRecDepth 20000 in
theorem ggX1_stateOf_X4_read : GoodIn wsX1_stateOf wsX4_read := goodIn_r _ [7, 8, 9, 10, 11, 6, 12, 13, 14, 15, 16, 17, 18, 19, 20, 21, 37, 38, 39, 40, 41, 42] (by decide +kernel) (by decide +kernel)
set_option maxRecDepth 20000 in
theorem gX1_stateOf_X4_read : GoodIn wsX1_stateOf (wsV RX1 79 RX4 yX4_read wsX4_read) := goodIn_app (goodIn_of _ (by decide +kernel)) ggX1_stateOf_X4_read
set_option maxRecDepth 20000 in
theorem ggX1_stateOf_X1_endOf : GoodIn wsX1_stateOf wsX1_endOf := goodIn_r _ [26, 27, 28, 29, 30, 31, 32, 33, 34, 35, 36] (by decide +kernel) (by decide +kernel)
set_option maxRecDepth 20000 in
theorem gX1_stateOf_X1_endOf : GoodIn wsX1_stateOf (wsV RX1 82 RX1 yX1_endOf wsX1_endOf) := goodIn_app (goodIn_of _ (by decide +kernel)) ggX1_stateOf_X1_endOf
theorem dX1_stateOf_0 : decode cX1_stateOf 0 = .ok (.aload_n 0, 1) := by decide +kernel
theorem dX1_stateOf_1 : decode cX1_stateOf 1 = .ok (.getfield 21, 3) := by decide +kernel
theorem dX1_stateOf_4 : decode cX1_stateOf 4 = .ok (.iload_n 1, 1) := by decide +kernel
theorem dX1_stateOf_5 : decode cX1_stateOf 5 = .ok (.iconst 0, 1) := by decide +kernel
theorem dX1_stateOf_6 : decode cX1_stateOf 6 = .ok (.invokevirtual 79, 3) := by decide +kernel
theorem dX1_stateOf_9 : decode cX1_stateOf 9 = .ok (.istore_n 2, 1) := by decide +kernel
theorem dX1_stateOf_10 : decode cX1_stateOf 10 = .ok (.iload_n 2, 1) := by decide +kernel
theorem dX1_stateOf_11 : decode cX1_stateOf 11 = .ok (.ifCond .eq 5, 3) := by decide +kernel
theorem dX1_stateOf_14 : decode cX1_stateOf 14 = .ok (.iload_n 2, 1) := by decide +kernel
theorem dX1_stateOf_15 : decode cX1_stateOf 15 = .ok (.ireturn, 1) := by decide +kernel
theorem dX1_stateOf_16 : decode cX1_stateOf 16 = .ok (.aload_n 0, 1) := by decide +kernel
theorem dX1_stateOf_17 : decode cX1_stateOf 17 = .ok (.getfield 42, 3) := by decide +kernel
theorem dX1_stateOf_20 : decode cX1_stateOf 20 = .ok (.aload_n 0, 1) := by decide +kernel
theorem dX1_stateOf_21 : decode cX1_stateOf 21 = .ok (.iload_n 1, 1) := by decide +kernel
theorem dX1_stateOf_22 : decode cX1_stateOf 22 = .ok (.invokevirtual 82, 3) := by decide +kernel
theorem dX1_stateOf_25 : decode cX1_stateOf 25 = .ok (.if_icmp .ge 7, 3) := by decide +kernel
theorem dX1_stateOf_28 : decode cX1_stateOf 28 = .ok (.iconst 0, 1) := by decide +kernel
theorem dX1_stateOf_29 : decode cX1_stateOf 29 = .ok (.goto 4, 3) := by decide +kernel
theorem dX1_stateOf_32 : decode cX1_stateOf 32 = .ok (.iconst 1, 1) := by decide +kernel
theorem dX1_stateOf_33 : decode cX1_stateOf 33 = .ok (.ireturn, 1) := by decide +kernel
set_option maxRecDepth 20000 in
theorem ggX1_lateBy_X1_endOf : GoodIn wsX1_lateBy wsX1_endOf := goodIn_r _ [6, 7, 8, 9, 10, 11, 12, 13, 14, 15, 16] (by decide +kernel) (by decide +kernel)
set_option maxRecDepth 20000 in
theorem gX1_lateBy_X1_endOf : GoodIn wsX1_lateBy (wsV RX1 82 RX1 yX1_endOf wsX1_endOf) := goodIn_app (goodIn_of _ (by decide +kernel)) ggX1_lateBy_X1_endOf
theorem dX1_lateBy_0 : decode cX1_lateBy 0 = .ok (.aload_n 0, 1) := by decide +kernel
theorem dX1_lateBy_1 : decode cX1_lateBy 1 = .ok (.getfield 42, 3) := by decide +kernel
theorem dX1_lateBy_4 : decode cX1_lateBy 4 = .ok (.aload_n 0, 1) := by decide +kernel
theorem dX1_lateBy_5 : decode cX1_lateBy 5 = .ok (.iload_n 1, 1) := by decide +kernel
theorem dX1_lateBy_6 : decode cX1_lateBy 6 = .ok (.invokevirtual 82, 3) := by decide +kernel
theorem dX1_lateBy_9 : decode cX1_lateBy 9 = .ok (.isub, 1) := by decide +kernel
theorem dX1_lateBy_10 : decode cX1_lateBy 10 = .ok (.iconst 1, 1) := by decide +kernel
theorem dX1_lateBy_11 : decode cX1_lateBy 11 = .ok (.iadd, 1) := by decide +kernel
theorem dX1_lateBy_12 : decode cX1_lateBy 12 = .ok (.ireturn, 1) := by decide +kernel
set_option maxRecDepth 20000 in
theorem ggX1_verdict_X1_paneAt : GoodIn wsX1_verdict wsX1_paneAt := goodIn_r _ [6, 7, 72, 73, 74, 75, 76, 77, 78, 79, 80] (by decide +kernel) (by decide +kernel)
set_option maxRecDepth 20000 in
theorem gX1_verdict_X1_paneAt : GoodIn wsX1_verdict (wsV RX1 85 RX1 yX1_paneAt wsX1_paneAt) := goodIn_app (goodIn_of _ (by decide +kernel)) ggX1_verdict_X1_paneAt
set_option maxRecDepth 20000 in
theorem ggX1_verdict_X1_stateOf : GoodIn wsX1_verdict wsX1_stateOf := goodIn_r _ [11, 12, 13, 14, 15, 16, 17, 18, 19, 20, 21, 22, 23, 24, 25, 26, 27, 28, 29, 30, 31, 32, 33, 34, 35, 5, 36, 7, 72, 73, 74, 75, 76, 77, 78, 79, 80, 81, 82, 83, 84, 85, 86] (by decide +kernel) (by decide +kernel)
set_option maxRecDepth 20000 in
theorem gX1_verdict_X1_stateOf : GoodIn wsX1_verdict (wsV RX1 88 RX1 yX1_stateOf wsX1_stateOf) := goodIn_app (goodIn_of _ (by decide +kernel)) ggX1_verdict_X1_stateOf
set_option maxRecDepth 20000 in
theorem ggX1_verdict_X1_isAcceptable : GoodIn wsX1_verdict wsX1_isAcceptable := goodIn_r _ [40, 41, 2, 3, 4, 5, 6, 7, 42, 43, 44, 45, 13, 33, 34, 35, 36, 46, 47, 48, 49, 50, 51, 52, 26, 27, 28, 29, 30, 31, 32, 53, 54, 55, 56, 72, 73, 74, 75, 76, 77, 78, 79, 80, 87, 88, 84, 85, 86] (by decide +kernel) (by decide +kernel)
set_option maxRecDepth 20000 in
theorem gX1_verdict_X1_isAcceptable : GoodIn wsX1_verdict (wsV RX1 91 RX1 yX1_isAcceptable wsX1_isAcceptable) := goodIn_app (goodIn_of _ (by decide +kernel)) ggX1_verdict_X1_isAcceptable
set_option maxRecDepth 20000 in
theorem ggX1_verdict_X0_hasPlaceFor : GoodIn wsX1_verdict wsX0_hasPlaceFor := goodIn_r _ [61, 62, 63, 64, 60, 65, 66, 67, 68, 69, 70, 71, 26, 27, 28, 29, 30, 31, 32, 89, 84, 85, 86] (by decide +kernel) (by decide +kernel)
set_option maxRecDepth 20000 in
theorem gX1_verdict_X0_hasPlaceFor : GoodIn wsX1_verdict (wsV RX1 94 RX0 yX0_hasPlaceFor wsX0_hasPlaceFor) := goodIn_app (goodIn_of _ (by decide +kernel)) ggX1_verdict_X0_hasPlaceFor
theorem dX1_verdict_0 : decode cX1_verdict 0 = .ok (.aload_n 0, 1) := by decide +kernel
theorem dX1_verdict_1 : decode cX1_verdict 1 = .ok (.aload_n 0, 1) := by decide +kernel
theorem dX1_verdict_2 : decode cX1_verdict 2 = .ok (.iload_n 1, 1) := by decide +kernel
theorem dX1_verdict_3 : decode cX1_verdict 3 = .ok (.invokevirtual 85, 3) := by decide +kernel
theorem dX1_verdict_6 : decode cX1_verdict 6 = .ok (.invokevirtual 88, 3) := by decide +kernel
theorem dX1_verdict_9 : decode cX1_verdict 9 = .ok (.istore 4, 2) := by decide +kernel
theorem dX1_verdict_11 : decode cX1_verdict 11 = .ok (.iload 4, 2) := by decide +kernel
theorem dX1_verdict_13 : decode cX1_verdict 13 = .ok (.iconst 3, 1) := by decide +kernel
theorem dX1_verdict_14 : decode cX1_verdict 14 = .ok (.if_icmp .ne 5, 3) := by decide +kernel
theorem dX1_verdict_17 : decode cX1_verdict 17 = .ok (.iconst 3, 1) := by decide +kernel
theorem dX1_verdict_18 : decode cX1_verdict 18 = .ok (.ireturn, 1) := by decide +kernel
theorem dX1_verdict_19 : decode cX1_verdict 19 = .ok (.iload 4, 2) := by decide +kernel
theorem dX1_verdict_21 : decode cX1_verdict 21 = .ok (.iconst 1, 1) := by decide +kernel
theorem dX1_verdict_22 : decode cX1_verdict 22 = .ok (.if_icmp .eq 5, 3) := by decide +kernel
theorem dX1_verdict_25 : decode cX1_verdict 25 = .ok (.iconst 0, 1) := by decide +kernel
theorem dX1_verdict_26 : decode cX1_verdict 26 = .ok (.ireturn, 1) := by decide +kernel
theorem dX1_verdict_27 : decode cX1_verdict 27 = .ok (.aload_n 0, 1) := by decide +kernel
theorem dX1_verdict_28 : decode cX1_verdict 28 = .ok (.iload_n 1, 1) := by decide +kernel
theorem dX1_verdict_29 : decode cX1_verdict 29 = .ok (.iload_n 2, 1) := by decide +kernel
theorem dX1_verdict_30 : decode cX1_verdict 30 = .ok (.iload_n 3, 1) := by decide +kernel
theorem dX1_verdict_31 : decode cX1_verdict 31 = .ok (.invokevirtual 91, 3) := by decide +kernel
theorem dX1_verdict_34 : decode cX1_verdict 34 = .ok (.ifCond .eq 18, 3) := by decide +kernel
theorem dX1_verdict_37 : decode cX1_verdict 37 = .ok (.aload_n 0, 1) := by decide +kernel
theorem dX1_verdict_38 : decode cX1_verdict 38 = .ok (.getfield 28, 3) := by decide +kernel
theorem dX1_verdict_41 : decode cX1_verdict 41 = .ok (.iload_n 3, 1) := by decide +kernel
theorem dX1_verdict_42 : decode cX1_verdict 42 = .ok (.invokevirtual 94, 3) := by decide +kernel
theorem dX1_verdict_45 : decode cX1_verdict 45 = .ok (.ifCond .eq 7, 3) := by decide +kernel
theorem dX1_verdict_48 : decode cX1_verdict 48 = .ok (.iconst 1, 1) := by decide +kernel
theorem dX1_verdict_49 : decode cX1_verdict 49 = .ok (.goto 4, 3) := by decide +kernel
theorem dX1_verdict_52 : decode cX1_verdict 52 = .ok (.iconst 0, 1) := by decide +kernel
theorem dX1_verdict_53 : decode cX1_verdict 53 = .ok (.istore 5, 2) := by decide +kernel
theorem dX1_verdict_55 : decode cX1_verdict 55 = .ok (.iload 5, 2) := by decide +kernel
theorem dX1_verdict_57 : decode cX1_verdict 57 = .ok (.ifCond .eq 7, 3) := by decide +kernel
theorem dX1_verdict_60 : decode cX1_verdict 60 = .ok (.iconst 1, 1) := by decide +kernel
theorem dX1_verdict_61 : decode cX1_verdict 61 = .ok (.goto 4, 3) := by decide +kernel
theorem dX1_verdict_64 : decode cX1_verdict 64 = .ok (.iconst 2, 1) := by decide +kernel
theorem dX1_verdict_65 : decode cX1_verdict 65 = .ok (.ireturn, 1) := by decide +kernel
set_option maxRecDepth 20000 in
theorem ggX1_isAcceptable_X1_paneAt : GoodIn wsX1_isAcceptable wsX1_paneAt := goodIn_r _ [6, 7, 35, 36, 37, 38, 39, 40, 41, 42, 43] (by decide +kernel) (by decide +kernel)
set_option maxRecDepth 20000 in
theorem gX1_isAcceptable_X1_paneAt : GoodIn wsX1_isAcceptable (wsV RX1 85 RX1 yX1_paneAt wsX1_paneAt) := goodIn_app (goodIn_of _ (by decide +kernel)) ggX1_isAcceptable_X1_paneAt
set_option maxRecDepth 20000 in
theorem ggX1_isAcceptable_X1_lateBy : GoodIn wsX1_isAcceptable wsX1_lateBy := goodIn_r _ [11, 12, 13, 14, 15, 5, 16, 7, 35, 36, 37, 38, 39, 40, 41, 42, 43] (by decide +kernel) (by decide +kernel)
set_option maxRecDepth 20000 in
theorem gX1_isAcceptable_X1_lateBy : GoodIn wsX1_isAcceptable (wsV RX1 98 RX1 yX1_lateBy wsX1_lateBy) := goodIn_app (goodIn_of _ (by decide +kernel)) ggX1_isAcceptable_X1_lateBy
set_option maxRecDepth 20000 in
theorem ggX1_isAcceptable_X2_hadIllness : GoodIn wsX1_isAcceptable wsX2_hadIllness := goodIn_r _ [21, 22, 23, 24, 25, 26, 27, 28, 29, 30, 31, 32, 33, 20, 34, 44, 45, 46, 47, 48] (by decide +kernel) (by decide +kernel)
set_option maxRecDepth 20000 in
theorem gX1_isAcceptable_X2_hadIllness : GoodIn wsX1_isAcceptable (wsV RX1 101 RX2 yX2_hadIllness wsX2_hadIllness) := goodIn_app (goodIn_of _ (by decide +kernel)) ggX1_isAcceptable_X2_hadIllness
theorem dX1_isAcceptable_0 : decode cX1_isAcceptable 0 = .ok (.aload_n 0, 1) := by decide +kernel
theorem dX1_isAcceptable_1 : decode cX1_isAcceptable 1 = .ok (.aload_n 0, 1) := by decide +kernel
theorem dX1_isAcceptable_2 : decode cX1_isAcceptable 2 = .ok (.iload_n 1, 1) := by decide +kernel
theorem dX1_isAcceptable_3 : decode cX1_isAcceptable 3 = .ok (.invokevirtual 85, 3) := by decide +kernel
theorem dX1_isAcceptable_6 : decode cX1_isAcceptable 6 = .ok (.invokevirtual 98, 3) := by decide +kernel
theorem dX1_isAcceptable_9 : decode cX1_isAcceptable 9 = .ok (.istore 4, 2) := by decide +kernel
theorem dX1_isAcceptable_11 : decode cX1_isAcceptable 11 = .ok (.iload_n 3, 1) := by decide +kernel
theorem dX1_isAcceptable_12 : decode cX1_isAcceptable 12 = .ok (.tableswitch 79 1 3 #[28, 41, 65], 28) := by decide +kernel
theorem dX1_isAcceptable_40 : decode cX1_isAcceptable 40 = .ok (.iload 4, 2) := by decide +kernel
theorem dX1_isAcceptable_42 : decode cX1_isAcceptable 42 = .ok (.bipush 10, 2) := by decide +kernel
theorem dX1_isAcceptable_44 : decode cX1_isAcceptable 44 = .ok (.if_icmp .gt 7, 3) := by decide +kernel
theorem dX1_isAcceptable_47 : decode cX1_isAcceptable 47 = .ok (.iconst 1, 1) := by decide +kernel
theorem dX1_isAcceptable_48 : decode cX1_isAcceptable 48 = .ok (.goto 4, 3) := by decide +kernel
theorem dX1_isAcceptable_51 : decode cX1_isAcceptable 51 = .ok (.iconst 0, 1) := by decide +kernel
theorem dX1_isAcceptable_52 : decode cX1_isAcceptable 52 = .ok (.ireturn, 1) := by decide +kernel
theorem dX1_isAcceptable_53 : decode cX1_isAcceptable 53 = .ok (.iload 4, 2) := by decide +kernel
theorem dX1_isAcceptable_55 : decode cX1_isAcceptable 55 = .ok (.bipush 40, 2) := by decide +kernel
theorem dX1_isAcceptable_57 : decode cX1_isAcceptable 57 = .ok (.if_icmp .gt 18, 3) := by decide +kernel
theorem dX1_isAcceptable_60 : decode cX1_isAcceptable 60 = .ok (.aload_n 0, 1) := by decide +kernel
theorem dX1_isAcceptable_61 : decode cX1_isAcceptable 61 = .ok (.getfield 12, 3) := by decide +kernel
theorem dX1_isAcceptable_64 : decode cX1_isAcceptable 64 = .ok (.iload_n 2, 1) := by decide +kernel
theorem dX1_isAcceptable_65 : decode cX1_isAcceptable 65 = .ok (.invokevirtual 101, 3) := by decide +kernel
theorem dX1_isAcceptable_68 : decode cX1_isAcceptable 68 = .ok (.ifCond .ne 7, 3) := by decide +kernel
theorem dX1_isAcceptable_71 : decode cX1_isAcceptable 71 = .ok (.iconst 1, 1) := by decide +kernel
theorem dX1_isAcceptable_72 : decode cX1_isAcceptable 72 = .ok (.goto 4, 3) := by decide +kernel
theorem dX1_isAcceptable_75 : decode cX1_isAcceptable 75 = .ok (.iconst 0, 1) := by decide +kernel
theorem dX1_isAcceptable_76 : decode cX1_isAcceptable 76 = .ok (.ireturn, 1) := by decide +kernel
theorem dX1_isAcceptable_77 : decode cX1_isAcceptable 77 = .ok (.iload_n 1, 1) := by decide +kernel
theorem dX1_isAcceptable_78 : decode cX1_isAcceptable 78 = .ok (.bipush 7, 2) := by decide +kernel
theorem dX1_isAcceptable_80 : decode cX1_isAcceptable 80 = .ok (.irem, 1) := by decide +kernel
theorem dX1_isAcceptable_81 : decode cX1_isAcceptable 81 = .ok (.iconst 5, 1) := by decide +kernel
theorem dX1_isAcceptable_82 : decode cX1_isAcceptable 82 = .ok (.if_icmp .lt 7, 3) := by decide +kernel
theorem dX1_isAcceptable_85 : decode cX1_isAcceptable 85 = .ok (.iconst 1, 1) := by decide +kernel
theorem dX1_isAcceptable_86 : decode cX1_isAcceptable 86 = .ok (.goto 4, 3) := by decide +kernel
theorem dX1_isAcceptable_89 : decode cX1_isAcceptable 89 = .ok (.iconst 0, 1) := by decide +kernel
theorem dX1_isAcceptable_90 : decode cX1_isAcceptable 90 = .ok (.ireturn, 1) := by decide +kernel
theorem dX1_isAcceptable_91 : decode cX1_isAcceptable 91 = .ok (.iconst 0, 1) := by decide +kernel
theorem dX1_isAcceptable_92 : decode cX1_isAcceptable 92 = .ok (.ireturn, 1) := by decide +kernel
set_option maxRecDepth 20000 in
theorem ggX1_admit_X2_hasCome : GoodIn wsX1_admit wsX2_hasCome := goodIn_r _ [12, 13, 14, 15, 16, 17, 18, 19, 20, 21, 182, 183, 184, 185, 186] (by decide +kernel) (by decide +kernel)
set_option maxRecDepth 20000 in
theorem gX1_admit_X2_hasCome : GoodIn wsX1_admit (wsV RX1 114 RX2 yX2_hasCome wsX2_hasCome) := goodIn_app (goodIn_of _ (by decide +kernel)) ggX1_admit_X2_hasCome
set_option maxRecDepth 20000 in
theorem ggX1_admit_X2_addDouble : GoodIn wsX1_admit wsX2_addDouble := goodIn_r _ [25, 26, 182, 183] (by decide +kernel) (by decide +kernel)
set_option maxRecDepth 20000 in
theorem gX1_admit_X2_addDouble : GoodIn wsX1_admit (wsV RX1 117 RX2 yX2_addDouble wsX2_addDouble) := goodIn_app (goodIn_of _ (by decide +kernel)) ggX1_admit_X2_addDouble
set_option maxRecDepth 20000 in
theorem ggX1_admit_X1_verdict : GoodIn wsX1_admit wsX1_verdict := goodIn_r _ [31, 2, 32, 33, 34, 30, 35, 36, 37, 38, 39, 40, 3, 4, 41, 42, 43, 44, 45, 46, 47, 48, 49, 50, 51, 52, 15, 16, 17, 18, 19, 20, 21, 53, 54, 55, 56, 57, 58, 59, 60, 1, 61, 62, 63, 64, 65, 66, 67, 11, 68, 13, 14, 69, 70, 71, 72, 73, 74, 75, 76, 77, 78, 79, 80, 81, 82, 83, 84, 85, 86, 87, 173, 174, 175, 176, 177, 178, 179, 180, 181, 187, 188, 189, 184, 185, 186, 182, 183, 190] (by decide +kernel) (by decide +kernel)
set_option maxRecDepth 20000 in
theorem gX1_admit_X1_verdict : GoodIn wsX1_admit (wsV RX1 120 RX1 yX1_verdict wsX1_verdict) := goodIn_app (goodIn_of _ (by decide +kernel)) ggX1_admit_X1_verdict
set_option maxRecDepth 20000 in
theorem ggX1_admit_X1_paneAt : GoodIn wsX1_admit wsX1_paneAt := goodIn_r _ [35, 36, 173, 174, 175, 176, 177, 178, 179, 180, 181] (by decide +kernel) (by decide +kernel)
set_option maxRecDepth 20000 in
theorem gX1_admit_X1_paneAt : GoodIn wsX1_admit (wsV RX1 85 RX1 yX1_paneAt wsX1_paneAt) := goodIn_app (goodIn_of _ (by decide +kernel)) ggX1_admit_X1_paneAt
set_option maxRecDepth 20000 in
theorem ggX1_admit_X2_enter : GoodIn wsX1_admit wsX2_enter := goodIn_r _ [91, 13, 92, 93, 94, 17, 95, 19, 20, 21, 182, 183, 184, 185, 186] (by decide +kernel) (by decide +kernel)
set_option maxRecDepth 20000 in
theorem gX1_admit_X2_enter : GoodIn wsX1_admit (wsV RX1 123 RX2 yX2_enter wsX2_enter) := goodIn_app (goodIn_of _ (by decide +kernel)) ggX1_admit_X2_enter
set_option maxRecDepth 20000 in
theorem ggX1_admit_X2_conclude : GoodIn wsX1_admit wsX2_conclude := goodIn_r _ [99, 13, 92, 93, 94, 17, 95, 19, 20, 21, 182, 183, 184, 185, 186] (by decide +kernel) (by decide +kernel)
set_option maxRecDepth 20000 in
theorem gX1_admit_X2_conclude : GoodIn wsX1_admit (wsV RX1 127 RX2 yX2_conclude wsX2_conclude) := goodIn_app (goodIn_of _ (by decide +kernel)) ggX1_admit_X2_conclude
set_option maxRecDepth 20000 in
theorem ggX1_admit_X0_file : GoodIn wsX1_admit wsX0_file := goodIn_r _ [103, 86, 78, 79, 80, 76, 81, 82, 83, 84, 85, 87, 15, 16, 17, 18, 19, 20, 21, 104, 93, 94, 95, 190, 184, 185, 186] (by decide +kernel) (by decide +kernel)
set_option maxRecDepth 20000 in
theorem gX1_admit_X0_file : GoodIn wsX1_admit (wsV RX1 131 RX0 yX0_file wsX0_file) := goodIn_app (goodIn_of _ (by decide +kernel)) ggX1_admit_X0_file
set_option maxRecDepth 20000 in
theorem ggX1_admit_X4_reopen : GoodIn wsX1_admit wsX4_reopen := goodIn_r _ [108, 46, 109, 110, 111, 44, 112, 51, 47, 48, 49, 50, 52, 15, 16, 17, 18, 19, 20, 21, 113, 114, 115, 116, 117, 118, 119, 120, 121, 122, 123, 124, 125, 93, 94, 95, 126, 127, 128, 129, 130, 131, 132, 133, 134, 135, 136, 137, 138, 139, 140, 141, 142, 143, 144, 145, 146, 147, 148, 149, 187, 188, 189, 184, 185, 186, 191, 192, 193, 194] (by decide +kernel) (by decide +kernel)
set_option maxRecDepth 20000 in
theorem gX1_admit_X4_reopen : GoodIn wsX1_admit (wsV RX1 135 RX4 yX4_reopen wsX4_reopen) := goodIn_app (goodIn_of _ (by decide +kernel)) ggX1_admit_X4_reopen
set_option maxRecDepth 20000 in
theorem ggX1_admit_X4_add : GoodIn wsX1_admit wsX4_add := goodIn_r _ [153, 46, 109, 110, 111, 44, 112, 51, 47, 48, 49, 50, 52, 15, 16, 17, 18, 19, 20, 21, 113, 114, 115, 116, 117, 118, 119, 120, 121, 122, 123, 124, 125, 93, 94, 95, 126, 187, 188, 189, 184, 185, 186] (by decide +kernel) (by decide +kernel)
set_option maxRecDepth 20000 in
theorem gX1_admit_X4_add : GoodIn wsX1_admit (wsV RX1 138 RX4 yX4_add wsX4_add) := goodIn_app (goodIn_of _ (by decide +kernel)) ggX1_admit_X4_add
set_option maxRecDepth 20000 in
theorem ggX1_admit_X1_raiseWatermark : GoodIn wsX1_admit wsX1_raiseWatermark := goodIn_r _ [157, 4, 158, 159, 160, 161, 3, 32, 33, 34, 30, 35, 36, 162, 163, 164, 44, 165, 51, 46, 52, 15, 16, 17, 18, 19, 20, 21, 166, 167, 168, 169, 170, 171, 172, 131, 126, 93, 94, 95, 136, 137, 138, 139, 140, 141, 142, 143, 144, 145, 146, 147, 148, 121, 122, 123, 124, 149, 173, 174, 175, 176, 177, 178, 179, 180, 181, 187, 188, 189, 184, 185, 186, 191, 192, 193, 194] (by decide +kernel) (by decide +kernel)
set_option maxRecDepth 20000 in
theorem gX1_admit_X1_raiseWatermark : GoodIn wsX1_admit (wsV RX1 141 RX1 yX1_raiseWatermark wsX1_raiseWatermark) := goodIn_app (goodIn_of _ (by decide +kernel)) ggX1_admit_X1_raiseWatermark
theorem dX1_admit_0 : decode cX1_admit 0 = .ok (.aload_n 0, 1) := by decide +kernel
theorem dX1_admit_1 : decode cX1_admit 1 = .ok (.getfield 12, 3) := by decide +kernel
theorem dX1_admit_4 : decode cX1_admit 4 = .ok (.iload_n 1, 1) := by decide +kernel
theorem dX1_admit_5 : decode cX1_admit 5 = .ok (.invokevirtual 114, 3) := by decide +kernel
theorem dX1_admit_8 : decode cX1_admit 8 = .ok (.ifCond .eq 12, 3) := by decide +kernel
theorem dX1_admit_11 : decode cX1_admit 11 = .ok (.aload_n 0, 1) := by decide +kernel
theorem dX1_admit_12 : decode cX1_admit 12 = .ok (.getfield 12, 3) := by decide +kernel
theorem dX1_admit_15 : decode cX1_admit 15 = .ok (.invokevirtual 117, 3) := by decide +kernel
theorem dX1_admit_18 : decode cX1_admit 18 = .ok (.iconst 4, 1) := by decide +kernel
theorem dX1_admit_19 : decode cX1_admit 19 = .ok (.ireturn, 1) := by decide +kernel
theorem dX1_admit_20 : decode cX1_admit 20 = .ok (.aload_n 0, 1) := by decide +kernel
theorem dX1_admit_21 : decode cX1_admit 21 = .ok (.iload_n 2, 1) := by decide +kernel
theorem dX1_admit_22 : decode cX1_admit 22 = .ok (.iload_n 3, 1) := by decide +kernel
theorem dX1_admit_23 : decode cX1_admit 23 = .ok (.iload 5, 2) := by decide +kernel
theorem dX1_admit_25 : decode cX1_admit 25 = .ok (.invokevirtual 120, 3) := by decide +kernel
theorem dX1_admit_28 : decode cX1_admit 28 = .ok (.istore 6, 2) := by decide +kernel
theorem dX1_admit_30 : decode cX1_admit 30 = .ok (.aload_n 0, 1) := by decide +kernel
theorem dX1_admit_31 : decode cX1_admit 31 = .ok (.iload_n 2, 1) := by decide +kernel
theorem dX1_admit_32 : decode cX1_admit 32 = .ok (.invokevirtual 85, 3) := by decide +kernel
theorem dX1_admit_35 : decode cX1_admit 35 = .ok (.istore 7, 2) := by decide +kernel
theorem dX1_admit_37 : decode cX1_admit 37 = .ok (.aload_n 0, 1) := by decide +kernel
theorem dX1_admit_38 : decode cX1_admit 38 = .ok (.getfield 12, 3) := by decide +kernel
theorem dX1_admit_41 : decode cX1_admit 41 = .ok (.iload_n 1, 1) := by decide +kernel
theorem dX1_admit_42 : decode cX1_admit 42 = .ok (.iload_n 2, 1) := by decide +kernel
theorem dX1_admit_43 : decode cX1_admit 43 = .ok (.iload_n 3, 1) := by decide +kernel
theorem dX1_admit_44 : decode cX1_admit 44 = .ok (.iload 4, 2) := by decide +kernel
theorem dX1_admit_46 : decode cX1_admit 46 = .ok (.iload 5, 2) := by decide +kernel
theorem dX1_admit_48 : decode cX1_admit 48 = .ok (.invokevirtual 123, 3) := by decide +kernel
theorem dX1_admit_51 : decode cX1_admit 51 = .ok (.aload_n 0, 1) := by decide +kernel
theorem dX1_admit_52 : decode cX1_admit 52 = .ok (.getfield 12, 3) := by decide +kernel
theorem dX1_admit_55 : decode cX1_admit 55 = .ok (.iload_n 1, 1) := by decide +kernel
theorem dX1_admit_56 : decode cX1_admit 56 = .ok (.iload 6, 2) := by decide +kernel
theorem dX1_admit_58 : decode cX1_admit 58 = .ok (.iload 7, 2) := by decide +kernel
theorem dX1_admit_60 : decode cX1_admit 60 = .ok (.invokevirtual 127, 3) := by decide +kernel
theorem dX1_admit_63 : decode cX1_admit 63 = .ok (.iload 6, 2) := by decide +kernel
theorem dX1_admit_65 : decode cX1_admit 65 = .ok (.iconst 1, 1) := by decide +kernel
theorem dX1_admit_66 : decode cX1_admit 66 = .ok (.if_icmp .ne 33, 3) := by decide +kernel
theorem dX1_admit_69 : decode cX1_admit 69 = .ok (.aload_n 0, 1) := by decide +kernel
theorem dX1_admit_70 : decode cX1_admit 70 = .ok (.getfield 28, 3) := by decide +kernel
theorem dX1_admit_73 : decode cX1_admit 73 = .ok (.iload 5, 2) := by decide +kernel
theorem dX1_admit_75 : decode cX1_admit 75 = .ok (.iload_n 1, 1) := by decide +kernel
theorem dX1_admit_76 : decode cX1_admit 76 = .ok (.invokevirtual 131, 3) := by decide +kernel
theorem dX1_admit_79 : decode cX1_admit 79 = .ok (.aload_n 0, 1) := by decide +kernel
theorem dX1_admit_80 : decode cX1_admit 80 = .ok (.getfield 21, 3) := by decide +kernel
theorem dX1_admit_83 : decode cX1_admit 83 = .ok (.iload 7, 2) := by decide +kernel
theorem dX1_admit_85 : decode cX1_admit 85 = .ok (.aload_n 0, 1) := by decide +kernel
theorem dX1_admit_86 : decode cX1_admit 86 = .ok (.getfield 42, 3) := by decide +kernel
theorem dX1_admit_89 : decode cX1_admit 89 = .ok (.aload_n 0, 1) := by decide +kernel
theorem dX1_admit_90 : decode cX1_admit 90 = .ok (.getfield 39, 3) := by decide +kernel
theorem dX1_admit_93 : decode cX1_admit 93 = .ok (.iadd, 1) := by decide +kernel
theorem dX1_admit_94 : decode cX1_admit 94 = .ok (.iconst 1, 1) := by decide +kernel
theorem dX1_admit_95 : decode cX1_admit 95 = .ok (.iadd, 1) := by decide +kernel
theorem dX1_admit_96 : decode cX1_admit 96 = .ok (.invokevirtual 135, 3) := by decide +kernel
theorem dX1_admit_99 : decode cX1_admit 99 = .ok (.iload 6, 2) := by decide +kernel
theorem dX1_admit_101 : decode cX1_admit 101 = .ok (.iconst 1, 1) := by decide +kernel
theorem dX1_admit_102 : decode cX1_admit 102 = .ok (.if_icmp .gt 15, 3) := by decide +kernel
theorem dX1_admit_105 : decode cX1_admit 105 = .ok (.aload_n 0, 1) := by decide +kernel
theorem dX1_admit_106 : decode cX1_admit 106 = .ok (.getfield 21, 3) := by decide +kernel
theorem dX1_admit_109 : decode cX1_admit 109 = .ok (.iload 7, 2) := by decide +kernel
theorem dX1_admit_111 : decode cX1_admit 111 = .ok (.iload_n 3, 1) := by decide +kernel
theorem dX1_admit_112 : decode cX1_admit 112 = .ok (.iload 4, 2) := by decide +kernel
theorem dX1_admit_114 : decode cX1_admit 114 = .ok (.invokevirtual 138, 3) := by decide +kernel
theorem dX1_admit_117 : decode cX1_admit 117 = .ok (.iload_n 2, 1) := by decide +kernel
theorem dX1_admit_118 : decode cX1_admit 118 = .ok (.aload_n 0, 1) := by decide +kernel
theorem dX1_admit_119 : decode cX1_admit 119 = .ok (.getfield 45, 3) := by decide +kernel
theorem dX1_admit_122 : decode cX1_admit 122 = .ok (.if_icmp .le 18, 3) := by decide +kernel
theorem dX1_admit_125 : decode cX1_admit 125 = .ok (.aload_n 0, 1) := by decide +kernel
theorem dX1_admit_126 : decode cX1_admit 126 = .ok (.iload_n 2, 1) := by decide +kernel
theorem dX1_admit_127 : decode cX1_admit 127 = .ok (.putfield 45, 3) := by decide +kernel
theorem dX1_admit_130 : decode cX1_admit 130 = .ok (.aload_n 0, 1) := by decide +kernel
theorem dX1_admit_131 : decode cX1_admit 131 = .ok (.iload_n 2, 1) := by decide +kernel
theorem dX1_admit_132 : decode cX1_admit 132 = .ok (.aload_n 0, 1) := by decide +kernel
theorem dX1_admit_133 : decode cX1_admit 133 = .ok (.getfield 36, 3) := by decide +kernel
theorem dX1_admit_136 : decode cX1_admit 136 = .ok (.isub, 1) := by decide +kernel
theorem dX1_admit_137 : decode cX1_admit 137 = .ok (.invokevirtual 141, 3) := by decide +kernel
theorem dX1_admit_140 : decode cX1_admit 140 = .ok (.iload 6, 2) := by decide +kernel
theorem dX1_admit_142 : decode cX1_admit 142 = .ok (.ireturn, 1) := by decide +kernel
set_option maxRecDepth 20000 in
theorem ggX1_raiseWatermark_X1_paneAt : GoodIn wsX1_raiseWatermark wsX1_paneAt := goodIn_r _ [11, 12, 58, 59, 60, 61, 62, 63, 64, 65, 66] (by decide +kernel) (by decide +kernel)
set_option maxRecDepth 20000 in
theorem gX1_raiseWatermark_X1_paneAt : GoodIn wsX1_raiseWatermark (wsV RX1 85 RX1 yX1_paneAt wsX1_paneAt) := goodIn_app (goodIn_of _ (by decide +kernel)) ggX1_raiseWatermark_X1_paneAt
set_option maxRecDepth 20000 in
theorem ggX1_raiseWatermark_X4_shutAndClose : GoodIn wsX1_raiseWatermark wsX4_shutAndClose := goodIn_r _ [17, 18, 19, 20, 21, 22, 23, 24, 25, 26, 27, 28, 29, 30, 31, 32, 33, 16, 34, 35, 36, 37, 38, 39, 40, 41, 42, 43, 44, 45, 46, 47, 48, 49, 50, 51, 52, 53, 54, 55, 56, 57, 67, 68, 69, 70, 71, 72, 73, 74, 75, 76] (by decide +kernel) (by decide +kernel)
set_option maxRecDepth 20000 in
theorem gX1_raiseWatermark_X4_shutAndClose : GoodIn wsX1_raiseWatermark (wsV RX1 145 RX4 yX4_shutAndClose wsX4_shutAndClose) := goodIn_app (goodIn_of _ (by decide +kernel)) ggX1_raiseWatermark_X4_shutAndClose
theorem dX1_raiseWatermark_0 : decode cX1_raiseWatermark 0 = .ok (.iload_n 1, 1) := by decide +kernel
theorem dX1_raiseWatermark_1 : decode cX1_raiseWatermark 1 = .ok (.aload_n 0, 1) := by decide +kernel
theorem dX1_raiseWatermark_2 : decode cX1_raiseWatermark 2 = .ok (.getfield 42, 3) := by decide +kernel
theorem dX1_raiseWatermark_5 : decode cX1_raiseWatermark 5 = .ok (.if_icmp .le 39, 3) := by decide +kernel
theorem dX1_raiseWatermark_8 : decode cX1_raiseWatermark 8 = .ok (.aload_n 0, 1) := by decide +kernel
theorem dX1_raiseWatermark_9 : decode cX1_raiseWatermark 9 = .ok (.iconst 0, 1) := by decide +kernel
theorem dX1_raiseWatermark_10 : decode cX1_raiseWatermark 10 = .ok (.aload_n 0, 1) := by decide +kernel
theorem dX1_raiseWatermark_11 : decode cX1_raiseWatermark 11 = .ok (.getfield 42, 3) := by decide +kernel
theorem dX1_raiseWatermark_14 : decode cX1_raiseWatermark 14 = .ok (.invokestatic 109, 3) := by decide +kernel
theorem dX1_raiseWatermark_17 : decode cX1_raiseWatermark 17 = .ok (.invokevirtual 85, 3) := by decide +kernel
theorem dX1_raiseWatermark_20 : decode cX1_raiseWatermark 20 = .ok (.iconst 1, 1) := by decide +kernel
theorem dX1_raiseWatermark_21 : decode cX1_raiseWatermark 21 = .ok (.isub, 1) := by decide +kernel
theorem dX1_raiseWatermark_22 : decode cX1_raiseWatermark 22 = .ok (.istore_n 2, 1) := by decide +kernel
theorem dX1_raiseWatermark_23 : decode cX1_raiseWatermark 23 = .ok (.aload_n 0, 1) := by decide +kernel
theorem dX1_raiseWatermark_24 : decode cX1_raiseWatermark 24 = .ok (.iload_n 1, 1) := by decide +kernel
theorem dX1_raiseWatermark_25 : decode cX1_raiseWatermark 25 = .ok (.putfield 42, 3) := by decide +kernel
theorem dX1_raiseWatermark_28 : decode cX1_raiseWatermark 28 = .ok (.aload_n 0, 1) := by decide +kernel
theorem dX1_raiseWatermark_29 : decode cX1_raiseWatermark 29 = .ok (.getfield 21, 3) := by decide +kernel
theorem dX1_raiseWatermark_32 : decode cX1_raiseWatermark 32 = .ok (.iload_n 2, 1) := by decide +kernel
theorem dX1_raiseWatermark_33 : decode cX1_raiseWatermark 33 = .ok (.aload_n 0, 1) := by decide +kernel
theorem dX1_raiseWatermark_34 : decode cX1_raiseWatermark 34 = .ok (.iload_n 1, 1) := by decide +kernel
theorem dX1_raiseWatermark_35 : decode cX1_raiseWatermark 35 = .ok (.invokevirtual 85, 3) := by decide +kernel
theorem dX1_raiseWatermark_38 : decode cX1_raiseWatermark 38 = .ok (.iconst 1, 1) := by decide +kernel
theorem dX1_raiseWatermark_39 : decode cX1_raiseWatermark 39 = .ok (.isub, 1) := by decide +kernel
theorem dX1_raiseWatermark_40 : decode cX1_raiseWatermark 40 = .ok (.iload_n 1, 1) := by decide +kernel
theorem dX1_raiseWatermark_41 : decode cX1_raiseWatermark 41 = .ok (.invokevirtual 145, 3) := by decide +kernel
theorem dX1_raiseWatermark_44 : decode cX1_raiseWatermark 44 = .ok (.return_, 1) := by decide +kernel
theorem dX1_canMoveBack_0 : decode cX1_canMoveBack 0 = .ok (.aload_n 0, 1) := by decide +kernel
theorem dX1_canMoveBack_1 : decode cX1_canMoveBack 1 = .ok (.getfield 58, 3) := by decide +kernel
theorem dX1_canMoveBack_4 : decode cX1_canMoveBack 4 = .ok (.ifCond .ne 15, 3) := by decide +kernel
theorem dX1_canMoveBack_7 : decode cX1_canMoveBack 7 = .ok (.aload_n 0, 1) := by decide +kernel
theorem dX1_canMoveBack_8 : decode cX1_canMoveBack 8 = .ok (.getfield 42, 3) := by decide +kernel
theorem dX1_canMoveBack_11 : decode cX1_canMoveBack 11 = .ok (.iconst (-1), 1) := by decide +kernel
theorem dX1_canMoveBack_12 : decode cX1_canMoveBack 12 = .ok (.if_icmp .eq 7, 3) := by decide +kernel
theorem dX1_canMoveBack_15 : decode cX1_canMoveBack 15 = .ok (.iconst 1, 1) := by decide +kernel
theorem dX1_canMoveBack_16 : decode cX1_canMoveBack 16 = .ok (.goto 4, 3) := by decide +kernel
theorem dX1_canMoveBack_19 : decode cX1_canMoveBack 19 = .ok (.iconst 0, 1) := by decide +kernel
theorem dX1_canMoveBack_20 : decode cX1_canMoveBack 20 = .ok (.ireturn, 1) := by decide +kernel
set_option maxRecDepth 20000 in
theorem ggX1_moveBack_X1_paneAt : GoodIn wsX1_moveBack wsX1_paneAt := goodIn_r _ [12, 13, 76, 77, 78, 79, 80, 81, 82, 83, 84] (by decide +kernel) (by decide +kernel)
set_option maxRecDepth 20000 in
theorem gX1_moveBack_X1_paneAt : GoodIn wsX1_moveBack (wsV RX1 85 RX1 yX1_paneAt wsX1_paneAt) := goodIn_app (goodIn_of _ (by decide +kernel)) ggX1_moveBack_X1_paneAt
set_option maxRecDepth 20000 in
theorem ggX1_moveBack_X1_stateOf : GoodIn wsX1_moveBack wsX1_stateOf := goodIn_r _ [17, 6, 1, 18, 19, 20, 21, 22, 23, 24, 25, 26, 27, 28, 29, 30, 31, 32, 33, 34, 35, 36, 37, 38, 39, 11, 40, 13, 76, 77, 78, 79, 80, 81, 82, 83, 84, 85, 86, 87, 88, 89, 90] (by decide +kernel) (by decide +kernel)
set_option maxRecDepth 20000 in
theorem gX1_moveBack_X1_stateOf : GoodIn wsX1_moveBack (wsV RX1 88 RX1 yX1_stateOf wsX1_stateOf) := goodIn_app (goodIn_of _ (by decide +kernel)) ggX1_moveBack_X1_stateOf
set_option maxRecDepth 20000 in
theorem ggX1_moveBack_X4_takeBackWord : GoodIn wsX1_moveBack wsX4_takeBackWord := goodIn_r _ [44, 24, 25, 26, 21, 27, 28, 23, 29, 30, 31, 32, 33, 34, 35, 36, 45, 46, 47, 48, 49, 50, 51, 52, 53, 54, 55, 56, 57, 58, 59, 60, 61, 62, 63, 64, 65, 66, 67, 68, 69, 70, 71, 72, 73, 74, 75, 85, 86, 87, 88, 89, 90, 91, 92, 93, 94] (by decide +kernel) (by decide +kernel)
set_option maxRecDepth 20000 in
theorem gX1_moveBack_X4_takeBackWord : GoodIn wsX1_moveBack (wsV RX1 148 RX4 yX4_takeBackWord wsX4_takeBackWord) := goodIn_app (goodIn_of _ (by decide +kernel)) ggX1_moveBack_X4_takeBackWord
theorem dX1_moveBack_0 : decode cX1_moveBack 0 = .ok (.iconst (-1), 1) := by decide +kernel
theorem dX1_moveBack_1 : decode cX1_moveBack 1 = .ok (.aload_n 0, 1) := by decide +kernel
theorem dX1_moveBack_2 : decode cX1_moveBack 2 = .ok (.getfield 42, 3) := by decide +kernel
theorem dX1_moveBack_5 : decode cX1_moveBack 5 = .ok (.iload_n 1, 1) := by decide +kernel
theorem dX1_moveBack_6 : decode cX1_moveBack 6 = .ok (.isub, 1) := by decide +kernel
theorem dX1_moveBack_7 : decode cX1_moveBack 7 = .ok (.invokestatic 109, 3) := by decide +kernel
theorem dX1_moveBack_10 : decode cX1_moveBack 10 = .ok (.istore_n 2, 1) := by decide +kernel
theorem dX1_moveBack_11 : decode cX1_moveBack 11 = .ok (.iconst 0, 1) := by decide +kernel
theorem dX1_moveBack_12 : decode cX1_moveBack 12 = .ok (.istore_n 3, 1) := by decide +kernel
theorem dX1_moveBack_13 : decode cX1_moveBack 13 = .ok (.aload_n 0, 1) := by decide +kernel
theorem dX1_moveBack_14 : decode cX1_moveBack 14 = .ok (.aload_n 0, 1) := by decide +kernel
theorem dX1_moveBack_15 : decode cX1_moveBack 15 = .ok (.getfield 42, 3) := by decide +kernel
theorem dX1_moveBack_18 : decode cX1_moveBack 18 = .ok (.invokevirtual 85, 3) := by decide +kernel
theorem dX1_moveBack_21 : decode cX1_moveBack 21 = .ok (.istore 4, 2) := by decide +kernel
theorem dX1_moveBack_23 : decode cX1_moveBack 23 = .ok (.aload_n 0, 1) := by decide +kernel
theorem dX1_moveBack_24 : decode cX1_moveBack 24 = .ok (.iconst 0, 1) := by decide +kernel
theorem dX1_moveBack_25 : decode cX1_moveBack 25 = .ok (.iload_n 2, 1) := by decide +kernel
theorem dX1_moveBack_26 : decode cX1_moveBack 26 = .ok (.invokestatic 109, 3) := by decide +kernel
theorem dX1_moveBack_29 : decode cX1_moveBack 29 = .ok (.invokevirtual 85, 3) := by decide +kernel
theorem dX1_moveBack_32 : decode cX1_moveBack 32 = .ok (.istore 5, 2) := by decide +kernel
theorem dX1_moveBack_34 : decode cX1_moveBack 34 = .ok (.iload 5, 2) := by decide +kernel
theorem dX1_moveBack_36 : decode cX1_moveBack 36 = .ok (.iload 4, 2) := by decide +kernel
theorem dX1_moveBack_38 : decode cX1_moveBack 38 = .ok (.if_icmp .ge 31, 3) := by decide +kernel
theorem dX1_moveBack_41 : decode cX1_moveBack 41 = .ok (.aload_n 0, 1) := by decide +kernel
theorem dX1_moveBack_42 : decode cX1_moveBack 42 = .ok (.iload 5, 2) := by decide +kernel
theorem dX1_moveBack_44 : decode cX1_moveBack 44 = .ok (.invokevirtual 88, 3) := by decide +kernel
theorem dX1_moveBack_47 : decode cX1_moveBack 47 = .ok (.iconst 1, 1) := by decide +kernel
theorem dX1_moveBack_48 : decode cX1_moveBack 48 = .ok (.if_icmp .ne 15, 3) := by decide +kernel
theorem dX1_moveBack_51 : decode cX1_moveBack 51 = .ok (.aload_n 0, 1) := by decide +kernel
theorem dX1_moveBack_52 : decode cX1_moveBack 52 = .ok (.getfield 21, 3) := by decide +kernel
theorem dX1_moveBack_55 : decode cX1_moveBack 55 = .ok (.iload 5, 2) := by decide +kernel
theorem dX1_moveBack_57 : decode cX1_moveBack 57 = .ok (.invokevirtual 148, 3) := by decide +kernel
theorem dX1_moveBack_60 : decode cX1_moveBack 60 = .ok (.iinc 3 1, 3) := by decide +kernel
theorem dX1_moveBack_63 : decode cX1_moveBack 63 = .ok (.iinc 5 1, 3) := by decide +kernel
theorem dX1_moveBack_66 : decode cX1_moveBack 66 = .ok (.goto (-32), 3) := by decide +kernel
theorem dX1_moveBack_69 : decode cX1_moveBack 69 = .ok (.aload_n 0, 1) := by decide +kernel
theorem dX1_moveBack_70 : decode cX1_moveBack 70 = .ok (.iload_n 2, 1) := by decide +kernel
theorem dX1_moveBack_71 : decode cX1_moveBack 71 = .ok (.putfield 42, 3) := by decide +kernel
theorem dX1_moveBack_74 : decode cX1_moveBack 74 = .ok (.aload_n 0, 1) := by decide +kernel
theorem dX1_moveBack_75 : decode cX1_moveBack 75 = .ok (.iconst 1, 1) := by decide +kernel
theorem dX1_moveBack_76 : decode cX1_moveBack 76 = .ok (.putfield 58, 3) := by decide +kernel
theorem dX1_moveBack_79 : decode cX1_moveBack 79 = .ok (.iload_n 3, 1) := by decide +kernel
theorem dX1_moveBack_80 : decode cX1_moveBack 80 = .ok (.ireturn, 1) := by decide +kernel
set_option maxRecDepth 20000 in
theorem ggX2_init_X5_init : GoodIn wsX2_init wsX5_init := goodIn_r _ [10, 11, 2, 3, 12, 13, 14, 15, 16, 17, 18, 19, 20, 21, 22] (by decide +kernel) (by decide +kernel)
set_option maxRecDepth 20000 in
theorem gX2_init_X5_init : GoodIn wsX2_init (wsX5_init) := ggX2_init_X5_init
theorem dX2_init_0 : decode cX2_init 0 = .ok (.aload_n 0, 1) := by decide +kernel
theorem dX2_init_1 : decode cX2_init 1 = .ok (.invokespecial 3, 3) := by decide +kernel
theorem dX2_init_4 : decode cX2_init 4 = .ok (.aload_n 0, 1) := by decide +kernel
theorem dX2_init_5 : decode cX2_init 5 = .ok (.new 9, 3) := by decide +kernel
theorem dX2_init_8 : decode cX2_init 8 = .ok (.dup, 1) := by decide +kernel
theorem dX2_init_9 : decode cX2_init 9 = .ok (.bipush 64, 2) := by decide +kernel
theorem dX2_init_11 : decode cX2_init 11 = .ok (.bipush 7, 2) := by decide +kernel
theorem dX2_init_13 : decode cX2_init 13 = .ok (.invokespecial 11, 3) := by decide +kernel
theorem dX2_init_16 : decode cX2_init 16 = .ok (.putfield 14, 3) := by decide +kernel
theorem dX2_init_19 : decode cX2_init 19 = .ok (.return_, 1) := by decide +kernel
set_option maxRecDepth 20000 in
theorem ggX2_copyFrom_X5_copyFrom : GoodIn wsX2_copyFrom wsX5_copyFrom := goodIn_r _ [7, 8, 9, 10, 11, 12, 15, 16, 17] (by decide +kernel) (by decide +kernel)
set_option maxRecDepth 20000 in
theorem gX2_copyFrom_X5_copyFrom : GoodIn wsX2_copyFrom (wsV RX2 20 RX5 yX5_copyFrom wsX5_copyFrom) := goodIn_app (goodIn_of _ (by decide +kernel)) ggX2_copyFrom_X5_copyFrom
theorem dX2_copyFrom_0 : decode cX2_copyFrom 0 = .ok (.aload_n 0, 1) := by decide +kernel
theorem dX2_copyFrom_1 : decode cX2_copyFrom 1 = .ok (.getfield 14, 3) := by decide +kernel
theorem dX2_copyFrom_4 : decode cX2_copyFrom 4 = .ok (.aload_n 1, 1) := by decide +kernel
theorem dX2_copyFrom_5 : decode cX2_copyFrom 5 = .ok (.getfield 14, 3) := by decide +kernel
theorem dX2_copyFrom_8 : decode cX2_copyFrom 8 = .ok (.invokevirtual 20, 3) := by decide +kernel
theorem dX2_copyFrom_11 : decode cX2_copyFrom 11 = .ok (.aload_n 0, 1) := by decide +kernel
theorem dX2_copyFrom_12 : decode cX2_copyFrom 12 = .ok (.aload_n 1, 1) := by decide +kernel
theorem dX2_copyFrom_13 : decode cX2_copyFrom 13 = .ok (.getfield 24, 3) := by decide +kernel
theorem dX2_copyFrom_16 : decode cX2_copyFrom 16 = .ok (.putfield 24, 3) := by decide +kernel
theorem dX2_copyFrom_19 : decode cX2_copyFrom 19 = .ok (.return_, 1) := by decide +kernel
set_option maxRecDepth 20000 in
theorem ggX2_hasCome_X5_get : GoodIn wsX2_hasCome wsX5_get := goodIn_r _ [6, 7, 8, 9, 12, 13, 14] (by decide +kernel) (by decide +kernel)
set_option maxRecDepth 20000 in
theorem gX2_hasCome_X5_get : GoodIn wsX2_hasCome (wsV RX2 28 RX5 yX5_get wsX5_get) := goodIn_app (goodIn_of _ (by decide +kernel)) ggX2_hasCome_X5_get
theorem dX2_hasCome_0 : decode cX2_hasCome 0 = .ok (.aload_n 0, 1) := by decide +kernel
theorem dX2_hasCome_1 : decode cX2_hasCome 1 = .ok (.getfield 14, 3) := by decide +kernel
theorem dX2_hasCome_4 : decode cX2_hasCome 4 = .ok (.iload_n 1, 1) := by decide +kernel
theorem dX2_hasCome_5 : decode cX2_hasCome 5 = .ok (.bipush 6, 2) := by decide +kernel
theorem dX2_hasCome_7 : decode cX2_hasCome 7 = .ok (.invokevirtual 28, 3) := by decide +kernel
theorem dX2_hasCome_10 : decode cX2_hasCome 10 = .ok (.iconst 1, 1) := by decide +kernel
theorem dX2_hasCome_11 : decode cX2_hasCome 11 = .ok (.if_icmp .ne 7, 3) := by decide +kernel
theorem dX2_hasCome_14 : decode cX2_hasCome 14 = .ok (.iconst 1, 1) := by decide +kernel
theorem dX2_hasCome_15 : decode cX2_hasCome 15 = .ok (.goto 4, 3) := by decide +kernel
theorem dX2_hasCome_18 : decode cX2_hasCome 18 = .ok (.iconst 0, 1) := by decide +kernel
theorem dX2_hasCome_19 : decode cX2_hasCome 19 = .ok (.ireturn, 1) := by decide +kernel
set_option maxRecDepth 20000 in
theorem ggX2_read_X2_hasCome : GoodIn wsX2_read wsX2_hasCome := goodIn_r _ [7, 1, 8, 9, 10, 11, 12, 13, 14, 15, 16, 17, 18, 19, 20] (by decide +kernel) (by decide +kernel)
set_option maxRecDepth 20000 in
theorem gX2_read_X2_hasCome : GoodIn wsX2_read (wsV RX2 32 RX2 yX2_hasCome wsX2_hasCome) := goodIn_app (goodIn_of _ (by decide +kernel)) ggX2_read_X2_hasCome
set_option maxRecDepth 20000 in
theorem ggX2_read_X5_get : GoodIn wsX2_read wsX5_get := goodIn_r _ [12, 13, 14, 15, 18, 19, 20] (by decide +kernel) (by decide +kernel)
set_option maxRecDepth 20000 in
theorem gX2_read_X5_get : GoodIn wsX2_read (wsV RX2 28 RX5 yX5_get wsX5_get) := goodIn_app (goodIn_of _ (by decide +kernel)) ggX2_read_X5_get
theorem dX2_read_0 : decode cX2_read 0 = .ok (.aload_n 0, 1) := by decide +kernel
theorem dX2_read_1 : decode cX2_read 1 = .ok (.iload_n 1, 1) := by decide +kernel
theorem dX2_read_2 : decode cX2_read 2 = .ok (.invokevirtual 32, 3) := by decide +kernel
theorem dX2_read_5 : decode cX2_read 5 = .ok (.ifCond .eq 15, 3) := by decide +kernel
theorem dX2_read_8 : decode cX2_read 8 = .ok (.aload_n 0, 1) := by decide +kernel
theorem dX2_read_9 : decode cX2_read 9 = .ok (.getfield 14, 3) := by decide +kernel
theorem dX2_read_12 : decode cX2_read 12 = .ok (.iload_n 1, 1) := by decide +kernel
theorem dX2_read_13 : decode cX2_read 13 = .ok (.iload_n 2, 1) := by decide +kernel
theorem dX2_read_14 : decode cX2_read 14 = .ok (.invokevirtual 28, 3) := by decide +kernel
theorem dX2_read_17 : decode cX2_read 17 = .ok (.goto 5, 3) := by decide +kernel
theorem dX2_read_20 : decode cX2_read 20 = .ok (.ldc 36, 2) := by decide +kernel
theorem dX2_read_22 : decode cX2_read 22 = .ok (.ireturn, 1) := by decide +kernel
set_option maxRecDepth 20000 in
theorem ggX2_enter_X5_put : GoodIn wsX2_enter wsX5_put := goodIn_r _ [6, 7, 8, 9, 12, 13, 14] (by decide +kernel) (by decide +kernel)
set_option maxRecDepth 20000 in
theorem gX2_enter_X5_put : GoodIn wsX2_enter (wsV RX2 37 RX5 yX5_put wsX5_put) := goodIn_app (goodIn_of _ (by decide +kernel)) ggX2_enter_X5_put
theorem dX2_enter_0 : decode cX2_enter 0 = .ok (.aload_n 0, 1) := by decide +kernel
theorem dX2_enter_1 : decode cX2_enter 1 = .ok (.getfield 14, 3) := by decide +kernel
theorem dX2_enter_4 : decode cX2_enter 4 = .ok (.iload_n 1, 1) := by decide +kernel
theorem dX2_enter_5 : decode cX2_enter 5 = .ok (.iconst 0, 1) := by decide +kernel
theorem dX2_enter_6 : decode cX2_enter 6 = .ok (.iload_n 2, 1) := by decide +kernel
theorem dX2_enter_7 : decode cX2_enter 7 = .ok (.invokevirtual 37, 3) := by decide +kernel
theorem dX2_enter_10 : decode cX2_enter 10 = .ok (.aload_n 0, 1) := by decide +kernel
theorem dX2_enter_11 : decode cX2_enter 11 = .ok (.getfield 14, 3) := by decide +kernel
theorem dX2_enter_14 : decode cX2_enter 14 = .ok (.iload_n 1, 1) := by decide +kernel
theorem dX2_enter_15 : decode cX2_enter 15 = .ok (.iconst 1, 1) := by decide +kernel
theorem dX2_enter_16 : decode cX2_enter 16 = .ok (.iload_n 3, 1) := by decide +kernel
theorem dX2_enter_17 : decode cX2_enter 17 = .ok (.invokevirtual 37, 3) := by decide +kernel
theorem dX2_enter_20 : decode cX2_enter 20 = .ok (.aload_n 0, 1) := by decide +kernel
theorem dX2_enter_21 : decode cX2_enter 21 = .ok (.getfield 14, 3) := by decide +kernel
theorem dX2_enter_24 : decode cX2_enter 24 = .ok (.iload_n 1, 1) := by decide +kernel
theorem dX2_enter_25 : decode cX2_enter 25 = .ok (.iconst 2, 1) := by decide +kernel
theorem dX2_enter_26 : decode cX2_enter 26 = .ok (.iload 4, 2) := by decide +kernel
theorem dX2_enter_28 : decode cX2_enter 28 = .ok (.invokevirtual 37, 3) := by decide +kernel
theorem dX2_enter_31 : decode cX2_enter 31 = .ok (.aload_n 0, 1) := by decide +kernel
theorem dX2_enter_32 : decode cX2_enter 32 = .ok (.getfield 14, 3) := by decide +kernel
theorem dX2_enter_35 : decode cX2_enter 35 = .ok (.iload_n 1, 1) := by decide +kernel
theorem dX2_enter_36 : decode cX2_enter 36 = .ok (.iconst 3, 1) := by decide +kernel
theorem dX2_enter_37 : decode cX2_enter 37 = .ok (.iload 5, 2) := by decide +kernel
theorem dX2_enter_39 : decode cX2_enter 39 = .ok (.invokevirtual 37, 3) := by decide +kernel
theorem dX2_enter_42 : decode cX2_enter 42 = .ok (.aload_n 0, 1) := by decide +kernel
theorem dX2_enter_43 : decode cX2_enter 43 = .ok (.getfield 14, 3) := by decide +kernel
theorem dX2_enter_46 : decode cX2_enter 46 = .ok (.iload_n 1, 1) := by decide +kernel
theorem dX2_enter_47 : decode cX2_enter 47 = .ok (.bipush 6, 2) := by decide +kernel
theorem dX2_enter_49 : decode cX2_enter 49 = .ok (.iconst 1, 1) := by decide +kernel
theorem dX2_enter_50 : decode cX2_enter 50 = .ok (.invokevirtual 37, 3) := by decide +kernel
theorem dX2_enter_53 : decode cX2_enter 53 = .ok (.return_, 1) := by decide +kernel
set_option maxRecDepth 20000 in
theorem ggX2_conclude_X5_put : GoodIn wsX2_conclude wsX5_put := goodIn_r _ [6, 7, 8, 9, 12, 13, 14] (by decide +kernel) (by decide +kernel)
set_option maxRecDepth 20000 in
theorem gX2_conclude_X5_put : GoodIn wsX2_conclude (wsV RX2 37 RX5 yX5_put wsX5_put) := goodIn_app (goodIn_of _ (by decide +kernel)) ggX2_conclude_X5_put
theorem dX2_conclude_0 : decode cX2_conclude 0 = .ok (.aload_n 0, 1) := by decide +kernel
theorem dX2_conclude_1 : decode cX2_conclude 1 = .ok (.getfield 14, 3) := by decide +kernel
theorem dX2_conclude_4 : decode cX2_conclude 4 = .ok (.iload_n 1, 1) := by decide +kernel
theorem dX2_conclude_5 : decode cX2_conclude 5 = .ok (.iconst 4, 1) := by decide +kernel
theorem dX2_conclude_6 : decode cX2_conclude 6 = .ok (.iload_n 2, 1) := by decide +kernel
theorem dX2_conclude_7 : decode cX2_conclude 7 = .ok (.invokevirtual 37, 3) := by decide +kernel
theorem dX2_conclude_10 : decode cX2_conclude 10 = .ok (.aload_n 0, 1) := by decide +kernel
theorem dX2_conclude_11 : decode cX2_conclude 11 = .ok (.getfield 14, 3) := by decide +kernel
theorem dX2_conclude_14 : decode cX2_conclude 14 = .ok (.iload_n 1, 1) := by decide +kernel
theorem dX2_conclude_15 : decode cX2_conclude 15 = .ok (.iconst 5, 1) := by decide +kernel
theorem dX2_conclude_16 : decode cX2_conclude 16 = .ok (.iload_n 3, 1) := by decide +kernel
theorem dX2_conclude_17 : decode cX2_conclude 17 = .ok (.invokevirtual 37, 3) := by decide +kernel
theorem dX2_conclude_20 : decode cX2_conclude 20 = .ok (.return_, 1) := by decide +kernel
theorem dX2_addDouble_0 : decode cX2_addDouble 0 = .ok (.aload_n 0, 1) := by decide +kernel
theorem dX2_addDouble_1 : decode cX2_addDouble 1 = .ok (.dup, 1) := by decide +kernel
theorem dX2_addDouble_2 : decode cX2_addDouble 2 = .ok (.getfield 24, 3) := by decide +kernel
theorem dX2_addDouble_5 : decode cX2_addDouble 5 = .ok (.iconst 1, 1) := by decide +kernel
theorem dX2_addDouble_6 : decode cX2_addDouble 6 = .ok (.iadd, 1) := by decide +kernel
theorem dX2_addDouble_7 : decode cX2_addDouble 7 = .ok (.putfield 24, 3) := by decide +kernel
theorem dX2_addDouble_10 : decode cX2_addDouble 10 = .ok (.return_, 1) := by decide +kernel
theorem dX2_doubles_0 : decode cX2_doubles 0 = .ok (.aload_n 0, 1) := by decide +kernel
theorem dX2_doubles_1 : decode cX2_doubles 1 = .ok (.getfield 24, 3) := by decide +kernel
theorem dX2_doubles_4 : decode cX2_doubles 4 = .ok (.ireturn, 1) := by decide +kernel
set_option maxRecDepth 20000 in
theorem ggX2_withOutcome_X2_hasOutcome : GoodIn wsX2_withOutcome wsX2_hasOutcome := goodIn_r _ [5, 6, 7, 8, 9, 10, 11, 12, 13, 14, 15, 16, 17, 18, 19] (by decide +kernel) (by decide +kernel)
set_option maxRecDepth 20000 in
theorem gX2_withOutcome_X2_hasOutcome : GoodIn wsX2_withOutcome (wsV RX2 41 RX2 yX2_hasOutcome wsX2_hasOutcome) := goodIn_app (goodIn_of _ (by decide +kernel)) ggX2_withOutcome_X2_hasOutcome
theorem dX2_withOutcome_0 : decode cX2_withOutcome 0 = .ok (.iconst 0, 1) := by decide +kernel
theorem dX2_withOutcome_1 : decode cX2_withOutcome 1 = .ok (.istore_n 3, 1) := by decide +kernel
theorem dX2_withOutcome_2 : decode cX2_withOutcome 2 = .ok (.iconst 0, 1) := by decide +kernel
theorem dX2_withOutcome_3 : decode cX2_withOutcome 3 = .ok (.istore 4, 2) := by decide +kernel
theorem dX2_withOutcome_5 : decode cX2_withOutcome 5 = .ok (.iload 4, 2) := by decide +kernel
theorem dX2_withOutcome_7 : decode cX2_withOutcome 7 = .ok (.bipush 63, 2) := by decide +kernel
theorem dX2_withOutcome_9 : decode cX2_withOutcome 9 = .ok (.if_icmp .gt 23, 3) := by decide +kernel
theorem dX2_withOutcome_12 : decode cX2_withOutcome 12 = .ok (.aload_n 0, 1) := by decide +kernel
theorem dX2_withOutcome_13 : decode cX2_withOutcome 13 = .ok (.iload 4, 2) := by decide +kernel
theorem dX2_withOutcome_15 : decode cX2_withOutcome 15 = .ok (.iload_n 1, 1) := by decide +kernel
theorem dX2_withOutcome_16 : decode cX2_withOutcome 16 = .ok (.iload_n 2, 1) := by decide +kernel
theorem dX2_withOutcome_17 : decode cX2_withOutcome 17 = .ok (.invokevirtual 41, 3) := by decide +kernel
theorem dX2_withOutcome_20 : decode cX2_withOutcome 20 = .ok (.ifCond .eq 6, 3) := by decide +kernel
theorem dX2_withOutcome_23 : decode cX2_withOutcome 23 = .ok (.iinc 3 1, 3) := by decide +kernel
theorem dX2_withOutcome_26 : decode cX2_withOutcome 26 = .ok (.iinc 4 1, 3) := by decide +kernel
theorem dX2_withOutcome_29 : decode cX2_withOutcome 29 = .ok (.goto (-24), 3) := by decide +kernel
theorem dX2_withOutcome_32 : decode cX2_withOutcome 32 = .ok (.iload_n 3, 1) := by decide +kernel
theorem dX2_withOutcome_33 : decode cX2_withOutcome 33 = .ok (.ireturn, 1) := by decide +kernel
set_option maxRecDepth 20000 in
theorem ggX2_hadIllness_X5_get : GoodIn wsX2_hadIllness wsX5_get := goodIn_r _ [6, 7, 8, 9, 17, 18, 19] (by decide +kernel) (by decide +kernel)
set_option maxRecDepth 20000 in
theorem gX2_hadIllness_X5_get : GoodIn wsX2_hadIllness (wsV RX2 28 RX5 yX5_get wsX5_get) := goodIn_app (goodIn_of _ (by decide +kernel)) ggX2_hadIllness_X5_get
set_option maxRecDepth 20000 in
theorem ggX2_hadIllness_X2_hasOutcome : GoodIn wsX2_hadIllness wsX2_hasOutcome := goodIn_r _ [14, 1, 2, 3, 4, 5, 6, 7, 8, 9, 15, 16, 17, 18, 19] (by decide +kernel) (by decide +kernel)
set_option maxRecDepth 20000 in
theorem gX2_hadIllness_X2_hasOutcome : GoodIn wsX2_hadIllness (wsV RX2 41 RX2 yX2_hasOutcome wsX2_hasOutcome) := goodIn_app (goodIn_of _ (by decide +kernel)) ggX2_hadIllness_X2_hasOutcome
theorem dX2_hadIllness_0 : decode cX2_hadIllness 0 = .ok (.iconst 0, 1) := by decide +kernel
theorem dX2_hadIllness_1 : decode cX2_hadIllness 1 = .ok (.istore_n 2, 1) := by decide +kernel
theorem dX2_hadIllness_2 : decode cX2_hadIllness 2 = .ok (.iload_n 2, 1) := by decide +kernel
theorem dX2_hadIllness_3 : decode cX2_hadIllness 3 = .ok (.bipush 63, 2) := by decide +kernel
theorem dX2_hadIllness_5 : decode cX2_hadIllness 5 = .ok (.if_icmp .gt 47, 3) := by decide +kernel
theorem dX2_hadIllness_8 : decode cX2_hadIllness 8 = .ok (.aload_n 0, 1) := by decide +kernel
theorem dX2_hadIllness_9 : decode cX2_hadIllness 9 = .ok (.getfield 14, 3) := by decide +kernel
theorem dX2_hadIllness_12 : decode cX2_hadIllness 12 = .ok (.iload_n 2, 1) := by decide +kernel
theorem dX2_hadIllness_13 : decode cX2_hadIllness 13 = .ok (.iconst 1, 1) := by decide +kernel
theorem dX2_hadIllness_14 : decode cX2_hadIllness 14 = .ok (.invokevirtual 28, 3) := by decide +kernel
theorem dX2_hadIllness_17 : decode cX2_hadIllness 17 = .ok (.iload_n 1, 1) := by decide +kernel
theorem dX2_hadIllness_18 : decode cX2_hadIllness 18 = .ok (.if_icmp .ne 28, 3) := by decide +kernel
theorem dX2_hadIllness_21 : decode cX2_hadIllness 21 = .ok (.aload_n 0, 1) := by decide +kernel
theorem dX2_hadIllness_22 : decode cX2_hadIllness 22 = .ok (.getfield 14, 3) := by decide +kernel
theorem dX2_hadIllness_25 : decode cX2_hadIllness 25 = .ok (.iload_n 2, 1) := by decide +kernel
theorem dX2_hadIllness_26 : decode cX2_hadIllness 26 = .ok (.iconst 3, 1) := by decide +kernel
theorem dX2_hadIllness_27 : decode cX2_hadIllness 27 = .ok (.invokevirtual 28, 3) := by decide +kernel
theorem dX2_hadIllness_30 : decode cX2_hadIllness 30 = .ok (.iconst 2, 1) := by decide +kernel
theorem dX2_hadIllness_31 : decode cX2_hadIllness 31 = .ok (.if_icmp .ne 15, 3) := by decide +kernel
theorem dX2_hadIllness_34 : decode cX2_hadIllness 34 = .ok (.aload_n 0, 1) := by decide +kernel
theorem dX2_hadIllness_35 : decode cX2_hadIllness 35 = .ok (.iload_n 2, 1) := by decide +kernel
theorem dX2_hadIllness_36 : decode cX2_hadIllness 36 = .ok (.iconst 1, 1) := by decide +kernel
theorem dX2_hadIllness_37 : decode cX2_hadIllness 37 = .ok (.iconst 1, 1) := by decide +kernel
theorem dX2_hadIllness_38 : decode cX2_hadIllness 38 = .ok (.invokevirtual 41, 3) := by decide +kernel
theorem dX2_hadIllness_41 : decode cX2_hadIllness 41 = .ok (.ifCond .eq 5, 3) := by decide +kernel
theorem dX2_hadIllness_44 : decode cX2_hadIllness 44 = .ok (.iconst 1, 1) := by decide +kernel
theorem dX2_hadIllness_45 : decode cX2_hadIllness 45 = .ok (.ireturn, 1) := by decide +kernel
theorem dX2_hadIllness_46 : decode cX2_hadIllness 46 = .ok (.iinc 2 1, 3) := by decide +kernel
theorem dX2_hadIllness_49 : decode cX2_hadIllness 49 = .ok (.goto (-47), 3) := by decide +kernel
theorem dX2_hadIllness_52 : decode cX2_hadIllness 52 = .ok (.iconst 0, 1) := by decide +kernel
theorem dX2_hadIllness_53 : decode cX2_hadIllness 53 = .ok (.ireturn, 1) := by decide +kernel
set_option maxRecDepth 20000 in
theorem ggX2_hasOutcome_X5_get : GoodIn wsX2_hasOutcome wsX5_get := goodIn_r _ [6, 7, 8, 9, 12, 13, 14] (by decide +kernel) (by decide +kernel)
set_option maxRecDepth 20000 in
theorem gX2_hasOutcome_X5_get : GoodIn wsX2_hasOutcome (wsV RX2 28 RX5 yX5_get wsX5_get) := goodIn_app (goodIn_of _ (by decide +kernel)) ggX2_hasOutcome_X5_get
theorem dX2_hasOutcome_0 : decode cX2_hasOutcome 0 = .ok (.aload_n 0, 1) := by decide +kernel
theorem dX2_hasOutcome_1 : decode cX2_hasOutcome 1 = .ok (.getfield 14, 3) := by decide +kernel
theorem dX2_hasOutcome_4 : decode cX2_hasOutcome 4 = .ok (.iload_n 1, 1) := by decide +kernel
theorem dX2_hasOutcome_5 : decode cX2_hasOutcome 5 = .ok (.iconst 4, 1) := by decide +kernel
theorem dX2_hasOutcome_6 : decode cX2_hasOutcome 6 = .ok (.invokevirtual 28, 3) := by decide +kernel
theorem dX2_hasOutcome_9 : decode cX2_hasOutcome 9 = .ok (.istore 4, 2) := by decide +kernel
theorem dX2_hasOutcome_11 : decode cX2_hasOutcome 11 = .ok (.aload_n 0, 1) := by decide +kernel
theorem dX2_hasOutcome_12 : decode cX2_hasOutcome 12 = .ok (.getfield 14, 3) := by decide +kernel
theorem dX2_hasOutcome_15 : decode cX2_hasOutcome 15 = .ok (.iload_n 1, 1) := by decide +kernel
theorem dX2_hasOutcome_16 : decode cX2_hasOutcome 16 = .ok (.bipush 6, 2) := by decide +kernel
theorem dX2_hasOutcome_18 : decode cX2_hasOutcome 18 = .ok (.invokevirtual 28, 3) := by decide +kernel
theorem dX2_hasOutcome_21 : decode cX2_hasOutcome 21 = .ok (.iconst 1, 1) := by decide +kernel
theorem dX2_hasOutcome_22 : decode cX2_hasOutcome 22 = .ok (.if_icmp .ne 19, 3) := by decide +kernel
theorem dX2_hasOutcome_25 : decode cX2_hasOutcome 25 = .ok (.iload 4, 2) := by decide +kernel
theorem dX2_hasOutcome_27 : decode cX2_hasOutcome 27 = .ok (.iload_n 2, 1) := by decide +kernel
theorem dX2_hasOutcome_28 : decode cX2_hasOutcome 28 = .ok (.if_icmp .lt 13, 3) := by decide +kernel
theorem dX2_hasOutcome_31 : decode cX2_hasOutcome 31 = .ok (.iload 4, 2) := by decide +kernel
theorem dX2_hasOutcome_33 : decode cX2_hasOutcome 33 = .ok (.iload_n 3, 1) := by decide +kernel
theorem dX2_hasOutcome_34 : decode cX2_hasOutcome 34 = .ok (.if_icmp .gt 7, 3) := by decide +kernel
theorem dX2_hasOutcome_37 : decode cX2_hasOutcome 37 = .ok (.iconst 1, 1) := by decide +kernel
theorem dX2_hasOutcome_38 : decode cX2_hasOutcome 38 = .ok (.goto 4, 3) := by decide +kernel
theorem dX2_hasOutcome_41 : decode cX2_hasOutcome 41 = .ok (.iconst 0, 1) := by decide +kernel
theorem dX2_hasOutcome_42 : decode cX2_hasOutcome 42 = .ok (.ireturn, 1) := by decide +kernel
theorem dX3_init_0 : decode cX3_init 0 = .ok (.aload_n 0, 1) := by decide +kernel
theorem dX3_init_1 : decode cX3_init 1 = .ok (.invokespecial 1, 3) := by decide +kernel
theorem dX3_init_4 : decode cX3_init 4 = .ok (.aload_n 0, 1) := by decide +kernel
theorem dX3_init_5 : decode cX3_init 5 = .ok (.iconst 4, 1) := by decide +kernel
theorem dX3_init_6 : decode cX3_init 6 = .ok (.anewarray 9, 3) := by decide +kernel
theorem dX3_init_9 : decode cX3_init 9 = .ok (.putfield 11, 3) := by decide +kernel
theorem dX3_init_12 : decode cX3_init 12 = .ok (.return_, 1) := by decide +kernel
theorem dX3_states_0 : decode cX3_states 0 = .ok (.aload_n 0, 1) := by decide +kernel
theorem dX3_states_1 : decode cX3_states 1 = .ok (.getfield 15, 3) := by decide +kernel
theorem dX3_states_4 : decode cX3_states 4 = .ok (.ireturn, 1) := by decide +kernel
set_option maxRecDepth 20000 in
theorem ggX3_keep_X1_init : GoodIn wsX3_keep wsX1_init := goodIn_r _ [8, 9, 10, 11, 12, 13, 14, 15, 16, 17, 18, 19, 20, 21, 22, 23, 24, 25, 26, 27, 28, 29, 30, 31, 32, 33, 34, 35, 36, 37, 38, 39, 40, 41, 42, 43, 44, 45, 46, 47, 48, 49, 50, 51, 52, 53, 54, 55, 56, 57, 58, 59, 60, 61, 62, 63, 64, 65, 66, 67, 68, 69, 119, 120, 110, 111, 112, 113, 114, 115, 116, 117, 118, 121, 122, 123, 124, 125, 126, 127, 128, 129, 130, 131] (by decide +kernel) (by decide +kernel)
set_option maxRecDepth 20000 in
theorem gX3_keep_X1_init_n22 : GoodIn wsX3_keep (wsX1_init) := ggX3_keep_X1_init
set_option maxRecDepth 20000 in
theorem ggX3_keep_X1_copyFrom : GoodIn wsX3_keep wsX1_copyFrom := goodIn_r _ [73, 15, 19, 23, 24, 25, 26, 27, 28, 74, 75, 76, 77, 14, 78, 35, 79, 80, 81, 82, 34, 83, 47, 84, 85, 86, 87, 88, 89, 90, 18, 91, 52, 56, 92, 93, 94, 95, 96, 55, 97, 62, 98, 99, 100, 101, 102, 103, 104, 22, 105, 68, 106, 110, 111, 112, 113, 114, 115, 116, 117, 118, 119, 120, 125, 126, 127, 121, 122, 123, 128, 129, 130, 131, 124] (by decide +kernel) (by decide +kernel)
set_option maxRecDepth 20000 in
theorem gX3_keep_X1_copyFrom : GoodIn wsX3_keep (wsV RX3 23 RX1 yX1_copyFrom wsX1_copyFrom) := goodIn_app (goodIn_of _ (by decide +kernel)) ggX3_keep_X1_copyFrom
theorem dX3_keep_0 : decode cX3_keep 0 = .ok (.aload_n 0, 1) := by decide +kernel
theorem dX3_keep_1 : decode cX3_keep 1 = .ok (.getfield 15, 3) := by decide +kernel
theorem dX3_keep_4 : decode cX3_keep 4 = .ok (.iconst 4, 1) := by decide +kernel
theorem dX3_keep_5 : decode cX3_keep 5 = .ok (.if_icmp .ne 25, 3) := by decide +kernel
theorem dX3_keep_8 : decode cX3_keep 8 = .ok (.aload_n 0, 1) := by decide +kernel
theorem dX3_keep_9 : decode cX3_keep 9 = .ok (.aload_n 0, 1) := by decide +kernel
theorem dX3_keep_10 : decode cX3_keep 10 = .ok (.getfield 19, 3) := by decide +kernel
theorem dX3_keep_13 : decode cX3_keep 13 = .ok (.iconst 1, 1) := by decide +kernel
theorem dX3_keep_14 : decode cX3_keep 14 = .ok (.iadd, 1) := by decide +kernel
theorem dX3_keep_15 : decode cX3_keep 15 = .ok (.iconst 4, 1) := by decide +kernel
theorem dX3_keep_16 : decode cX3_keep 16 = .ok (.irem, 1) := by decide +kernel
theorem dX3_keep_17 : decode cX3_keep 17 = .ok (.putfield 19, 3) := by decide +kernel
theorem dX3_keep_20 : decode cX3_keep 20 = .ok (.aload_n 0, 1) := by decide +kernel
theorem dX3_keep_21 : decode cX3_keep 21 = .ok (.dup, 1) := by decide +kernel
theorem dX3_keep_22 : decode cX3_keep 22 = .ok (.getfield 15, 3) := by decide +kernel
theorem dX3_keep_25 : decode cX3_keep 25 = .ok (.iconst 1, 1) := by decide +kernel
theorem dX3_keep_26 : decode cX3_keep 26 = .ok (.isub, 1) := by decide +kernel
theorem dX3_keep_27 : decode cX3_keep 27 = .ok (.putfield 15, 3) := by decide +kernel
theorem dX3_keep_30 : decode cX3_keep 30 = .ok (.aload_n 0, 1) := by decide +kernel
theorem dX3_keep_31 : decode cX3_keep 31 = .ok (.getfield 19, 3) := by decide +kernel
theorem dX3_keep_34 : decode cX3_keep 34 = .ok (.aload_n 0, 1) := by decide +kernel
theorem dX3_keep_35 : decode cX3_keep 35 = .ok (.getfield 15, 3) := by decide +kernel
theorem dX3_keep_38 : decode cX3_keep 38 = .ok (.iadd, 1) := by decide +kernel
theorem dX3_keep_39 : decode cX3_keep 39 = .ok (.iconst 4, 1) := by decide +kernel
theorem dX3_keep_40 : decode cX3_keep 40 = .ok (.irem, 1) := by decide +kernel
theorem dX3_keep_41 : decode cX3_keep 41 = .ok (.istore_n 2, 1) := by decide +kernel
theorem dX3_keep_42 : decode cX3_keep 42 = .ok (.iload_n 2, 1) := by decide +kernel
theorem dX3_keep_43 : decode cX3_keep 43 = .ok (.ifCond .lt 53, 3) := by decide +kernel
theorem dX3_keep_46 : decode cX3_keep 46 = .ok (.iload_n 2, 1) := by decide +kernel
theorem dX3_keep_47 : decode cX3_keep 47 = .ok (.aload_n 0, 1) := by decide +kernel
theorem dX3_keep_48 : decode cX3_keep 48 = .ok (.getfield 11, 3) := by decide +kernel
theorem dX3_keep_51 : decode cX3_keep 51 = .ok (.arraylength, 1) := by decide +kernel
theorem dX3_keep_52 : decode cX3_keep 52 = .ok (.if_icmp .ge 44, 3) := by decide +kernel
theorem dX3_keep_55 : decode cX3_keep 55 = .ok (.aload_n 0, 1) := by decide +kernel
theorem dX3_keep_56 : decode cX3_keep 56 = .ok (.getfield 11, 3) := by decide +kernel
theorem dX3_keep_59 : decode cX3_keep 59 = .ok (.iload_n 2, 1) := by decide +kernel
theorem dX3_keep_60 : decode cX3_keep 60 = .ok (.aaload, 1) := by decide +kernel
theorem dX3_keep_61 : decode cX3_keep 61 = .ok (.astore_n 3, 1) := by decide +kernel
theorem dX3_keep_62 : decode cX3_keep 62 = .ok (.aload_n 3, 1) := by decide +kernel
theorem dX3_keep_63 : decode cX3_keep 63 = .ok (.ifnonnull 18, 3) := by decide +kernel
theorem dX3_keep_66 : decode cX3_keep 66 = .ok (.new 9, 3) := by decide +kernel
theorem dX3_keep_69 : decode cX3_keep 69 = .ok (.dup, 1) := by decide +kernel
theorem dX3_keep_70 : decode cX3_keep 70 = .ok (.invokespecial 22, 3) := by decide +kernel
theorem dX3_keep_73 : decode cX3_keep 73 = .ok (.astore_n 3, 1) := by decide +kernel
theorem dX3_keep_74 : decode cX3_keep 74 = .ok (.aload_n 0, 1) := by decide +kernel
theorem dX3_keep_75 : decode cX3_keep 75 = .ok (.getfield 11, 3) := by decide +kernel
theorem dX3_keep_78 : decode cX3_keep 78 = .ok (.iload_n 2, 1) := by decide +kernel
theorem dX3_keep_79 : decode cX3_keep 79 = .ok (.aload_n 3, 1) := by decide +kernel
theorem dX3_keep_80 : decode cX3_keep 80 = .ok (.aastore, 1) := by decide +kernel
theorem dX3_keep_81 : decode cX3_keep 81 = .ok (.aload_n 3, 1) := by decide +kernel
theorem dX3_keep_82 : decode cX3_keep 82 = .ok (.aload_n 1, 1) := by decide +kernel
theorem dX3_keep_83 : decode cX3_keep 83 = .ok (.invokevirtual 23, 3) := by decide +kernel
theorem dX3_keep_86 : decode cX3_keep 86 = .ok (.aload_n 0, 1) := by decide +kernel
theorem dX3_keep_87 : decode cX3_keep 87 = .ok (.dup, 1) := by decide +kernel
theorem dX3_keep_88 : decode cX3_keep 88 = .ok (.getfield 15, 3) := by decide +kernel
theorem dX3_keep_91 : decode cX3_keep 91 = .ok (.iconst 1, 1) := by decide +kernel
theorem dX3_keep_92 : decode cX3_keep 92 = .ok (.iadd, 1) := by decide +kernel
theorem dX3_keep_93 : decode cX3_keep 93 = .ok (.putfield 15, 3) := by decide +kernel
theorem dX3_keep_96 : decode cX3_keep 96 = .ok (.return_, 1) := by decide +kernel
set_option maxRecDepth 20000 in
theorem ggX3_restore_X1_copyFrom : GoodIn wsX3_restore wsX1_copyFrom := goodIn_r _ [8, 9, 10, 11, 12, 13, 14, 15, 16, 17, 18, 19, 20, 21, 22, 23, 24, 25, 26, 27, 28, 29, 30, 31, 32, 33, 34, 35, 36, 37, 38, 39, 40, 41, 42, 43, 44, 45, 46, 47, 48, 49, 50, 51, 52, 53, 54, 55, 56, 57, 58, 59, 60, 64, 65, 66, 67, 68, 69, 70, 71, 72, 73, 74, 75, 76, 77, 78, 79, 80, 81, 82, 83, 84, 85] (by decide +kernel) (by decide +kernel)
set_option maxRecDepth 20000 in
theorem gX3_restore_X1_copyFrom : GoodIn wsX3_restore (wsV RX3 23 RX1 yX1_copyFrom wsX1_copyFrom) := goodIn_app (goodIn_of _ (by decide +kernel)) ggX3_restore_X1_copyFrom
theorem dX3_restore_0 : decode cX3_restore 0 = .ok (.aload_n 0, 1) := by decide +kernel
theorem dX3_restore_1 : decode cX3_restore 1 = .ok (.getfield 19, 3) := by decide +kernel
theorem dX3_restore_4 : decode cX3_restore 4 = .ok (.aload_n 0, 1) := by decide +kernel
theorem dX3_restore_5 : decode cX3_restore 5 = .ok (.getfield 15, 3) := by decide +kernel
theorem dX3_restore_8 : decode cX3_restore 8 = .ok (.iadd, 1) := by decide +kernel
theorem dX3_restore_9 : decode cX3_restore 9 = .ok (.iconst 1, 1) := by decide +kernel
theorem dX3_restore_10 : decode cX3_restore 10 = .ok (.isub, 1) := by decide +kernel
theorem dX3_restore_11 : decode cX3_restore 11 = .ok (.iconst 4, 1) := by decide +kernel
theorem dX3_restore_12 : decode cX3_restore 12 = .ok (.irem, 1) := by decide +kernel
theorem dX3_restore_13 : decode cX3_restore 13 = .ok (.istore_n 2, 1) := by decide +kernel
theorem dX3_restore_14 : decode cX3_restore 14 = .ok (.aload_n 0, 1) := by decide +kernel
theorem dX3_restore_15 : decode cX3_restore 15 = .ok (.getfield 15, 3) := by decide +kernel
theorem dX3_restore_18 : decode cX3_restore 18 = .ok (.ifCond .le 42, 3) := by decide +kernel
theorem dX3_restore_21 : decode cX3_restore 21 = .ok (.iload_n 2, 1) := by decide +kernel
theorem dX3_restore_22 : decode cX3_restore 22 = .ok (.ifCond .lt 38, 3) := by decide +kernel
theorem dX3_restore_25 : decode cX3_restore 25 = .ok (.iload_n 2, 1) := by decide +kernel
theorem dX3_restore_26 : decode cX3_restore 26 = .ok (.aload_n 0, 1) := by decide +kernel
theorem dX3_restore_27 : decode cX3_restore 27 = .ok (.getfield 11, 3) := by decide +kernel
theorem dX3_restore_30 : decode cX3_restore 30 = .ok (.arraylength, 1) := by decide +kernel
theorem dX3_restore_31 : decode cX3_restore 31 = .ok (.if_icmp .ge 29, 3) := by decide +kernel
theorem dX3_restore_34 : decode cX3_restore 34 = .ok (.aload_n 0, 1) := by decide +kernel
theorem dX3_restore_35 : decode cX3_restore 35 = .ok (.getfield 11, 3) := by decide +kernel
theorem dX3_restore_38 : decode cX3_restore 38 = .ok (.iload_n 2, 1) := by decide +kernel
theorem dX3_restore_39 : decode cX3_restore 39 = .ok (.aaload, 1) := by decide +kernel
theorem dX3_restore_40 : decode cX3_restore 40 = .ok (.astore_n 3, 1) := by decide +kernel
theorem dX3_restore_41 : decode cX3_restore 41 = .ok (.aload_n 3, 1) := by decide +kernel
theorem dX3_restore_42 : decode cX3_restore 42 = .ok (.ifnull 8, 3) := by decide +kernel
theorem dX3_restore_45 : decode cX3_restore 45 = .ok (.aload_n 1, 1) := by decide +kernel
theorem dX3_restore_46 : decode cX3_restore 46 = .ok (.aload_n 3, 1) := by decide +kernel
theorem dX3_restore_47 : decode cX3_restore 47 = .ok (.invokevirtual 23, 3) := by decide +kernel
theorem dX3_restore_50 : decode cX3_restore 50 = .ok (.aload_n 0, 1) := by decide +kernel
theorem dX3_restore_51 : decode cX3_restore 51 = .ok (.dup, 1) := by decide +kernel
theorem dX3_restore_52 : decode cX3_restore 52 = .ok (.getfield 15, 3) := by decide +kernel
theorem dX3_restore_55 : decode cX3_restore 55 = .ok (.iconst 1, 1) := by decide +kernel
theorem dX3_restore_56 : decode cX3_restore 56 = .ok (.isub, 1) := by decide +kernel
theorem dX3_restore_57 : decode cX3_restore 57 = .ok (.putfield 15, 3) := by decide +kernel
theorem dX3_restore_60 : decode cX3_restore 60 = .ok (.return_, 1) := by decide +kernel
set_option maxRecDepth 20000 in
theorem ggX4_init_X5_init : GoodIn wsX4_init wsX5_init := goodIn_r _ [14, 15, 2, 3, 16, 17, 18, 19, 20, 21, 22, 23, 30, 31, 32] (by decide +kernel) (by decide +kernel)
set_option maxRecDepth 20000 in
theorem gX4_init_X5_init : GoodIn wsX4_init (wsX5_init) := ggX4_init_X5_init
set_option maxRecDepth 20000 in
theorem ggX4_init_X7_init : GoodIn wsX4_init wsX7_init := goodIn_r _ [25, 26, 2, 3, 27, 5, 6, 28, 29, 13, 14, 15, 16, 17, 18, 19, 20, 21, 22, 23, 30, 31, 32, 36, 37, 38, 39] (by decide +kernel) (by decide +kernel)
set_option maxRecDepth 20000 in
theorem gX4_init_X7_init_n22 : GoodIn wsX4_init (wsX7_init) := ggX4_init_X7_init
theorem dX4_init_0 : decode cX4_init 0 = .ok (.aload_n 0, 1) := by decide +kernel
theorem dX4_init_1 : decode cX4_init 1 = .ok (.invokespecial 3, 3) := by decide +kernel
theorem dX4_init_4 : decode cX4_init 4 = .ok (.aload_n 0, 1) := by decide +kernel
theorem dX4_init_5 : decode cX4_init 5 = .ok (.new 9, 3) := by decide +kernel
theorem dX4_init_8 : decode cX4_init 8 = .ok (.dup, 1) := by decide +kernel
theorem dX4_init_9 : decode cX4_init 9 = .ok (.bipush 64, 2) := by decide +kernel
theorem dX4_init_11 : decode cX4_init 11 = .ok (.bipush 8, 2) := by decide +kernel
theorem dX4_init_13 : decode cX4_init 13 = .ok (.invokespecial 13, 3) := by decide +kernel
theorem dX4_init_16 : decode cX4_init 16 = .ok (.putfield 16, 3) := by decide +kernel
theorem dX4_init_19 : decode cX4_init 19 = .ok (.aload_n 0, 1) := by decide +kernel
theorem dX4_init_20 : decode cX4_init 20 = .ok (.new 20, 3) := by decide +kernel
theorem dX4_init_23 : decode cX4_init 23 = .ok (.dup, 1) := by decide +kernel
theorem dX4_init_24 : decode cX4_init 24 = .ok (.invokespecial 22, 3) := by decide +kernel
theorem dX4_init_27 : decode cX4_init 27 = .ok (.putfield 23, 3) := by decide +kernel
theorem dX4_init_30 : decode cX4_init 30 = .ok (.return_, 1) := by decide +kernel
theorem dX4_words_0 : decode cX4_words 0 = .ok (.aload_n 0, 1) := by decide +kernel
theorem dX4_words_1 : decode cX4_words 1 = .ok (.getfield 23, 3) := by decide +kernel
theorem dX4_words_4 : decode cX4_words 4 = .ok (.areturn, 1) := by decide +kernel
set_option maxRecDepth 20000 in
theorem ggX4_copyFrom_X5_copyFrom : GoodIn wsX4_copyFrom wsX5_copyFrom := goodIn_r _ [8, 9, 10, 11, 12, 13, 27, 28, 29] (by decide +kernel) (by decide +kernel)
set_option maxRecDepth 20000 in
theorem gX4_copyFrom_X5_copyFrom : GoodIn wsX4_copyFrom (wsV RX4 27 RX5 yX5_copyFrom wsX5_copyFrom) := goodIn_app (goodIn_of _ (by decide +kernel)) ggX4_copyFrom_X5_copyFrom
set_option maxRecDepth 20000 in
theorem ggX4_copyFrom_X7_copyFrom : GoodIn wsX4_copyFrom wsX7_copyFrom := goodIn_r _ [18, 19, 20, 21, 22, 23, 5, 6, 7, 8, 9, 10, 11, 12, 13, 30, 31, 32, 33, 27, 28, 29] (by decide +kernel) (by decide +kernel)
set_option maxRecDepth 20000 in
theorem gX4_copyFrom_X7_copyFrom : GoodIn wsX4_copyFrom (wsV RX4 31 RX7 yX7_copyFrom wsX7_copyFrom) := goodIn_app (goodIn_of _ (by decide +kernel)) ggX4_copyFrom_X7_copyFrom
theorem dX4_copyFrom_0 : decode cX4_copyFrom 0 = .ok (.aload_n 0, 1) := by decide +kernel
theorem dX4_copyFrom_1 : decode cX4_copyFrom 1 = .ok (.getfield 16, 3) := by decide +kernel
theorem dX4_copyFrom_4 : decode cX4_copyFrom 4 = .ok (.aload_n 1, 1) := by decide +kernel
theorem dX4_copyFrom_5 : decode cX4_copyFrom 5 = .ok (.getfield 16, 3) := by decide +kernel
theorem dX4_copyFrom_8 : decode cX4_copyFrom 8 = .ok (.invokevirtual 27, 3) := by decide +kernel
theorem dX4_copyFrom_11 : decode cX4_copyFrom 11 = .ok (.aload_n 0, 1) := by decide +kernel
theorem dX4_copyFrom_12 : decode cX4_copyFrom 12 = .ok (.getfield 23, 3) := by decide +kernel
theorem dX4_copyFrom_15 : decode cX4_copyFrom 15 = .ok (.aload_n 1, 1) := by decide +kernel
theorem dX4_copyFrom_16 : decode cX4_copyFrom 16 = .ok (.getfield 23, 3) := by decide +kernel
theorem dX4_copyFrom_19 : decode cX4_copyFrom 19 = .ok (.invokevirtual 31, 3) := by decide +kernel
theorem dX4_copyFrom_22 : decode cX4_copyFrom 22 = .ok (.aload_n 0, 1) := by decide +kernel
theorem dX4_copyFrom_23 : decode cX4_copyFrom 23 = .ok (.aload_n 1, 1) := by decide +kernel
theorem dX4_copyFrom_24 : decode cX4_copyFrom 24 = .ok (.getfield 34, 3) := by decide +kernel
theorem dX4_copyFrom_27 : decode cX4_copyFrom 27 = .ok (.putfield 34, 3) := by decide +kernel
theorem dX4_copyFrom_30 : decode cX4_copyFrom 30 = .ok (.return_, 1) := by decide +kernel
set_option maxRecDepth 20000 in
theorem ggX4_rowOf_X5_get : GoodIn wsX4_rowOf wsX5_get := goodIn_r _ [7, 8, 9, 10, 14, 15, 16] (by decide +kernel) (by decide +kernel)
set_option maxRecDepth 20000 in
theorem gX4_rowOf_X5_get : GoodIn wsX4_rowOf (wsV RX4 38 RX5 yX5_get wsX5_get) := goodIn_app (goodIn_of _ (by decide +kernel)) ggX4_rowOf_X5_get
theorem dX4_rowOf_0 : decode cX4_rowOf 0 = .ok (.iconst 0, 1) := by decide +kernel
theorem dX4_rowOf_1 : decode cX4_rowOf 1 = .ok (.istore_n 2, 1) := by decide +kernel
theorem dX4_rowOf_2 : decode cX4_rowOf 2 = .ok (.iload_n 2, 1) := by decide +kernel
theorem dX4_rowOf_3 : decode cX4_rowOf 3 = .ok (.aload_n 0, 1) := by decide +kernel
theorem dX4_rowOf_4 : decode cX4_rowOf 4 = .ok (.getfield 34, 3) := by decide +kernel
theorem dX4_rowOf_7 : decode cX4_rowOf 7 = .ok (.if_icmp .ge 25, 3) := by decide +kernel
theorem dX4_rowOf_10 : decode cX4_rowOf 10 = .ok (.aload_n 0, 1) := by decide +kernel
theorem dX4_rowOf_11 : decode cX4_rowOf 11 = .ok (.getfield 16, 3) := by decide +kernel
theorem dX4_rowOf_14 : decode cX4_rowOf 14 = .ok (.iload_n 2, 1) := by decide +kernel
theorem dX4_rowOf_15 : decode cX4_rowOf 15 = .ok (.bipush 7, 2) := by decide +kernel
theorem dX4_rowOf_17 : decode cX4_rowOf 17 = .ok (.invokevirtual 38, 3) := by decide +kernel
theorem dX4_rowOf_20 : decode cX4_rowOf 20 = .ok (.iload_n 1, 1) := by decide +kernel
theorem dX4_rowOf_21 : decode cX4_rowOf 21 = .ok (.if_icmp .ne 5, 3) := by decide +kernel
theorem dX4_rowOf_24 : decode cX4_rowOf 24 = .ok (.iload_n 2, 1) := by decide +kernel
theorem dX4_rowOf_25 : decode cX4_rowOf 25 = .ok (.ireturn, 1) := by decide +kernel
theorem dX4_rowOf_26 : decode cX4_rowOf 26 = .ok (.iinc 2 1, 3) := by decide +kernel
theorem dX4_rowOf_29 : decode cX4_rowOf 29 = .ok (.goto (-27), 3) := by decide +kernel
theorem dX4_rowOf_32 : decode cX4_rowOf 32 = .ok (.iconst (-1), 1) := by decide +kernel
theorem dX4_rowOf_33 : decode cX4_rowOf 33 = .ok (.ireturn, 1) := by decide +kernel
set_option maxRecDepth 20000 in
theorem ggX4_rowBehind_X5_get : GoodIn wsX4_rowBehind wsX5_get := goodIn_r _ [7, 8, 9, 10, 14, 15, 16] (by decide +kernel) (by decide +kernel)
set_option maxRecDepth 20000 in
theorem gX4_rowBehind_X5_get : GoodIn wsX4_rowBehind (wsV RX4 38 RX5 yX5_get wsX5_get) := goodIn_app (goodIn_of _ (by decide +kernel)) ggX4_rowBehind_X5_get
theorem dX4_rowBehind_0 : decode cX4_rowBehind 0 = .ok (.iconst 0, 1) := by decide +kernel
theorem dX4_rowBehind_1 : decode cX4_rowBehind 1 = .ok (.istore_n 2, 1) := by decide +kernel
theorem dX4_rowBehind_2 : decode cX4_rowBehind 2 = .ok (.iload_n 2, 1) := by decide +kernel
theorem dX4_rowBehind_3 : decode cX4_rowBehind 3 = .ok (.aload_n 0, 1) := by decide +kernel
theorem dX4_rowBehind_4 : decode cX4_rowBehind 4 = .ok (.getfield 34, 3) := by decide +kernel
theorem dX4_rowBehind_7 : decode cX4_rowBehind 7 = .ok (.if_icmp .ge 23, 3) := by decide +kernel
theorem dX4_rowBehind_10 : decode cX4_rowBehind 10 = .ok (.aload_n 0, 1) := by decide +kernel
theorem dX4_rowBehind_11 : decode cX4_rowBehind 11 = .ok (.getfield 16, 3) := by decide +kernel
theorem dX4_rowBehind_14 : decode cX4_rowBehind 14 = .ok (.iload_n 2, 1) := by decide +kernel
theorem dX4_rowBehind_15 : decode cX4_rowBehind 15 = .ok (.bipush 7, 2) := by decide +kernel
theorem dX4_rowBehind_17 : decode cX4_rowBehind 17 = .ok (.invokevirtual 38, 3) := by decide +kernel
theorem dX4_rowBehind_20 : decode cX4_rowBehind 20 = .ok (.iload_n 1, 1) := by decide +kernel
theorem dX4_rowBehind_21 : decode cX4_rowBehind 21 = .ok (.if_icmp .gt 9, 3) := by decide +kernel
theorem dX4_rowBehind_24 : decode cX4_rowBehind 24 = .ok (.iinc 2 1, 3) := by decide +kernel
theorem dX4_rowBehind_27 : decode cX4_rowBehind 27 = .ok (.goto (-25), 3) := by decide +kernel
theorem dX4_rowBehind_30 : decode cX4_rowBehind 30 = .ok (.iload_n 2, 1) := by decide +kernel
theorem dX4_rowBehind_31 : decode cX4_rowBehind 31 = .ok (.ireturn, 1) := by decide +kernel
set_option maxRecDepth 20000 in
theorem ggX4_rowMadeFor_X4_rowOf : GoodIn wsX4_rowMadeFor wsX4_rowOf := goodIn_r _ [7, 1, 2, 8, 9, 10, 11, 12, 13, 14, 15, 33, 34, 35, 36, 37, 38] (by decide +kernel) (by decide +kernel)
set_option maxRecDepth 20000 in
theorem gX4_rowMadeFor_X4_rowOf : GoodIn wsX4_rowMadeFor (wsV RX4 42 RX4 yX4_rowOf wsX4_rowOf) := goodIn_app (goodIn_of _ (by decide +kernel)) ggX4_rowMadeFor_X4_rowOf
set_option maxRecDepth 20000 in
theorem ggX4_rowMadeFor_X4_rowBehind : GoodIn wsX4_rowMadeFor wsX4_rowBehind := goodIn_r _ [19, 1, 2, 8, 9, 10, 11, 12, 13, 14, 15, 33, 34, 35, 36, 37, 38] (by decide +kernel) (by decide +kernel)
set_option maxRecDepth 20000 in
theorem gX4_rowMadeFor_X4_rowBehind : GoodIn wsX4_rowMadeFor (wsV RX4 46 RX4 yX4_rowBehind wsX4_rowBehind) := goodIn_app (goodIn_of _ (by decide +kernel)) ggX4_rowMadeFor_X4_rowBehind
set_option maxRecDepth 20000 in
theorem ggX4_rowMadeFor_X5_openRow : GoodIn wsX4_rowMadeFor wsX5_openRow := goodIn_r _ [23, 14, 13, 15, 24, 25, 26, 27, 28, 29, 30, 11, 31, 36, 37, 38] (by decide +kernel) (by decide +kernel)
set_option maxRecDepth 20000 in
theorem gX4_rowMadeFor_X5_openRow : GoodIn wsX4_rowMadeFor (wsV RX4 49 RX5 yX5_openRow wsX5_openRow) := goodIn_app (goodIn_of _ (by decide +kernel)) ggX4_rowMadeFor_X5_openRow
set_option maxRecDepth 20000 in
theorem ggX4_rowMadeFor_X5_put : GoodIn wsX4_rowMadeFor wsX5_put := goodIn_r _ [31, 13, 14, 15, 36, 37, 38] (by decide +kernel) (by decide +kernel)
set_option maxRecDepth 20000 in
theorem gX4_rowMadeFor_X5_put : GoodIn wsX4_rowMadeFor (wsV RX4 53 RX5 yX5_put wsX5_put) := goodIn_app (goodIn_of _ (by decide +kernel)) ggX4_rowMadeFor_X5_put
theorem dX4_rowMadeFor_0 : decode cX4_rowMadeFor 0 = .ok (.aload_n 0, 1) := by decide +kernel
theorem dX4_rowMadeFor_1 : decode cX4_rowMadeFor 1 = .ok (.iload_n 1, 1) := by decide +kernel
theorem dX4_rowMadeFor_2 : decode cX4_rowMadeFor 2 = .ok (.invokevirtual 42, 3) := by decide +kernel
theorem dX4_rowMadeFor_5 : decode cX4_rowMadeFor 5 = .ok (.istore_n 2, 1) := by decide +kernel
theorem dX4_rowMadeFor_6 : decode cX4_rowMadeFor 6 = .ok (.iload_n 2, 1) := by decide +kernel
theorem dX4_rowMadeFor_7 : decode cX4_rowMadeFor 7 = .ok (.ifCond .ge 47, 3) := by decide +kernel
theorem dX4_rowMadeFor_10 : decode cX4_rowMadeFor 10 = .ok (.aload_n 0, 1) := by decide +kernel
theorem dX4_rowMadeFor_11 : decode cX4_rowMadeFor 11 = .ok (.getfield 34, 3) := by decide +kernel
theorem dX4_rowMadeFor_14 : decode cX4_rowMadeFor 14 = .ok (.bipush 64, 2) := by decide +kernel
theorem dX4_rowMadeFor_16 : decode cX4_rowMadeFor 16 = .ok (.if_icmp .ge 38, 3) := by decide +kernel
theorem dX4_rowMadeFor_19 : decode cX4_rowMadeFor 19 = .ok (.aload_n 0, 1) := by decide +kernel
theorem dX4_rowMadeFor_20 : decode cX4_rowMadeFor 20 = .ok (.iload_n 1, 1) := by decide +kernel
theorem dX4_rowMadeFor_21 : decode cX4_rowMadeFor 21 = .ok (.invokevirtual 46, 3) := by decide +kernel
theorem dX4_rowMadeFor_24 : decode cX4_rowMadeFor 24 = .ok (.istore_n 2, 1) := by decide +kernel
theorem dX4_rowMadeFor_25 : decode cX4_rowMadeFor 25 = .ok (.aload_n 0, 1) := by decide +kernel
theorem dX4_rowMadeFor_26 : decode cX4_rowMadeFor 26 = .ok (.getfield 16, 3) := by decide +kernel
theorem dX4_rowMadeFor_29 : decode cX4_rowMadeFor 29 = .ok (.iload_n 2, 1) := by decide +kernel
theorem dX4_rowMadeFor_30 : decode cX4_rowMadeFor 30 = .ok (.invokevirtual 49, 3) := by decide +kernel
theorem dX4_rowMadeFor_33 : decode cX4_rowMadeFor 33 = .ok (.aload_n 0, 1) := by decide +kernel
theorem dX4_rowMadeFor_34 : decode cX4_rowMadeFor 34 = .ok (.getfield 16, 3) := by decide +kernel
theorem dX4_rowMadeFor_37 : decode cX4_rowMadeFor 37 = .ok (.iload_n 2, 1) := by decide +kernel
theorem dX4_rowMadeFor_38 : decode cX4_rowMadeFor 38 = .ok (.bipush 7, 2) := by decide +kernel
theorem dX4_rowMadeFor_40 : decode cX4_rowMadeFor 40 = .ok (.iload_n 1, 1) := by decide +kernel
theorem dX4_rowMadeFor_41 : decode cX4_rowMadeFor 41 = .ok (.invokevirtual 53, 3) := by decide +kernel
theorem dX4_rowMadeFor_44 : decode cX4_rowMadeFor 44 = .ok (.aload_n 0, 1) := by decide +kernel
theorem dX4_rowMadeFor_45 : decode cX4_rowMadeFor 45 = .ok (.dup, 1) := by decide +kernel
theorem dX4_rowMadeFor_46 : decode cX4_rowMadeFor 46 = .ok (.getfield 34, 3) := by decide +kernel
theorem dX4_rowMadeFor_49 : decode cX4_rowMadeFor 49 = .ok (.iconst 1, 1) := by decide +kernel
theorem dX4_rowMadeFor_50 : decode cX4_rowMadeFor 50 = .ok (.iadd, 1) := by decide +kernel
theorem dX4_rowMadeFor_51 : decode cX4_rowMadeFor 51 = .ok (.putfield 34, 3) := by decide +kernel
theorem dX4_rowMadeFor_54 : decode cX4_rowMadeFor 54 = .ok (.iload_n 2, 1) := by decide +kernel
theorem dX4_rowMadeFor_55 : decode cX4_rowMadeFor 55 = .ok (.ireturn, 1) := by decide +kernel
set_option maxRecDepth 20000 in
theorem ggX4_read_X4_rowOf : GoodIn wsX4_read wsX4_rowOf := goodIn_r _ [6, 7, 1, 8, 9, 10, 11, 12, 13, 14, 15, 16, 17, 18, 19, 20, 21] (by decide +kernel) (by decide +kernel)
set_option maxRecDepth 20000 in
theorem gX4_read_X4_rowOf : GoodIn wsX4_read (wsV RX4 42 RX4 yX4_rowOf wsX4_rowOf) := goodIn_app (goodIn_of _ (by decide +kernel)) ggX4_read_X4_rowOf
set_option maxRecDepth 20000 in
theorem ggX4_read_X5_get : GoodIn wsX4_read wsX5_get := goodIn_r _ [12, 13, 14, 15, 19, 20, 21] (by decide +kernel) (by decide +kernel)
set_option maxRecDepth 20000 in
theorem gX4_read_X5_get : GoodIn wsX4_read (wsV RX4 38 RX5 yX5_get wsX5_get) := goodIn_app (goodIn_of _ (by decide +kernel)) ggX4_read_X5_get
theorem dX4_read_0 : decode cX4_read 0 = .ok (.aload_n 0, 1) := by decide +kernel
theorem dX4_read_1 : decode cX4_read 1 = .ok (.getfield 16, 3) := by decide +kernel
theorem dX4_read_4 : decode cX4_read 4 = .ok (.aload_n 0, 1) := by decide +kernel
theorem dX4_read_5 : decode cX4_read 5 = .ok (.iload_n 1, 1) := by decide +kernel
theorem dX4_read_6 : decode cX4_read 6 = .ok (.invokevirtual 42, 3) := by decide +kernel
theorem dX4_read_9 : decode cX4_read 9 = .ok (.iload_n 2, 1) := by decide +kernel
theorem dX4_read_10 : decode cX4_read 10 = .ok (.invokevirtual 38, 3) := by decide +kernel
theorem dX4_read_13 : decode cX4_read 13 = .ok (.ireturn, 1) := by decide +kernel
set_option maxRecDepth 20000 in
theorem ggX4_behind_X4_rowBehind : GoodIn wsX4_behind wsX4_rowBehind := goodIn_r _ [8, 1, 2, 9, 10, 11, 12, 13, 14, 15, 16, 17, 18, 19, 20, 21, 22] (by decide +kernel) (by decide +kernel)
set_option maxRecDepth 20000 in
theorem gX4_behind_X4_rowBehind : GoodIn wsX4_behind (wsV RX4 46 RX4 yX4_rowBehind wsX4_rowBehind) := goodIn_app (goodIn_of _ (by decide +kernel)) ggX4_behind_X4_rowBehind
set_option maxRecDepth 20000 in
theorem ggX4_behind_X5_get : GoodIn wsX4_behind wsX5_get := goodIn_r _ [13, 14, 15, 16, 20, 21, 22] (by decide +kernel) (by decide +kernel)
set_option maxRecDepth 20000 in
theorem gX4_behind_X5_get : GoodIn wsX4_behind (wsV RX4 38 RX5 yX5_get wsX5_get) := goodIn_app (goodIn_of _ (by decide +kernel)) ggX4_behind_X5_get
theorem dX4_behind_0 : decode cX4_behind 0 = .ok (.aload_n 0, 1) := by decide +kernel
theorem dX4_behind_1 : decode cX4_behind 1 = .ok (.iload_n 1, 1) := by decide +kernel
theorem dX4_behind_2 : decode cX4_behind 2 = .ok (.invokevirtual 46, 3) := by decide +kernel
theorem dX4_behind_5 : decode cX4_behind 5 = .ok (.istore_n 2, 1) := by decide +kernel
theorem dX4_behind_6 : decode cX4_behind 6 = .ok (.iload_n 2, 1) := by decide +kernel
theorem dX4_behind_7 : decode cX4_behind 7 = .ok (.aload_n 0, 1) := by decide +kernel
theorem dX4_behind_8 : decode cX4_behind 8 = .ok (.getfield 34, 3) := by decide +kernel
theorem dX4_behind_11 : decode cX4_behind 11 = .ok (.if_icmp .ge 16, 3) := by decide +kernel
theorem dX4_behind_14 : decode cX4_behind 14 = .ok (.aload_n 0, 1) := by decide +kernel
theorem dX4_behind_15 : decode cX4_behind 15 = .ok (.getfield 16, 3) := by decide +kernel
theorem dX4_behind_18 : decode cX4_behind 18 = .ok (.iload_n 2, 1) := by decide +kernel
theorem dX4_behind_19 : decode cX4_behind 19 = .ok (.bipush 7, 2) := by decide +kernel
theorem dX4_behind_21 : decode cX4_behind 21 = .ok (.invokevirtual 38, 3) := by decide +kernel
theorem dX4_behind_24 : decode cX4_behind 24 = .ok (.goto 5, 3) := by decide +kernel
theorem dX4_behind_27 : decode cX4_behind 27 = .ok (.ldc 57, 2) := by decide +kernel
theorem dX4_behind_29 : decode cX4_behind 29 = .ok (.ireturn, 1) := by decide +kernel
set_option maxRecDepth 20000 in
theorem ggX4_hasWord_X4_rowOf : GoodIn wsX4_hasWord wsX4_rowOf := goodIn_r _ [5, 6, 7, 8, 9, 10, 11, 12, 13, 14, 15, 20, 21, 22, 23, 24, 25] (by decide +kernel) (by decide +kernel)
set_option maxRecDepth 20000 in
theorem gX4_hasWord_X4_rowOf : GoodIn wsX4_hasWord (wsV RX4 42 RX4 yX4_rowOf wsX4_rowOf) := goodIn_app (goodIn_of _ (by decide +kernel)) ggX4_hasWord_X4_rowOf
set_option maxRecDepth 20000 in
theorem ggX4_hasWord_X4_isStanding : GoodIn wsX4_hasWord wsX4_isStanding := goodIn_r _ [19, 7, 8, 9, 10, 11, 12, 13, 14, 15, 20, 21, 22, 23, 24, 25] (by decide +kernel) (by decide +kernel)
set_option maxRecDepth 20000 in
theorem gX4_hasWord_X4_isStanding : GoodIn wsX4_hasWord (wsV RX4 58 RX4 yX4_isStanding wsX4_isStanding) := goodIn_app (goodIn_of _ (by decide +kernel)) ggX4_hasWord_X4_isStanding
theorem dX4_hasWord_0 : decode cX4_hasWord 0 = .ok (.aload_n 0, 1) := by decide +kernel
theorem dX4_hasWord_1 : decode cX4_hasWord 1 = .ok (.aload_n 0, 1) := by decide +kernel
theorem dX4_hasWord_2 : decode cX4_hasWord 2 = .ok (.iload_n 1, 1) := by decide +kernel
theorem dX4_hasWord_3 : decode cX4_hasWord 3 = .ok (.invokevirtual 42, 3) := by decide +kernel
theorem dX4_hasWord_6 : decode cX4_hasWord 6 = .ok (.invokevirtual 58, 3) := by decide +kernel
theorem dX4_hasWord_9 : decode cX4_hasWord 9 = .ok (.ireturn, 1) := by decide +kernel
set_option maxRecDepth 20000 in
theorem ggX4_isStanding_X5_get : GoodIn wsX4_isStanding wsX5_get := goodIn_r _ [6, 7, 8, 9, 13, 14, 15] (by decide +kernel) (by decide +kernel)
set_option maxRecDepth 20000 in
theorem gX4_isStanding_X5_get : GoodIn wsX4_isStanding (wsV RX4 38 RX5 yX5_get wsX5_get) := goodIn_app (goodIn_of _ (by decide +kernel)) ggX4_isStanding_X5_get
theorem dX4_isStanding_0 : decode cX4_isStanding 0 = .ok (.aload_n 0, 1) := by decide +kernel
theorem dX4_isStanding_1 : decode cX4_isStanding 1 = .ok (.getfield 16, 3) := by decide +kernel
theorem dX4_isStanding_4 : decode cX4_isStanding 4 = .ok (.iload_n 1, 1) := by decide +kernel
theorem dX4_isStanding_5 : decode cX4_isStanding 5 = .ok (.iconst 5, 1) := by decide +kernel
theorem dX4_isStanding_6 : decode cX4_isStanding 6 = .ok (.invokevirtual 38, 3) := by decide +kernel
theorem dX4_isStanding_9 : decode cX4_isStanding 9 = .ok (.aload_n 0, 1) := by decide +kernel
theorem dX4_isStanding_10 : decode cX4_isStanding 10 = .ok (.getfield 16, 3) := by decide +kernel
theorem dX4_isStanding_13 : decode cX4_isStanding 13 = .ok (.iload_n 1, 1) := by decide +kernel
theorem dX4_isStanding_14 : decode cX4_isStanding 14 = .ok (.bipush 6, 2) := by decide +kernel
theorem dX4_isStanding_16 : decode cX4_isStanding 16 = .ok (.invokevirtual 38, 3) := by decide +kernel
theorem dX4_isStanding_19 : decode cX4_isStanding 19 = .ok (.if_icmp .le 7, 3) := by decide +kernel
theorem dX4_isStanding_22 : decode cX4_isStanding 22 = .ok (.iconst 1, 1) := by decide +kernel
theorem dX4_isStanding_23 : decode cX4_isStanding 23 = .ok (.goto 4, 3) := by decide +kernel
theorem dX4_isStanding_26 : decode cX4_isStanding 26 = .ok (.iconst 0, 1) := by decide +kernel
theorem dX4_isStanding_27 : decode cX4_isStanding 27 = .ok (.ireturn, 1) := by decide +kernel
set_option maxRecDepth 20000 in
theorem ggX4_closedCases_X5_get : GoodIn wsX4_closedCases wsX5_get := goodIn_r _ [7, 8, 9, 10, 14, 15, 16] (by decide +kernel) (by decide +kernel)
set_option maxRecDepth 20000 in
theorem gX4_closedCases_X5_get : GoodIn wsX4_closedCases (wsV RX4 38 RX5 yX5_get wsX5_get) := goodIn_app (goodIn_of _ (by decide +kernel)) ggX4_closedCases_X5_get
theorem dX4_closedCases_0 : decode cX4_closedCases 0 = .ok (.iconst 0, 1) := by decide +kernel
theorem dX4_closedCases_1 : decode cX4_closedCases 1 = .ok (.istore_n 1, 1) := by decide +kernel
theorem dX4_closedCases_2 : decode cX4_closedCases 2 = .ok (.iconst 0, 1) := by decide +kernel
theorem dX4_closedCases_3 : decode cX4_closedCases 3 = .ok (.istore_n 2, 1) := by decide +kernel
theorem dX4_closedCases_4 : decode cX4_closedCases 4 = .ok (.iload_n 2, 1) := by decide +kernel
theorem dX4_closedCases_5 : decode cX4_closedCases 5 = .ok (.aload_n 0, 1) := by decide +kernel
theorem dX4_closedCases_6 : decode cX4_closedCases 6 = .ok (.getfield 34, 3) := by decide +kernel
theorem dX4_closedCases_9 : decode cX4_closedCases 9 = .ok (.if_icmp .ge 25, 3) := by decide +kernel
theorem dX4_closedCases_12 : decode cX4_closedCases 12 = .ok (.aload_n 0, 1) := by decide +kernel
theorem dX4_closedCases_13 : decode cX4_closedCases 13 = .ok (.getfield 16, 3) := by decide +kernel
theorem dX4_closedCases_16 : decode cX4_closedCases 16 = .ok (.iload_n 2, 1) := by decide +kernel
theorem dX4_closedCases_17 : decode cX4_closedCases 17 = .ok (.iconst 0, 1) := by decide +kernel
theorem dX4_closedCases_18 : decode cX4_closedCases 18 = .ok (.invokevirtual 38, 3) := by decide +kernel
theorem dX4_closedCases_21 : decode cX4_closedCases 21 = .ok (.iconst 3, 1) := by decide +kernel
theorem dX4_closedCases_22 : decode cX4_closedCases 22 = .ok (.if_icmp .ne 6, 3) := by decide +kernel
theorem dX4_closedCases_25 : decode cX4_closedCases 25 = .ok (.iinc 1 1, 3) := by decide +kernel
theorem dX4_closedCases_28 : decode cX4_closedCases 28 = .ok (.iinc 2 1, 3) := by decide +kernel
theorem dX4_closedCases_31 : decode cX4_closedCases 31 = .ok (.goto (-27), 3) := by decide +kernel
theorem dX4_closedCases_34 : decode cX4_closedCases 34 = .ok (.iload_n 1, 1) := by decide +kernel
theorem dX4_closedCases_35 : decode cX4_closedCases 35 = .ok (.ireturn, 1) := by decide +kernel
set_option maxRecDepth 20000 in
theorem ggX4_add_X4_rowMadeFor : GoodIn wsX4_add wsX4_rowMadeFor := goodIn_r _ [6, 7, 1, 8, 9, 10, 5, 11, 12, 13, 14, 15, 16, 17, 18, 19, 20, 21, 22, 23, 24, 25, 26, 27, 28, 29, 30, 31, 32, 33, 34, 35, 36, 37, 38, 39, 40, 41, 42] (by decide +kernel) (by decide +kernel)
set_option maxRecDepth 20000 in
theorem gX4_add_X4_rowMadeFor : GoodIn wsX4_add (wsV RX4 62 RX4 yX4_rowMadeFor wsX4_rowMadeFor) := goodIn_app (goodIn_of _ (by decide +kernel)) ggX4_add_X4_rowMadeFor
set_option maxRecDepth 20000 in
theorem ggX4_add_X5_get : GoodIn wsX4_add wsX5_get := goodIn_r _ [16, 17, 18, 19, 40, 41, 42] (by decide +kernel) (by decide +kernel)
set_option maxRecDepth 20000 in
theorem gX4_add_X5_get : GoodIn wsX4_add (wsV RX4 38 RX5 yX5_get wsX5_get) := goodIn_app (goodIn_of _ (by decide +kernel)) ggX4_add_X5_get
set_option maxRecDepth 20000 in
theorem ggX4_add_X5_put : GoodIn wsX4_add wsX5_put := goodIn_r _ [35, 17, 18, 19, 40, 41, 42] (by decide +kernel) (by decide +kernel)
set_option maxRecDepth 20000 in
theorem gX4_add_X5_put : GoodIn wsX4_add (wsV RX4 53 RX5 yX5_put wsX5_put) := goodIn_app (goodIn_of _ (by decide +kernel)) ggX4_add_X5_put
theorem dX4_add_0 : decode cX4_add 0 = .ok (.aload_n 0, 1) := by decide +kernel
theorem dX4_add_1 : decode cX4_add 1 = .ok (.iload_n 1, 1) := by decide +kernel
theorem dX4_add_2 : decode cX4_add 2 = .ok (.invokevirtual 62, 3) := by decide +kernel
theorem dX4_add_5 : decode cX4_add 5 = .ok (.istore 4, 2) := by decide +kernel
theorem dX4_add_7 : decode cX4_add 7 = .ok (.aload_n 0, 1) := by decide +kernel
theorem dX4_add_8 : decode cX4_add 8 = .ok (.getfield 16, 3) := by decide +kernel
theorem dX4_add_11 : decode cX4_add 11 = .ok (.iload 4, 2) := by decide +kernel
theorem dX4_add_13 : decode cX4_add 13 = .ok (.iconst 1, 1) := by decide +kernel
theorem dX4_add_14 : decode cX4_add 14 = .ok (.aload_n 0, 1) := by decide +kernel
theorem dX4_add_15 : decode cX4_add 15 = .ok (.getfield 16, 3) := by decide +kernel
theorem dX4_add_18 : decode cX4_add 18 = .ok (.iload 4, 2) := by decide +kernel
theorem dX4_add_20 : decode cX4_add 20 = .ok (.iconst 1, 1) := by decide +kernel
theorem dX4_add_21 : decode cX4_add 21 = .ok (.invokevirtual 38, 3) := by decide +kernel
theorem dX4_add_24 : decode cX4_add 24 = .ok (.iconst 1, 1) := by decide +kernel
theorem dX4_add_25 : decode cX4_add 25 = .ok (.iadd, 1) := by decide +kernel
theorem dX4_add_26 : decode cX4_add 26 = .ok (.invokevirtual 53, 3) := by decide +kernel
theorem dX4_add_29 : decode cX4_add 29 = .ok (.aload_n 0, 1) := by decide +kernel
theorem dX4_add_30 : decode cX4_add 30 = .ok (.getfield 16, 3) := by decide +kernel
theorem dX4_add_33 : decode cX4_add 33 = .ok (.iload 4, 2) := by decide +kernel
theorem dX4_add_35 : decode cX4_add 35 = .ok (.iconst 2, 1) := by decide +kernel
theorem dX4_add_36 : decode cX4_add 36 = .ok (.aload_n 0, 1) := by decide +kernel
theorem dX4_add_37 : decode cX4_add 37 = .ok (.getfield 16, 3) := by decide +kernel
theorem dX4_add_40 : decode cX4_add 40 = .ok (.iload 4, 2) := by decide +kernel
theorem dX4_add_42 : decode cX4_add 42 = .ok (.iconst 2, 1) := by decide +kernel
theorem dX4_add_43 : decode cX4_add 43 = .ok (.invokevirtual 38, 3) := by decide +kernel
theorem dX4_add_46 : decode cX4_add 46 = .ok (.iload_n 3, 1) := by decide +kernel
theorem dX4_add_47 : decode cX4_add 47 = .ok (.iadd, 1) := by decide +kernel
theorem dX4_add_48 : decode cX4_add 48 = .ok (.invokevirtual 53, 3) := by decide +kernel
theorem dX4_add_51 : decode cX4_add 51 = .ok (.aload_n 0, 1) := by decide +kernel
theorem dX4_add_52 : decode cX4_add 52 = .ok (.getfield 16, 3) := by decide +kernel
theorem dX4_add_55 : decode cX4_add 55 = .ok (.iload 4, 2) := by decide +kernel
theorem dX4_add_57 : decode cX4_add 57 = .ok (.iconst 3, 1) := by decide +kernel
theorem dX4_add_58 : decode cX4_add 58 = .ok (.aload_n 0, 1) := by decide +kernel
theorem dX4_add_59 : decode cX4_add 59 = .ok (.getfield 16, 3) := by decide +kernel
theorem dX4_add_62 : decode cX4_add 62 = .ok (.iload 4, 2) := by decide +kernel
theorem dX4_add_64 : decode cX4_add 64 = .ok (.iconst 3, 1) := by decide +kernel
theorem dX4_add_65 : decode cX4_add 65 = .ok (.invokevirtual 38, 3) := by decide +kernel
theorem dX4_add_68 : decode cX4_add 68 = .ok (.iconst 1, 1) := by decide +kernel
theorem dX4_add_69 : decode cX4_add 69 = .ok (.iload_n 2, 1) := by decide +kernel
theorem dX4_add_70 : decode cX4_add 70 = .ok (.ishl, 1) := by decide +kernel
theorem dX4_add_71 : decode cX4_add 71 = .ok (.ior, 1) := by decide +kernel
theorem dX4_add_72 : decode cX4_add 72 = .ok (.invokevirtual 53, 3) := by decide +kernel
theorem dX4_add_75 : decode cX4_add 75 = .ok (.return_, 1) := by decide +kernel
set_option maxRecDepth 20000 in
theorem ggX4_reopen_X4_rowMadeFor : GoodIn wsX4_reopen wsX4_rowMadeFor := goodIn_r _ [6, 7, 1, 8, 9, 10, 5, 11, 12, 13, 14, 15, 16, 17, 18, 19, 20, 21, 22, 23, 24, 25, 26, 27, 28, 29, 30, 31, 32, 33, 34, 35, 36, 60, 61, 62, 63, 64, 65] (by decide +kernel) (by decide +kernel)
set_option maxRecDepth 20000 in
theorem gX4_reopen_X4_rowMadeFor : GoodIn wsX4_reopen (wsV RX4 62 RX4 yX4_rowMadeFor wsX4_rowMadeFor) := goodIn_app (goodIn_of _ (by decide +kernel)) ggX4_reopen_X4_rowMadeFor
set_option maxRecDepth 20000 in
theorem ggX4_reopen_X4_takeBack : GoodIn wsX4_reopen wsX4_takeBack := goodIn_r _ [40, 1, 41, 42, 43, 44, 5, 45, 12, 13, 14, 15, 16, 17, 18, 19, 36, 33, 34, 35, 46, 47, 48, 49, 50, 51, 52, 53, 54, 55, 56, 57, 58, 28, 29, 30, 31, 59, 60, 61, 62, 63, 64, 65, 66, 67, 68, 69] (by decide +kernel) (by decide +kernel)
set_option maxRecDepth 20000 in
theorem gX4_reopen_X4_takeBack : GoodIn wsX4_reopen (wsV RX4 65 RX4 yX4_takeBack wsX4_takeBack) := goodIn_app (goodIn_of _ (by decide +kernel)) ggX4_reopen_X4_takeBack
set_option maxRecDepth 20000 in
theorem ggX4_reopen_X5_put : GoodIn wsX4_reopen wsX5_put := goodIn_r _ [35, 17, 18, 19, 63, 64, 65] (by decide +kernel) (by decide +kernel)
set_option maxRecDepth 20000 in
theorem gX4_reopen_X5_put : GoodIn wsX4_reopen (wsV RX4 53 RX5 yX5_put wsX5_put) := goodIn_app (goodIn_of _ (by decide +kernel)) ggX4_reopen_X5_put
theorem dX4_reopen_0 : decode cX4_reopen 0 = .ok (.aload_n 0, 1) := by decide +kernel
theorem dX4_reopen_1 : decode cX4_reopen 1 = .ok (.iload_n 1, 1) := by decide +kernel
theorem dX4_reopen_2 : decode cX4_reopen 2 = .ok (.invokevirtual 62, 3) := by decide +kernel
theorem dX4_reopen_5 : decode cX4_reopen 5 = .ok (.istore_n 3, 1) := by decide +kernel
theorem dX4_reopen_6 : decode cX4_reopen 6 = .ok (.aload_n 0, 1) := by decide +kernel
theorem dX4_reopen_7 : decode cX4_reopen 7 = .ok (.iload_n 3, 1) := by decide +kernel
theorem dX4_reopen_8 : decode cX4_reopen 8 = .ok (.invokevirtual 65, 3) := by decide +kernel
theorem dX4_reopen_11 : decode cX4_reopen 11 = .ok (.aload_n 0, 1) := by decide +kernel
theorem dX4_reopen_12 : decode cX4_reopen 12 = .ok (.getfield 16, 3) := by decide +kernel
theorem dX4_reopen_15 : decode cX4_reopen 15 = .ok (.iload_n 3, 1) := by decide +kernel
theorem dX4_reopen_16 : decode cX4_reopen 16 = .ok (.iconst 0, 1) := by decide +kernel
theorem dX4_reopen_17 : decode cX4_reopen 17 = .ok (.iconst 2, 1) := by decide +kernel
theorem dX4_reopen_18 : decode cX4_reopen 18 = .ok (.invokevirtual 53, 3) := by decide +kernel
theorem dX4_reopen_21 : decode cX4_reopen 21 = .ok (.aload_n 0, 1) := by decide +kernel
theorem dX4_reopen_22 : decode cX4_reopen 22 = .ok (.getfield 16, 3) := by decide +kernel
theorem dX4_reopen_25 : decode cX4_reopen 25 = .ok (.iload_n 3, 1) := by decide +kernel
theorem dX4_reopen_26 : decode cX4_reopen 26 = .ok (.iconst 4, 1) := by decide +kernel
theorem dX4_reopen_27 : decode cX4_reopen 27 = .ok (.iload_n 2, 1) := by decide +kernel
theorem dX4_reopen_28 : decode cX4_reopen 28 = .ok (.invokevirtual 53, 3) := by decide +kernel
theorem dX4_reopen_31 : decode cX4_reopen 31 = .ok (.return_, 1) := by decide +kernel
set_option maxRecDepth 20000 in
theorem ggX4_shutAndClose_X5_get : GoodIn wsX4_shutAndClose wsX5_get := goodIn_r _ [7, 8, 9, 10, 45, 46, 47] (by decide +kernel) (by decide +kernel)
set_option maxRecDepth 20000 in
theorem gX4_shutAndClose_X5_get : GoodIn wsX4_shutAndClose (wsV RX4 38 RX5 yX5_get wsX5_get) := goodIn_app (goodIn_of _ (by decide +kernel)) ggX4_shutAndClose_X5_get
set_option maxRecDepth 20000 in
theorem ggX4_shutAndClose_X8_isWithin : GoodIn wsX4_shutAndClose wsX8_isWithin := goodIn_r _ [13] (by decide +kernel) (by decide +kernel)
set_option maxRecDepth 20000 in
theorem gX4_shutAndClose_X8_isWithin_n68 : GoodIn wsX4_shutAndClose (wsX8_isWithin) := ggX4_shutAndClose_X8_isWithin
set_option maxRecDepth 20000 in
theorem ggX4_shutAndClose_X4_tellWord : GoodIn wsX4_shutAndClose wsX4_tellWord := goodIn_r _ [18, 2, 19, 3, 4, 5, 6, 7, 8, 9, 10, 20, 21, 22, 23, 24, 25, 26, 27, 28, 29, 30, 31, 32, 33, 34, 35, 36, 37, 38, 39, 40, 41, 42, 43, 44, 45, 46, 47, 48, 49, 50, 51] (by decide +kernel) (by decide +kernel)
set_option maxRecDepth 20000 in
theorem gX4_shutAndClose_X4_tellWord : GoodIn wsX4_shutAndClose (wsV RX4 72 RX4 yX4_tellWord wsX4_tellWord) := goodIn_app (goodIn_of _ (by decide +kernel)) ggX4_shutAndClose_X4_tellWord
set_option maxRecDepth 20000 in
theorem ggX4_shutAndClose_X5_put : GoodIn wsX4_shutAndClose wsX5_put := goodIn_r _ [23, 8, 9, 10, 45, 46, 47] (by decide +kernel) (by decide +kernel)
set_option maxRecDepth 20000 in
theorem gX4_shutAndClose_X5_put : GoodIn wsX4_shutAndClose (wsV RX4 53 RX5 yX5_put wsX5_put) := goodIn_app (goodIn_of _ (by decide +kernel)) ggX4_shutAndClose_X5_put
theorem dX4_shutAndClose_0 : decode cX4_shutAndClose 0 = .ok (.iconst 0, 1) := by decide +kernel
theorem dX4_shutAndClose_1 : decode cX4_shutAndClose 1 = .ok (.istore 4, 2) := by decide +kernel
theorem dX4_shutAndClose_3 : decode cX4_shutAndClose 3 = .ok (.iload 4, 2) := by decide +kernel
theorem dX4_shutAndClose_5 : decode cX4_shutAndClose 5 = .ok (.aload_n 0, 1) := by decide +kernel
theorem dX4_shutAndClose_6 : decode cX4_shutAndClose 6 = .ok (.getfield 34, 3) := by decide +kernel
theorem dX4_shutAndClose_9 : decode cX4_shutAndClose 9 = .ok (.if_icmp .ge 93, 3) := by decide +kernel
theorem dX4_shutAndClose_12 : decode cX4_shutAndClose 12 = .ok (.aload_n 0, 1) := by decide +kernel
theorem dX4_shutAndClose_13 : decode cX4_shutAndClose 13 = .ok (.getfield 16, 3) := by decide +kernel
theorem dX4_shutAndClose_16 : decode cX4_shutAndClose 16 = .ok (.iload 4, 2) := by decide +kernel
theorem dX4_shutAndClose_18 : decode cX4_shutAndClose 18 = .ok (.iconst 0, 1) := by decide +kernel
theorem dX4_shutAndClose_19 : decode cX4_shutAndClose 19 = .ok (.invokevirtual 38, 3) := by decide +kernel
theorem dX4_shutAndClose_22 : decode cX4_shutAndClose 22 = .ok (.istore 5, 2) := by decide +kernel
theorem dX4_shutAndClose_24 : decode cX4_shutAndClose 24 = .ok (.iload 5, 2) := by decide +kernel
theorem dX4_shutAndClose_26 : decode cX4_shutAndClose 26 = .ok (.ifCond .ne 33, 3) := by decide +kernel
theorem dX4_shutAndClose_29 : decode cX4_shutAndClose 29 = .ok (.aload_n 0, 1) := by decide +kernel
theorem dX4_shutAndClose_30 : decode cX4_shutAndClose 30 = .ok (.getfield 16, 3) := by decide +kernel
theorem dX4_shutAndClose_33 : decode cX4_shutAndClose 33 = .ok (.iload 4, 2) := by decide +kernel
theorem dX4_shutAndClose_35 : decode cX4_shutAndClose 35 = .ok (.bipush 7, 2) := by decide +kernel
theorem dX4_shutAndClose_37 : decode cX4_shutAndClose 37 = .ok (.invokevirtual 38, 3) := by decide +kernel
theorem dX4_shutAndClose_40 : decode cX4_shutAndClose 40 = .ok (.iload_n 1, 1) := by decide +kernel
theorem dX4_shutAndClose_41 : decode cX4_shutAndClose 41 = .ok (.iconst 1, 1) := by decide +kernel
theorem dX4_shutAndClose_42 : decode cX4_shutAndClose 42 = .ok (.iadd, 1) := by decide +kernel
theorem dX4_shutAndClose_43 : decode cX4_shutAndClose 43 = .ok (.iload_n 2, 1) := by decide +kernel
theorem dX4_shutAndClose_44 : decode cX4_shutAndClose 44 = .ok (.invokestatic 68, 3) := by decide +kernel
theorem dX4_shutAndClose_47 : decode cX4_shutAndClose 47 = .ok (.ifCond .eq 49, 3) := by decide +kernel
theorem dX4_shutAndClose_50 : decode cX4_shutAndClose 50 = .ok (.aload_n 0, 1) := by decide +kernel
theorem dX4_shutAndClose_51 : decode cX4_shutAndClose 51 = .ok (.iload 4, 2) := by decide +kernel
theorem dX4_shutAndClose_53 : decode cX4_shutAndClose 53 = .ok (.invokevirtual 72, 3) := by decide +kernel
theorem dX4_shutAndClose_56 : decode cX4_shutAndClose 56 = .ok (.goto 40, 3) := by decide +kernel
theorem dX4_shutAndClose_59 : decode cX4_shutAndClose 59 = .ok (.iload 5, 2) := by decide +kernel
theorem dX4_shutAndClose_61 : decode cX4_shutAndClose 61 = .ok (.iconst 2, 1) := by decide +kernel
theorem dX4_shutAndClose_62 : decode cX4_shutAndClose 62 = .ok (.if_icmp .ne 34, 3) := by decide +kernel
theorem dX4_shutAndClose_65 : decode cX4_shutAndClose 65 = .ok (.aload_n 0, 1) := by decide +kernel
theorem dX4_shutAndClose_66 : decode cX4_shutAndClose 66 = .ok (.getfield 16, 3) := by decide +kernel
theorem dX4_shutAndClose_69 : decode cX4_shutAndClose 69 = .ok (.iload 4, 2) := by decide +kernel
theorem dX4_shutAndClose_71 : decode cX4_shutAndClose 71 = .ok (.iconst 4, 1) := by decide +kernel
theorem dX4_shutAndClose_72 : decode cX4_shutAndClose 72 = .ok (.invokevirtual 38, 3) := by decide +kernel
theorem dX4_shutAndClose_75 : decode cX4_shutAndClose 75 = .ok (.iload_n 3, 1) := by decide +kernel
theorem dX4_shutAndClose_76 : decode cX4_shutAndClose 76 = .ok (.if_icmp .gt 20, 3) := by decide +kernel
theorem dX4_shutAndClose_79 : decode cX4_shutAndClose 79 = .ok (.aload_n 0, 1) := by decide +kernel
theorem dX4_shutAndClose_80 : decode cX4_shutAndClose 80 = .ok (.getfield 16, 3) := by decide +kernel
theorem dX4_shutAndClose_83 : decode cX4_shutAndClose 83 = .ok (.iload 4, 2) := by decide +kernel
theorem dX4_shutAndClose_85 : decode cX4_shutAndClose 85 = .ok (.iconst 0, 1) := by decide +kernel
theorem dX4_shutAndClose_86 : decode cX4_shutAndClose 86 = .ok (.iconst 3, 1) := by decide +kernel
theorem dX4_shutAndClose_87 : decode cX4_shutAndClose 87 = .ok (.invokevirtual 53, 3) := by decide +kernel
theorem dX4_shutAndClose_90 : decode cX4_shutAndClose 90 = .ok (.aload_n 0, 1) := by decide +kernel
theorem dX4_shutAndClose_91 : decode cX4_shutAndClose 91 = .ok (.iload 4, 2) := by decide +kernel
theorem dX4_shutAndClose_93 : decode cX4_shutAndClose 93 = .ok (.invokevirtual 72, 3) := by decide +kernel
theorem dX4_shutAndClose_96 : decode cX4_shutAndClose 96 = .ok (.iinc 4 1, 3) := by decide +kernel
theorem dX4_shutAndClose_99 : decode cX4_shutAndClose 99 = .ok (.goto (-96), 3) := by decide +kernel
theorem dX4_shutAndClose_102 : decode cX4_shutAndClose 102 = .ok (.return_, 1) := by decide +kernel
set_option maxRecDepth 20000 in
theorem ggX4_tellWord_X5_get : GoodIn wsX4_tellWord wsX5_get := goodIn_r _ [7, 8, 9, 10, 36, 37, 38] (by decide +kernel) (by decide +kernel)
set_option maxRecDepth 20000 in
theorem gX4_tellWord_X5_get : GoodIn wsX4_tellWord (wsV RX4 38 RX5 yX5_get wsX5_get) := goodIn_app (goodIn_of _ (by decide +kernel)) ggX4_tellWord_X5_get
set_option maxRecDepth 20000 in
theorem ggX4_tellWord_X5_put : GoodIn wsX4_tellWord wsX5_put := goodIn_r _ [14, 8, 9, 10, 36, 37, 38] (by decide +kernel) (by decide +kernel)
set_option maxRecDepth 20000 in
theorem gX4_tellWord_X5_put : GoodIn wsX4_tellWord (wsV RX4 53 RX5 yX5_put wsX5_put) := goodIn_app (goodIn_of _ (by decide +kernel)) ggX4_tellWord_X5_put
set_option maxRecDepth 20000 in
theorem ggX4_tellWord_X7_add : GoodIn wsX4_tellWord wsX7_add := goodIn_r _ [19, 20, 21, 22, 23, 24, 25, 26, 6, 27, 9, 10, 28, 29, 30, 31, 32, 12, 13, 14, 8, 39, 40, 41, 42, 36, 37, 38] (by decide +kernel) (by decide +kernel)
set_option maxRecDepth 20000 in
theorem gX4_tellWord_X7_add : GoodIn wsX4_tellWord (wsV RX4 75 RX7 yX7_add wsX7_add) := goodIn_app (goodIn_of _ (by decide +kernel)) ggX4_tellWord_X7_add
theorem dX4_tellWord_0 : decode cX4_tellWord 0 = .ok (.aload_n 0, 1) := by decide +kernel
theorem dX4_tellWord_1 : decode cX4_tellWord 1 = .ok (.getfield 16, 3) := by decide +kernel
theorem dX4_tellWord_4 : decode cX4_tellWord 4 = .ok (.iload_n 1, 1) := by decide +kernel
theorem dX4_tellWord_5 : decode cX4_tellWord 5 = .ok (.iconst 5, 1) := by decide +kernel
theorem dX4_tellWord_6 : decode cX4_tellWord 6 = .ok (.aload_n 0, 1) := by decide +kernel
theorem dX4_tellWord_7 : decode cX4_tellWord 7 = .ok (.getfield 16, 3) := by decide +kernel
theorem dX4_tellWord_10 : decode cX4_tellWord 10 = .ok (.iload_n 1, 1) := by decide +kernel
theorem dX4_tellWord_11 : decode cX4_tellWord 11 = .ok (.iconst 5, 1) := by decide +kernel
theorem dX4_tellWord_12 : decode cX4_tellWord 12 = .ok (.invokevirtual 38, 3) := by decide +kernel
theorem dX4_tellWord_15 : decode cX4_tellWord 15 = .ok (.iconst 1, 1) := by decide +kernel
theorem dX4_tellWord_16 : decode cX4_tellWord 16 = .ok (.iadd, 1) := by decide +kernel
theorem dX4_tellWord_17 : decode cX4_tellWord 17 = .ok (.invokevirtual 53, 3) := by decide +kernel
theorem dX4_tellWord_20 : decode cX4_tellWord 20 = .ok (.aload_n 0, 1) := by decide +kernel
theorem dX4_tellWord_21 : decode cX4_tellWord 21 = .ok (.getfield 16, 3) := by decide +kernel
theorem dX4_tellWord_24 : decode cX4_tellWord 24 = .ok (.iload_n 1, 1) := by decide +kernel
theorem dX4_tellWord_25 : decode cX4_tellWord 25 = .ok (.bipush 7, 2) := by decide +kernel
theorem dX4_tellWord_27 : decode cX4_tellWord 27 = .ok (.invokevirtual 38, 3) := by decide +kernel
theorem dX4_tellWord_30 : decode cX4_tellWord 30 = .ok (.istore_n 2, 1) := by decide +kernel
theorem dX4_tellWord_31 : decode cX4_tellWord 31 = .ok (.aload_n 0, 1) := by decide +kernel
theorem dX4_tellWord_32 : decode cX4_tellWord 32 = .ok (.getfield 23, 3) := by decide +kernel
theorem dX4_tellWord_35 : decode cX4_tellWord 35 = .ok (.iconst 0, 1) := by decide +kernel
theorem dX4_tellWord_36 : decode cX4_tellWord 36 = .ok (.iload_n 2, 1) := by decide +kernel
theorem dX4_tellWord_37 : decode cX4_tellWord 37 = .ok (.aload_n 0, 1) := by decide +kernel
theorem dX4_tellWord_38 : decode cX4_tellWord 38 = .ok (.getfield 16, 3) := by decide +kernel
theorem dX4_tellWord_41 : decode cX4_tellWord 41 = .ok (.iload_n 1, 1) := by decide +kernel
theorem dX4_tellWord_42 : decode cX4_tellWord 42 = .ok (.iconst 1, 1) := by decide +kernel
theorem dX4_tellWord_43 : decode cX4_tellWord 43 = .ok (.invokevirtual 38, 3) := by decide +kernel
theorem dX4_tellWord_46 : decode cX4_tellWord 46 = .ok (.aload_n 0, 1) := by decide +kernel
theorem dX4_tellWord_47 : decode cX4_tellWord 47 = .ok (.getfield 16, 3) := by decide +kernel
theorem dX4_tellWord_50 : decode cX4_tellWord 50 = .ok (.iload_n 1, 1) := by decide +kernel
theorem dX4_tellWord_51 : decode cX4_tellWord 51 = .ok (.iconst 2, 1) := by decide +kernel
theorem dX4_tellWord_52 : decode cX4_tellWord 52 = .ok (.invokevirtual 38, 3) := by decide +kernel
theorem dX4_tellWord_55 : decode cX4_tellWord 55 = .ok (.invokevirtual 75, 3) := by decide +kernel
theorem dX4_tellWord_58 : decode cX4_tellWord 58 = .ok (.return_, 1) := by decide +kernel
set_option maxRecDepth 20000 in
theorem ggX4_takeBackWord_X4_rowOf : GoodIn wsX4_takeBackWord wsX4_rowOf := goodIn_r _ [5, 6, 7, 8, 9, 10, 11, 12, 13, 14, 15, 47, 48, 49, 50, 51, 52] (by decide +kernel) (by decide +kernel)
set_option maxRecDepth 20000 in
theorem gX4_takeBackWord_X4_rowOf : GoodIn wsX4_takeBackWord (wsV RX4 42 RX4 yX4_rowOf wsX4_rowOf) := goodIn_app (goodIn_of _ (by decide +kernel)) ggX4_takeBackWord_X4_rowOf
set_option maxRecDepth 20000 in
theorem ggX4_takeBackWord_X4_takeBack : GoodIn wsX4_takeBackWord wsX4_takeBack := goodIn_r _ [19, 7, 20, 21, 22, 23, 4, 24, 8, 9, 10, 11, 12, 13, 14, 15, 25, 26, 27, 28, 29, 30, 31, 32, 33, 34, 35, 36, 37, 38, 39, 40, 41, 42, 43, 44, 45, 46, 47, 48, 49, 50, 51, 52, 53, 54, 55, 56] (by decide +kernel) (by decide +kernel)
set_option maxRecDepth 20000 in
theorem gX4_takeBackWord_X4_takeBack : GoodIn wsX4_takeBackWord (wsV RX4 65 RX4 yX4_takeBack wsX4_takeBack) := goodIn_app (goodIn_of _ (by decide +kernel)) ggX4_takeBackWord_X4_takeBack
theorem dX4_takeBackWord_0 : decode cX4_takeBackWord 0 = .ok (.aload_n 0, 1) := by decide +kernel
theorem dX4_takeBackWord_1 : decode cX4_takeBackWord 1 = .ok (.aload_n 0, 1) := by decide +kernel
theorem dX4_takeBackWord_2 : decode cX4_takeBackWord 2 = .ok (.iload_n 1, 1) := by decide +kernel
theorem dX4_takeBackWord_3 : decode cX4_takeBackWord 3 = .ok (.invokevirtual 42, 3) := by decide +kernel
theorem dX4_takeBackWord_6 : decode cX4_takeBackWord 6 = .ok (.invokevirtual 65, 3) := by decide +kernel
theorem dX4_takeBackWord_9 : decode cX4_takeBackWord 9 = .ok (.return_, 1) := by decide +kernel
set_option maxRecDepth 20000 in
theorem ggX4_takeBack_X4_isStanding : GoodIn wsX4_takeBack wsX4_isStanding := goodIn_r _ [7, 1, 8, 9, 10, 11, 12, 13, 14, 15, 38, 39, 40, 41, 42, 43] (by decide +kernel) (by decide +kernel)
set_option maxRecDepth 20000 in
theorem gX4_takeBack_X4_isStanding : GoodIn wsX4_takeBack (wsV RX4 58 RX4 yX4_isStanding wsX4_isStanding) := goodIn_app (goodIn_of _ (by decide +kernel)) ggX4_takeBack_X4_isStanding
set_option maxRecDepth 20000 in
theorem ggX4_takeBack_X5_get : GoodIn wsX4_takeBack wsX5_get := goodIn_r _ [12, 13, 14, 15, 41, 42, 43] (by decide +kernel) (by decide +kernel)
set_option maxRecDepth 20000 in
theorem gX4_takeBack_X5_get : GoodIn wsX4_takeBack (wsV RX4 38 RX5 yX5_get wsX5_get) := goodIn_app (goodIn_of _ (by decide +kernel)) ggX4_takeBack_X5_get
set_option maxRecDepth 20000 in
theorem ggX4_takeBack_X5_put : GoodIn wsX4_takeBack wsX5_put := goodIn_r _ [19, 13, 14, 15, 41, 42, 43] (by decide +kernel) (by decide +kernel)
set_option maxRecDepth 20000 in
theorem gX4_takeBack_X5_put : GoodIn wsX4_takeBack (wsV RX4 53 RX5 yX5_put wsX5_put) := goodIn_app (goodIn_of _ (by decide +kernel)) ggX4_takeBack_X5_put
set_option maxRecDepth 20000 in
theorem ggX4_takeBack_X7_add : GoodIn wsX4_takeBack wsX7_add := goodIn_r _ [24, 25, 26, 27, 28, 29, 30, 31, 11, 32, 14, 15, 33, 34, 35, 36, 37, 17, 18, 19, 13, 44, 45, 46, 47, 41, 42, 43] (by decide +kernel) (by decide +kernel)
set_option maxRecDepth 20000 in
theorem gX4_takeBack_X7_add : GoodIn wsX4_takeBack (wsV RX4 75 RX7 yX7_add wsX7_add) := goodIn_app (goodIn_of _ (by decide +kernel)) ggX4_takeBack_X7_add
theorem dX4_takeBack_0 : decode cX4_takeBack 0 = .ok (.aload_n 0, 1) := by decide +kernel
theorem dX4_takeBack_1 : decode cX4_takeBack 1 = .ok (.iload_n 1, 1) := by decide +kernel
theorem dX4_takeBack_2 : decode cX4_takeBack 2 = .ok (.invokevirtual 58, 3) := by decide +kernel
theorem dX4_takeBack_5 : decode cX4_takeBack 5 = .ok (.ifCond .eq 63, 3) := by decide +kernel
theorem dX4_takeBack_8 : decode cX4_takeBack 8 = .ok (.aload_n 0, 1) := by decide +kernel
theorem dX4_takeBack_9 : decode cX4_takeBack 9 = .ok (.getfield 16, 3) := by decide +kernel
theorem dX4_takeBack_12 : decode cX4_takeBack 12 = .ok (.iload_n 1, 1) := by decide +kernel
theorem dX4_takeBack_13 : decode cX4_takeBack 13 = .ok (.bipush 6, 2) := by decide +kernel
theorem dX4_takeBack_15 : decode cX4_takeBack 15 = .ok (.aload_n 0, 1) := by decide +kernel
theorem dX4_takeBack_16 : decode cX4_takeBack 16 = .ok (.getfield 16, 3) := by decide +kernel
theorem dX4_takeBack_19 : decode cX4_takeBack 19 = .ok (.iload_n 1, 1) := by decide +kernel
theorem dX4_takeBack_20 : decode cX4_takeBack 20 = .ok (.bipush 6, 2) := by decide +kernel
theorem dX4_takeBack_22 : decode cX4_takeBack 22 = .ok (.invokevirtual 38, 3) := by decide +kernel
theorem dX4_takeBack_25 : decode cX4_takeBack 25 = .ok (.iconst 1, 1) := by decide +kernel
theorem dX4_takeBack_26 : decode cX4_takeBack 26 = .ok (.iadd, 1) := by decide +kernel
theorem dX4_takeBack_27 : decode cX4_takeBack 27 = .ok (.invokevirtual 53, 3) := by decide +kernel
theorem dX4_takeBack_30 : decode cX4_takeBack 30 = .ok (.aload_n 0, 1) := by decide +kernel
theorem dX4_takeBack_31 : decode cX4_takeBack 31 = .ok (.getfield 16, 3) := by decide +kernel
theorem dX4_takeBack_34 : decode cX4_takeBack 34 = .ok (.iload_n 1, 1) := by decide +kernel
theorem dX4_takeBack_35 : decode cX4_takeBack 35 = .ok (.bipush 7, 2) := by decide +kernel
theorem dX4_takeBack_37 : decode cX4_takeBack 37 = .ok (.invokevirtual 38, 3) := by decide +kernel
theorem dX4_takeBack_40 : decode cX4_takeBack 40 = .ok (.istore_n 2, 1) := by decide +kernel
theorem dX4_takeBack_41 : decode cX4_takeBack 41 = .ok (.aload_n 0, 1) := by decide +kernel
theorem dX4_takeBack_42 : decode cX4_takeBack 42 = .ok (.getfield 23, 3) := by decide +kernel
theorem dX4_takeBack_45 : decode cX4_takeBack 45 = .ok (.iconst 1, 1) := by decide +kernel
theorem dX4_takeBack_46 : decode cX4_takeBack 46 = .ok (.iload_n 2, 1) := by decide +kernel
theorem dX4_takeBack_47 : decode cX4_takeBack 47 = .ok (.aload_n 0, 1) := by decide +kernel
theorem dX4_takeBack_48 : decode cX4_takeBack 48 = .ok (.getfield 16, 3) := by decide +kernel
theorem dX4_takeBack_51 : decode cX4_takeBack 51 = .ok (.iload_n 1, 1) := by decide +kernel
theorem dX4_takeBack_52 : decode cX4_takeBack 52 = .ok (.iconst 1, 1) := by decide +kernel
theorem dX4_takeBack_53 : decode cX4_takeBack 53 = .ok (.invokevirtual 38, 3) := by decide +kernel
theorem dX4_takeBack_56 : decode cX4_takeBack 56 = .ok (.aload_n 0, 1) := by decide +kernel
theorem dX4_takeBack_57 : decode cX4_takeBack 57 = .ok (.getfield 16, 3) := by decide +kernel
theorem dX4_takeBack_60 : decode cX4_takeBack 60 = .ok (.iload_n 1, 1) := by decide +kernel
theorem dX4_takeBack_61 : decode cX4_takeBack 61 = .ok (.iconst 2, 1) := by decide +kernel
theorem dX4_takeBack_62 : decode cX4_takeBack 62 = .ok (.invokevirtual 38, 3) := by decide +kernel
theorem dX4_takeBack_65 : decode cX4_takeBack 65 = .ok (.invokevirtual 75, 3) := by decide +kernel
theorem dX4_takeBack_68 : decode cX4_takeBack 68 = .ok (.return_, 1) := by decide +kernel
theorem dX5_init_0 : decode cX5_init 0 = .ok (.aload_n 0, 1) := by decide +kernel
theorem dX5_init_1 : decode cX5_init 1 = .ok (.invokespecial 1, 3) := by decide +kernel
theorem dX5_init_4 : decode cX5_init 4 = .ok (.aload_n 0, 1) := by decide +kernel
theorem dX5_init_5 : decode cX5_init 5 = .ok (.iconst 0, 1) := by decide +kernel
theorem dX5_init_6 : decode cX5_init 6 = .ok (.iload_n 1, 1) := by decide +kernel
theorem dX5_init_7 : decode cX5_init 7 = .ok (.invokestatic 7, 3) := by decide +kernel
theorem dX5_init_10 : decode cX5_init 10 = .ok (.putfield 13, 3) := by decide +kernel
theorem dX5_init_13 : decode cX5_init 13 = .ok (.aload_n 0, 1) := by decide +kernel
theorem dX5_init_14 : decode cX5_init 14 = .ok (.iconst 0, 1) := by decide +kernel
theorem dX5_init_15 : decode cX5_init 15 = .ok (.iload_n 2, 1) := by decide +kernel
theorem dX5_init_16 : decode cX5_init 16 = .ok (.invokestatic 7, 3) := by decide +kernel
theorem dX5_init_19 : decode cX5_init 19 = .ok (.putfield 19, 3) := by decide +kernel
theorem dX5_init_22 : decode cX5_init 22 = .ok (.aload_n 0, 1) := by decide +kernel
theorem dX5_init_23 : decode cX5_init 23 = .ok (.iconst 0, 1) := by decide +kernel
theorem dX5_init_24 : decode cX5_init 24 = .ok (.aload_n 0, 1) := by decide +kernel
theorem dX5_init_25 : decode cX5_init 25 = .ok (.getfield 13, 3) := by decide +kernel
theorem dX5_init_28 : decode cX5_init 28 = .ok (.aload_n 0, 1) := by decide +kernel
theorem dX5_init_29 : decode cX5_init 29 = .ok (.getfield 19, 3) := by decide +kernel
theorem dX5_init_32 : decode cX5_init 32 = .ok (.imul, 1) := by decide +kernel
theorem dX5_init_33 : decode cX5_init 33 = .ok (.invokestatic 7, 3) := by decide +kernel
theorem dX5_init_36 : decode cX5_init 36 = .ok (.newarray .int, 2) := by decide +kernel
theorem dX5_init_38 : decode cX5_init 38 = .ok (.putfield 22, 3) := by decide +kernel
theorem dX5_init_41 : decode cX5_init 41 = .ok (.return_, 1) := by decide +kernel
theorem dX5_copyFrom_0 : decode cX5_copyFrom 0 = .ok (.aload_n 1, 1) := by decide +kernel
theorem dX5_copyFrom_1 : decode cX5_copyFrom 1 = .ok (.getfield 22, 3) := by decide +kernel
theorem dX5_copyFrom_4 : decode cX5_copyFrom 4 = .ok (.arraylength, 1) := by decide +kernel
theorem dX5_copyFrom_5 : decode cX5_copyFrom 5 = .ok (.aload_n 0, 1) := by decide +kernel
theorem dX5_copyFrom_6 : decode cX5_copyFrom 6 = .ok (.getfield 22, 3) := by decide +kernel
theorem dX5_copyFrom_9 : decode cX5_copyFrom 9 = .ok (.arraylength, 1) := by decide +kernel
theorem dX5_copyFrom_10 : decode cX5_copyFrom 10 = .ok (.if_icmp .ne 21, 3) := by decide +kernel
theorem dX5_copyFrom_13 : decode cX5_copyFrom 13 = .ok (.aload_n 1, 1) := by decide +kernel
theorem dX5_copyFrom_14 : decode cX5_copyFrom 14 = .ok (.getfield 22, 3) := by decide +kernel
theorem dX5_copyFrom_17 : decode cX5_copyFrom 17 = .ok (.iconst 0, 1) := by decide +kernel
theorem dX5_copyFrom_18 : decode cX5_copyFrom 18 = .ok (.aload_n 0, 1) := by decide +kernel
theorem dX5_copyFrom_19 : decode cX5_copyFrom 19 = .ok (.getfield 22, 3) := by decide +kernel
theorem dX5_copyFrom_22 : decode cX5_copyFrom 22 = .ok (.iconst 0, 1) := by decide +kernel
theorem dX5_copyFrom_23 : decode cX5_copyFrom 23 = .ok (.aload_n 0, 1) := by decide +kernel
theorem dX5_copyFrom_24 : decode cX5_copyFrom 24 = .ok (.getfield 22, 3) := by decide +kernel
theorem dX5_copyFrom_27 : decode cX5_copyFrom 27 = .ok (.arraylength, 1) := by decide +kernel
theorem dX5_copyFrom_28 : decode cX5_copyFrom 28 = .ok (.invokestatic 26, 3) := by decide +kernel
theorem dX5_copyFrom_31 : decode cX5_copyFrom 31 = .ok (.return_, 1) := by decide +kernel
theorem dX5_get_0 : decode cX5_get 0 = .ok (.iload_n 1, 1) := by decide +kernel
theorem dX5_get_1 : decode cX5_get 1 = .ok (.ifCond .lt 23, 3) := by decide +kernel
theorem dX5_get_4 : decode cX5_get 4 = .ok (.iload_n 1, 1) := by decide +kernel
theorem dX5_get_5 : decode cX5_get 5 = .ok (.aload_n 0, 1) := by decide +kernel
theorem dX5_get_6 : decode cX5_get 6 = .ok (.getfield 13, 3) := by decide +kernel
theorem dX5_get_9 : decode cX5_get 9 = .ok (.if_icmp .ge 15, 3) := by decide +kernel
theorem dX5_get_12 : decode cX5_get 12 = .ok (.iload_n 2, 1) := by decide +kernel
theorem dX5_get_13 : decode cX5_get 13 = .ok (.ifCond .lt 11, 3) := by decide +kernel
theorem dX5_get_16 : decode cX5_get 16 = .ok (.iload_n 2, 1) := by decide +kernel
theorem dX5_get_17 : decode cX5_get 17 = .ok (.aload_n 0, 1) := by decide +kernel
theorem dX5_get_18 : decode cX5_get 18 = .ok (.getfield 19, 3) := by decide +kernel
theorem dX5_get_21 : decode cX5_get 21 = .ok (.if_icmp .lt 5, 3) := by decide +kernel
theorem dX5_get_24 : decode cX5_get 24 = .ok (.iconst 0, 1) := by decide +kernel
theorem dX5_get_25 : decode cX5_get 25 = .ok (.ireturn, 1) := by decide +kernel
theorem dX5_get_26 : decode cX5_get 26 = .ok (.iload_n 1, 1) := by decide +kernel
theorem dX5_get_27 : decode cX5_get 27 = .ok (.aload_n 0, 1) := by decide +kernel
theorem dX5_get_28 : decode cX5_get 28 = .ok (.getfield 19, 3) := by decide +kernel
theorem dX5_get_31 : decode cX5_get 31 = .ok (.imul, 1) := by decide +kernel
theorem dX5_get_32 : decode cX5_get 32 = .ok (.iload_n 2, 1) := by decide +kernel
theorem dX5_get_33 : decode cX5_get 33 = .ok (.iadd, 1) := by decide +kernel
theorem dX5_get_34 : decode cX5_get 34 = .ok (.istore_n 3, 1) := by decide +kernel
theorem dX5_get_35 : decode cX5_get 35 = .ok (.iload_n 3, 1) := by decide +kernel
theorem dX5_get_36 : decode cX5_get 36 = .ok (.ifCond .lt 21, 3) := by decide +kernel
theorem dX5_get_39 : decode cX5_get 39 = .ok (.iload_n 3, 1) := by decide +kernel
theorem dX5_get_40 : decode cX5_get 40 = .ok (.aload_n 0, 1) := by decide +kernel
theorem dX5_get_41 : decode cX5_get 41 = .ok (.getfield 22, 3) := by decide +kernel
theorem dX5_get_44 : decode cX5_get 44 = .ok (.arraylength, 1) := by decide +kernel
theorem dX5_get_45 : decode cX5_get 45 = .ok (.if_icmp .ge 12, 3) := by decide +kernel
theorem dX5_get_48 : decode cX5_get 48 = .ok (.aload_n 0, 1) := by decide +kernel
theorem dX5_get_49 : decode cX5_get 49 = .ok (.getfield 22, 3) := by decide +kernel
theorem dX5_get_52 : decode cX5_get 52 = .ok (.iload_n 3, 1) := by decide +kernel
theorem dX5_get_53 : decode cX5_get 53 = .ok (.iaload, 1) := by decide +kernel
theorem dX5_get_54 : decode cX5_get 54 = .ok (.goto 4, 3) := by decide +kernel
theorem dX5_get_57 : decode cX5_get 57 = .ok (.iconst 0, 1) := by decide +kernel
theorem dX5_get_58 : decode cX5_get 58 = .ok (.ireturn, 1) := by decide +kernel
theorem dX5_put_0 : decode cX5_put 0 = .ok (.iload_n 1, 1) := by decide +kernel
theorem dX5_put_1 : decode cX5_put 1 = .ok (.ifCond .lt 23, 3) := by decide +kernel
theorem dX5_put_4 : decode cX5_put 4 = .ok (.iload_n 1, 1) := by decide +kernel
theorem dX5_put_5 : decode cX5_put 5 = .ok (.aload_n 0, 1) := by decide +kernel
theorem dX5_put_6 : decode cX5_put 6 = .ok (.getfield 13, 3) := by decide +kernel
theorem dX5_put_9 : decode cX5_put 9 = .ok (.if_icmp .ge 15, 3) := by decide +kernel
theorem dX5_put_12 : decode cX5_put 12 = .ok (.iload_n 2, 1) := by decide +kernel
theorem dX5_put_13 : decode cX5_put 13 = .ok (.ifCond .lt 11, 3) := by decide +kernel
theorem dX5_put_16 : decode cX5_put 16 = .ok (.iload_n 2, 1) := by decide +kernel
theorem dX5_put_17 : decode cX5_put 17 = .ok (.aload_n 0, 1) := by decide +kernel
theorem dX5_put_18 : decode cX5_put 18 = .ok (.getfield 19, 3) := by decide +kernel
theorem dX5_put_21 : decode cX5_put 21 = .ok (.if_icmp .lt 4, 3) := by decide +kernel
theorem dX5_put_24 : decode cX5_put 24 = .ok (.return_, 1) := by decide +kernel
theorem dX5_put_25 : decode cX5_put 25 = .ok (.iload_n 1, 1) := by decide +kernel
theorem dX5_put_26 : decode cX5_put 26 = .ok (.aload_n 0, 1) := by decide +kernel
theorem dX5_put_27 : decode cX5_put 27 = .ok (.getfield 19, 3) := by decide +kernel
theorem dX5_put_30 : decode cX5_put 30 = .ok (.imul, 1) := by decide +kernel
theorem dX5_put_31 : decode cX5_put 31 = .ok (.iload_n 2, 1) := by decide +kernel
theorem dX5_put_32 : decode cX5_put 32 = .ok (.iadd, 1) := by decide +kernel
theorem dX5_put_33 : decode cX5_put 33 = .ok (.istore 4, 2) := by decide +kernel
theorem dX5_put_35 : decode cX5_put 35 = .ok (.iload 4, 2) := by decide +kernel
theorem dX5_put_37 : decode cX5_put 37 = .ok (.ifCond .lt 21, 3) := by decide +kernel
theorem dX5_put_40 : decode cX5_put 40 = .ok (.iload 4, 2) := by decide +kernel
theorem dX5_put_42 : decode cX5_put 42 = .ok (.aload_n 0, 1) := by decide +kernel
theorem dX5_put_43 : decode cX5_put 43 = .ok (.getfield 22, 3) := by decide +kernel
theorem dX5_put_46 : decode cX5_put 46 = .ok (.arraylength, 1) := by decide +kernel
theorem dX5_put_47 : decode cX5_put 47 = .ok (.if_icmp .ge 11, 3) := by decide +kernel
theorem dX5_put_50 : decode cX5_put 50 = .ok (.aload_n 0, 1) := by decide +kernel
theorem dX5_put_51 : decode cX5_put 51 = .ok (.getfield 22, 3) := by decide +kernel
theorem dX5_put_54 : decode cX5_put 54 = .ok (.iload 4, 2) := by decide +kernel
theorem dX5_put_56 : decode cX5_put 56 = .ok (.iload_n 3, 1) := by decide +kernel
theorem dX5_put_57 : decode cX5_put 57 = .ok (.iastore, 1) := by decide +kernel
theorem dX5_put_58 : decode cX5_put 58 = .ok (.return_, 1) := by decide +kernel
set_option maxRecDepth 20000 in
theorem ggX5_openRow_X5_put : GoodIn wsX5_openRow wsX5_put := goodIn_r _ [12, 2, 1, 3, 13, 14, 15] (by decide +kernel) (by decide +kernel)
set_option maxRecDepth 20000 in
theorem gX5_openRow_X5_put : GoodIn wsX5_openRow (wsV RX5 32 RX5 yX5_put wsX5_put) := goodIn_app (goodIn_of _ (by decide +kernel)) ggX5_openRow_X5_put
theorem dX5_openRow_0 : decode cX5_openRow 0 = .ok (.iload_n 1, 1) := by decide +kernel
theorem dX5_openRow_1 : decode cX5_openRow 1 = .ok (.aload_n 0, 1) := by decide +kernel
theorem dX5_openRow_2 : decode cX5_openRow 2 = .ok (.getfield 19, 3) := by decide +kernel
theorem dX5_openRow_5 : decode cX5_openRow 5 = .ok (.imul, 1) := by decide +kernel
theorem dX5_openRow_6 : decode cX5_openRow 6 = .ok (.istore_n 2, 1) := by decide +kernel
theorem dX5_openRow_7 : decode cX5_openRow 7 = .ok (.iload_n 2, 1) := by decide +kernel
theorem dX5_openRow_8 : decode cX5_openRow 8 = .ok (.aload_n 0, 1) := by decide +kernel
theorem dX5_openRow_9 : decode cX5_openRow 9 = .ok (.getfield 19, 3) := by decide +kernel
theorem dX5_openRow_12 : decode cX5_openRow 12 = .ok (.iadd, 1) := by decide +kernel
theorem dX5_openRow_13 : decode cX5_openRow 13 = .ok (.istore_n 3, 1) := by decide +kernel
theorem dX5_openRow_14 : decode cX5_openRow 14 = .ok (.iload_n 1, 1) := by decide +kernel
theorem dX5_openRow_15 : decode cX5_openRow 15 = .ok (.ifCond .lt 75, 3) := by decide +kernel
theorem dX5_openRow_18 : decode cX5_openRow 18 = .ok (.iload_n 1, 1) := by decide +kernel
theorem dX5_openRow_19 : decode cX5_openRow 19 = .ok (.aload_n 0, 1) := by decide +kernel
theorem dX5_openRow_20 : decode cX5_openRow 20 = .ok (.getfield 13, 3) := by decide +kernel
theorem dX5_openRow_23 : decode cX5_openRow 23 = .ok (.if_icmp .ge 67, 3) := by decide +kernel
theorem dX5_openRow_26 : decode cX5_openRow 26 = .ok (.iload_n 2, 1) := by decide +kernel
theorem dX5_openRow_27 : decode cX5_openRow 27 = .ok (.ifCond .lt 63, 3) := by decide +kernel
theorem dX5_openRow_30 : decode cX5_openRow 30 = .ok (.iload_n 3, 1) := by decide +kernel
theorem dX5_openRow_31 : decode cX5_openRow 31 = .ok (.iload_n 2, 1) := by decide +kernel
theorem dX5_openRow_32 : decode cX5_openRow 32 = .ok (.if_icmp .lt 58, 3) := by decide +kernel
theorem dX5_openRow_35 : decode cX5_openRow 35 = .ok (.iload_n 3, 1) := by decide +kernel
theorem dX5_openRow_36 : decode cX5_openRow 36 = .ok (.aload_n 0, 1) := by decide +kernel
theorem dX5_openRow_37 : decode cX5_openRow 37 = .ok (.getfield 22, 3) := by decide +kernel
theorem dX5_openRow_40 : decode cX5_openRow 40 = .ok (.arraylength, 1) := by decide +kernel
theorem dX5_openRow_41 : decode cX5_openRow 41 = .ok (.if_icmp .gt 49, 3) := by decide +kernel
theorem dX5_openRow_44 : decode cX5_openRow 44 = .ok (.aload_n 0, 1) := by decide +kernel
theorem dX5_openRow_45 : decode cX5_openRow 45 = .ok (.getfield 22, 3) := by decide +kernel
theorem dX5_openRow_48 : decode cX5_openRow 48 = .ok (.iload_n 2, 1) := by decide +kernel
theorem dX5_openRow_49 : decode cX5_openRow 49 = .ok (.aload_n 0, 1) := by decide +kernel
theorem dX5_openRow_50 : decode cX5_openRow 50 = .ok (.getfield 22, 3) := by decide +kernel
theorem dX5_openRow_53 : decode cX5_openRow 53 = .ok (.iload_n 3, 1) := by decide +kernel
theorem dX5_openRow_54 : decode cX5_openRow 54 = .ok (.aload_n 0, 1) := by decide +kernel
theorem dX5_openRow_55 : decode cX5_openRow 55 = .ok (.getfield 22, 3) := by decide +kernel
theorem dX5_openRow_58 : decode cX5_openRow 58 = .ok (.arraylength, 1) := by decide +kernel
theorem dX5_openRow_59 : decode cX5_openRow 59 = .ok (.iload_n 3, 1) := by decide +kernel
theorem dX5_openRow_60 : decode cX5_openRow 60 = .ok (.isub, 1) := by decide +kernel
theorem dX5_openRow_61 : decode cX5_openRow 61 = .ok (.invokestatic 26, 3) := by decide +kernel
theorem dX5_openRow_64 : decode cX5_openRow 64 = .ok (.iconst 0, 1) := by decide +kernel
theorem dX5_openRow_65 : decode cX5_openRow 65 = .ok (.istore 4, 2) := by decide +kernel
theorem dX5_openRow_67 : decode cX5_openRow 67 = .ok (.iload 4, 2) := by decide +kernel
theorem dX5_openRow_69 : decode cX5_openRow 69 = .ok (.aload_n 0, 1) := by decide +kernel
theorem dX5_openRow_70 : decode cX5_openRow 70 = .ok (.getfield 19, 3) := by decide +kernel
theorem dX5_openRow_73 : decode cX5_openRow 73 = .ok (.if_icmp .ge 17, 3) := by decide +kernel
theorem dX5_openRow_76 : decode cX5_openRow 76 = .ok (.aload_n 0, 1) := by decide +kernel
theorem dX5_openRow_77 : decode cX5_openRow 77 = .ok (.iload_n 1, 1) := by decide +kernel
theorem dX5_openRow_78 : decode cX5_openRow 78 = .ok (.iload 4, 2) := by decide +kernel
theorem dX5_openRow_80 : decode cX5_openRow 80 = .ok (.iconst 0, 1) := by decide +kernel
theorem dX5_openRow_81 : decode cX5_openRow 81 = .ok (.invokevirtual 32, 3) := by decide +kernel
theorem dX5_openRow_84 : decode cX5_openRow 84 = .ok (.iinc 4 1, 3) := by decide +kernel
theorem dX5_openRow_87 : decode cX5_openRow 87 = .ok (.goto (-20), 3) := by decide +kernel
theorem dX5_openRow_90 : decode cX5_openRow 90 = .ok (.return_, 1) := by decide +kernel
theorem dX5_dropFirstRow_0 : decode cX5_dropFirstRow 0 = .ok (.aload_n 0, 1) := by decide +kernel
theorem dX5_dropFirstRow_1 : decode cX5_dropFirstRow 1 = .ok (.getfield 19, 3) := by decide +kernel
theorem dX5_dropFirstRow_4 : decode cX5_dropFirstRow 4 = .ok (.aload_n 0, 1) := by decide +kernel
theorem dX5_dropFirstRow_5 : decode cX5_dropFirstRow 5 = .ok (.getfield 22, 3) := by decide +kernel
theorem dX5_dropFirstRow_8 : decode cX5_dropFirstRow 8 = .ok (.arraylength, 1) := by decide +kernel
theorem dX5_dropFirstRow_9 : decode cX5_dropFirstRow 9 = .ok (.if_icmp .gt 29, 3) := by decide +kernel
theorem dX5_dropFirstRow_12 : decode cX5_dropFirstRow 12 = .ok (.aload_n 0, 1) := by decide +kernel
theorem dX5_dropFirstRow_13 : decode cX5_dropFirstRow 13 = .ok (.getfield 22, 3) := by decide +kernel
theorem dX5_dropFirstRow_16 : decode cX5_dropFirstRow 16 = .ok (.aload_n 0, 1) := by decide +kernel
theorem dX5_dropFirstRow_17 : decode cX5_dropFirstRow 17 = .ok (.getfield 19, 3) := by decide +kernel
theorem dX5_dropFirstRow_20 : decode cX5_dropFirstRow 20 = .ok (.aload_n 0, 1) := by decide +kernel
theorem dX5_dropFirstRow_21 : decode cX5_dropFirstRow 21 = .ok (.getfield 22, 3) := by decide +kernel
theorem dX5_dropFirstRow_24 : decode cX5_dropFirstRow 24 = .ok (.iconst 0, 1) := by decide +kernel
theorem dX5_dropFirstRow_25 : decode cX5_dropFirstRow 25 = .ok (.aload_n 0, 1) := by decide +kernel
theorem dX5_dropFirstRow_26 : decode cX5_dropFirstRow 26 = .ok (.getfield 22, 3) := by decide +kernel
theorem dX5_dropFirstRow_29 : decode cX5_dropFirstRow 29 = .ok (.arraylength, 1) := by decide +kernel
theorem dX5_dropFirstRow_30 : decode cX5_dropFirstRow 30 = .ok (.aload_n 0, 1) := by decide +kernel
theorem dX5_dropFirstRow_31 : decode cX5_dropFirstRow 31 = .ok (.getfield 19, 3) := by decide +kernel
theorem dX5_dropFirstRow_34 : decode cX5_dropFirstRow 34 = .ok (.isub, 1) := by decide +kernel
theorem dX5_dropFirstRow_35 : decode cX5_dropFirstRow 35 = .ok (.invokestatic 26, 3) := by decide +kernel
theorem dX5_dropFirstRow_38 : decode cX5_dropFirstRow 38 = .ok (.return_, 1) := by decide +kernel
theorem dX6_init_0 : decode cX6_init 0 = .ok (.aload_n 0, 1) := by decide +kernel
theorem dX6_init_1 : decode cX6_init 1 = .ok (.invokespecial 3, 3) := by decide +kernel
theorem dX6_init_4 : decode cX6_init 4 = .ok (.aload_n 0, 1) := by decide +kernel
theorem dX6_init_5 : decode cX6_init 5 = .ok (.bipush 80, 2) := by decide +kernel
theorem dX6_init_7 : decode cX6_init 7 = .ok (.newarray .char, 2) := by decide +kernel
theorem dX6_init_9 : decode cX6_init 9 = .ok (.putfield 11, 3) := by decide +kernel
theorem dX6_init_12 : decode cX6_init 12 = .ok (.return_, 1) := by decide +kernel
theorem dX6_length_0 : decode cX6_length 0 = .ok (.aload_n 0, 1) := by decide +kernel
theorem dX6_length_1 : decode cX6_length 1 = .ok (.getfield 15, 3) := by decide +kernel
theorem dX6_length_4 : decode cX6_length 4 = .ok (.ireturn, 1) := by decide +kernel
set_option maxRecDepth 20000 in
theorem ggX7_init_X5_init : GoodIn wsX7_init wsX5_init := goodIn_r _ [10, 11, 2, 3, 12, 13, 14, 15, 16, 17, 18, 19, 20, 21, 22] (by decide +kernel) (by decide +kernel)
set_option maxRecDepth 20000 in
theorem gX7_init_X5_init : GoodIn wsX7_init (wsX5_init) := ggX7_init_X5_init
theorem dX7_init_0 : decode cX7_init 0 = .ok (.aload_n 0, 1) := by decide +kernel
theorem dX7_init_1 : decode cX7_init 1 = .ok (.invokespecial 3, 3) := by decide +kernel
theorem dX7_init_4 : decode cX7_init 4 = .ok (.aload_n 0, 1) := by decide +kernel
theorem dX7_init_5 : decode cX7_init 5 = .ok (.new 9, 3) := by decide +kernel
theorem dX7_init_8 : decode cX7_init 8 = .ok (.dup, 1) := by decide +kernel
theorem dX7_init_9 : decode cX7_init 9 = .ok (.bipush 40, 2) := by decide +kernel
theorem dX7_init_11 : decode cX7_init 11 = .ok (.iconst 4, 1) := by decide +kernel
theorem dX7_init_12 : decode cX7_init 12 = .ok (.invokespecial 13, 3) := by decide +kernel
theorem dX7_init_15 : decode cX7_init 15 = .ok (.putfield 16, 3) := by decide +kernel
theorem dX7_init_18 : decode cX7_init 18 = .ok (.return_, 1) := by decide +kernel
set_option maxRecDepth 20000 in
theorem ggX7_copyFrom_X5_copyFrom : GoodIn wsX7_copyFrom wsX5_copyFrom := goodIn_r _ [9, 10, 11, 12, 13, 14, 19, 20, 21] (by decide +kernel) (by decide +kernel)
set_option maxRecDepth 20000 in
theorem gX7_copyFrom_X5_copyFrom : GoodIn wsX7_copyFrom (wsV RX7 20 RX5 yX5_copyFrom wsX5_copyFrom) := goodIn_app (goodIn_of _ (by decide +kernel)) ggX7_copyFrom_X5_copyFrom
theorem dX7_copyFrom_0 : decode cX7_copyFrom 0 = .ok (.aload_n 0, 1) := by decide +kernel
theorem dX7_copyFrom_1 : decode cX7_copyFrom 1 = .ok (.getfield 16, 3) := by decide +kernel
theorem dX7_copyFrom_4 : decode cX7_copyFrom 4 = .ok (.aload_n 1, 1) := by decide +kernel
theorem dX7_copyFrom_5 : decode cX7_copyFrom 5 = .ok (.getfield 16, 3) := by decide +kernel
theorem dX7_copyFrom_8 : decode cX7_copyFrom 8 = .ok (.invokevirtual 20, 3) := by decide +kernel
theorem dX7_copyFrom_11 : decode cX7_copyFrom 11 = .ok (.aload_n 0, 1) := by decide +kernel
theorem dX7_copyFrom_12 : decode cX7_copyFrom 12 = .ok (.aload_n 1, 1) := by decide +kernel
theorem dX7_copyFrom_13 : decode cX7_copyFrom 13 = .ok (.getfield 24, 3) := by decide +kernel
theorem dX7_copyFrom_16 : decode cX7_copyFrom 16 = .ok (.putfield 24, 3) := by decide +kernel
theorem dX7_copyFrom_19 : decode cX7_copyFrom 19 = .ok (.aload_n 0, 1) := by decide +kernel
theorem dX7_copyFrom_20 : decode cX7_copyFrom 20 = .ok (.aload_n 1, 1) := by decide +kernel
theorem dX7_copyFrom_21 : decode cX7_copyFrom 21 = .ok (.getfield 28, 3) := by decide +kernel
theorem dX7_copyFrom_24 : decode cX7_copyFrom 24 = .ok (.putfield 28, 3) := by decide +kernel
theorem dX7_copyFrom_27 : decode cX7_copyFrom 27 = .ok (.aload_n 0, 1) := by decide +kernel
theorem dX7_copyFrom_28 : decode cX7_copyFrom 28 = .ok (.aload_n 1, 1) := by decide +kernel
theorem dX7_copyFrom_29 : decode cX7_copyFrom 29 = .ok (.getfield 31, 3) := by decide +kernel
theorem dX7_copyFrom_32 : decode cX7_copyFrom 32 = .ok (.putfield 31, 3) := by decide +kernel
theorem dX7_copyFrom_35 : decode cX7_copyFrom 35 = .ok (.return_, 1) := by decide +kernel
theorem dX7_kept_0 : decode cX7_kept 0 = .ok (.aload_n 0, 1) := by decide +kernel
theorem dX7_kept_1 : decode cX7_kept 1 = .ok (.getfield 24, 3) := by decide +kernel
theorem dX7_kept_4 : decode cX7_kept 4 = .ok (.ireturn, 1) := by decide +kernel
theorem dX7_told_0 : decode cX7_told 0 = .ok (.aload_n 0, 1) := by decide +kernel
theorem dX7_told_1 : decode cX7_told 1 = .ok (.getfield 28, 3) := by decide +kernel
theorem dX7_told_4 : decode cX7_told 4 = .ok (.ireturn, 1) := by decide +kernel
theorem dX7_takenBack_0 : decode cX7_takenBack 0 = .ok (.aload_n 0, 1) := by decide +kernel
theorem dX7_takenBack_1 : decode cX7_takenBack 1 = .ok (.getfield 31, 3) := by decide +kernel
theorem dX7_takenBack_4 : decode cX7_takenBack 4 = .ok (.ireturn, 1) := by decide +kernel
set_option maxRecDepth 20000 in
theorem ggX7_read_X5_get : GoodIn wsX7_read wsX5_get := goodIn_r _ [8, 9, 10, 11, 16, 17, 18] (by decide +kernel) (by decide +kernel)
set_option maxRecDepth 20000 in
theorem gX7_read_X5_get : GoodIn wsX7_read (wsV RX7 34 RX5 yX5_get wsX5_get) := goodIn_app (goodIn_of _ (by decide +kernel)) ggX7_read_X5_get
theorem dX7_read_0 : decode cX7_read 0 = .ok (.iload_n 1, 1) := by decide +kernel
theorem dX7_read_1 : decode cX7_read 1 = .ok (.aload_n 0, 1) := by decide +kernel
theorem dX7_read_2 : decode cX7_read 2 = .ok (.getfield 24, 3) := by decide +kernel
theorem dX7_read_5 : decode cX7_read 5 = .ok (.if_icmp .ge 15, 3) := by decide +kernel
theorem dX7_read_8 : decode cX7_read 8 = .ok (.aload_n 0, 1) := by decide +kernel
theorem dX7_read_9 : decode cX7_read 9 = .ok (.getfield 16, 3) := by decide +kernel
theorem dX7_read_12 : decode cX7_read 12 = .ok (.iload_n 1, 1) := by decide +kernel
theorem dX7_read_13 : decode cX7_read 13 = .ok (.iload_n 2, 1) := by decide +kernel
theorem dX7_read_14 : decode cX7_read 14 = .ok (.invokevirtual 34, 3) := by decide +kernel
theorem dX7_read_17 : decode cX7_read 17 = .ok (.goto 5, 3) := by decide +kernel
theorem dX7_read_20 : decode cX7_read 20 = .ok (.ldc 38, 2) := by decide +kernel
theorem dX7_read_22 : decode cX7_read 22 = .ok (.ireturn, 1) := by decide +kernel
set_option maxRecDepth 20000 in
theorem ggX7_add_X5_dropFirstRow : GoodIn wsX7_add wsX5_dropFirstRow := goodIn_r _ [9, 10, 11, 12, 13, 14, 15, 25, 26, 27] (by decide +kernel) (by decide +kernel)
set_option maxRecDepth 20000 in
theorem gX7_add_X5_dropFirstRow : GoodIn wsX7_add (wsV RX7 39 RX5 yX5_dropFirstRow wsX5_dropFirstRow) := goodIn_app (goodIn_of _ (by decide +kernel)) ggX7_add_X5_dropFirstRow
set_option maxRecDepth 20000 in
theorem ggX7_add_X5_put : GoodIn wsX7_add wsX5_put := goodIn_r _ [19, 20, 10, 11, 25, 26, 27] (by decide +kernel) (by decide +kernel)
set_option maxRecDepth 20000 in
theorem gX7_add_X5_put : GoodIn wsX7_add (wsV RX7 42 RX5 yX5_put wsX5_put) := goodIn_app (goodIn_of _ (by decide +kernel)) ggX7_add_X5_put
theorem dX7_add_0 : decode cX7_add 0 = .ok (.aload_n 0, 1) := by decide +kernel
theorem dX7_add_1 : decode cX7_add 1 = .ok (.getfield 24, 3) := by decide +kernel
theorem dX7_add_4 : decode cX7_add 4 = .ok (.bipush 40, 2) := by decide +kernel
theorem dX7_add_6 : decode cX7_add 6 = .ok (.if_icmp .ne 20, 3) := by decide +kernel
theorem dX7_add_9 : decode cX7_add 9 = .ok (.aload_n 0, 1) := by decide +kernel
theorem dX7_add_10 : decode cX7_add 10 = .ok (.getfield 16, 3) := by decide +kernel
theorem dX7_add_13 : decode cX7_add 13 = .ok (.invokevirtual 39, 3) := by decide +kernel
theorem dX7_add_16 : decode cX7_add 16 = .ok (.aload_n 0, 1) := by decide +kernel
theorem dX7_add_17 : decode cX7_add 17 = .ok (.dup, 1) := by decide +kernel
theorem dX7_add_18 : decode cX7_add 18 = .ok (.getfield 24, 3) := by decide +kernel
theorem dX7_add_21 : decode cX7_add 21 = .ok (.iconst 1, 1) := by decide +kernel
theorem dX7_add_22 : decode cX7_add 22 = .ok (.isub, 1) := by decide +kernel
theorem dX7_add_23 : decode cX7_add 23 = .ok (.putfield 24, 3) := by decide +kernel
theorem dX7_add_26 : decode cX7_add 26 = .ok (.aload_n 0, 1) := by decide +kernel
theorem dX7_add_27 : decode cX7_add 27 = .ok (.getfield 16, 3) := by decide +kernel
theorem dX7_add_30 : decode cX7_add 30 = .ok (.aload_n 0, 1) := by decide +kernel
theorem dX7_add_31 : decode cX7_add 31 = .ok (.getfield 24, 3) := by decide +kernel
theorem dX7_add_34 : decode cX7_add 34 = .ok (.iconst 0, 1) := by decide +kernel
theorem dX7_add_35 : decode cX7_add 35 = .ok (.iload_n 1, 1) := by decide +kernel
theorem dX7_add_36 : decode cX7_add 36 = .ok (.invokevirtual 42, 3) := by decide +kernel
theorem dX7_add_39 : decode cX7_add 39 = .ok (.aload_n 0, 1) := by decide +kernel
theorem dX7_add_40 : decode cX7_add 40 = .ok (.getfield 16, 3) := by decide +kernel
theorem dX7_add_43 : decode cX7_add 43 = .ok (.aload_n 0, 1) := by decide +kernel
theorem dX7_add_44 : decode cX7_add 44 = .ok (.getfield 24, 3) := by decide +kernel
theorem dX7_add_47 : decode cX7_add 47 = .ok (.iconst 1, 1) := by decide +kernel
theorem dX7_add_48 : decode cX7_add 48 = .ok (.iload_n 2, 1) := by decide +kernel
theorem dX7_add_49 : decode cX7_add 49 = .ok (.invokevirtual 42, 3) := by decide +kernel
theorem dX7_add_52 : decode cX7_add 52 = .ok (.aload_n 0, 1) := by decide +kernel
theorem dX7_add_53 : decode cX7_add 53 = .ok (.getfield 16, 3) := by decide +kernel
theorem dX7_add_56 : decode cX7_add 56 = .ok (.aload_n 0, 1) := by decide +kernel
theorem dX7_add_57 : decode cX7_add 57 = .ok (.getfield 24, 3) := by decide +kernel
theorem dX7_add_60 : decode cX7_add 60 = .ok (.iconst 2, 1) := by decide +kernel
theorem dX7_add_61 : decode cX7_add 61 = .ok (.iload_n 3, 1) := by decide +kernel
theorem dX7_add_62 : decode cX7_add 62 = .ok (.invokevirtual 42, 3) := by decide +kernel
theorem dX7_add_65 : decode cX7_add 65 = .ok (.aload_n 0, 1) := by decide +kernel
theorem dX7_add_66 : decode cX7_add 66 = .ok (.getfield 16, 3) := by decide +kernel
theorem dX7_add_69 : decode cX7_add 69 = .ok (.aload_n 0, 1) := by decide +kernel
theorem dX7_add_70 : decode cX7_add 70 = .ok (.getfield 24, 3) := by decide +kernel
theorem dX7_add_73 : decode cX7_add 73 = .ok (.iconst 3, 1) := by decide +kernel
theorem dX7_add_74 : decode cX7_add 74 = .ok (.iload 4, 2) := by decide +kernel
theorem dX7_add_76 : decode cX7_add 76 = .ok (.invokevirtual 42, 3) := by decide +kernel
theorem dX7_add_79 : decode cX7_add 79 = .ok (.aload_n 0, 1) := by decide +kernel
theorem dX7_add_80 : decode cX7_add 80 = .ok (.dup, 1) := by decide +kernel
theorem dX7_add_81 : decode cX7_add 81 = .ok (.getfield 24, 3) := by decide +kernel
theorem dX7_add_84 : decode cX7_add 84 = .ok (.iconst 1, 1) := by decide +kernel
theorem dX7_add_85 : decode cX7_add 85 = .ok (.iadd, 1) := by decide +kernel
theorem dX7_add_86 : decode cX7_add 86 = .ok (.putfield 24, 3) := by decide +kernel
theorem dX7_add_89 : decode cX7_add 89 = .ok (.iload_n 1, 1) := by decide +kernel
theorem dX7_add_90 : decode cX7_add 90 = .ok (.ifCond .ne 16, 3) := by decide +kernel
theorem dX7_add_93 : decode cX7_add 93 = .ok (.aload_n 0, 1) := by decide +kernel
theorem dX7_add_94 : decode cX7_add 94 = .ok (.dup, 1) := by decide +kernel
theorem dX7_add_95 : decode cX7_add 95 = .ok (.getfield 28, 3) := by decide +kernel
theorem dX7_add_98 : decode cX7_add 98 = .ok (.iconst 1, 1) := by decide +kernel
theorem dX7_add_99 : decode cX7_add 99 = .ok (.iadd, 1) := by decide +kernel
theorem dX7_add_100 : decode cX7_add 100 = .ok (.putfield 28, 3) := by decide +kernel
theorem dX7_add_103 : decode cX7_add 103 = .ok (.goto 13, 3) := by decide +kernel
theorem dX7_add_106 : decode cX7_add 106 = .ok (.aload_n 0, 1) := by decide +kernel
theorem dX7_add_107 : decode cX7_add 107 = .ok (.dup, 1) := by decide +kernel
theorem dX7_add_108 : decode cX7_add 108 = .ok (.getfield 31, 3) := by decide +kernel
theorem dX7_add_111 : decode cX7_add 111 = .ok (.iconst 1, 1) := by decide +kernel
theorem dX7_add_112 : decode cX7_add 112 = .ok (.iadd, 1) := by decide +kernel
theorem dX7_add_113 : decode cX7_add 113 = .ok (.putfield 31, 3) := by decide +kernel
theorem dX7_add_116 : decode cX7_add 116 = .ok (.return_, 1) := by decide +kernel
set_option maxRecDepth 20000 in
theorem ggX8_init_X1_init : GoodIn wsX8_init wsX1_init := goodIn_r _ [17, 18, 2, 3, 19, 20, 21, 22, 23, 24, 25, 26, 27, 28, 29, 30, 31, 32, 33, 34, 35, 36, 37, 38, 39, 40, 41, 42, 43, 44, 45, 46, 47, 48, 49, 50, 51, 52, 53, 54, 55, 56, 57, 58, 59, 60, 61, 62, 63, 64, 65, 66, 67, 68, 69, 70, 71, 72, 73, 74, 75, 76, 113, 114, 87, 88, 89, 90, 91, 92, 93, 94, 95, 115, 116, 117, 118, 119, 120, 121, 122, 123, 124, 125] (by decide +kernel) (by decide +kernel)
set_option maxRecDepth 20000 in
theorem gX8_init_X1_init_n9 : GoodIn wsX8_init (wsX1_init) := ggX8_init_X1_init
set_option maxRecDepth 20000 in
theorem ggX8_init_X3_init : GoodIn wsX8_init wsX3_init := goodIn_r _ [78, 79, 2, 3, 80, 81, 99, 100, 101] (by decide +kernel) (by decide +kernel)
set_option maxRecDepth 20000 in
theorem gX8_init_X3_init_n18 : GoodIn wsX8_init (wsX3_init) := ggX8_init_X3_init
set_option maxRecDepth 20000 in
theorem ggX8_init_X6_init : GoodIn wsX8_init wsX6_init := goodIn_r _ [83, 84, 2, 3, 85, 86, 102, 103, 104, 105, 106, 107, 108, 109, 110, 111, 112] (by decide +kernel) (by decide +kernel)
set_option maxRecDepth 20000 in
theorem gX8_init_X6_init_n25 : GoodIn wsX8_init (wsX6_init) := ggX8_init_X6_init
theorem dX8_init_0 : decode cX8_init 0 = .ok (.aload_n 0, 1) := by decide +kernel
theorem dX8_init_1 : decode cX8_init 1 = .ok (.invokespecial 1, 3) := by decide +kernel
theorem dX8_init_4 : decode cX8_init 4 = .ok (.aload_n 0, 1) := by decide +kernel
theorem dX8_init_5 : decode cX8_init 5 = .ok (.new 7, 3) := by decide +kernel
theorem dX8_init_8 : decode cX8_init 8 = .ok (.dup, 1) := by decide +kernel
theorem dX8_init_9 : decode cX8_init 9 = .ok (.invokespecial 9, 3) := by decide +kernel
theorem dX8_init_12 : decode cX8_init 12 = .ok (.putfield 10, 3) := by decide +kernel
theorem dX8_init_15 : decode cX8_init 15 = .ok (.aload_n 0, 1) := by decide +kernel
theorem dX8_init_16 : decode cX8_init 16 = .ok (.new 16, 3) := by decide +kernel
theorem dX8_init_19 : decode cX8_init 19 = .ok (.dup, 1) := by decide +kernel
theorem dX8_init_20 : decode cX8_init 20 = .ok (.invokespecial 18, 3) := by decide +kernel
theorem dX8_init_23 : decode cX8_init 23 = .ok (.putfield 19, 3) := by decide +kernel
theorem dX8_init_26 : decode cX8_init 26 = .ok (.aload_n 0, 1) := by decide +kernel
theorem dX8_init_27 : decode cX8_init 27 = .ok (.new 23, 3) := by decide +kernel
theorem dX8_init_30 : decode cX8_init 30 = .ok (.dup, 1) := by decide +kernel
theorem dX8_init_31 : decode cX8_init 31 = .ok (.invokespecial 25, 3) := by decide +kernel
theorem dX8_init_34 : decode cX8_init 34 = .ok (.putfield 26, 3) := by decide +kernel
theorem dX8_init_37 : decode cX8_init 37 = .ok (.return_, 1) := by decide +kernel
set_option maxRecDepth 20000 in
theorem ggX8_set_X8_isWithin : GoodIn wsX8_set wsX8_isWithin := goodIn_r _ [8] (by decide +kernel) (by decide +kernel)
set_option maxRecDepth 20000 in
theorem gX8_set_X8_isWithin : GoodIn wsX8_set (va_wsS RX8 30 yX8_isWithin wsX8_isWithin) := goodIn_app (goodIn_of _ (by decide +kernel)) ggX8_set_X8_isWithin
set_option maxRecDepth 20000 in
theorem ggX8_set_X1_hasEvents : GoodIn wsX8_set wsX1_hasEvents := goodIn_r _ [13, 14, 15, 16, 17, 18, 19, 20, 21, 22, 23, 24, 25, 26, 27, 28, 29, 30, 31, 32, 147, 148, 149, 150, 151, 152, 153, 154, 155, 156, 157, 158, 159, 160] (by decide +kernel) (by decide +kernel)
set_option maxRecDepth 20000 in
theorem gX8_set_X1_hasEvents : GoodIn wsX8_set (wsV RX8 35 RX1 yX1_hasEvents wsX1_hasEvents) := goodIn_app (goodIn_of _ (by decide +kernel)) ggX8_set_X1_hasEvents
set_option maxRecDepth 20000 in
theorem ggX8_set_X3_keep : GoodIn wsX8_set wsX3_keep := goodIn_r _ [37, 38, 39, 40, 41, 42, 12, 43, 44, 45, 46, 47, 48, 49, 18, 14, 50, 51, 52, 53, 54, 55, 56, 57, 58, 59, 60, 61, 62, 63, 64, 65, 66, 67, 28, 24, 68, 69, 70, 71, 72, 73, 74, 75, 30, 31, 76, 32, 77, 78, 79, 80, 81, 82, 83, 84, 85, 86, 87, 88, 89, 90, 91, 92, 93, 94, 95, 96, 97, 98, 99, 100, 101, 102, 103, 104, 105, 106, 107, 108, 109, 110, 111, 112, 113, 114, 115, 116, 117, 118, 119, 120, 121, 122, 123, 124, 125, 126, 127, 128, 129, 130, 131, 132, 133, 134, 135, 161, 162, 163, 147, 148, 149, 150, 151, 152, 153, 154, 155, 156, 157, 164, 165, 166, 167, 158, 159, 160, 168, 169, 170, 171] (by decide +kernel) (by decide +kernel)
set_option maxRecDepth 20000 in
theorem gX8_set_X3_keep : GoodIn wsX8_set (wsV RX8 40 RX3 yX3_keep wsX3_keep) := goodIn_app (goodIn_of _ (by decide +kernel)) ggX8_set_X3_keep
set_option maxRecDepth 20000 in
theorem ggX8_set_X1_changeSetting : GoodIn wsX8_set wsX1_changeSetting := goodIn_r _ [139, 58, 59, 60, 140, 141, 142, 12, 143, 147, 148, 149, 150, 151, 152, 153, 154, 155] (by decide +kernel) (by decide +kernel)
set_option maxRecDepth 20000 in
theorem gX8_set_X1_changeSetting : GoodIn wsX8_set (wsV RX8 44 RX1 yX1_changeSetting wsX1_changeSetting) := goodIn_app (goodIn_of _ (by decide +kernel)) ggX8_set_X1_changeSetting
theorem dX8_set_0 : decode cX8_set 0 = .ok (.iload_n 1, 1) := by decide +kernel
theorem dX8_set_1 : decode cX8_set 1 = .ok (.iconst 0, 1) := by decide +kernel
theorem dX8_set_2 : decode cX8_set 2 = .ok (.iconst 2, 1) := by decide +kernel
theorem dX8_set_3 : decode cX8_set 3 = .ok (.invokestatic 30, 3) := by decide +kernel
theorem dX8_set_6 : decode cX8_set 6 = .ok (.ifCond .ne 6, 3) := by decide +kernel
theorem dX8_set_9 : decode cX8_set 9 = .ok (.ldc 34, 2) := by decide +kernel
theorem dX8_set_11 : decode cX8_set 11 = .ok (.ireturn, 1) := by decide +kernel
theorem dX8_set_12 : decode cX8_set 12 = .ok (.iload_n 2, 1) := by decide +kernel
theorem dX8_set_13 : decode cX8_set 13 = .ok (.iload_n 1, 1) := by decide +kernel
theorem dX8_set_14 : decode cX8_set 14 = .ok (.ifCond .ne 7, 3) := by decide +kernel
theorem dX8_set_17 : decode cX8_set 17 = .ok (.iconst 1, 1) := by decide +kernel
theorem dX8_set_18 : decode cX8_set 18 = .ok (.goto 4, 3) := by decide +kernel
theorem dX8_set_21 : decode cX8_set 21 = .ok (.iconst 0, 1) := by decide +kernel
theorem dX8_set_22 : decode cX8_set 22 = .ok (.bipush 100, 2) := by decide +kernel
theorem dX8_set_24 : decode cX8_set 24 = .ok (.invokestatic 30, 3) := by decide +kernel
theorem dX8_set_27 : decode cX8_set 27 = .ok (.ifCond .ne 6, 3) := by decide +kernel
theorem dX8_set_30 : decode cX8_set 30 = .ok (.ldc 34, 2) := by decide +kernel
theorem dX8_set_32 : decode cX8_set 32 = .ok (.ireturn, 1) := by decide +kernel
theorem dX8_set_33 : decode cX8_set 33 = .ok (.iload_n 1, 1) := by decide +kernel
theorem dX8_set_34 : decode cX8_set 34 = .ok (.ifCond .ne 16, 3) := by decide +kernel
theorem dX8_set_37 : decode cX8_set 37 = .ok (.aload_n 0, 1) := by decide +kernel
theorem dX8_set_38 : decode cX8_set 38 = .ok (.getfield 10, 3) := by decide +kernel
theorem dX8_set_41 : decode cX8_set 41 = .ok (.invokevirtual 35, 3) := by decide +kernel
theorem dX8_set_44 : decode cX8_set 44 = .ok (.ifCond .eq 6, 3) := by decide +kernel
theorem dX8_set_47 : decode cX8_set 47 = .ok (.ldc 39, 2) := by decide +kernel
theorem dX8_set_49 : decode cX8_set 49 = .ok (.ireturn, 1) := by decide +kernel
theorem dX8_set_50 : decode cX8_set 50 = .ok (.aload_n 0, 1) := by decide +kernel
theorem dX8_set_51 : decode cX8_set 51 = .ok (.getfield 19, 3) := by decide +kernel
theorem dX8_set_54 : decode cX8_set 54 = .ok (.aload_n 0, 1) := by decide +kernel
theorem dX8_set_55 : decode cX8_set 55 = .ok (.getfield 10, 3) := by decide +kernel
theorem dX8_set_58 : decode cX8_set 58 = .ok (.invokevirtual 40, 3) := by decide +kernel
theorem dX8_set_61 : decode cX8_set 61 = .ok (.aload_n 0, 1) := by decide +kernel
theorem dX8_set_62 : decode cX8_set 62 = .ok (.getfield 10, 3) := by decide +kernel
theorem dX8_set_65 : decode cX8_set 65 = .ok (.iload_n 1, 1) := by decide +kernel
theorem dX8_set_66 : decode cX8_set 66 = .ok (.iload_n 2, 1) := by decide +kernel
theorem dX8_set_67 : decode cX8_set 67 = .ok (.invokevirtual 44, 3) := by decide +kernel
theorem dX8_set_70 : decode cX8_set 70 = .ok (.ireturn, 1) := by decide +kernel
set_option maxRecDepth 20000 in
theorem ggX8_event_X8_isEvent : GoodIn wsX8_event wsX8_isEvent := goodIn_r _ [7, 8, 9, 6, 10] (by decide +kernel) (by decide +kernel)
set_option maxRecDepth 20000 in
theorem gX8_event_X8_isEvent : GoodIn wsX8_event (va_wsS RX8 48 yX8_isEvent wsX8_isEvent) := goodIn_app (goodIn_of _ (by decide +kernel)) ggX8_event_X8_isEvent
set_option maxRecDepth 20000 in
theorem ggX8_event_X8_isWithin : GoodIn wsX8_event wsX8_isWithin := goodIn_r _ [10] (by decide +kernel) (by decide +kernel)
set_option maxRecDepth 20000 in
theorem gX8_event_X8_isWithin : GoodIn wsX8_event (va_wsS RX8 30 yX8_isWithin wsX8_isWithin) := goodIn_app (goodIn_of _ (by decide +kernel)) ggX8_event_X8_isWithin
set_option maxRecDepth 20000 in
theorem ggX8_event_X3_keep : GoodIn wsX8_event wsX3_keep := goodIn_r _ [15, 16, 17, 18, 19, 20, 21, 22, 23, 24, 25, 26, 27, 28, 29, 30, 31, 32, 33, 34, 35, 36, 37, 38, 39, 40, 41, 42, 43, 44, 45, 46, 47, 48, 49, 50, 51, 52, 53, 54, 55, 56, 57, 58, 59, 60, 61, 62, 63, 64, 65, 66, 67, 68, 69, 70, 71, 72, 73, 74, 75, 76, 77, 78, 79, 80, 81, 82, 83, 84, 85, 86, 87, 88, 89, 90, 91, 92, 93, 94, 95, 96, 97, 98, 99, 100, 101, 102, 103, 104, 105, 106, 107, 108, 109, 110, 111, 112, 113, 114, 115, 116, 117, 118, 119, 120, 121, 264, 265, 266, 267, 268, 269, 270, 271, 272, 273, 274, 275, 276, 277, 278, 279, 280, 281, 282, 283, 284, 285, 286, 287, 288] (by decide +kernel) (by decide +kernel)
set_option maxRecDepth 20000 in
theorem gX8_event_X3_keep : GoodIn wsX8_event (wsV RX8 40 RX3 yX3_keep wsX3_keep) := goodIn_app (goodIn_of _ (by decide +kernel)) ggX8_event_X3_keep
set_option maxRecDepth 20000 in
theorem ggX8_event_X1_admit : GoodIn wsX8_event wsX1_admit := goodIn_r _ [125, 30, 38, 34, 42, 41, 43, 40, 126, 127, 128, 29, 129, 50, 130, 131, 132, 49, 133, 59, 60, 62, 134, 135, 136, 137, 94, 138, 139, 140, 21, 141, 142, 143, 144, 145, 39, 146, 147, 148, 149, 150, 151, 152, 33, 153, 67, 154, 155, 156, 157, 107, 158, 159, 160, 161, 162, 163, 164, 165, 166, 167, 168, 169, 170, 171, 172, 173, 174, 175, 176, 177, 178, 179, 180, 181, 37, 182, 183, 184, 185, 186, 187, 188, 189, 190, 83, 191, 192, 193, 194, 195, 196, 197, 198, 199, 200, 201, 202, 203, 204, 205, 206, 207, 208, 209, 210, 211, 212, 213, 214, 215, 216, 217, 218, 219, 220, 221, 222, 223, 224, 99, 100, 101, 102, 225, 226, 227, 228, 229, 230, 71, 231, 232, 233, 234, 235, 236, 237, 70, 238, 113, 77, 114, 115, 239, 240, 241, 242, 243, 244, 245, 246, 247, 248, 249, 250, 251, 252, 56, 57, 58, 253, 254, 255, 256, 9, 6, 10, 257, 258, 259, 260, 267, 268, 269, 270, 271, 272, 273, 274, 275, 276, 277, 282, 283, 284, 278, 279, 280, 281, 285, 286, 287, 288] (by decide +kernel) (by decide +kernel)
set_option maxRecDepth 20000 in
theorem gX8_event_X1_admit : GoodIn wsX8_event (wsV RX8 52 RX1 yX1_admit wsX1_admit) := goodIn_app (goodIn_of _ (by decide +kernel)) ggX8_event_X1_admit
theorem dX8_event_0 : decode cX8_event 0 = .ok (.iload_n 1, 1) := by decide +kernel
theorem dX8_event_1 : decode cX8_event 1 = .ok (.iload_n 2, 1) := by decide +kernel
theorem dX8_event_2 : decode cX8_event 2 = .ok (.iload_n 3, 1) := by decide +kernel
theorem dX8_event_3 : decode cX8_event 3 = .ok (.iload 4, 2) := by decide +kernel
theorem dX8_event_5 : decode cX8_event 5 = .ok (.invokestatic 48, 3) := by decide +kernel
theorem dX8_event_8 : decode cX8_event 8 = .ok (.ifCond .eq 13, 3) := by decide +kernel
theorem dX8_event_11 : decode cX8_event 11 = .ok (.iload 5, 2) := by decide +kernel
theorem dX8_event_13 : decode cX8_event 13 = .ok (.iconst 0, 1) := by decide +kernel
theorem dX8_event_14 : decode cX8_event 14 = .ok (.iconst 3, 1) := by decide +kernel
theorem dX8_event_15 : decode cX8_event 15 = .ok (.invokestatic 30, 3) := by decide +kernel
theorem dX8_event_18 : decode cX8_event 18 = .ok (.ifCond .ne 6, 3) := by decide +kernel
theorem dX8_event_21 : decode cX8_event 21 = .ok (.ldc 34, 2) := by decide +kernel
theorem dX8_event_23 : decode cX8_event 23 = .ok (.ireturn, 1) := by decide +kernel
theorem dX8_event_24 : decode cX8_event 24 = .ok (.aload_n 0, 1) := by decide +kernel
theorem dX8_event_25 : decode cX8_event 25 = .ok (.getfield 19, 3) := by decide +kernel
theorem dX8_event_28 : decode cX8_event 28 = .ok (.aload_n 0, 1) := by decide +kernel
theorem dX8_event_29 : decode cX8_event 29 = .ok (.getfield 10, 3) := by decide +kernel
theorem dX8_event_32 : decode cX8_event 32 = .ok (.invokevirtual 40, 3) := by decide +kernel
theorem dX8_event_35 : decode cX8_event 35 = .ok (.aload_n 0, 1) := by decide +kernel
theorem dX8_event_36 : decode cX8_event 36 = .ok (.getfield 10, 3) := by decide +kernel
theorem dX8_event_39 : decode cX8_event 39 = .ok (.iload_n 1, 1) := by decide +kernel
theorem dX8_event_40 : decode cX8_event 40 = .ok (.iload_n 2, 1) := by decide +kernel
theorem dX8_event_41 : decode cX8_event 41 = .ok (.iload_n 3, 1) := by decide +kernel
theorem dX8_event_42 : decode cX8_event 42 = .ok (.iload 4, 2) := by decide +kernel
theorem dX8_event_44 : decode cX8_event 44 = .ok (.iload 5, 2) := by decide +kernel
theorem dX8_event_46 : decode cX8_event 46 = .ok (.invokevirtual 52, 3) := by decide +kernel
theorem dX8_event_49 : decode cX8_event 49 = .ok (.ireturn, 1) := by decide +kernel
set_option maxRecDepth 20000 in
theorem ggX8_move_X8_isWithin : GoodIn wsX8_move wsX8_isWithin := goodIn_r _ [8] (by decide +kernel) (by decide +kernel)
set_option maxRecDepth 20000 in
theorem gX8_move_X8_isWithin : GoodIn wsX8_move (va_wsS RX8 30 yX8_isWithin wsX8_isWithin) := goodIn_app (goodIn_of _ (by decide +kernel)) ggX8_move_X8_isWithin
set_option maxRecDepth 20000 in
theorem ggX8_move_X1_canMoveBack : GoodIn wsX8_move wsX1_canMoveBack := goodIn_r _ [13, 14, 15, 181, 182, 183, 184, 185, 186, 187, 188, 189] (by decide +kernel) (by decide +kernel)
set_option maxRecDepth 20000 in
theorem gX8_move_X1_canMoveBack : GoodIn wsX8_move (wsV RX8 56 RX1 yX1_canMoveBack wsX1_canMoveBack) := goodIn_app (goodIn_of _ (by decide +kernel)) ggX8_move_X1_canMoveBack
set_option maxRecDepth 20000 in
theorem ggX8_move_X3_keep : GoodIn wsX8_move wsX3_keep := goodIn_r _ [20, 21, 22, 23, 24, 25, 12, 26, 27, 28, 29, 30, 31, 32, 33, 34, 35, 36, 37, 38, 39, 40, 41, 42, 43, 44, 45, 15, 46, 47, 48, 49, 50, 51, 52, 53, 54, 55, 56, 57, 58, 59, 60, 61, 62, 63, 64, 65, 66, 67, 68, 69, 70, 71, 72, 73, 74, 75, 76, 77, 78, 79, 80, 81, 82, 83, 84, 85, 86, 87, 88, 89, 90, 91, 14, 92, 93, 94, 95, 96, 97, 98, 99, 100, 101, 102, 103, 104, 105, 106, 107, 108, 109, 110, 111, 112, 113, 114, 115, 116, 117, 118, 119, 120, 121, 122, 123, 190, 191, 192, 181, 182, 183, 184, 185, 186, 187, 188, 189, 193, 194, 195, 196, 197, 198, 199, 200, 201, 202, 203, 204, 205] (by decide +kernel) (by decide +kernel)
set_option maxRecDepth 20000 in
theorem gX8_move_X3_keep : GoodIn wsX8_move (wsV RX8 40 RX3 yX3_keep wsX3_keep) := goodIn_app (goodIn_of _ (by decide +kernel)) ggX8_move_X3_keep
set_option maxRecDepth 20000 in
theorem ggX8_move_X1_moveBack : GoodIn wsX8_move wsX1_moveBack := goodIn_r _ [127, 15, 128, 59, 60, 61, 38, 14, 129, 130, 131, 12, 132, 43, 133, 134, 135, 136, 137, 138, 139, 37, 140, 70, 141, 142, 143, 144, 109, 145, 146, 147, 52, 148, 62, 63, 65, 149, 150, 151, 152, 153, 154, 155, 156, 157, 158, 159, 160, 74, 161, 162, 163, 164, 165, 166, 167, 168, 169, 170, 171, 73, 172, 115, 80, 116, 117, 173, 174, 175, 176, 101, 102, 103, 104, 177, 181, 182, 183, 184, 185, 186, 187, 188, 189, 195, 196, 197, 199, 200, 201, 202, 203, 204, 205] (by decide +kernel) (by decide +kernel)
set_option maxRecDepth 20000 in
theorem gX8_move_X1_moveBack : GoodIn wsX8_move (wsV RX8 59 RX1 yX1_moveBack wsX1_moveBack) := goodIn_app (goodIn_of _ (by decide +kernel)) ggX8_move_X1_moveBack
theorem dX8_move_0 : decode cX8_move 0 = .ok (.iload_n 1, 1) := by decide +kernel
theorem dX8_move_1 : decode cX8_move 1 = .ok (.iconst 1, 1) := by decide +kernel
theorem dX8_move_2 : decode cX8_move 2 = .ok (.bipush 100, 2) := by decide +kernel
theorem dX8_move_4 : decode cX8_move 4 = .ok (.invokestatic 30, 3) := by decide +kernel
theorem dX8_move_7 : decode cX8_move 7 = .ok (.ifCond .ne 6, 3) := by decide +kernel
theorem dX8_move_10 : decode cX8_move 10 = .ok (.ldc 34, 2) := by decide +kernel
theorem dX8_move_12 : decode cX8_move 12 = .ok (.ireturn, 1) := by decide +kernel
theorem dX8_move_13 : decode cX8_move 13 = .ok (.aload_n 0, 1) := by decide +kernel
theorem dX8_move_14 : decode cX8_move 14 = .ok (.getfield 10, 3) := by decide +kernel
theorem dX8_move_17 : decode cX8_move 17 = .ok (.invokevirtual 56, 3) := by decide +kernel
theorem dX8_move_20 : decode cX8_move 20 = .ok (.ifCond .ne 6, 3) := by decide +kernel
theorem dX8_move_23 : decode cX8_move 23 = .ok (.ldc 39, 2) := by decide +kernel
theorem dX8_move_25 : decode cX8_move 25 = .ok (.ireturn, 1) := by decide +kernel
theorem dX8_move_26 : decode cX8_move 26 = .ok (.aload_n 0, 1) := by decide +kernel
theorem dX8_move_27 : decode cX8_move 27 = .ok (.getfield 19, 3) := by decide +kernel
theorem dX8_move_30 : decode cX8_move 30 = .ok (.aload_n 0, 1) := by decide +kernel
theorem dX8_move_31 : decode cX8_move 31 = .ok (.getfield 10, 3) := by decide +kernel
theorem dX8_move_34 : decode cX8_move 34 = .ok (.invokevirtual 40, 3) := by decide +kernel
theorem dX8_move_37 : decode cX8_move 37 = .ok (.aload_n 0, 1) := by decide +kernel
theorem dX8_move_38 : decode cX8_move 38 = .ok (.getfield 10, 3) := by decide +kernel
theorem dX8_move_41 : decode cX8_move 41 = .ok (.iload_n 1, 1) := by decide +kernel
theorem dX8_move_42 : decode cX8_move 42 = .ok (.invokevirtual 59, 3) := by decide +kernel
theorem dX8_move_45 : decode cX8_move 45 = .ok (.ireturn, 1) := by decide +kernel
set_option maxRecDepth 20000 in
theorem ggX8_paneOf_X1_hasTimes : GoodIn wsX8_paneOf wsX1_hasTimes := goodIn_r _ [8, 9, 10, 11, 12, 51, 52, 53, 54, 55, 56, 57, 58, 59] (by decide +kernel) (by decide +kernel)
set_option maxRecDepth 20000 in
theorem gX8_paneOf_X1_hasTimes : GoodIn wsX8_paneOf (wsV RX8 63 RX1 yX1_hasTimes wsX1_hasTimes) := goodIn_app (goodIn_of _ (by decide +kernel)) ggX8_paneOf_X1_hasTimes
set_option maxRecDepth 20000 in
theorem ggX8_paneOf_X8_isWithin : GoodIn wsX8_paneOf wsX8_isWithin := goodIn_r _ [12] (by decide +kernel) (by decide +kernel)
set_option maxRecDepth 20000 in
theorem gX8_paneOf_X8_isWithin : GoodIn wsX8_paneOf (va_wsS RX8 30 yX8_isWithin wsX8_isWithin) := goodIn_app (goodIn_of _ (by decide +kernel)) ggX8_paneOf_X8_isWithin
set_option maxRecDepth 20000 in
theorem ggX8_paneOf_X1_stateOf : GoodIn wsX8_paneOf wsX1_stateOf := goodIn_r _ [17, 18, 19, 20, 21, 22, 23, 24, 25, 26, 27, 28, 29, 30, 31, 32, 33, 34, 35, 36, 37, 38, 39, 40, 41, 7, 42, 9, 51, 52, 53, 54, 55, 56, 57, 58, 59, 60, 61, 62, 63, 64, 65] (by decide +kernel) (by decide +kernel)
set_option maxRecDepth 20000 in
theorem gX8_paneOf_X1_stateOf : GoodIn wsX8_paneOf (wsV RX8 67 RX1 yX1_stateOf wsX1_stateOf) := goodIn_app (goodIn_of _ (by decide +kernel)) ggX8_paneOf_X1_stateOf
set_option maxRecDepth 20000 in
theorem ggX8_paneOf_X1_panes : GoodIn wsX8_paneOf wsX1_panes := goodIn_r _ [46, 18, 51, 52, 53, 54, 55, 56, 57, 58, 59] (by decide +kernel) (by decide +kernel)
set_option maxRecDepth 20000 in
theorem gX8_paneOf_X1_panes : GoodIn wsX8_paneOf (wsV RX8 73 RX1 yX1_panes wsX1_panes) := goodIn_app (goodIn_of _ (by decide +kernel)) ggX8_paneOf_X1_panes
set_option maxRecDepth 20000 in
theorem ggX8_paneOf_X4_read : GoodIn wsX8_paneOf wsX4_read := goodIn_r _ [24, 25, 26, 27, 28, 23, 29, 30, 31, 32, 33, 34, 35, 36, 37, 38, 60, 61, 62, 63, 64, 65] (by decide +kernel) (by decide +kernel)
set_option maxRecDepth 20000 in
theorem gX8_paneOf_X4_read : GoodIn wsX8_paneOf (wsV RX8 77 RX4 yX4_read wsX4_read) := goodIn_app (goodIn_of _ (by decide +kernel)) ggX8_paneOf_X4_read
theorem dX8_paneOf_0 : decode cX8_paneOf 0 = .ok (.aload_n 0, 1) := by decide +kernel
theorem dX8_paneOf_1 : decode cX8_paneOf 1 = .ok (.getfield 10, 3) := by decide +kernel
theorem dX8_paneOf_4 : decode cX8_paneOf 4 = .ok (.iload_n 1, 1) := by decide +kernel
theorem dX8_paneOf_5 : decode cX8_paneOf 5 = .ok (.invokevirtual 63, 3) := by decide +kernel
theorem dX8_paneOf_8 : decode cX8_paneOf 8 = .ok (.ifCond .eq 13, 3) := by decide +kernel
theorem dX8_paneOf_11 : decode cX8_paneOf 11 = .ok (.iload_n 2, 1) := by decide +kernel
theorem dX8_paneOf_12 : decode cX8_paneOf 12 = .ok (.iconst 0, 1) := by decide +kernel
theorem dX8_paneOf_13 : decode cX8_paneOf 13 = .ok (.bipush 6, 2) := by decide +kernel
theorem dX8_paneOf_15 : decode cX8_paneOf 15 = .ok (.invokestatic 30, 3) := by decide +kernel
theorem dX8_paneOf_18 : decode cX8_paneOf 18 = .ok (.ifCond .ne 6, 3) := by decide +kernel
theorem dX8_paneOf_21 : decode cX8_paneOf 21 = .ok (.ldc 34, 2) := by decide +kernel
theorem dX8_paneOf_23 : decode cX8_paneOf 23 = .ok (.ireturn, 1) := by decide +kernel
theorem dX8_paneOf_24 : decode cX8_paneOf 24 = .ok (.iload_n 2, 1) := by decide +kernel
theorem dX8_paneOf_25 : decode cX8_paneOf 25 = .ok (.ifCond .ne 12, 3) := by decide +kernel
theorem dX8_paneOf_28 : decode cX8_paneOf 28 = .ok (.aload_n 0, 1) := by decide +kernel
theorem dX8_paneOf_29 : decode cX8_paneOf 29 = .ok (.getfield 10, 3) := by decide +kernel
theorem dX8_paneOf_32 : decode cX8_paneOf 32 = .ok (.iload_n 1, 1) := by decide +kernel
theorem dX8_paneOf_33 : decode cX8_paneOf 33 = .ok (.invokevirtual 67, 3) := by decide +kernel
theorem dX8_paneOf_36 : decode cX8_paneOf 36 = .ok (.ireturn, 1) := by decide +kernel
theorem dX8_paneOf_37 : decode cX8_paneOf 37 = .ok (.iload_n 2, 1) := by decide +kernel
theorem dX8_paneOf_38 : decode cX8_paneOf 38 = .ok (.iconst 4, 1) := by decide +kernel
theorem dX8_paneOf_39 : decode cX8_paneOf 39 = .ok (.if_icmp .ne 18, 3) := by decide +kernel
theorem dX8_paneOf_42 : decode cX8_paneOf 42 = .ok (.aload_n 0, 1) := by decide +kernel
theorem dX8_paneOf_43 : decode cX8_paneOf 43 = .ok (.getfield 10, 3) := by decide +kernel
theorem dX8_paneOf_46 : decode cX8_paneOf 46 = .ok (.iload_n 1, 1) := by decide +kernel
theorem dX8_paneOf_47 : decode cX8_paneOf 47 = .ok (.invokevirtual 67, 3) := by decide +kernel
theorem dX8_paneOf_50 : decode cX8_paneOf 50 = .ok (.iconst 2, 1) := by decide +kernel
theorem dX8_paneOf_51 : decode cX8_paneOf 51 = .ok (.if_icmp .eq 6, 3) := by decide +kernel
theorem dX8_paneOf_54 : decode cX8_paneOf 54 = .ok (.ldc 72, 2) := by decide +kernel
theorem dX8_paneOf_56 : decode cX8_paneOf 56 = .ok (.ireturn, 1) := by decide +kernel
theorem dX8_paneOf_57 : decode cX8_paneOf 57 = .ok (.aload_n 0, 1) := by decide +kernel
theorem dX8_paneOf_58 : decode cX8_paneOf 58 = .ok (.getfield 10, 3) := by decide +kernel
theorem dX8_paneOf_61 : decode cX8_paneOf 61 = .ok (.invokevirtual 73, 3) := by decide +kernel
theorem dX8_paneOf_64 : decode cX8_paneOf 64 = .ok (.iload_n 1, 1) := by decide +kernel
theorem dX8_paneOf_65 : decode cX8_paneOf 65 = .ok (.iload_n 2, 1) := by decide +kernel
theorem dX8_paneOf_66 : decode cX8_paneOf 66 = .ok (.invokevirtual 77, 3) := by decide +kernel
theorem dX8_paneOf_69 : decode cX8_paneOf 69 = .ok (.ireturn, 1) := by decide +kernel
set_option maxRecDepth 20000 in
theorem ggX8_mean_X1_hasTimes : GoodIn wsX8_mean wsX1_hasTimes := goodIn_r _ [8, 9, 10, 11, 12, 46, 47, 48, 49, 50, 51, 52, 53, 54] (by decide +kernel) (by decide +kernel)
set_option maxRecDepth 20000 in
theorem gX8_mean_X1_hasTimes : GoodIn wsX8_mean (wsV RX8 63 RX1 yX1_hasTimes wsX1_hasTimes) := goodIn_app (goodIn_of _ (by decide +kernel)) ggX8_mean_X1_hasTimes
set_option maxRecDepth 20000 in
theorem ggX8_mean_X1_panes : GoodIn wsX8_mean wsX1_panes := goodIn_r _ [16, 17, 46, 47, 48, 49, 50, 51, 52, 53, 54] (by decide +kernel) (by decide +kernel)
set_option maxRecDepth 20000 in
theorem gX8_mean_X1_panes : GoodIn wsX8_mean (wsV RX8 73 RX1 yX1_panes wsX1_panes) := goodIn_app (goodIn_of _ (by decide +kernel)) ggX8_mean_X1_panes
set_option maxRecDepth 20000 in
theorem ggX8_mean_X4_read : GoodIn wsX8_mean wsX4_read := goodIn_r _ [22, 23, 24, 25, 26, 21, 27, 28, 29, 30, 31, 32, 33, 34, 35, 36, 55, 56, 57, 58, 59, 60] (by decide +kernel) (by decide +kernel)
set_option maxRecDepth 20000 in
theorem gX8_mean_X4_read : GoodIn wsX8_mean (wsV RX8 77 RX4 yX4_read wsX4_read) := goodIn_app (goodIn_of _ (by decide +kernel)) ggX8_mean_X4_read
set_option maxRecDepth 20000 in
theorem ggX8_mean_X8_bitsOf : GoodIn wsX8_mean wsX8_bitsOf := goodIn_r _ [39, 40, 41, 42] (by decide +kernel) (by decide +kernel)
set_option maxRecDepth 20000 in
theorem gX8_mean_X8_bitsOf : GoodIn wsX8_mean (va_wsS RX8 80 yX8_bitsOf wsX8_bitsOf) := goodIn_app (goodIn_of _ (by decide +kernel)) ggX8_mean_X8_bitsOf
theorem dX8_mean_0 : decode cX8_mean 0 = .ok (.aload_n 0, 1) := by decide +kernel
theorem dX8_mean_1 : decode cX8_mean 1 = .ok (.getfield 10, 3) := by decide +kernel
theorem dX8_mean_4 : decode cX8_mean 4 = .ok (.iload_n 1, 1) := by decide +kernel
theorem dX8_mean_5 : decode cX8_mean 5 = .ok (.invokevirtual 63, 3) := by decide +kernel
theorem dX8_mean_8 : decode cX8_mean 8 = .ok (.ifCond .ne 6, 3) := by decide +kernel
theorem dX8_mean_11 : decode cX8_mean 11 = .ok (.ldc 34, 2) := by decide +kernel
theorem dX8_mean_13 : decode cX8_mean 13 = .ok (.ireturn, 1) := by decide +kernel
theorem dX8_mean_14 : decode cX8_mean 14 = .ok (.aload_n 0, 1) := by decide +kernel
theorem dX8_mean_15 : decode cX8_mean 15 = .ok (.getfield 10, 3) := by decide +kernel
theorem dX8_mean_18 : decode cX8_mean 18 = .ok (.invokevirtual 73, 3) := by decide +kernel
theorem dX8_mean_21 : decode cX8_mean 21 = .ok (.iload_n 1, 1) := by decide +kernel
theorem dX8_mean_22 : decode cX8_mean 22 = .ok (.iconst 1, 1) := by decide +kernel
theorem dX8_mean_23 : decode cX8_mean 23 = .ok (.invokevirtual 77, 3) := by decide +kernel
theorem dX8_mean_26 : decode cX8_mean 26 = .ok (.istore_n 2, 1) := by decide +kernel
theorem dX8_mean_27 : decode cX8_mean 27 = .ok (.iload_n 2, 1) := by decide +kernel
theorem dX8_mean_28 : decode cX8_mean 28 = .ok (.ifCond .gt 6, 3) := by decide +kernel
theorem dX8_mean_31 : decode cX8_mean 31 = .ok (.ldc 72, 2) := by decide +kernel
theorem dX8_mean_33 : decode cX8_mean 33 = .ok (.ireturn, 1) := by decide +kernel
theorem dX8_mean_34 : decode cX8_mean 34 = .ok (.aload_n 0, 1) := by decide +kernel
theorem dX8_mean_35 : decode cX8_mean 35 = .ok (.getfield 10, 3) := by decide +kernel
theorem dX8_mean_38 : decode cX8_mean 38 = .ok (.invokevirtual 73, 3) := by decide +kernel
theorem dX8_mean_41 : decode cX8_mean 41 = .ok (.iload_n 1, 1) := by decide +kernel
theorem dX8_mean_42 : decode cX8_mean 42 = .ok (.iconst 2, 1) := by decide +kernel
theorem dX8_mean_43 : decode cX8_mean 43 = .ok (.invokevirtual 77, 3) := by decide +kernel
theorem dX8_mean_46 : decode cX8_mean 46 = .ok (.i2f, 1) := by decide +kernel
theorem dX8_mean_47 : decode cX8_mean 47 = .ok (.iload_n 2, 1) := by decide +kernel
theorem dX8_mean_48 : decode cX8_mean 48 = .ok (.i2f, 1) := by decide +kernel
theorem dX8_mean_49 : decode cX8_mean 49 = .ok (.fdiv, 1) := by decide +kernel
theorem dX8_mean_50 : decode cX8_mean 50 = .ok (.invokestatic 80, 3) := by decide +kernel
theorem dX8_mean_53 : decode cX8_mean 53 = .ok (.ireturn, 1) := by decide +kernel
set_option maxRecDepth 20000 in
theorem ggX8_standing_X1_hasTimes : GoodIn wsX8_standing wsX1_hasTimes := goodIn_r _ [8, 9, 10, 11, 12, 49, 50, 51, 52, 53, 54, 55, 56, 57] (by decide +kernel) (by decide +kernel)
set_option maxRecDepth 20000 in
theorem gX8_standing_X1_hasTimes : GoodIn wsX8_standing (wsV RX8 63 RX1 yX1_hasTimes wsX1_hasTimes) := goodIn_app (goodIn_of _ (by decide +kernel)) ggX8_standing_X1_hasTimes
set_option maxRecDepth 20000 in
theorem ggX8_standing_X8_isWithin : GoodIn wsX8_standing wsX8_isWithin := goodIn_r _ [12] (by decide +kernel) (by decide +kernel)
set_option maxRecDepth 20000 in
theorem gX8_standing_X8_isWithin : GoodIn wsX8_standing (va_wsS RX8 30 yX8_isWithin wsX8_isWithin) := goodIn_app (goodIn_of _ (by decide +kernel)) ggX8_standing_X8_isWithin
set_option maxRecDepth 20000 in
theorem ggX8_standing_X1_panes : GoodIn wsX8_standing wsX1_panes := goodIn_r _ [17, 18, 49, 50, 51, 52, 53, 54, 55, 56, 57] (by decide +kernel) (by decide +kernel)
set_option maxRecDepth 20000 in
theorem gX8_standing_X1_panes : GoodIn wsX8_standing (wsV RX8 73 RX1 yX1_panes wsX1_panes) := goodIn_app (goodIn_of _ (by decide +kernel)) ggX8_standing_X1_panes
set_option maxRecDepth 20000 in
theorem ggX8_standing_X4_hasWord : GoodIn wsX8_standing wsX4_hasWord := goodIn_r _ [23, 24, 25, 26, 22, 27, 28, 29, 30, 31, 32, 33, 34, 35, 36, 37, 38, 39, 40, 41, 58, 59, 60, 61, 62, 63] (by decide +kernel) (by decide +kernel)
set_option maxRecDepth 20000 in
theorem gX8_standing_X4_hasWord : GoodIn wsX8_standing (wsV RX8 84 RX4 yX4_hasWord wsX4_hasWord) := goodIn_app (goodIn_of _ (by decide +kernel)) ggX8_standing_X4_hasWord
set_option maxRecDepth 20000 in
theorem ggX8_standing_X4_read : GoodIn wsX8_standing wsX4_read := goodIn_r _ [45, 29, 24, 25, 26, 22, 27, 28, 30, 31, 32, 33, 34, 35, 36, 37, 58, 59, 60, 61, 62, 63] (by decide +kernel) (by decide +kernel)
set_option maxRecDepth 20000 in
theorem gX8_standing_X4_read : GoodIn wsX8_standing (wsV RX8 77 RX4 yX4_read wsX4_read) := goodIn_app (goodIn_of _ (by decide +kernel)) ggX8_standing_X4_read
theorem dX8_standing_0 : decode cX8_standing 0 = .ok (.aload_n 0, 1) := by decide +kernel
theorem dX8_standing_1 : decode cX8_standing 1 = .ok (.getfield 10, 3) := by decide +kernel
theorem dX8_standing_4 : decode cX8_standing 4 = .ok (.iload_n 1, 1) := by decide +kernel
theorem dX8_standing_5 : decode cX8_standing 5 = .ok (.invokevirtual 63, 3) := by decide +kernel
theorem dX8_standing_8 : decode cX8_standing 8 = .ok (.ifCond .eq 12, 3) := by decide +kernel
theorem dX8_standing_11 : decode cX8_standing 11 = .ok (.iload_n 2, 1) := by decide +kernel
theorem dX8_standing_12 : decode cX8_standing 12 = .ok (.iconst 0, 1) := by decide +kernel
theorem dX8_standing_13 : decode cX8_standing 13 = .ok (.iconst 1, 1) := by decide +kernel
theorem dX8_standing_14 : decode cX8_standing 14 = .ok (.invokestatic 30, 3) := by decide +kernel
theorem dX8_standing_17 : decode cX8_standing 17 = .ok (.ifCond .ne 6, 3) := by decide +kernel
theorem dX8_standing_20 : decode cX8_standing 20 = .ok (.ldc 34, 2) := by decide +kernel
theorem dX8_standing_22 : decode cX8_standing 22 = .ok (.ireturn, 1) := by decide +kernel
theorem dX8_standing_23 : decode cX8_standing 23 = .ok (.aload_n 0, 1) := by decide +kernel
theorem dX8_standing_24 : decode cX8_standing 24 = .ok (.getfield 10, 3) := by decide +kernel
theorem dX8_standing_27 : decode cX8_standing 27 = .ok (.invokevirtual 73, 3) := by decide +kernel
theorem dX8_standing_30 : decode cX8_standing 30 = .ok (.iload_n 1, 1) := by decide +kernel
theorem dX8_standing_31 : decode cX8_standing 31 = .ok (.invokevirtual 84, 3) := by decide +kernel
theorem dX8_standing_34 : decode cX8_standing 34 = .ok (.ifCond .ne 6, 3) := by decide +kernel
theorem dX8_standing_37 : decode cX8_standing 37 = .ok (.ldc 72, 2) := by decide +kernel
theorem dX8_standing_39 : decode cX8_standing 39 = .ok (.ireturn, 1) := by decide +kernel
theorem dX8_standing_40 : decode cX8_standing 40 = .ok (.aload_n 0, 1) := by decide +kernel
theorem dX8_standing_41 : decode cX8_standing 41 = .ok (.getfield 10, 3) := by decide +kernel
theorem dX8_standing_44 : decode cX8_standing 44 = .ok (.invokevirtual 73, 3) := by decide +kernel
theorem dX8_standing_47 : decode cX8_standing 47 = .ok (.iload_n 1, 1) := by decide +kernel
theorem dX8_standing_48 : decode cX8_standing 48 = .ok (.iload_n 2, 1) := by decide +kernel
theorem dX8_standing_49 : decode cX8_standing 49 = .ok (.ifCond .ne 7, 3) := by decide +kernel
theorem dX8_standing_52 : decode cX8_standing 52 = .ok (.iconst 1, 1) := by decide +kernel
theorem dX8_standing_53 : decode cX8_standing 53 = .ok (.goto 4, 3) := by decide +kernel
theorem dX8_standing_56 : decode cX8_standing 56 = .ok (.iconst 2, 1) := by decide +kernel
theorem dX8_standing_57 : decode cX8_standing 57 = .ok (.invokevirtual 77, 3) := by decide +kernel
theorem dX8_standing_60 : decode cX8_standing 60 = .ok (.ireturn, 1) := by decide +kernel
set_option maxRecDepth 20000 in
theorem ggX8_nextPane_X8_isWithin : GoodIn wsX8_nextPane wsX8_isWithin := goodIn_r _ [6] (by decide +kernel) (by decide +kernel)
set_option maxRecDepth 20000 in
theorem gX8_nextPane_X8_isWithin : GoodIn wsX8_nextPane (va_wsS RX8 30 yX8_isWithin wsX8_isWithin) := goodIn_app (goodIn_of _ (by decide +kernel)) ggX8_nextPane_X8_isWithin
set_option maxRecDepth 20000 in
theorem ggX8_nextPane_X1_panes : GoodIn wsX8_nextPane wsX1_panes := goodIn_r _ [11, 12, 36, 37, 38, 39, 40, 41, 42, 43, 44] (by decide +kernel) (by decide +kernel)
set_option maxRecDepth 20000 in
theorem gX8_nextPane_X1_panes : GoodIn wsX8_nextPane (wsV RX8 73 RX1 yX1_panes wsX1_panes) := goodIn_app (goodIn_of _ (by decide +kernel)) ggX8_nextPane_X1_panes
set_option maxRecDepth 20000 in
theorem ggX8_nextPane_X4_behind : GoodIn wsX8_nextPane wsX4_behind := goodIn_r _ [17, 18, 19, 20, 21, 22, 23, 16, 24, 25, 26, 27, 28, 29, 30, 31, 32, 45, 46, 47, 48, 49, 50] (by decide +kernel) (by decide +kernel)
set_option maxRecDepth 20000 in
theorem gX8_nextPane_X4_behind : GoodIn wsX8_nextPane (wsV RX8 87 RX4 yX4_behind wsX4_behind) := goodIn_app (goodIn_of _ (by decide +kernel)) ggX8_nextPane_X4_behind
theorem dX8_nextPane_0 : decode cX8_nextPane 0 = .ok (.iload_n 1, 1) := by decide +kernel
theorem dX8_nextPane_1 : decode cX8_nextPane 1 = .ok (.iconst (-1), 1) := by decide +kernel
theorem dX8_nextPane_2 : decode cX8_nextPane 2 = .ok (.sipush 1999, 3) := by decide +kernel
theorem dX8_nextPane_5 : decode cX8_nextPane 5 = .ok (.invokestatic 30, 3) := by decide +kernel
theorem dX8_nextPane_8 : decode cX8_nextPane 8 = .ok (.ifCond .ne 6, 3) := by decide +kernel
theorem dX8_nextPane_11 : decode cX8_nextPane 11 = .ok (.ldc 34, 2) := by decide +kernel
theorem dX8_nextPane_13 : decode cX8_nextPane 13 = .ok (.ireturn, 1) := by decide +kernel
theorem dX8_nextPane_14 : decode cX8_nextPane 14 = .ok (.aload_n 0, 1) := by decide +kernel
theorem dX8_nextPane_15 : decode cX8_nextPane 15 = .ok (.getfield 10, 3) := by decide +kernel
theorem dX8_nextPane_18 : decode cX8_nextPane 18 = .ok (.invokevirtual 73, 3) := by decide +kernel
theorem dX8_nextPane_21 : decode cX8_nextPane 21 = .ok (.iload_n 1, 1) := by decide +kernel
theorem dX8_nextPane_22 : decode cX8_nextPane 22 = .ok (.invokevirtual 87, 3) := by decide +kernel
theorem dX8_nextPane_25 : decode cX8_nextPane 25 = .ok (.ireturn, 1) := by decide +kernel
set_option maxRecDepth 20000 in
theorem ggX8_wordAt_X8_isWithin : GoodIn wsX8_wordAt wsX8_isWithin := goodIn_r _ [6] (by decide +kernel) (by decide +kernel)
set_option maxRecDepth 20000 in
theorem gX8_wordAt_X8_isWithin : GoodIn wsX8_wordAt (va_wsS RX8 30 yX8_isWithin wsX8_isWithin) := goodIn_app (goodIn_of _ (by decide +kernel)) ggX8_wordAt_X8_isWithin
set_option maxRecDepth 20000 in
theorem ggX8_wordAt_X1_panes : GoodIn wsX8_wordAt wsX1_panes := goodIn_r _ [11, 12, 38, 39, 40, 41, 42, 43, 44, 45, 46] (by decide +kernel) (by decide +kernel)
set_option maxRecDepth 20000 in
theorem gX8_wordAt_X1_panes : GoodIn wsX8_wordAt (wsV RX8 73 RX1 yX1_panes wsX1_panes) := goodIn_app (goodIn_of _ (by decide +kernel)) ggX8_wordAt_X1_panes
set_option maxRecDepth 20000 in
theorem ggX8_wordAt_X4_words : GoodIn wsX8_wordAt wsX4_words := goodIn_r _ [17, 18, 47, 48, 49] (by decide +kernel) (by decide +kernel)
set_option maxRecDepth 20000 in
theorem gX8_wordAt_X4_words : GoodIn wsX8_wordAt (wsV RX8 90 RX4 yX4_words wsX4_words) := goodIn_app (goodIn_of _ (by decide +kernel)) ggX8_wordAt_X4_words
set_option maxRecDepth 20000 in
theorem ggX8_wordAt_X7_read : GoodIn wsX8_wordAt wsX7_read := goodIn_r _ [23, 24, 25, 26, 27, 28, 29, 30, 31, 32, 33, 34, 50, 51, 52, 53, 54, 55, 56] (by decide +kernel) (by decide +kernel)
set_option maxRecDepth 20000 in
theorem gX8_wordAt_X7_read : GoodIn wsX8_wordAt (wsV RX8 94 RX7 yX7_read wsX7_read) := goodIn_app (goodIn_of _ (by decide +kernel)) ggX8_wordAt_X7_read
theorem dX8_wordAt_0 : decode cX8_wordAt 0 = .ok (.iload_n 1, 1) := by decide +kernel
theorem dX8_wordAt_1 : decode cX8_wordAt 1 = .ok (.ifCond .lt 12, 3) := by decide +kernel
theorem dX8_wordAt_4 : decode cX8_wordAt 4 = .ok (.iload_n 2, 1) := by decide +kernel
theorem dX8_wordAt_5 : decode cX8_wordAt 5 = .ok (.iconst 0, 1) := by decide +kernel
theorem dX8_wordAt_6 : decode cX8_wordAt 6 = .ok (.iconst 3, 1) := by decide +kernel
theorem dX8_wordAt_7 : decode cX8_wordAt 7 = .ok (.invokestatic 30, 3) := by decide +kernel
theorem dX8_wordAt_10 : decode cX8_wordAt 10 = .ok (.ifCond .ne 6, 3) := by decide +kernel
theorem dX8_wordAt_13 : decode cX8_wordAt 13 = .ok (.ldc 34, 2) := by decide +kernel
theorem dX8_wordAt_15 : decode cX8_wordAt 15 = .ok (.ireturn, 1) := by decide +kernel
theorem dX8_wordAt_16 : decode cX8_wordAt 16 = .ok (.aload_n 0, 1) := by decide +kernel
theorem dX8_wordAt_17 : decode cX8_wordAt 17 = .ok (.getfield 10, 3) := by decide +kernel
theorem dX8_wordAt_20 : decode cX8_wordAt 20 = .ok (.invokevirtual 73, 3) := by decide +kernel
theorem dX8_wordAt_23 : decode cX8_wordAt 23 = .ok (.invokevirtual 90, 3) := by decide +kernel
theorem dX8_wordAt_26 : decode cX8_wordAt 26 = .ok (.iload_n 1, 1) := by decide +kernel
theorem dX8_wordAt_27 : decode cX8_wordAt 27 = .ok (.iload_n 2, 1) := by decide +kernel
theorem dX8_wordAt_28 : decode cX8_wordAt 28 = .ok (.invokevirtual 94, 3) := by decide +kernel
theorem dX8_wordAt_31 : decode cX8_wordAt 31 = .ok (.ireturn, 1) := by decide +kernel
set_option maxRecDepth 20000 in
theorem ggX8_eventOf_X8_isWithin : GoodIn wsX8_eventOf wsX8_isWithin := goodIn_r _ [6] (by decide +kernel) (by decide +kernel)
set_option maxRecDepth 20000 in
theorem gX8_eventOf_X8_isWithin : GoodIn wsX8_eventOf (va_wsS RX8 30 yX8_isWithin wsX8_isWithin) := goodIn_app (goodIn_of _ (by decide +kernel)) ggX8_eventOf_X8_isWithin
set_option maxRecDepth 20000 in
theorem ggX8_eventOf_X1_events : GoodIn wsX8_eventOf wsX1_events := goodIn_r _ [11, 12, 35, 36, 37, 38, 39, 40, 41, 42, 43] (by decide +kernel) (by decide +kernel)
set_option maxRecDepth 20000 in
theorem gX8_eventOf_X1_events : GoodIn wsX8_eventOf (wsV RX8 97 RX1 yX1_events wsX1_events) := goodIn_app (goodIn_of _ (by decide +kernel)) ggX8_eventOf_X1_events
set_option maxRecDepth 20000 in
theorem ggX8_eventOf_X2_read : GoodIn wsX8_eventOf wsX2_read := goodIn_r _ [17, 18, 19, 20, 21, 22, 16, 23, 24, 25, 26, 27, 28, 29, 30, 31, 44, 45, 46, 47, 48] (by decide +kernel) (by decide +kernel)
set_option maxRecDepth 20000 in
theorem gX8_eventOf_X2_read : GoodIn wsX8_eventOf (wsV RX8 101 RX2 yX2_read wsX2_read) := goodIn_app (goodIn_of _ (by decide +kernel)) ggX8_eventOf_X2_read
theorem dX8_eventOf_0 : decode cX8_eventOf 0 = .ok (.iload_n 1, 1) := by decide +kernel
theorem dX8_eventOf_1 : decode cX8_eventOf 1 = .ok (.iconst 0, 1) := by decide +kernel
theorem dX8_eventOf_2 : decode cX8_eventOf 2 = .ok (.bipush 63, 2) := by decide +kernel
theorem dX8_eventOf_4 : decode cX8_eventOf 4 = .ok (.invokestatic 30, 3) := by decide +kernel
theorem dX8_eventOf_7 : decode cX8_eventOf 7 = .ok (.ifCond .eq 12, 3) := by decide +kernel
theorem dX8_eventOf_10 : decode cX8_eventOf 10 = .ok (.iload_n 2, 1) := by decide +kernel
theorem dX8_eventOf_11 : decode cX8_eventOf 11 = .ok (.iconst 0, 1) := by decide +kernel
theorem dX8_eventOf_12 : decode cX8_eventOf 12 = .ok (.iconst 5, 1) := by decide +kernel
theorem dX8_eventOf_13 : decode cX8_eventOf 13 = .ok (.invokestatic 30, 3) := by decide +kernel
theorem dX8_eventOf_16 : decode cX8_eventOf 16 = .ok (.ifCond .ne 6, 3) := by decide +kernel
theorem dX8_eventOf_19 : decode cX8_eventOf 19 = .ok (.ldc 34, 2) := by decide +kernel
theorem dX8_eventOf_21 : decode cX8_eventOf 21 = .ok (.ireturn, 1) := by decide +kernel
theorem dX8_eventOf_22 : decode cX8_eventOf 22 = .ok (.aload_n 0, 1) := by decide +kernel
theorem dX8_eventOf_23 : decode cX8_eventOf 23 = .ok (.getfield 10, 3) := by decide +kernel
theorem dX8_eventOf_26 : decode cX8_eventOf 26 = .ok (.invokevirtual 97, 3) := by decide +kernel
theorem dX8_eventOf_29 : decode cX8_eventOf 29 = .ok (.iload_n 1, 1) := by decide +kernel
theorem dX8_eventOf_30 : decode cX8_eventOf 30 = .ok (.iload_n 2, 1) := by decide +kernel
theorem dX8_eventOf_31 : decode cX8_eventOf 31 = .ok (.invokevirtual 101, 3) := by decide +kernel
theorem dX8_eventOf_34 : decode cX8_eventOf 34 = .ok (.ireturn, 1) := by decide +kernel
set_option maxRecDepth 20000 in
theorem ggX8_judge_X8_isWithin : GoodIn wsX8_judge wsX8_isWithin := goodIn_r _ [6] (by decide +kernel) (by decide +kernel)
set_option maxRecDepth 20000 in
theorem gX8_judge_X8_isWithin : GoodIn wsX8_judge (va_wsS RX8 30 yX8_isWithin wsX8_isWithin) := goodIn_app (goodIn_of _ (by decide +kernel)) ggX8_judge_X8_isWithin
set_option maxRecDepth 20000 in
theorem ggX8_judge_X1_verdict : GoodIn wsX8_judge wsX1_verdict := goodIn_r _ [11, 12, 13, 14, 15, 10, 16, 17, 18, 19, 20, 21, 22, 23, 24, 25, 26, 27, 28, 29, 30, 31, 32, 33, 34, 35, 36, 37, 38, 39, 40, 41, 42, 43, 44, 45, 46, 47, 48, 49, 50, 51, 52, 53, 54, 55, 56, 57, 58, 59, 60, 61, 62, 63, 64, 65, 66, 67, 68, 69, 70, 71, 72, 73, 74, 75, 76, 77, 78, 79, 80, 81, 85, 86, 87, 88, 89, 90, 91, 92, 93, 94, 95, 96, 97, 98, 99, 100, 101, 102] (by decide +kernel) (by decide +kernel)
set_option maxRecDepth 20000 in
theorem gX8_judge_X1_verdict : GoodIn wsX8_judge (wsV RX8 104 RX1 yX1_verdict wsX1_verdict) := goodIn_app (goodIn_of _ (by decide +kernel)) ggX8_judge_X1_verdict
theorem dX8_judge_0 : decode cX8_judge 0 = .ok (.iload_n 1, 1) := by decide +kernel
theorem dX8_judge_1 : decode cX8_judge 1 = .ok (.iconst 0, 1) := by decide +kernel
theorem dX8_judge_2 : decode cX8_judge 2 = .ok (.sipush 1999, 3) := by decide +kernel
theorem dX8_judge_5 : decode cX8_judge 5 = .ok (.invokestatic 30, 3) := by decide +kernel
theorem dX8_judge_8 : decode cX8_judge 8 = .ok (.ifCond .eq 25, 3) := by decide +kernel
theorem dX8_judge_11 : decode cX8_judge 11 = .ok (.iload_n 2, 1) := by decide +kernel
theorem dX8_judge_12 : decode cX8_judge 12 = .ok (.iconst 0, 1) := by decide +kernel
theorem dX8_judge_13 : decode cX8_judge 13 = .ok (.iconst 5, 1) := by decide +kernel
theorem dX8_judge_14 : decode cX8_judge 14 = .ok (.invokestatic 30, 3) := by decide +kernel
theorem dX8_judge_17 : decode cX8_judge 17 = .ok (.ifCond .eq 16, 3) := by decide +kernel
theorem dX8_judge_20 : decode cX8_judge 20 = .ok (.iload_n 3, 1) := by decide +kernel
theorem dX8_judge_21 : decode cX8_judge 21 = .ok (.iconst 0, 1) := by decide +kernel
theorem dX8_judge_22 : decode cX8_judge 22 = .ok (.iconst 3, 1) := by decide +kernel
theorem dX8_judge_23 : decode cX8_judge 23 = .ok (.invokestatic 30, 3) := by decide +kernel
theorem dX8_judge_26 : decode cX8_judge 26 = .ok (.ifCond .eq 7, 3) := by decide +kernel
theorem dX8_judge_29 : decode cX8_judge 29 = .ok (.iconst 1, 1) := by decide +kernel
theorem dX8_judge_30 : decode cX8_judge 30 = .ok (.goto 4, 3) := by decide +kernel
theorem dX8_judge_33 : decode cX8_judge 33 = .ok (.iconst 0, 1) := by decide +kernel
theorem dX8_judge_34 : decode cX8_judge 34 = .ok (.istore 4, 2) := by decide +kernel
theorem dX8_judge_36 : decode cX8_judge 36 = .ok (.iload 4, 2) := by decide +kernel
theorem dX8_judge_38 : decode cX8_judge 38 = .ok (.ifCond .eq 16, 3) := by decide +kernel
theorem dX8_judge_41 : decode cX8_judge 41 = .ok (.aload_n 0, 1) := by decide +kernel
theorem dX8_judge_42 : decode cX8_judge 42 = .ok (.getfield 10, 3) := by decide +kernel
theorem dX8_judge_45 : decode cX8_judge 45 = .ok (.iload_n 1, 1) := by decide +kernel
theorem dX8_judge_46 : decode cX8_judge 46 = .ok (.iload_n 2, 1) := by decide +kernel
theorem dX8_judge_47 : decode cX8_judge 47 = .ok (.iload_n 3, 1) := by decide +kernel
theorem dX8_judge_48 : decode cX8_judge 48 = .ok (.invokevirtual 104, 3) := by decide +kernel
theorem dX8_judge_51 : decode cX8_judge 51 = .ok (.goto 5, 3) := by decide +kernel
theorem dX8_judge_54 : decode cX8_judge 54 = .ok (.ldc 34, 2) := by decide +kernel
theorem dX8_judge_56 : decode cX8_judge 56 = .ok (.ireturn, 1) := by decide +kernel
set_option maxRecDepth 20000 in
theorem ggX8_filed_X8_isWithin : GoodIn wsX8_filed wsX8_isWithin := goodIn_r _ [6] (by decide +kernel) (by decide +kernel)
set_option maxRecDepth 20000 in
theorem gX8_filed_X8_isWithin : GoodIn wsX8_filed (va_wsS RX8 30 yX8_isWithin wsX8_isWithin) := goodIn_app (goodIn_of _ (by decide +kernel)) ggX8_filed_X8_isWithin
set_option maxRecDepth 20000 in
theorem ggX8_filed_X1_cabinets : GoodIn wsX8_filed wsX1_cabinets := goodIn_r _ [11, 12, 31, 32, 33, 34, 35, 36, 37, 38, 39] (by decide +kernel) (by decide +kernel)
set_option maxRecDepth 20000 in
theorem gX8_filed_X1_cabinets : GoodIn wsX8_filed (wsV RX8 119 RX1 yX1_cabinets wsX1_cabinets) := goodIn_app (goodIn_of _ (by decide +kernel)) ggX8_filed_X1_cabinets
set_option maxRecDepth 20000 in
theorem ggX8_filed_X0_read : GoodIn wsX8_filed wsX0_read := goodIn_r _ [17, 18, 19, 20, 21, 22, 23, 24, 25, 26, 27, 40, 41, 42, 43] (by decide +kernel) (by decide +kernel)
set_option maxRecDepth 20000 in
theorem gX8_filed_X0_read : GoodIn wsX8_filed (wsV RX8 123 RX0 yX0_read wsX0_read) := goodIn_app (goodIn_of _ (by decide +kernel)) ggX8_filed_X0_read
theorem dX8_filed_0 : decode cX8_filed 0 = .ok (.iload_n 1, 1) := by decide +kernel
theorem dX8_filed_1 : decode cX8_filed 1 = .ok (.iconst 0, 1) := by decide +kernel
theorem dX8_filed_2 : decode cX8_filed 2 = .ok (.iconst 2, 1) := by decide +kernel
theorem dX8_filed_3 : decode cX8_filed 3 = .ok (.invokestatic 30, 3) := by decide +kernel
theorem dX8_filed_6 : decode cX8_filed 6 = .ok (.ifCond .eq 12, 3) := by decide +kernel
theorem dX8_filed_9 : decode cX8_filed 9 = .ok (.iload_n 2, 1) := by decide +kernel
theorem dX8_filed_10 : decode cX8_filed 10 = .ok (.iconst 0, 1) := by decide +kernel
theorem dX8_filed_11 : decode cX8_filed 11 = .ok (.iconst 3, 1) := by decide +kernel
theorem dX8_filed_12 : decode cX8_filed 12 = .ok (.invokestatic 30, 3) := by decide +kernel
theorem dX8_filed_15 : decode cX8_filed 15 = .ok (.ifCond .ne 6, 3) := by decide +kernel
theorem dX8_filed_18 : decode cX8_filed 18 = .ok (.ldc 34, 2) := by decide +kernel
theorem dX8_filed_20 : decode cX8_filed 20 = .ok (.ireturn, 1) := by decide +kernel
theorem dX8_filed_21 : decode cX8_filed 21 = .ok (.aload_n 0, 1) := by decide +kernel
theorem dX8_filed_22 : decode cX8_filed 22 = .ok (.getfield 10, 3) := by decide +kernel
theorem dX8_filed_25 : decode cX8_filed 25 = .ok (.invokevirtual 119, 3) := by decide +kernel
theorem dX8_filed_28 : decode cX8_filed 28 = .ok (.iload_n 1, 1) := by decide +kernel
theorem dX8_filed_29 : decode cX8_filed 29 = .ok (.iload_n 2, 1) := by decide +kernel
theorem dX8_filed_30 : decode cX8_filed 30 = .ok (.invokevirtual 123, 3) := by decide +kernel
theorem dX8_filed_33 : decode cX8_filed 33 = .ok (.ireturn, 1) := by decide +kernel
set_option maxRecDepth 20000 in
theorem ggX8_count_X8_isWithin : GoodIn wsX8_count wsX8_isWithin := goodIn_r _ [7] (by decide +kernel) (by decide +kernel)
set_option maxRecDepth 20000 in
theorem gX8_count_X8_isWithin : GoodIn wsX8_count (va_wsS RX8 30 yX8_isWithin wsX8_isWithin) := goodIn_app (goodIn_of _ (by decide +kernel)) ggX8_count_X8_isWithin
set_option maxRecDepth 20000 in
theorem ggX8_count_X1_setting : GoodIn wsX8_count wsX1_setting := goodIn_r _ [12, 13, 14, 15, 97, 98, 99, 100, 101, 102, 103, 104, 105] (by decide +kernel) (by decide +kernel)
set_option maxRecDepth 20000 in
theorem gX8_count_X1_setting : GoodIn wsX8_count (wsV RX8 127 RX1 yX1_setting wsX1_setting) := goodIn_app (goodIn_of _ (by decide +kernel)) ggX8_count_X1_setting
set_option maxRecDepth 20000 in
theorem ggX8_count_X1_panes : GoodIn wsX8_count wsX1_panes := goodIn_r _ [19, 20, 97, 98, 99, 100, 101, 102, 103, 104, 105] (by decide +kernel) (by decide +kernel)
set_option maxRecDepth 20000 in
theorem gX8_count_X1_panes : GoodIn wsX8_count (wsV RX8 73 RX1 yX1_panes wsX1_panes) := goodIn_app (goodIn_of _ (by decide +kernel)) ggX8_count_X1_panes
set_option maxRecDepth 20000 in
theorem ggX8_count_X4_words : GoodIn wsX8_count wsX4_words := goodIn_r _ [25, 26, 106, 107, 108] (by decide +kernel) (by decide +kernel)
set_option maxRecDepth 20000 in
theorem gX8_count_X4_words : GoodIn wsX8_count (wsV RX8 90 RX4 yX4_words wsX4_words) := goodIn_app (goodIn_of _ (by decide +kernel)) ggX8_count_X4_words
set_option maxRecDepth 20000 in
theorem ggX8_count_X7_kept : GoodIn wsX8_count wsX7_kept := goodIn_r _ [31, 32, 109, 110, 111, 112] (by decide +kernel) (by decide +kernel)
set_option maxRecDepth 20000 in
theorem gX8_count_X7_kept : GoodIn wsX8_count (wsV RX8 130 RX7 yX7_kept wsX7_kept) := goodIn_app (goodIn_of _ (by decide +kernel)) ggX8_count_X7_kept
set_option maxRecDepth 20000 in
theorem ggX8_count_X7_told : GoodIn wsX8_count wsX7_told := goodIn_r _ [36, 37, 109, 110, 111, 112] (by decide +kernel) (by decide +kernel)
set_option maxRecDepth 20000 in
theorem gX8_count_X7_told : GoodIn wsX8_count (wsV RX8 134 RX7 yX7_told wsX7_told) := goodIn_app (goodIn_of _ (by decide +kernel)) ggX8_count_X7_told
set_option maxRecDepth 20000 in
theorem ggX8_count_X7_takenBack : GoodIn wsX8_count wsX7_takenBack := goodIn_r _ [41, 42, 109, 110, 111, 112] (by decide +kernel) (by decide +kernel)
set_option maxRecDepth 20000 in
theorem gX8_count_X7_takenBack : GoodIn wsX8_count (wsV RX8 137 RX7 yX7_takenBack wsX7_takenBack) := goodIn_app (goodIn_of _ (by decide +kernel)) ggX8_count_X7_takenBack
set_option maxRecDepth 20000 in
theorem ggX8_count_X4_closedCases : GoodIn wsX8_count wsX4_closedCases := goodIn_r _ [46, 47, 48, 49, 50, 51, 52, 53, 54, 55, 56, 106, 107, 108, 113, 114, 115] (by decide +kernel) (by decide +kernel)
set_option maxRecDepth 20000 in
theorem gX8_count_X4_closedCases : GoodIn wsX8_count (wsV RX8 140 RX4 yX4_closedCases wsX4_closedCases) := goodIn_app (goodIn_of _ (by decide +kernel)) ggX8_count_X4_closedCases
set_option maxRecDepth 20000 in
theorem ggX8_count_X3_states : GoodIn wsX8_count wsX3_states := goodIn_r _ [61, 62, 116, 117, 118] (by decide +kernel) (by decide +kernel)
set_option maxRecDepth 20000 in
theorem gX8_count_X3_states : GoodIn wsX8_count (wsV RX8 143 RX3 yX3_states wsX3_states) := goodIn_app (goodIn_of _ (by decide +kernel)) ggX8_count_X3_states
set_option maxRecDepth 20000 in
theorem ggX8_count_X6_length : GoodIn wsX8_count wsX6_length := goodIn_r _ [67, 68, 119, 120, 121, 122, 123, 124, 125, 126, 127, 128, 129] (by decide +kernel) (by decide +kernel)
set_option maxRecDepth 20000 in
theorem gX8_count_X6_length : GoodIn wsX8_count (wsV RX8 146 RX6 yX6_length wsX6_length) := goodIn_app (goodIn_of _ (by decide +kernel)) ggX8_count_X6_length
set_option maxRecDepth 20000 in
theorem ggX8_count_X1_number : GoodIn wsX8_count wsX1_number := goodIn_r _ [72, 73, 74, 75, 76, 77, 78, 79, 80, 81, 82, 83, 84, 85, 86, 87, 88, 50, 51, 52, 53, 54, 55, 56, 89, 90, 91, 92, 93, 97, 98, 99, 100, 101, 102, 103, 104, 105, 130, 131, 113, 114, 115] (by decide +kernel) (by decide +kernel)
set_option maxRecDepth 20000 in
theorem gX8_count_X1_number : GoodIn wsX8_count (wsV RX8 149 RX1 yX1_number wsX1_number) := goodIn_app (goodIn_of _ (by decide +kernel)) ggX8_count_X1_number
theorem dX8_count_0 : decode cX8_count 0 = .ok (.iload_n 1, 1) := by decide +kernel
theorem dX8_count_1 : decode cX8_count 1 = .ok (.bipush 20, 2) := by decide +kernel
theorem dX8_count_3 : decode cX8_count 3 = .ok (.bipush 22, 2) := by decide +kernel
theorem dX8_count_5 : decode cX8_count 5 = .ok (.invokestatic 30, 3) := by decide +kernel
theorem dX8_count_8 : decode cX8_count 8 = .ok (.ifCond .eq 15, 3) := by decide +kernel
theorem dX8_count_11 : decode cX8_count 11 = .ok (.aload_n 0, 1) := by decide +kernel
theorem dX8_count_12 : decode cX8_count 12 = .ok (.getfield 10, 3) := by decide +kernel
theorem dX8_count_15 : decode cX8_count 15 = .ok (.iload_n 1, 1) := by decide +kernel
theorem dX8_count_16 : decode cX8_count 16 = .ok (.bipush 20, 2) := by decide +kernel
theorem dX8_count_18 : decode cX8_count 18 = .ok (.isub, 1) := by decide +kernel
theorem dX8_count_19 : decode cX8_count 19 = .ok (.invokevirtual 127, 3) := by decide +kernel
theorem dX8_count_22 : decode cX8_count 22 = .ok (.ireturn, 1) := by decide +kernel
theorem dX8_count_23 : decode cX8_count 23 = .ok (.iload_n 1, 1) := by decide +kernel
theorem dX8_count_24 : decode cX8_count 24 = .ok (.tableswitch 113 7 13 #[44, 58, 72, 86, 113, 97, 105], 44) := by decide +kernel
theorem dX8_count_68 : decode cX8_count 68 = .ok (.aload_n 0, 1) := by decide +kernel
theorem dX8_count_69 : decode cX8_count 69 = .ok (.getfield 10, 3) := by decide +kernel
theorem dX8_count_72 : decode cX8_count 72 = .ok (.invokevirtual 73, 3) := by decide +kernel
theorem dX8_count_75 : decode cX8_count 75 = .ok (.invokevirtual 90, 3) := by decide +kernel
theorem dX8_count_78 : decode cX8_count 78 = .ok (.invokevirtual 130, 3) := by decide +kernel
theorem dX8_count_81 : decode cX8_count 81 = .ok (.ireturn, 1) := by decide +kernel
theorem dX8_count_82 : decode cX8_count 82 = .ok (.aload_n 0, 1) := by decide +kernel
theorem dX8_count_83 : decode cX8_count 83 = .ok (.getfield 10, 3) := by decide +kernel
theorem dX8_count_86 : decode cX8_count 86 = .ok (.invokevirtual 73, 3) := by decide +kernel
theorem dX8_count_89 : decode cX8_count 89 = .ok (.invokevirtual 90, 3) := by decide +kernel
theorem dX8_count_92 : decode cX8_count 92 = .ok (.invokevirtual 134, 3) := by decide +kernel
theorem dX8_count_95 : decode cX8_count 95 = .ok (.ireturn, 1) := by decide +kernel
theorem dX8_count_96 : decode cX8_count 96 = .ok (.aload_n 0, 1) := by decide +kernel
theorem dX8_count_97 : decode cX8_count 97 = .ok (.getfield 10, 3) := by decide +kernel
theorem dX8_count_100 : decode cX8_count 100 = .ok (.invokevirtual 73, 3) := by decide +kernel
theorem dX8_count_103 : decode cX8_count 103 = .ok (.invokevirtual 90, 3) := by decide +kernel
theorem dX8_count_106 : decode cX8_count 106 = .ok (.invokevirtual 137, 3) := by decide +kernel
theorem dX8_count_109 : decode cX8_count 109 = .ok (.ireturn, 1) := by decide +kernel
theorem dX8_count_110 : decode cX8_count 110 = .ok (.aload_n 0, 1) := by decide +kernel
theorem dX8_count_111 : decode cX8_count 111 = .ok (.getfield 10, 3) := by decide +kernel
theorem dX8_count_114 : decode cX8_count 114 = .ok (.invokevirtual 73, 3) := by decide +kernel
theorem dX8_count_117 : decode cX8_count 117 = .ok (.invokevirtual 140, 3) := by decide +kernel
theorem dX8_count_120 : decode cX8_count 120 = .ok (.ireturn, 1) := by decide +kernel
theorem dX8_count_121 : decode cX8_count 121 = .ok (.aload_n 0, 1) := by decide +kernel
theorem dX8_count_122 : decode cX8_count 122 = .ok (.getfield 19, 3) := by decide +kernel
theorem dX8_count_125 : decode cX8_count 125 = .ok (.invokevirtual 143, 3) := by decide +kernel
theorem dX8_count_128 : decode cX8_count 128 = .ok (.ireturn, 1) := by decide +kernel
theorem dX8_count_129 : decode cX8_count 129 = .ok (.aload_n 0, 1) := by decide +kernel
theorem dX8_count_130 : decode cX8_count 130 = .ok (.getfield 26, 3) := by decide +kernel
theorem dX8_count_133 : decode cX8_count 133 = .ok (.invokevirtual 146, 3) := by decide +kernel
theorem dX8_count_136 : decode cX8_count 136 = .ok (.ireturn, 1) := by decide +kernel
theorem dX8_count_137 : decode cX8_count 137 = .ok (.aload_n 0, 1) := by decide +kernel
theorem dX8_count_138 : decode cX8_count 138 = .ok (.getfield 10, 3) := by decide +kernel
theorem dX8_count_141 : decode cX8_count 141 = .ok (.iload_n 1, 1) := by decide +kernel
theorem dX8_count_142 : decode cX8_count 142 = .ok (.invokevirtual 149, 3) := by decide +kernel
theorem dX8_count_145 : decode cX8_count 145 = .ok (.ireturn, 1) := by decide +kernel
set_option maxRecDepth 20000 in
theorem ggX8_undo_X3_states : GoodIn wsX8_undo wsX3_states := goodIn_r _ [8, 9, 76, 77, 78] (by decide +kernel) (by decide +kernel)
set_option maxRecDepth 20000 in
theorem gX8_undo_X3_states : GoodIn wsX8_undo (wsV RX8 143 RX3 yX3_states wsX3_states) := goodIn_app (goodIn_of _ (by decide +kernel)) ggX8_undo_X3_states
set_option maxRecDepth 20000 in
theorem ggX8_undo_X3_restore : GoodIn wsX8_undo wsX3_restore := goodIn_r _ [13, 14, 9, 15, 16, 17, 18, 19, 20, 21, 22, 23, 24, 25, 26, 27, 28, 29, 30, 31, 32, 33, 34, 35, 36, 37, 38, 39, 40, 41, 42, 43, 44, 45, 46, 47, 48, 49, 50, 51, 52, 53, 54, 55, 56, 57, 58, 59, 60, 61, 62, 63, 64, 65, 66, 67, 68, 69, 70, 71, 72, 76, 77, 78, 79, 80, 81, 82, 83, 84, 85, 86, 87, 88, 89, 90, 91, 92, 93, 94, 95, 96, 97, 98, 99, 100] (by decide +kernel) (by decide +kernel)
set_option maxRecDepth 20000 in
theorem gX8_undo_X3_restore : GoodIn wsX8_undo (wsV RX8 152 RX3 yX3_restore wsX3_restore) := goodIn_app (goodIn_of _ (by decide +kernel)) ggX8_undo_X3_restore
theorem dX8_undo_0 : decode cX8_undo 0 = .ok (.aload_n 0, 1) := by decide +kernel
theorem dX8_undo_1 : decode cX8_undo 1 = .ok (.getfield 19, 3) := by decide +kernel
theorem dX8_undo_4 : decode cX8_undo 4 = .ok (.invokevirtual 143, 3) := by decide +kernel
theorem dX8_undo_7 : decode cX8_undo 7 = .ok (.ifCond .ne 6, 3) := by decide +kernel
theorem dX8_undo_10 : decode cX8_undo 10 = .ok (.ldc 39, 2) := by decide +kernel
theorem dX8_undo_12 : decode cX8_undo 12 = .ok (.ireturn, 1) := by decide +kernel
theorem dX8_undo_13 : decode cX8_undo 13 = .ok (.aload_n 0, 1) := by decide +kernel
theorem dX8_undo_14 : decode cX8_undo 14 = .ok (.getfield 19, 3) := by decide +kernel
theorem dX8_undo_17 : decode cX8_undo 17 = .ok (.aload_n 0, 1) := by decide +kernel
theorem dX8_undo_18 : decode cX8_undo 18 = .ok (.getfield 10, 3) := by decide +kernel
theorem dX8_undo_21 : decode cX8_undo 21 = .ok (.invokevirtual 152, 3) := by decide +kernel
theorem dX8_undo_24 : decode cX8_undo 24 = .ok (.aload_n 0, 1) := by decide +kernel
theorem dX8_undo_25 : decode cX8_undo 25 = .ok (.getfield 19, 3) := by decide +kernel
theorem dX8_undo_28 : decode cX8_undo 28 = .ok (.invokevirtual 143, 3) := by decide +kernel
theorem dX8_undo_31 : decode cX8_undo 31 = .ok (.ireturn, 1) := by decide +kernel
theorem dX8_isWithin_0 : decode cX8_isWithin 0 = .ok (.iload_n 0, 1) := by decide +kernel
theorem dX8_isWithin_1 : decode cX8_isWithin 1 = .ok (.iload_n 1, 1) := by decide +kernel
theorem dX8_isWithin_2 : decode cX8_isWithin 2 = .ok (.if_icmp .lt 12, 3) := by decide +kernel
theorem dX8_isWithin_5 : decode cX8_isWithin 5 = .ok (.iload_n 0, 1) := by decide +kernel
theorem dX8_isWithin_6 : decode cX8_isWithin 6 = .ok (.iload_n 2, 1) := by decide +kernel
theorem dX8_isWithin_7 : decode cX8_isWithin 7 = .ok (.if_icmp .gt 7, 3) := by decide +kernel
theorem dX8_isWithin_10 : decode cX8_isWithin 10 = .ok (.iconst 1, 1) := by decide +kernel
theorem dX8_isWithin_11 : decode cX8_isWithin 11 = .ok (.goto 4, 3) := by decide +kernel
theorem dX8_isWithin_14 : decode cX8_isWithin 14 = .ok (.iconst 0, 1) := by decide +kernel
theorem dX8_isWithin_15 : decode cX8_isWithin 15 = .ok (.ireturn, 1) := by decide +kernel
set_option maxRecDepth 20000 in
theorem ggX8_isEvent_X8_isWithin : GoodIn wsX8_isEvent wsX8_isWithin := goodIn_r _ [4] (by decide +kernel) (by decide +kernel)
set_option maxRecDepth 20000 in
theorem gX8_isEvent_X8_isWithin : GoodIn wsX8_isEvent (va_wsS RX8 30 yX8_isWithin wsX8_isWithin) := goodIn_app (goodIn_of _ (by decide +kernel)) ggX8_isEvent_X8_isWithin
theorem dX8_isEvent_0 : decode cX8_isEvent 0 = .ok (.iload_n 0, 1) := by decide +kernel
theorem dX8_isEvent_1 : decode cX8_isEvent 1 = .ok (.iconst 0, 1) := by decide +kernel
theorem dX8_isEvent_2 : decode cX8_isEvent 2 = .ok (.bipush 63, 2) := by decide +kernel
theorem dX8_isEvent_4 : decode cX8_isEvent 4 = .ok (.invokestatic 30, 3) := by decide +kernel
theorem dX8_isEvent_7 : decode cX8_isEvent 7 = .ok (.ifCond .eq 38, 3) := by decide +kernel
theorem dX8_isEvent_10 : decode cX8_isEvent 10 = .ok (.iload_n 1, 1) := by decide +kernel
theorem dX8_isEvent_11 : decode cX8_isEvent 11 = .ok (.iconst 0, 1) := by decide +kernel
theorem dX8_isEvent_12 : decode cX8_isEvent 12 = .ok (.sipush 1999, 3) := by decide +kernel
theorem dX8_isEvent_15 : decode cX8_isEvent 15 = .ok (.invokestatic 30, 3) := by decide +kernel
theorem dX8_isEvent_18 : decode cX8_isEvent 18 = .ok (.ifCond .eq 27, 3) := by decide +kernel
theorem dX8_isEvent_21 : decode cX8_isEvent 21 = .ok (.iload_n 2, 1) := by decide +kernel
theorem dX8_isEvent_22 : decode cX8_isEvent 22 = .ok (.iconst 0, 1) := by decide +kernel
theorem dX8_isEvent_23 : decode cX8_isEvent 23 = .ok (.iconst 5, 1) := by decide +kernel
theorem dX8_isEvent_24 : decode cX8_isEvent 24 = .ok (.invokestatic 30, 3) := by decide +kernel
theorem dX8_isEvent_27 : decode cX8_isEvent 27 = .ok (.ifCond .eq 18, 3) := by decide +kernel
theorem dX8_isEvent_30 : decode cX8_isEvent 30 = .ok (.iload_n 3, 1) := by decide +kernel
theorem dX8_isEvent_31 : decode cX8_isEvent 31 = .ok (.bipush (-100), 2) := by decide +kernel
theorem dX8_isEvent_33 : decode cX8_isEvent 33 = .ok (.bipush 100, 2) := by decide +kernel
theorem dX8_isEvent_35 : decode cX8_isEvent 35 = .ok (.invokestatic 30, 3) := by decide +kernel
theorem dX8_isEvent_38 : decode cX8_isEvent 38 = .ok (.ifCond .eq 7, 3) := by decide +kernel
theorem dX8_isEvent_41 : decode cX8_isEvent 41 = .ok (.iconst 1, 1) := by decide +kernel
theorem dX8_isEvent_42 : decode cX8_isEvent 42 = .ok (.goto 4, 3) := by decide +kernel
theorem dX8_isEvent_45 : decode cX8_isEvent 45 = .ok (.iconst 0, 1) := by decide +kernel
theorem dX8_isEvent_46 : decode cX8_isEvent 46 = .ok (.ireturn, 1) := by decide +kernel
theorem dX8_bitsOf_0 : decode cX8_bitsOf 0 = .ok (.fload_n 0, 1) := by decide +kernel
theorem dX8_bitsOf_1 : decode cX8_bitsOf 1 = .ok (.fconst 0, 1) := by decide +kernel
theorem dX8_bitsOf_2 : decode cX8_bitsOf 2 = .ok (.fcmp .l, 1) := by decide +kernel
theorem dX8_bitsOf_3 : decode cX8_bitsOf 3 = .ok (.ifCond .ne 5, 3) := by decide +kernel
theorem dX8_bitsOf_6 : decode cX8_bitsOf 6 = .ok (.iconst 0, 1) := by decide +kernel
theorem dX8_bitsOf_7 : decode cX8_bitsOf 7 = .ok (.ireturn, 1) := by decide +kernel
theorem dX8_bitsOf_8 : decode cX8_bitsOf 8 = .ok (.fload_n 0, 1) := by decide +kernel
theorem dX8_bitsOf_9 : decode cX8_bitsOf 9 = .ok (.fconst 0, 1) := by decide +kernel
theorem dX8_bitsOf_10 : decode cX8_bitsOf 10 = .ok (.fcmp .g, 1) := by decide +kernel
theorem dX8_bitsOf_11 : decode cX8_bitsOf 11 = .ok (.ifCond .ge 8, 3) := by decide +kernel
theorem dX8_bitsOf_14 : decode cX8_bitsOf 14 = .ok (.fload_n 0, 1) := by decide +kernel
theorem dX8_bitsOf_15 : decode cX8_bitsOf 15 = .ok (.fneg, 1) := by decide +kernel
theorem dX8_bitsOf_16 : decode cX8_bitsOf 16 = .ok (.goto 4, 3) := by decide +kernel
theorem dX8_bitsOf_19 : decode cX8_bitsOf 19 = .ok (.fload_n 0, 1) := by decide +kernel
theorem dX8_bitsOf_20 : decode cX8_bitsOf 20 = .ok (.fstore_n 1, 1) := by decide +kernel
theorem dX8_bitsOf_21 : decode cX8_bitsOf 21 = .ok (.sipush 150, 3) := by decide +kernel
theorem dX8_bitsOf_24 : decode cX8_bitsOf 24 = .ok (.istore_n 2, 1) := by decide +kernel
theorem dX8_bitsOf_25 : decode cX8_bitsOf 25 = .ok (.iconst 0, 1) := by decide +kernel
theorem dX8_bitsOf_26 : decode cX8_bitsOf 26 = .ok (.istore_n 3, 1) := by decide +kernel
theorem dX8_bitsOf_27 : decode cX8_bitsOf 27 = .ok (.iload_n 3, 1) := by decide +kernel
theorem dX8_bitsOf_28 : decode cX8_bitsOf 28 = .ok (.sipush 150, 3) := by decide +kernel
theorem dX8_bitsOf_31 : decode cX8_bitsOf 31 = .ok (.if_icmp .ge 23, 3) := by decide +kernel
theorem dX8_bitsOf_34 : decode cX8_bitsOf 34 = .ok (.fload_n 1, 1) := by decide +kernel
theorem dX8_bitsOf_35 : decode cX8_bitsOf 35 = .ok (.ldc 191, 2) := by decide +kernel
theorem dX8_bitsOf_37 : decode cX8_bitsOf 37 = .ok (.fcmp .g, 1) := by decide +kernel
theorem dX8_bitsOf_38 : decode cX8_bitsOf 38 = .ok (.ifCond .ge 16, 3) := by decide +kernel
theorem dX8_bitsOf_41 : decode cX8_bitsOf 41 = .ok (.fload_n 1, 1) := by decide +kernel
theorem dX8_bitsOf_42 : decode cX8_bitsOf 42 = .ok (.fconst 2, 1) := by decide +kernel
theorem dX8_bitsOf_43 : decode cX8_bitsOf 43 = .ok (.fmul, 1) := by decide +kernel
theorem dX8_bitsOf_44 : decode cX8_bitsOf 44 = .ok (.fstore_n 1, 1) := by decide +kernel
theorem dX8_bitsOf_45 : decode cX8_bitsOf 45 = .ok (.iinc 2 (-1), 3) := by decide +kernel
theorem dX8_bitsOf_48 : decode cX8_bitsOf 48 = .ok (.iinc 3 1, 3) := by decide +kernel
theorem dX8_bitsOf_51 : decode cX8_bitsOf 51 = .ok (.goto (-24), 3) := by decide +kernel
theorem dX8_bitsOf_54 : decode cX8_bitsOf 54 = .ok (.iload_n 2, 1) := by decide +kernel
theorem dX8_bitsOf_55 : decode cX8_bitsOf 55 = .ok (.bipush 23, 2) := by decide +kernel
theorem dX8_bitsOf_57 : decode cX8_bitsOf 57 = .ok (.ishl, 1) := by decide +kernel
theorem dX8_bitsOf_58 : decode cX8_bitsOf 58 = .ok (.fload_n 1, 1) := by decide +kernel
theorem dX8_bitsOf_59 : decode cX8_bitsOf 59 = .ok (.f2i, 1) := by decide +kernel
theorem dX8_bitsOf_60 : decode cX8_bitsOf 60 = .ok (.ldc 192, 2) := by decide +kernel
theorem dX8_bitsOf_62 : decode cX8_bitsOf 62 = .ok (.isub, 1) := by decide +kernel
theorem dX8_bitsOf_63 : decode cX8_bitsOf 63 = .ok (.iadd, 1) := by decide +kernel
theorem dX8_bitsOf_64 : decode cX8_bitsOf 64 = .ok (.istore_n 3, 1) := by decide +kernel
theorem dX8_bitsOf_65 : decode cX8_bitsOf 65 = .ok (.fload_n 0, 1) := by decide +kernel
theorem dX8_bitsOf_66 : decode cX8_bitsOf 66 = .ok (.fconst 0, 1) := by decide +kernel
theorem dX8_bitsOf_67 : decode cX8_bitsOf 67 = .ok (.fcmp .g, 1) := by decide +kernel
theorem dX8_bitsOf_68 : decode cX8_bitsOf 68 = .ok (.ifCond .ge 10, 3) := by decide +kernel
theorem dX8_bitsOf_71 : decode cX8_bitsOf 71 = .ok (.iload_n 3, 1) := by decide +kernel
theorem dX8_bitsOf_72 : decode cX8_bitsOf 72 = .ok (.ldc 193, 2) := by decide +kernel
theorem dX8_bitsOf_74 : decode cX8_bitsOf 74 = .ok (.ior, 1) := by decide +kernel
theorem dX8_bitsOf_75 : decode cX8_bitsOf 75 = .ok (.goto 4, 3) := by decide +kernel
theorem dX8_bitsOf_78 : decode cX8_bitsOf 78 = .ok (.iload_n 3, 1) := by decide +kernel
theorem dX8_bitsOf_79 : decode cX8_bitsOf 79 = .ok (.ireturn, 1) := by decide +kernel
