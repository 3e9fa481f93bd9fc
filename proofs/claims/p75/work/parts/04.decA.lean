theorem dX0_init_0 : decode cX0_init 0 = .ok (.aload_n 0, 1) := by decide +kernel
theorem dX0_init_1 : decode cX0_init 1 = .ok (.invokespecial 3, 3) := by decide +kernel
theorem dX0_init_4 : decode cX0_init 4 = .ok (.aload_n 0, 1) := by decide +kernel
theorem dX0_init_5 : decode cX0_init 5 = .ok (.bipush 10, 2) := by decide +kernel
theorem dX0_init_7 : decode cX0_init 7 = .ok (.newarray .int, 2) := by decide +kernel
theorem dX0_init_9 : decode cX0_init 9 = .ok (.putfield 9, 3) := by decide +kernel
theorem dX0_init_12 : decode cX0_init 12 = .ok (.aload_n 0, 1) := by decide +kernel
theorem dX0_init_13 : decode cX0_init 13 = .ok (.bipush 10, 2) := by decide +kernel
theorem dX0_init_15 : decode cX0_init 15 = .ok (.newarray .int, 2) := by decide +kernel
theorem dX0_init_17 : decode cX0_init 17 = .ok (.putfield 15, 3) := by decide +kernel
theorem dX0_init_20 : decode cX0_init 20 = .ok (.aload_n 0, 1) := by decide +kernel
theorem dX0_init_21 : decode cX0_init 21 = .ok (.bipush 10, 2) := by decide +kernel
theorem dX0_init_23 : decode cX0_init 23 = .ok (.newarray .int, 2) := by decide +kernel
theorem dX0_init_25 : decode cX0_init 25 = .ok (.putfield 18, 3) := by decide +kernel
theorem dX0_init_28 : decode cX0_init 28 = .ok (.aload_n 0, 1) := by decide +kernel
theorem dX0_init_29 : decode cX0_init 29 = .ok (.bipush 10, 2) := by decide +kernel
theorem dX0_init_31 : decode cX0_init 31 = .ok (.newarray .int, 2) := by decide +kernel
theorem dX0_init_33 : decode cX0_init 33 = .ok (.putfield 21, 3) := by decide +kernel
theorem dX0_init_36 : decode cX0_init 36 = .ok (.iconst 0, 1) := by decide +kernel
theorem dX0_init_37 : decode cX0_init 37 = .ok (.istore_n 1, 1) := by decide +kernel
theorem dX0_init_38 : decode cX0_init 38 = .ok (.iload_n 1, 1) := by decide +kernel
theorem dX0_init_39 : decode cX0_init 39 = .ok (.bipush 10, 2) := by decide +kernel
theorem dX0_init_41 : decode cX0_init 41 = .ok (.if_icmp .ge 16, 3) := by decide +kernel
theorem dX0_init_44 : decode cX0_init 44 = .ok (.aload_n 0, 1) := by decide +kernel
theorem dX0_init_45 : decode cX0_init 45 = .ok (.getfield 9, 3) := by decide +kernel
theorem dX0_init_48 : decode cX0_init 48 = .ok (.iload_n 1, 1) := by decide +kernel
theorem dX0_init_49 : decode cX0_init 49 = .ok (.iconst 1, 1) := by decide +kernel
theorem dX0_init_50 : decode cX0_init 50 = .ok (.iastore, 1) := by decide +kernel
theorem dX0_init_51 : decode cX0_init 51 = .ok (.iinc 1 1, 3) := by decide +kernel
theorem dX0_init_54 : decode cX0_init 54 = .ok (.goto (-16), 3) := by decide +kernel
theorem dX0_init_57 : decode cX0_init 57 = .ok (.return_, 1) := by decide +kernel
theorem dX0_copyFrom_0 : decode cX0_copyFrom 0 = .ok (.aload_n 1, 1) := by decide +kernel
theorem dX0_copyFrom_1 : decode cX0_copyFrom 1 = .ok (.getfield 9, 3) := by decide +kernel
theorem dX0_copyFrom_4 : decode cX0_copyFrom 4 = .ok (.iconst 0, 1) := by decide +kernel
theorem dX0_copyFrom_5 : decode cX0_copyFrom 5 = .ok (.aload_n 0, 1) := by decide +kernel
theorem dX0_copyFrom_6 : decode cX0_copyFrom 6 = .ok (.getfield 9, 3) := by decide +kernel
theorem dX0_copyFrom_9 : decode cX0_copyFrom 9 = .ok (.iconst 0, 1) := by decide +kernel
theorem dX0_copyFrom_10 : decode cX0_copyFrom 10 = .ok (.bipush 10, 2) := by decide +kernel
theorem dX0_copyFrom_12 : decode cX0_copyFrom 12 = .ok (.invokestatic 24, 3) := by decide +kernel
theorem dX0_copyFrom_15 : decode cX0_copyFrom 15 = .ok (.aload_n 1, 1) := by decide +kernel
theorem dX0_copyFrom_16 : decode cX0_copyFrom 16 = .ok (.getfield 15, 3) := by decide +kernel
theorem dX0_copyFrom_19 : decode cX0_copyFrom 19 = .ok (.iconst 0, 1) := by decide +kernel
theorem dX0_copyFrom_20 : decode cX0_copyFrom 20 = .ok (.aload_n 0, 1) := by decide +kernel
theorem dX0_copyFrom_21 : decode cX0_copyFrom 21 = .ok (.getfield 15, 3) := by decide +kernel
theorem dX0_copyFrom_24 : decode cX0_copyFrom 24 = .ok (.iconst 0, 1) := by decide +kernel
theorem dX0_copyFrom_25 : decode cX0_copyFrom 25 = .ok (.bipush 10, 2) := by decide +kernel
theorem dX0_copyFrom_27 : decode cX0_copyFrom 27 = .ok (.invokestatic 24, 3) := by decide +kernel
theorem dX0_copyFrom_30 : decode cX0_copyFrom 30 = .ok (.aload_n 1, 1) := by decide +kernel
theorem dX0_copyFrom_31 : decode cX0_copyFrom 31 = .ok (.getfield 18, 3) := by decide +kernel
theorem dX0_copyFrom_34 : decode cX0_copyFrom 34 = .ok (.iconst 0, 1) := by decide +kernel
theorem dX0_copyFrom_35 : decode cX0_copyFrom 35 = .ok (.aload_n 0, 1) := by decide +kernel
theorem dX0_copyFrom_36 : decode cX0_copyFrom 36 = .ok (.getfield 18, 3) := by decide +kernel
theorem dX0_copyFrom_39 : decode cX0_copyFrom 39 = .ok (.iconst 0, 1) := by decide +kernel
theorem dX0_copyFrom_40 : decode cX0_copyFrom 40 = .ok (.bipush 10, 2) := by decide +kernel
theorem dX0_copyFrom_42 : decode cX0_copyFrom 42 = .ok (.invokestatic 24, 3) := by decide +kernel
theorem dX0_copyFrom_45 : decode cX0_copyFrom 45 = .ok (.aload_n 1, 1) := by decide +kernel
theorem dX0_copyFrom_46 : decode cX0_copyFrom 46 = .ok (.getfield 21, 3) := by decide +kernel
theorem dX0_copyFrom_49 : decode cX0_copyFrom 49 = .ok (.iconst 0, 1) := by decide +kernel
theorem dX0_copyFrom_50 : decode cX0_copyFrom 50 = .ok (.aload_n 0, 1) := by decide +kernel
theorem dX0_copyFrom_51 : decode cX0_copyFrom 51 = .ok (.getfield 21, 3) := by decide +kernel
theorem dX0_copyFrom_54 : decode cX0_copyFrom 54 = .ok (.iconst 0, 1) := by decide +kernel
theorem dX0_copyFrom_55 : decode cX0_copyFrom 55 = .ok (.bipush 10, 2) := by decide +kernel
theorem dX0_copyFrom_57 : decode cX0_copyFrom 57 = .ok (.invokestatic 24, 3) := by decide +kernel
theorem dX0_copyFrom_60 : decode cX0_copyFrom 60 = .ok (.return_, 1) := by decide +kernel
theorem dX1_init_0 : decode cX1_init 0 = .ok (.aload_n 0, 1) := by decide +kernel
theorem dX1_init_1 : decode cX1_init 1 = .ok (.invokespecial 3, 3) := by decide +kernel
theorem dX1_init_4 : decode cX1_init 4 = .ok (.aload_n 0, 1) := by decide +kernel
theorem dX1_init_5 : decode cX1_init 5 = .ok (.iconst 0, 1) := by decide +kernel
theorem dX1_init_6 : decode cX1_init 6 = .ok (.putfield 9, 3) := by decide +kernel
theorem dX1_init_9 : decode cX1_init 9 = .ok (.aload_n 0, 1) := by decide +kernel
theorem dX1_init_10 : decode cX1_init 10 = .ok (.bipush 6, 2) := by decide +kernel
theorem dX1_init_12 : decode cX1_init 12 = .ok (.anewarray 15, 3) := by decide +kernel
theorem dX1_init_15 : decode cX1_init 15 = .ok (.putfield 17, 3) := by decide +kernel
theorem dX1_init_18 : decode cX1_init 18 = .ok (.aload_n 0, 1) := by decide +kernel
theorem dX1_init_19 : decode cX1_init 19 = .ok (.iconst 2, 1) := by decide +kernel
theorem dX1_init_20 : decode cX1_init 20 = .ok (.anewarray 15, 3) := by decide +kernel
theorem dX1_init_23 : decode cX1_init 23 = .ok (.putfield 21, 3) := by decide +kernel
theorem dX1_init_26 : decode cX1_init 26 = .ok (.return_, 1) := by decide +kernel
set_option maxRecDepth 20000 in
theorem ggX1_save_X1_dropOldest : GoodIn wsX1_save wsX1_dropOldest := goodIn_r _ [10, 2, 1, 87, 88, 89] rfl (by decide +kernel)
set_option maxRecDepth 20000 in
theorem gX1_save_X1_dropOldest : GoodIn wsX1_save (wsV RX1 24 RX1 yX1_dropOldest wsX1_dropOldest) := goodIn_app (goodIn_r _ [6, 7, 8, 9] rfl (by decide +kernel)) ggX1_save_X1_dropOldest
set_option maxRecDepth 20000 in
theorem ggX1_save_X6_init : GoodIn wsX1_save wsX6_init := goodIn_r _ [12, 13, 14, 15, 16, 17, 18, 19, 20, 21, 22, 23, 24, 25, 26, 27, 28, 29, 30, 31, 32, 33, 34, 35, 36, 37, 38, 39, 40, 41, 42, 43, 44, 45, 46, 47, 48, 49, 50, 51, 52, 53, 54, 55, 56, 57, 58, 59, 60, 61, 62, 63, 64, 65, 95, 96, 97, 98, 99, 100, 90, 91, 92, 93, 94, 101, 102, 103, 104, 105, 106, 107, 108, 109, 110, 111, 112, 113] rfl (by decide +kernel)
set_option maxRecDepth 20000 in
theorem gX1_save_X6_init_n27 : GoodIn wsX1_save (wsX6_init) := ggX1_save_X6_init
set_option maxRecDepth 20000 in
theorem ggX1_save_X6_copyFrom : GoodIn wsX1_save wsX6_copyFrom := goodIn_r _ [68, 19, 23, 27, 31, 32, 69, 18, 70, 71, 36, 37, 39, 72, 73, 74, 75, 40, 41, 42, 76, 22, 77, 78, 46, 47, 48, 49, 50, 51, 53, 79, 26, 80, 81, 57, 82, 58, 59, 60, 83, 30, 84, 85, 64, 65, 86, 90, 91, 92, 93, 94, 95, 96, 97, 98, 99, 100, 101, 102, 103, 104, 105, 106, 107, 108, 109, 110, 111, 112, 113] rfl (by decide +kernel)
set_option maxRecDepth 20000 in
theorem gX1_save_X6_copyFrom_n28 : GoodIn wsX1_save (wsX6_copyFrom) := ggX1_save_X6_copyFrom
theorem dX1_save_0 : decode cX1_save 0 = .ok (.aload_n 0, 1) := by decide +kernel
theorem dX1_save_1 : decode cX1_save 1 = .ok (.getfield 9, 3) := by decide +kernel
theorem dX1_save_4 : decode cX1_save 4 = .ok (.bipush 6, 2) := by decide +kernel
theorem dX1_save_6 : decode cX1_save 6 = .ok (.if_icmp .lt 7, 3) := by decide +kernel
theorem dX1_save_9 : decode cX1_save 9 = .ok (.aload_n 0, 1) := by decide +kernel
theorem dX1_save_10 : decode cX1_save 10 = .ok (.invokevirtual 24, 3) := by decide +kernel
theorem dX1_save_13 : decode cX1_save 13 = .ok (.aload_n 0, 1) := by decide +kernel
theorem dX1_save_14 : decode cX1_save 14 = .ok (.getfield 17, 3) := by decide +kernel
theorem dX1_save_17 : decode cX1_save 17 = .ok (.aload_n 0, 1) := by decide +kernel
theorem dX1_save_18 : decode cX1_save 18 = .ok (.getfield 9, 3) := by decide +kernel
theorem dX1_save_21 : decode cX1_save 21 = .ok (.aaload, 1) := by decide +kernel
theorem dX1_save_22 : decode cX1_save 22 = .ok (.astore_n 2, 1) := by decide +kernel
theorem dX1_save_23 : decode cX1_save 23 = .ok (.aload_n 2, 1) := by decide +kernel
theorem dX1_save_24 : decode cX1_save 24 = .ok (.ifnonnull 21, 3) := by decide +kernel
theorem dX1_save_27 : decode cX1_save 27 = .ok (.new 15, 3) := by decide +kernel
theorem dX1_save_30 : decode cX1_save 30 = .ok (.dup, 1) := by decide +kernel
theorem dX1_save_31 : decode cX1_save 31 = .ok (.invokespecial 27, 3) := by decide +kernel
theorem dX1_save_34 : decode cX1_save 34 = .ok (.astore_n 2, 1) := by decide +kernel
theorem dX1_save_35 : decode cX1_save 35 = .ok (.aload_n 0, 1) := by decide +kernel
theorem dX1_save_36 : decode cX1_save 36 = .ok (.getfield 17, 3) := by decide +kernel
theorem dX1_save_39 : decode cX1_save 39 = .ok (.aload_n 0, 1) := by decide +kernel
theorem dX1_save_40 : decode cX1_save 40 = .ok (.getfield 9, 3) := by decide +kernel
theorem dX1_save_43 : decode cX1_save 43 = .ok (.aload_n 2, 1) := by decide +kernel
theorem dX1_save_44 : decode cX1_save 44 = .ok (.aastore, 1) := by decide +kernel
theorem dX1_save_45 : decode cX1_save 45 = .ok (.aload_n 2, 1) := by decide +kernel
theorem dX1_save_46 : decode cX1_save 46 = .ok (.aload_n 1, 1) := by decide +kernel
theorem dX1_save_47 : decode cX1_save 47 = .ok (.invokevirtual 28, 3) := by decide +kernel
theorem dX1_save_50 : decode cX1_save 50 = .ok (.aload_n 0, 1) := by decide +kernel
theorem dX1_save_51 : decode cX1_save 51 = .ok (.dup, 1) := by decide +kernel
theorem dX1_save_52 : decode cX1_save 52 = .ok (.getfield 9, 3) := by decide +kernel
theorem dX1_save_55 : decode cX1_save 55 = .ok (.iconst 1, 1) := by decide +kernel
theorem dX1_save_56 : decode cX1_save 56 = .ok (.iadd, 1) := by decide +kernel
theorem dX1_save_57 : decode cX1_save 57 = .ok (.putfield 9, 3) := by decide +kernel
theorem dX1_save_60 : decode cX1_save 60 = .ok (.return_, 1) := by decide +kernel
theorem dX1_dropOldest_0 : decode cX1_dropOldest 0 = .ok (.aload_n 0, 1) := by decide +kernel
theorem dX1_dropOldest_1 : decode cX1_dropOldest 1 = .ok (.getfield 17, 3) := by decide +kernel
theorem dX1_dropOldest_4 : decode cX1_dropOldest 4 = .ok (.iconst 0, 1) := by decide +kernel
theorem dX1_dropOldest_5 : decode cX1_dropOldest 5 = .ok (.aaload, 1) := by decide +kernel
theorem dX1_dropOldest_6 : decode cX1_dropOldest 6 = .ok (.astore_n 1, 1) := by decide +kernel
theorem dX1_dropOldest_7 : decode cX1_dropOldest 7 = .ok (.iconst 1, 1) := by decide +kernel
theorem dX1_dropOldest_8 : decode cX1_dropOldest 8 = .ok (.istore_n 2, 1) := by decide +kernel
theorem dX1_dropOldest_9 : decode cX1_dropOldest 9 = .ok (.iload_n 2, 1) := by decide +kernel
theorem dX1_dropOldest_10 : decode cX1_dropOldest 10 = .ok (.bipush 6, 2) := by decide +kernel
theorem dX1_dropOldest_12 : decode cX1_dropOldest 12 = .ok (.if_icmp .ge 23, 3) := by decide +kernel
theorem dX1_dropOldest_15 : decode cX1_dropOldest 15 = .ok (.aload_n 0, 1) := by decide +kernel
theorem dX1_dropOldest_16 : decode cX1_dropOldest 16 = .ok (.getfield 17, 3) := by decide +kernel
theorem dX1_dropOldest_19 : decode cX1_dropOldest 19 = .ok (.iload_n 2, 1) := by decide +kernel
theorem dX1_dropOldest_20 : decode cX1_dropOldest 20 = .ok (.iconst 1, 1) := by decide +kernel
theorem dX1_dropOldest_21 : decode cX1_dropOldest 21 = .ok (.isub, 1) := by decide +kernel
theorem dX1_dropOldest_22 : decode cX1_dropOldest 22 = .ok (.aload_n 0, 1) := by decide +kernel
theorem dX1_dropOldest_23 : decode cX1_dropOldest 23 = .ok (.getfield 17, 3) := by decide +kernel
theorem dX1_dropOldest_26 : decode cX1_dropOldest 26 = .ok (.iload_n 2, 1) := by decide +kernel
theorem dX1_dropOldest_27 : decode cX1_dropOldest 27 = .ok (.aaload, 1) := by decide +kernel
theorem dX1_dropOldest_28 : decode cX1_dropOldest 28 = .ok (.aastore, 1) := by decide +kernel
theorem dX1_dropOldest_29 : decode cX1_dropOldest 29 = .ok (.iinc 2 1, 3) := by decide +kernel
theorem dX1_dropOldest_32 : decode cX1_dropOldest 32 = .ok (.goto (-23), 3) := by decide +kernel
theorem dX1_dropOldest_35 : decode cX1_dropOldest 35 = .ok (.aload_n 0, 1) := by decide +kernel
theorem dX1_dropOldest_36 : decode cX1_dropOldest 36 = .ok (.getfield 17, 3) := by decide +kernel
theorem dX1_dropOldest_39 : decode cX1_dropOldest 39 = .ok (.iconst 5, 1) := by decide +kernel
theorem dX1_dropOldest_40 : decode cX1_dropOldest 40 = .ok (.aload_n 1, 1) := by decide +kernel
theorem dX1_dropOldest_41 : decode cX1_dropOldest 41 = .ok (.aastore, 1) := by decide +kernel
theorem dX1_dropOldest_42 : decode cX1_dropOldest 42 = .ok (.aload_n 0, 1) := by decide +kernel
theorem dX1_dropOldest_43 : decode cX1_dropOldest 43 = .ok (.iconst 5, 1) := by decide +kernel
theorem dX1_dropOldest_44 : decode cX1_dropOldest 44 = .ok (.putfield 9, 3) := by decide +kernel
theorem dX1_dropOldest_47 : decode cX1_dropOldest 47 = .ok (.return_, 1) := by decide +kernel
set_option maxRecDepth 20000 in
theorem ggX1_restoreLatest_X6_copyFrom : GoodIn wsX1_restoreLatest wsX6_copyFrom := goodIn_r _ [6, 7, 8, 9, 10, 11, 12, 13, 14, 15, 16, 17, 18, 19, 20, 21, 22, 23, 24, 25, 26, 27, 28, 29, 30, 31, 32, 33, 34, 35, 36, 37, 38, 39, 40, 41, 42, 43, 44, 45, 46, 47, 48, 49, 50, 51, 52, 56, 57, 58, 59, 60, 61, 62, 63, 64, 65, 66, 67, 68, 69, 70, 71, 72, 73, 74, 75, 76, 77, 78, 79] rfl (by decide +kernel)
set_option maxRecDepth 20000 in
theorem gX1_restoreLatest_X6_copyFrom_n28 : GoodIn wsX1_restoreLatest (wsX6_copyFrom) := ggX1_restoreLatest_X6_copyFrom
theorem dX1_restoreLatest_0 : decode cX1_restoreLatest 0 = .ok (.aload_n 0, 1) := by decide +kernel
theorem dX1_restoreLatest_1 : decode cX1_restoreLatest 1 = .ok (.getfield 9, 3) := by decide +kernel
theorem dX1_restoreLatest_4 : decode cX1_restoreLatest 4 = .ok (.ifCond .le 12, 3) := by decide +kernel
theorem dX1_restoreLatest_7 : decode cX1_restoreLatest 7 = .ok (.aload_n 0, 1) := by decide +kernel
theorem dX1_restoreLatest_8 : decode cX1_restoreLatest 8 = .ok (.getfield 9, 3) := by decide +kernel
theorem dX1_restoreLatest_11 : decode cX1_restoreLatest 11 = .ok (.bipush 6, 2) := by decide +kernel
theorem dX1_restoreLatest_13 : decode cX1_restoreLatest 13 = .ok (.if_icmp .le 5, 3) := by decide +kernel
theorem dX1_restoreLatest_16 : decode cX1_restoreLatest 16 = .ok (.iconst 0, 1) := by decide +kernel
theorem dX1_restoreLatest_17 : decode cX1_restoreLatest 17 = .ok (.ireturn, 1) := by decide +kernel
theorem dX1_restoreLatest_18 : decode cX1_restoreLatest 18 = .ok (.aload_n 0, 1) := by decide +kernel
theorem dX1_restoreLatest_19 : decode cX1_restoreLatest 19 = .ok (.getfield 17, 3) := by decide +kernel
theorem dX1_restoreLatest_22 : decode cX1_restoreLatest 22 = .ok (.aload_n 0, 1) := by decide +kernel
theorem dX1_restoreLatest_23 : decode cX1_restoreLatest 23 = .ok (.getfield 9, 3) := by decide +kernel
theorem dX1_restoreLatest_26 : decode cX1_restoreLatest 26 = .ok (.iconst 1, 1) := by decide +kernel
theorem dX1_restoreLatest_27 : decode cX1_restoreLatest 27 = .ok (.isub, 1) := by decide +kernel
theorem dX1_restoreLatest_28 : decode cX1_restoreLatest 28 = .ok (.aaload, 1) := by decide +kernel
theorem dX1_restoreLatest_29 : decode cX1_restoreLatest 29 = .ok (.astore_n 2, 1) := by decide +kernel
theorem dX1_restoreLatest_30 : decode cX1_restoreLatest 30 = .ok (.aload_n 2, 1) := by decide +kernel
theorem dX1_restoreLatest_31 : decode cX1_restoreLatest 31 = .ok (.ifnonnull 5, 3) := by decide +kernel
theorem dX1_restoreLatest_34 : decode cX1_restoreLatest 34 = .ok (.iconst 0, 1) := by decide +kernel
theorem dX1_restoreLatest_35 : decode cX1_restoreLatest 35 = .ok (.ireturn, 1) := by decide +kernel
theorem dX1_restoreLatest_36 : decode cX1_restoreLatest 36 = .ok (.aload_n 1, 1) := by decide +kernel
theorem dX1_restoreLatest_37 : decode cX1_restoreLatest 37 = .ok (.aload_n 2, 1) := by decide +kernel
theorem dX1_restoreLatest_38 : decode cX1_restoreLatest 38 = .ok (.invokevirtual 28, 3) := by decide +kernel
theorem dX1_restoreLatest_41 : decode cX1_restoreLatest 41 = .ok (.aload_n 0, 1) := by decide +kernel
theorem dX1_restoreLatest_42 : decode cX1_restoreLatest 42 = .ok (.dup, 1) := by decide +kernel
theorem dX1_restoreLatest_43 : decode cX1_restoreLatest 43 = .ok (.getfield 9, 3) := by decide +kernel
theorem dX1_restoreLatest_46 : decode cX1_restoreLatest 46 = .ok (.iconst 1, 1) := by decide +kernel
theorem dX1_restoreLatest_47 : decode cX1_restoreLatest 47 = .ok (.isub, 1) := by decide +kernel
theorem dX1_restoreLatest_48 : decode cX1_restoreLatest 48 = .ok (.putfield 9, 3) := by decide +kernel
theorem dX1_restoreLatest_51 : decode cX1_restoreLatest 51 = .ok (.iconst 1, 1) := by decide +kernel
theorem dX1_restoreLatest_52 : decode cX1_restoreLatest 52 = .ok (.ireturn, 1) := by decide +kernel
theorem dX2_init_0 : decode cX2_init 0 = .ok (.aload_n 0, 1) := by decide +kernel
theorem dX2_init_1 : decode cX2_init 1 = .ok (.invokespecial 3, 3) := by decide +kernel
theorem dX2_init_4 : decode cX2_init 4 = .ok (.aload_n 0, 1) := by decide +kernel
theorem dX2_init_5 : decode cX2_init 5 = .ok (.iconst 0, 1) := by decide +kernel
theorem dX2_init_6 : decode cX2_init 6 = .ok (.putfield 9, 3) := by decide +kernel
theorem dX2_init_9 : decode cX2_init 9 = .ok (.aload_n 0, 1) := by decide +kernel
theorem dX2_init_10 : decode cX2_init 10 = .ok (.iconst 1, 1) := by decide +kernel
theorem dX2_init_11 : decode cX2_init 11 = .ok (.putfield 15, 3) := by decide +kernel
theorem dX2_init_14 : decode cX2_init 14 = .ok (.aload_n 0, 1) := by decide +kernel
theorem dX2_init_15 : decode cX2_init 15 = .ok (.iconst 0, 1) := by decide +kernel
theorem dX2_init_16 : decode cX2_init 16 = .ok (.putfield 19, 3) := by decide +kernel
theorem dX2_init_19 : decode cX2_init 19 = .ok (.aload_n 0, 1) := by decide +kernel
theorem dX2_init_20 : decode cX2_init 20 = .ok (.iconst 0, 1) := by decide +kernel
theorem dX2_init_21 : decode cX2_init 21 = .ok (.putfield 22, 3) := by decide +kernel
theorem dX2_init_24 : decode cX2_init 24 = .ok (.aload_n 0, 1) := by decide +kernel
theorem dX2_init_25 : decode cX2_init 25 = .ok (.iconst 0, 1) := by decide +kernel
theorem dX2_init_26 : decode cX2_init 26 = .ok (.putfield 25, 3) := by decide +kernel
theorem dX2_init_29 : decode cX2_init 29 = .ok (.aload_n 0, 1) := by decide +kernel
theorem dX2_init_30 : decode cX2_init 30 = .ok (.bipush 8, 2) := by decide +kernel
theorem dX2_init_32 : decode cX2_init 32 = .ok (.newarray .int, 2) := by decide +kernel
theorem dX2_init_34 : decode cX2_init 34 = .ok (.putfield 28, 3) := by decide +kernel
theorem dX2_init_37 : decode cX2_init 37 = .ok (.aload_n 0, 1) := by decide +kernel
theorem dX2_init_38 : decode cX2_init 38 = .ok (.bipush 8, 2) := by decide +kernel
theorem dX2_init_40 : decode cX2_init 40 = .ok (.newarray .boolean, 2) := by decide +kernel
theorem dX2_init_42 : decode cX2_init 42 = .ok (.putfield 32, 3) := by decide +kernel
theorem dX2_init_45 : decode cX2_init 45 = .ok (.return_, 1) := by decide +kernel
theorem dX2_copyFrom_0 : decode cX2_copyFrom 0 = .ok (.aload_n 0, 1) := by decide +kernel
theorem dX2_copyFrom_1 : decode cX2_copyFrom 1 = .ok (.aload_n 1, 1) := by decide +kernel
theorem dX2_copyFrom_2 : decode cX2_copyFrom 2 = .ok (.getfield 9, 3) := by decide +kernel
theorem dX2_copyFrom_5 : decode cX2_copyFrom 5 = .ok (.putfield 9, 3) := by decide +kernel
theorem dX2_copyFrom_8 : decode cX2_copyFrom 8 = .ok (.aload_n 0, 1) := by decide +kernel
theorem dX2_copyFrom_9 : decode cX2_copyFrom 9 = .ok (.aload_n 1, 1) := by decide +kernel
theorem dX2_copyFrom_10 : decode cX2_copyFrom 10 = .ok (.getfield 15, 3) := by decide +kernel
theorem dX2_copyFrom_13 : decode cX2_copyFrom 13 = .ok (.putfield 15, 3) := by decide +kernel
theorem dX2_copyFrom_16 : decode cX2_copyFrom 16 = .ok (.aload_n 0, 1) := by decide +kernel
theorem dX2_copyFrom_17 : decode cX2_copyFrom 17 = .ok (.aload_n 1, 1) := by decide +kernel
theorem dX2_copyFrom_18 : decode cX2_copyFrom 18 = .ok (.getfield 19, 3) := by decide +kernel
theorem dX2_copyFrom_21 : decode cX2_copyFrom 21 = .ok (.putfield 19, 3) := by decide +kernel
theorem dX2_copyFrom_24 : decode cX2_copyFrom 24 = .ok (.aload_n 0, 1) := by decide +kernel
theorem dX2_copyFrom_25 : decode cX2_copyFrom 25 = .ok (.aload_n 1, 1) := by decide +kernel
theorem dX2_copyFrom_26 : decode cX2_copyFrom 26 = .ok (.getfield 22, 3) := by decide +kernel
theorem dX2_copyFrom_29 : decode cX2_copyFrom 29 = .ok (.putfield 22, 3) := by decide +kernel
theorem dX2_copyFrom_32 : decode cX2_copyFrom 32 = .ok (.aload_n 0, 1) := by decide +kernel
theorem dX2_copyFrom_33 : decode cX2_copyFrom 33 = .ok (.aload_n 1, 1) := by decide +kernel
theorem dX2_copyFrom_34 : decode cX2_copyFrom 34 = .ok (.getfield 25, 3) := by decide +kernel
theorem dX2_copyFrom_37 : decode cX2_copyFrom 37 = .ok (.putfield 25, 3) := by decide +kernel
theorem dX2_copyFrom_40 : decode cX2_copyFrom 40 = .ok (.iconst 0, 1) := by decide +kernel
theorem dX2_copyFrom_41 : decode cX2_copyFrom 41 = .ok (.istore_n 2, 1) := by decide +kernel
theorem dX2_copyFrom_42 : decode cX2_copyFrom 42 = .ok (.iload_n 2, 1) := by decide +kernel
theorem dX2_copyFrom_43 : decode cX2_copyFrom 43 = .ok (.bipush 8, 2) := by decide +kernel
theorem dX2_copyFrom_45 : decode cX2_copyFrom 45 = .ok (.if_icmp .ge 33, 3) := by decide +kernel
theorem dX2_copyFrom_48 : decode cX2_copyFrom 48 = .ok (.aload_n 0, 1) := by decide +kernel
theorem dX2_copyFrom_49 : decode cX2_copyFrom 49 = .ok (.getfield 28, 3) := by decide +kernel
theorem dX2_copyFrom_52 : decode cX2_copyFrom 52 = .ok (.iload_n 2, 1) := by decide +kernel
theorem dX2_copyFrom_53 : decode cX2_copyFrom 53 = .ok (.aload_n 1, 1) := by decide +kernel
theorem dX2_copyFrom_54 : decode cX2_copyFrom 54 = .ok (.getfield 28, 3) := by decide +kernel
theorem dX2_copyFrom_57 : decode cX2_copyFrom 57 = .ok (.iload_n 2, 1) := by decide +kernel
theorem dX2_copyFrom_58 : decode cX2_copyFrom 58 = .ok (.iaload, 1) := by decide +kernel
theorem dX2_copyFrom_59 : decode cX2_copyFrom 59 = .ok (.iastore, 1) := by decide +kernel
theorem dX2_copyFrom_60 : decode cX2_copyFrom 60 = .ok (.aload_n 0, 1) := by decide +kernel
theorem dX2_copyFrom_61 : decode cX2_copyFrom 61 = .ok (.getfield 32, 3) := by decide +kernel
theorem dX2_copyFrom_64 : decode cX2_copyFrom 64 = .ok (.iload_n 2, 1) := by decide +kernel
theorem dX2_copyFrom_65 : decode cX2_copyFrom 65 = .ok (.aload_n 1, 1) := by decide +kernel
theorem dX2_copyFrom_66 : decode cX2_copyFrom 66 = .ok (.getfield 32, 3) := by decide +kernel
theorem dX2_copyFrom_69 : decode cX2_copyFrom 69 = .ok (.iload_n 2, 1) := by decide +kernel
theorem dX2_copyFrom_70 : decode cX2_copyFrom 70 = .ok (.baload, 1) := by decide +kernel
theorem dX2_copyFrom_71 : decode cX2_copyFrom 71 = .ok (.bastore, 1) := by decide +kernel
theorem dX2_copyFrom_72 : decode cX2_copyFrom 72 = .ok (.iinc 2 1, 3) := by decide +kernel
theorem dX2_copyFrom_75 : decode cX2_copyFrom 75 = .ok (.goto (-33), 3) := by decide +kernel
theorem dX2_copyFrom_78 : decode cX2_copyFrom 78 = .ok (.return_, 1) := by decide +kernel
theorem dX2_go_0 : decode cX2_go 0 = .ok (.bipush 7, 2) := by decide +kernel
theorem dX2_go_2 : decode cX2_go 2 = .ok (.istore 4, 2) := by decide +kernel
theorem dX2_go_4 : decode cX2_go 4 = .ok (.iload 4, 2) := by decide +kernel
theorem dX2_go_6 : decode cX2_go 6 = .ok (.ifCond .le 41, 3) := by decide +kernel
theorem dX2_go_9 : decode cX2_go 9 = .ok (.aload_n 0, 1) := by decide +kernel
theorem dX2_go_10 : decode cX2_go 10 = .ok (.getfield 28, 3) := by decide +kernel
theorem dX2_go_13 : decode cX2_go 13 = .ok (.iload 4, 2) := by decide +kernel
theorem dX2_go_15 : decode cX2_go 15 = .ok (.aload_n 0, 1) := by decide +kernel
theorem dX2_go_16 : decode cX2_go 16 = .ok (.getfield 28, 3) := by decide +kernel
theorem dX2_go_19 : decode cX2_go 19 = .ok (.iload 4, 2) := by decide +kernel
theorem dX2_go_21 : decode cX2_go 21 = .ok (.iconst 1, 1) := by decide +kernel
theorem dX2_go_22 : decode cX2_go 22 = .ok (.isub, 1) := by decide +kernel
theorem dX2_go_23 : decode cX2_go 23 = .ok (.iaload, 1) := by decide +kernel
theorem dX2_go_24 : decode cX2_go 24 = .ok (.iastore, 1) := by decide +kernel
theorem dX2_go_25 : decode cX2_go 25 = .ok (.aload_n 0, 1) := by decide +kernel
theorem dX2_go_26 : decode cX2_go 26 = .ok (.getfield 32, 3) := by decide +kernel
theorem dX2_go_29 : decode cX2_go 29 = .ok (.iload 4, 2) := by decide +kernel
theorem dX2_go_31 : decode cX2_go 31 = .ok (.aload_n 0, 1) := by decide +kernel
theorem dX2_go_32 : decode cX2_go 32 = .ok (.getfield 32, 3) := by decide +kernel
theorem dX2_go_35 : decode cX2_go 35 = .ok (.iload 4, 2) := by decide +kernel
theorem dX2_go_37 : decode cX2_go 37 = .ok (.iconst 1, 1) := by decide +kernel
theorem dX2_go_38 : decode cX2_go 38 = .ok (.isub, 1) := by decide +kernel
theorem dX2_go_39 : decode cX2_go 39 = .ok (.baload, 1) := by decide +kernel
theorem dX2_go_40 : decode cX2_go 40 = .ok (.bastore, 1) := by decide +kernel
theorem dX2_go_41 : decode cX2_go 41 = .ok (.iinc 4 (-1), 3) := by decide +kernel
theorem dX2_go_44 : decode cX2_go 44 = .ok (.goto (-40), 3) := by decide +kernel
theorem dX2_go_47 : decode cX2_go 47 = .ok (.aload_n 0, 1) := by decide +kernel
theorem dX2_go_48 : decode cX2_go 48 = .ok (.getfield 28, 3) := by decide +kernel
theorem dX2_go_51 : decode cX2_go 51 = .ok (.iconst 0, 1) := by decide +kernel
theorem dX2_go_52 : decode cX2_go 52 = .ok (.iload_n 1, 1) := by decide +kernel
theorem dX2_go_53 : decode cX2_go 53 = .ok (.iastore, 1) := by decide +kernel
theorem dX2_go_54 : decode cX2_go 54 = .ok (.aload_n 0, 1) := by decide +kernel
theorem dX2_go_55 : decode cX2_go 55 = .ok (.getfield 32, 3) := by decide +kernel
theorem dX2_go_58 : decode cX2_go 58 = .ok (.iconst 0, 1) := by decide +kernel
theorem dX2_go_59 : decode cX2_go 59 = .ok (.iload_n 2, 1) := by decide +kernel
theorem dX2_go_60 : decode cX2_go 60 = .ok (.bastore, 1) := by decide +kernel
theorem dX2_go_61 : decode cX2_go 61 = .ok (.aload_n 0, 1) := by decide +kernel
theorem dX2_go_62 : decode cX2_go 62 = .ok (.aload_n 0, 1) := by decide +kernel
theorem dX2_go_63 : decode cX2_go 63 = .ok (.getfield 25, 3) := by decide +kernel
theorem dX2_go_66 : decode cX2_go 66 = .ok (.iconst 1, 1) := by decide +kernel
theorem dX2_go_67 : decode cX2_go 67 = .ok (.iadd, 1) := by decide +kernel
theorem dX2_go_68 : decode cX2_go 68 = .ok (.bipush 8, 2) := by decide +kernel
theorem dX2_go_70 : decode cX2_go 70 = .ok (.invokestatic 36, 3) := by decide +kernel
theorem dX2_go_73 : decode cX2_go 73 = .ok (.putfield 25, 3) := by decide +kernel
theorem dX2_go_76 : decode cX2_go 76 = .ok (.aload_n 0, 1) := by decide +kernel
theorem dX2_go_77 : decode cX2_go 77 = .ok (.dup, 1) := by decide +kernel
theorem dX2_go_78 : decode cX2_go 78 = .ok (.getfield 19, 3) := by decide +kernel
theorem dX2_go_81 : decode cX2_go 81 = .ok (.iload_n 1, 1) := by decide +kernel
theorem dX2_go_82 : decode cX2_go 82 = .ok (.iadd, 1) := by decide +kernel
theorem dX2_go_83 : decode cX2_go 83 = .ok (.putfield 19, 3) := by decide +kernel
theorem dX2_go_86 : decode cX2_go 86 = .ok (.aload_n 0, 1) := by decide +kernel
theorem dX2_go_87 : decode cX2_go 87 = .ok (.dup, 1) := by decide +kernel
theorem dX2_go_88 : decode cX2_go 88 = .ok (.getfield 22, 3) := by decide +kernel
theorem dX2_go_91 : decode cX2_go 91 = .ok (.iload_n 2, 1) := by decide +kernel
theorem dX2_go_92 : decode cX2_go 92 = .ok (.ifCond .eq 7, 3) := by decide +kernel
theorem dX2_go_95 : decode cX2_go 95 = .ok (.iconst 1, 1) := by decide +kernel
theorem dX2_go_96 : decode cX2_go 96 = .ok (.goto 4, 3) := by decide +kernel
theorem dX2_go_99 : decode cX2_go 99 = .ok (.iconst 0, 1) := by decide +kernel
theorem dX2_go_100 : decode cX2_go 100 = .ok (.iadd, 1) := by decide +kernel
theorem dX2_go_101 : decode cX2_go 101 = .ok (.putfield 22, 3) := by decide +kernel
theorem dX2_go_104 : decode cX2_go 104 = .ok (.aload_n 0, 1) := by decide +kernel
theorem dX2_go_105 : decode cX2_go 105 = .ok (.iload_n 3, 1) := by decide +kernel
theorem dX2_go_106 : decode cX2_go 106 = .ok (.putfield 9, 3) := by decide +kernel
theorem dX2_go_109 : decode cX2_go 109 = .ok (.return_, 1) := by decide +kernel
theorem dX3_init_0 : decode cX3_init 0 = .ok (.aload_n 0, 1) := by decide +kernel
theorem dX3_init_1 : decode cX3_init 1 = .ok (.invokespecial 3, 3) := by decide +kernel
theorem dX3_init_4 : decode cX3_init 4 = .ok (.aload_n 0, 1) := by decide +kernel
theorem dX3_init_5 : decode cX3_init 5 = .ok (.iconst 0, 1) := by decide +kernel
theorem dX3_init_6 : decode cX3_init 6 = .ok (.putfield 9, 3) := by decide +kernel
theorem dX3_init_9 : decode cX3_init 9 = .ok (.aload_n 0, 1) := by decide +kernel
theorem dX3_init_10 : decode cX3_init 10 = .ok (.bipush 80, 2) := by decide +kernel
theorem dX3_init_12 : decode cX3_init 12 = .ok (.newarray .int, 2) := by decide +kernel
theorem dX3_init_14 : decode cX3_init 14 = .ok (.putfield 15, 3) := by decide +kernel
theorem dX3_init_17 : decode cX3_init 17 = .ok (.return_, 1) := by decide +kernel
theorem dX3_copyFrom_0 : decode cX3_copyFrom 0 = .ok (.aload_n 0, 1) := by decide +kernel
theorem dX3_copyFrom_1 : decode cX3_copyFrom 1 = .ok (.aload_n 1, 1) := by decide +kernel
theorem dX3_copyFrom_2 : decode cX3_copyFrom 2 = .ok (.getfield 9, 3) := by decide +kernel
theorem dX3_copyFrom_5 : decode cX3_copyFrom 5 = .ok (.putfield 9, 3) := by decide +kernel
theorem dX3_copyFrom_8 : decode cX3_copyFrom 8 = .ok (.aload_n 1, 1) := by decide +kernel
theorem dX3_copyFrom_9 : decode cX3_copyFrom 9 = .ok (.getfield 15, 3) := by decide +kernel
theorem dX3_copyFrom_12 : decode cX3_copyFrom 12 = .ok (.iconst 0, 1) := by decide +kernel
theorem dX3_copyFrom_13 : decode cX3_copyFrom 13 = .ok (.aload_n 0, 1) := by decide +kernel
theorem dX3_copyFrom_14 : decode cX3_copyFrom 14 = .ok (.getfield 15, 3) := by decide +kernel
theorem dX3_copyFrom_17 : decode cX3_copyFrom 17 = .ok (.iconst 0, 1) := by decide +kernel
theorem dX3_copyFrom_18 : decode cX3_copyFrom 18 = .ok (.bipush 80, 2) := by decide +kernel
theorem dX3_copyFrom_20 : decode cX3_copyFrom 20 = .ok (.invokestatic 19, 3) := by decide +kernel
theorem dX3_copyFrom_23 : decode cX3_copyFrom 23 = .ok (.return_, 1) := by decide +kernel
theorem dX3_add_0 : decode cX3_add 0 = .ok (.aload_n 0, 1) := by decide +kernel
theorem dX3_add_1 : decode cX3_add 1 = .ok (.getfield 9, 3) := by decide +kernel
theorem dX3_add_4 : decode cX3_add 4 = .ok (.istore_n 2, 1) := by decide +kernel
theorem dX3_add_5 : decode cX3_add 5 = .ok (.iconst 0, 1) := by decide +kernel
theorem dX3_add_6 : decode cX3_add 6 = .ok (.istore_n 3, 1) := by decide +kernel
theorem dX3_add_7 : decode cX3_add 7 = .ok (.iload_n 3, 1) := by decide +kernel
theorem dX3_add_8 : decode cX3_add 8 = .ok (.bipush 10, 2) := by decide +kernel
theorem dX3_add_10 : decode cX3_add 10 = .ok (.if_icmp .ge 29, 3) := by decide +kernel
theorem dX3_add_13 : decode cX3_add 13 = .ok (.iload_n 3, 1) := by decide +kernel
theorem dX3_add_14 : decode cX3_add 14 = .ok (.aload_n 1, 1) := by decide +kernel
theorem dX3_add_15 : decode cX3_add 15 = .ok (.arraylength, 1) := by decide +kernel
theorem dX3_add_16 : decode cX3_add 16 = .ok (.if_icmp .ge 23, 3) := by decide +kernel
theorem dX3_add_19 : decode cX3_add 19 = .ok (.aload_n 0, 1) := by decide +kernel
theorem dX3_add_20 : decode cX3_add 20 = .ok (.getfield 15, 3) := by decide +kernel
theorem dX3_add_23 : decode cX3_add 23 = .ok (.iload_n 2, 1) := by decide +kernel
theorem dX3_add_24 : decode cX3_add 24 = .ok (.bipush 10, 2) := by decide +kernel
theorem dX3_add_26 : decode cX3_add 26 = .ok (.imul, 1) := by decide +kernel
theorem dX3_add_27 : decode cX3_add 27 = .ok (.iload_n 3, 1) := by decide +kernel
theorem dX3_add_28 : decode cX3_add 28 = .ok (.iadd, 1) := by decide +kernel
theorem dX3_add_29 : decode cX3_add 29 = .ok (.aload_n 1, 1) := by decide +kernel
theorem dX3_add_30 : decode cX3_add 30 = .ok (.iload_n 3, 1) := by decide +kernel
theorem dX3_add_31 : decode cX3_add 31 = .ok (.iaload, 1) := by decide +kernel
theorem dX3_add_32 : decode cX3_add 32 = .ok (.iastore, 1) := by decide +kernel
theorem dX3_add_33 : decode cX3_add 33 = .ok (.iinc 3 1, 3) := by decide +kernel
theorem dX3_add_36 : decode cX3_add 36 = .ok (.goto (-29), 3) := by decide +kernel
theorem dX3_add_39 : decode cX3_add 39 = .ok (.aload_n 0, 1) := by decide +kernel
theorem dX3_add_40 : decode cX3_add 40 = .ok (.dup, 1) := by decide +kernel
theorem dX3_add_41 : decode cX3_add 41 = .ok (.getfield 9, 3) := by decide +kernel
theorem dX3_add_44 : decode cX3_add 44 = .ok (.iconst 1, 1) := by decide +kernel
theorem dX3_add_45 : decode cX3_add 45 = .ok (.iadd, 1) := by decide +kernel
theorem dX3_add_46 : decode cX3_add 46 = .ok (.putfield 9, 3) := by decide +kernel
theorem dX3_add_49 : decode cX3_add 49 = .ok (.iload_n 2, 1) := by decide +kernel
theorem dX3_add_50 : decode cX3_add 50 = .ok (.ireturn, 1) := by decide +kernel
theorem dX3_remove_0 : decode cX3_remove 0 = .ok (.iload_n 1, 1) := by decide +kernel
theorem dX3_remove_1 : decode cX3_remove 1 = .ok (.iconst 1, 1) := by decide +kernel
theorem dX3_remove_2 : decode cX3_remove 2 = .ok (.iadd, 1) := by decide +kernel
theorem dX3_remove_3 : decode cX3_remove 3 = .ok (.istore_n 2, 1) := by decide +kernel
theorem dX3_remove_4 : decode cX3_remove 4 = .ok (.iload_n 2, 1) := by decide +kernel
theorem dX3_remove_5 : decode cX3_remove 5 = .ok (.aload_n 0, 1) := by decide +kernel
theorem dX3_remove_6 : decode cX3_remove 6 = .ok (.getfield 9, 3) := by decide +kernel
theorem dX3_remove_9 : decode cX3_remove 9 = .ok (.if_icmp .ge 32, 3) := by decide +kernel
theorem dX3_remove_12 : decode cX3_remove 12 = .ok (.aload_n 0, 1) := by decide +kernel
theorem dX3_remove_13 : decode cX3_remove 13 = .ok (.getfield 15, 3) := by decide +kernel
theorem dX3_remove_16 : decode cX3_remove 16 = .ok (.iload_n 2, 1) := by decide +kernel
theorem dX3_remove_17 : decode cX3_remove 17 = .ok (.bipush 10, 2) := by decide +kernel
theorem dX3_remove_19 : decode cX3_remove 19 = .ok (.imul, 1) := by decide +kernel
theorem dX3_remove_20 : decode cX3_remove 20 = .ok (.aload_n 0, 1) := by decide +kernel
theorem dX3_remove_21 : decode cX3_remove 21 = .ok (.getfield 15, 3) := by decide +kernel
theorem dX3_remove_24 : decode cX3_remove 24 = .ok (.iload_n 2, 1) := by decide +kernel
theorem dX3_remove_25 : decode cX3_remove 25 = .ok (.iconst 1, 1) := by decide +kernel
theorem dX3_remove_26 : decode cX3_remove 26 = .ok (.isub, 1) := by decide +kernel
theorem dX3_remove_27 : decode cX3_remove 27 = .ok (.bipush 10, 2) := by decide +kernel
theorem dX3_remove_29 : decode cX3_remove 29 = .ok (.imul, 1) := by decide +kernel
theorem dX3_remove_30 : decode cX3_remove 30 = .ok (.bipush 10, 2) := by decide +kernel
theorem dX3_remove_32 : decode cX3_remove 32 = .ok (.invokestatic 19, 3) := by decide +kernel
theorem dX3_remove_35 : decode cX3_remove 35 = .ok (.iinc 2 1, 3) := by decide +kernel
theorem dX3_remove_38 : decode cX3_remove 38 = .ok (.goto (-34), 3) := by decide +kernel
theorem dX3_remove_41 : decode cX3_remove 41 = .ok (.aload_n 0, 1) := by decide +kernel
theorem dX3_remove_42 : decode cX3_remove 42 = .ok (.dup, 1) := by decide +kernel
theorem dX3_remove_43 : decode cX3_remove 43 = .ok (.getfield 9, 3) := by decide +kernel
theorem dX3_remove_46 : decode cX3_remove 46 = .ok (.iconst 1, 1) := by decide +kernel
theorem dX3_remove_47 : decode cX3_remove 47 = .ok (.isub, 1) := by decide +kernel
theorem dX3_remove_48 : decode cX3_remove 48 = .ok (.putfield 9, 3) := by decide +kernel
theorem dX3_remove_51 : decode cX3_remove 51 = .ok (.return_, 1) := by decide +kernel
theorem dX3_wantedOf_0 : decode cX3_wantedOf 0 = .ok (.aload_n 0, 1) := by decide +kernel
theorem dX3_wantedOf_1 : decode cX3_wantedOf 1 = .ok (.getfield 15, 3) := by decide +kernel
theorem dX3_wantedOf_4 : decode cX3_wantedOf 4 = .ok (.iload_n 1, 1) := by decide +kernel
theorem dX3_wantedOf_5 : decode cX3_wantedOf 5 = .ok (.bipush 10, 2) := by decide +kernel
theorem dX3_wantedOf_7 : decode cX3_wantedOf 7 = .ok (.imul, 1) := by decide +kernel
theorem dX3_wantedOf_8 : decode cX3_wantedOf 8 = .ok (.iload_n 2, 1) := by decide +kernel
theorem dX3_wantedOf_9 : decode cX3_wantedOf 9 = .ok (.iadd, 1) := by decide +kernel
theorem dX3_wantedOf_10 : decode cX3_wantedOf 10 = .ok (.iaload, 1) := by decide +kernel
theorem dX3_wantedOf_11 : decode cX3_wantedOf 11 = .ok (.ireturn, 1) := by decide +kernel
set_option maxRecDepth 20000 in
theorem ggX3_sumOf_X3_wantedOf : GoodIn wsX3_sumOf wsX3_wantedOf := goodIn_r _ [5, 6, 7, 8] rfl (by decide +kernel)
set_option maxRecDepth 20000 in
theorem gX3_sumOf_X3_wantedOf : GoodIn wsX3_sumOf (wsV RX3 25 RX3 yX3_wantedOf wsX3_wantedOf) := goodIn_app (goodIn_r _ [1, 2, 3, 4] rfl (by decide +kernel)) ggX3_sumOf_X3_wantedOf
theorem dX3_sumOf_0 : decode cX3_sumOf 0 = .ok (.iconst 0, 1) := by decide +kernel
theorem dX3_sumOf_1 : decode cX3_sumOf 1 = .ok (.istore_n 2, 1) := by decide +kernel
theorem dX3_sumOf_2 : decode cX3_sumOf 2 = .ok (.iconst 0, 1) := by decide +kernel
theorem dX3_sumOf_3 : decode cX3_sumOf 3 = .ok (.istore_n 3, 1) := by decide +kernel
theorem dX3_sumOf_4 : decode cX3_sumOf 4 = .ok (.iload_n 3, 1) := by decide +kernel
theorem dX3_sumOf_5 : decode cX3_sumOf 5 = .ok (.bipush 10, 2) := by decide +kernel
theorem dX3_sumOf_7 : decode cX3_sumOf 7 = .ok (.if_icmp .ge 18, 3) := by decide +kernel
theorem dX3_sumOf_10 : decode cX3_sumOf 10 = .ok (.iload_n 2, 1) := by decide +kernel
theorem dX3_sumOf_11 : decode cX3_sumOf 11 = .ok (.aload_n 0, 1) := by decide +kernel
theorem dX3_sumOf_12 : decode cX3_sumOf 12 = .ok (.iload_n 1, 1) := by decide +kernel
theorem dX3_sumOf_13 : decode cX3_sumOf 13 = .ok (.iload_n 3, 1) := by decide +kernel
theorem dX3_sumOf_14 : decode cX3_sumOf 14 = .ok (.invokevirtual 25, 3) := by decide +kernel
theorem dX3_sumOf_17 : decode cX3_sumOf 17 = .ok (.iadd, 1) := by decide +kernel
theorem dX3_sumOf_18 : decode cX3_sumOf 18 = .ok (.istore_n 2, 1) := by decide +kernel
theorem dX3_sumOf_19 : decode cX3_sumOf 19 = .ok (.iinc 3 1, 3) := by decide +kernel
theorem dX3_sumOf_22 : decode cX3_sumOf 22 = .ok (.goto (-18), 3) := by decide +kernel
theorem dX3_sumOf_25 : decode cX3_sumOf 25 = .ok (.iload_n 2, 1) := by decide +kernel
theorem dX3_sumOf_26 : decode cX3_sumOf 26 = .ok (.ireturn, 1) := by decide +kernel
theorem dX4_init_0 : decode cX4_init 0 = .ok (.aload_n 0, 1) := by decide +kernel
theorem dX4_init_1 : decode cX4_init 1 = .ok (.invokespecial 3, 3) := by decide +kernel
theorem dX4_init_4 : decode cX4_init 4 = .ok (.aload_n 0, 1) := by decide +kernel
theorem dX4_init_5 : decode cX4_init 5 = .ok (.iconst 0, 1) := by decide +kernel
theorem dX4_init_6 : decode cX4_init 6 = .ok (.putfield 11, 3) := by decide +kernel
theorem dX4_init_9 : decode cX4_init 9 = .ok (.aload_n 0, 1) := by decide +kernel
theorem dX4_init_10 : decode cX4_init 10 = .ok (.iconst (-1), 1) := by decide +kernel
theorem dX4_init_11 : decode cX4_init 11 = .ok (.putfield 15, 3) := by decide +kernel
theorem dX4_init_14 : decode cX4_init 14 = .ok (.aload_n 0, 1) := by decide +kernel
theorem dX4_init_15 : decode cX4_init 15 = .ok (.bipush 10, 2) := by decide +kernel
theorem dX4_init_17 : decode cX4_init 17 = .ok (.newarray .int, 2) := by decide +kernel
theorem dX4_init_19 : decode cX4_init 19 = .ok (.putfield 18, 3) := by decide +kernel
theorem dX4_init_22 : decode cX4_init 22 = .ok (.return_, 1) := by decide +kernel
theorem dX4_begin_0 : decode cX4_begin 0 = .ok (.aload_n 0, 1) := by decide +kernel
theorem dX4_begin_1 : decode cX4_begin 1 = .ok (.iconst 0, 1) := by decide +kernel
theorem dX4_begin_2 : decode cX4_begin 2 = .ok (.putfield 11, 3) := by decide +kernel
theorem dX4_begin_5 : decode cX4_begin 5 = .ok (.aload_n 0, 1) := by decide +kernel
theorem dX4_begin_6 : decode cX4_begin 6 = .ok (.iconst (-1), 1) := by decide +kernel
theorem dX4_begin_7 : decode cX4_begin 7 = .ok (.putfield 15, 3) := by decide +kernel
theorem dX4_begin_10 : decode cX4_begin 10 = .ok (.iconst 0, 1) := by decide +kernel
theorem dX4_begin_11 : decode cX4_begin 11 = .ok (.istore_n 1, 1) := by decide +kernel
theorem dX4_begin_12 : decode cX4_begin 12 = .ok (.iload_n 1, 1) := by decide +kernel
theorem dX4_begin_13 : decode cX4_begin 13 = .ok (.bipush 10, 2) := by decide +kernel
theorem dX4_begin_15 : decode cX4_begin 15 = .ok (.if_icmp .ge 16, 3) := by decide +kernel
theorem dX4_begin_18 : decode cX4_begin 18 = .ok (.aload_n 0, 1) := by decide +kernel
theorem dX4_begin_19 : decode cX4_begin 19 = .ok (.getfield 18, 3) := by decide +kernel
theorem dX4_begin_22 : decode cX4_begin 22 = .ok (.iload_n 1, 1) := by decide +kernel
theorem dX4_begin_23 : decode cX4_begin 23 = .ok (.iconst 0, 1) := by decide +kernel
theorem dX4_begin_24 : decode cX4_begin 24 = .ok (.iastore, 1) := by decide +kernel
theorem dX4_begin_25 : decode cX4_begin 25 = .ok (.iinc 1 1, 3) := by decide +kernel
theorem dX4_begin_28 : decode cX4_begin 28 = .ok (.goto (-16), 3) := by decide +kernel
theorem dX4_begin_31 : decode cX4_begin 31 = .ok (.return_, 1) := by decide +kernel
theorem dX4_isAtEnd_0 : decode cX4_isAtEnd 0 = .ok (.aload_n 0, 1) := by decide +kernel
theorem dX4_isAtEnd_1 : decode cX4_isAtEnd 1 = .ok (.getfield 11, 3) := by decide +kernel
theorem dX4_isAtEnd_4 : decode cX4_isAtEnd 4 = .ok (.iconst 3, 1) := by decide +kernel
theorem dX4_isAtEnd_5 : decode cX4_isAtEnd 5 = .ok (.if_icmp .ne 7, 3) := by decide +kernel
theorem dX4_isAtEnd_8 : decode cX4_isAtEnd 8 = .ok (.iconst 1, 1) := by decide +kernel
theorem dX4_isAtEnd_9 : decode cX4_isAtEnd 9 = .ok (.goto 4, 3) := by decide +kernel
theorem dX4_isAtEnd_12 : decode cX4_isAtEnd 12 = .ok (.iconst 0, 1) := by decide +kernel
theorem dX4_isAtEnd_13 : decode cX4_isAtEnd 13 = .ok (.ireturn, 1) := by decide +kernel
set_option maxRecDepth 20000 in
theorem ggX4_read_X4_readKind : GoodIn wsX4_read wsX4_readKind := goodIn_r _ [6, 7, 1, 17, 18, 19] rfl (by decide +kernel)
set_option maxRecDepth 20000 in
theorem gX4_read_X4_readKind : GoodIn wsX4_read (wsV RX4 22 RX4 yX4_readKind wsX4_readKind) := goodIn_app (goodIn_r _ [2, 3, 4, 5] rfl (by decide +kernel)) ggX4_read_X4_readKind
set_option maxRecDepth 20000 in
theorem ggX4_read_X4_readDigit : GoodIn wsX4_read wsX4_readDigit := goodIn_r _ [11, 7, 12, 17, 18, 19] rfl (by decide +kernel)
set_option maxRecDepth 20000 in
theorem gX4_read_X4_readDigit : GoodIn wsX4_read (wsV RX4 26 RX4 yX4_readDigit wsX4_readDigit) := goodIn_app (goodIn_r _ [8, 9, 10, 5] rfl (by decide +kernel)) ggX4_read_X4_readDigit
set_option maxRecDepth 20000 in
theorem ggX4_read_X4_readComma : GoodIn wsX4_read wsX4_readComma := goodIn_r _ [16, 1, 7, 17, 18, 19] rfl (by decide +kernel)
set_option maxRecDepth 20000 in
theorem gX4_read_X4_readComma : GoodIn wsX4_read (wsV RX4 29 RX4 yX4_readComma wsX4_readComma) := goodIn_app (goodIn_r _ [13, 14, 15, 5] rfl (by decide +kernel)) ggX4_read_X4_readComma
theorem dX4_read_0 : decode cX4_read 0 = .ok (.aload_n 0, 1) := by decide +kernel
theorem dX4_read_1 : decode cX4_read 1 = .ok (.getfield 11, 3) := by decide +kernel
theorem dX4_read_4 : decode cX4_read 4 = .ok (.tableswitch 76 0 2 #[28, 34, 51], 28) := by decide +kernel
theorem dX4_read_32 : decode cX4_read 32 = .ok (.aload_n 0, 1) := by decide +kernel
theorem dX4_read_33 : decode cX4_read 33 = .ok (.iload_n 1, 1) := by decide +kernel
theorem dX4_read_34 : decode cX4_read 34 = .ok (.invokevirtual 22, 3) := by decide +kernel
theorem dX4_read_37 : decode cX4_read 37 = .ok (.ireturn, 1) := by decide +kernel
theorem dX4_read_38 : decode cX4_read 38 = .ok (.aload_n 0, 1) := by decide +kernel
theorem dX4_read_39 : decode cX4_read 39 = .ok (.iconst 2, 1) := by decide +kernel
theorem dX4_read_40 : decode cX4_read 40 = .ok (.putfield 11, 3) := by decide +kernel
theorem dX4_read_43 : decode cX4_read 43 = .ok (.iload_n 1, 1) := by decide +kernel
theorem dX4_read_44 : decode cX4_read 44 = .ok (.bipush 42, 2) := by decide +kernel
theorem dX4_read_46 : decode cX4_read 46 = .ok (.if_icmp .ne 7, 3) := by decide +kernel
theorem dX4_read_49 : decode cX4_read 49 = .ok (.iconst 1, 1) := by decide +kernel
theorem dX4_read_50 : decode cX4_read 50 = .ok (.goto 4, 3) := by decide +kernel
theorem dX4_read_53 : decode cX4_read 53 = .ok (.iconst 0, 1) := by decide +kernel
theorem dX4_read_54 : decode cX4_read 54 = .ok (.ireturn, 1) := by decide +kernel
theorem dX4_read_55 : decode cX4_read 55 = .ok (.aload_n 0, 1) := by decide +kernel
theorem dX4_read_56 : decode cX4_read 56 = .ok (.iconst 3, 1) := by decide +kernel
theorem dX4_read_57 : decode cX4_read 57 = .ok (.putfield 11, 3) := by decide +kernel
theorem dX4_read_60 : decode cX4_read 60 = .ok (.iload_n 1, 1) := by decide +kernel
theorem dX4_read_61 : decode cX4_read 61 = .ok (.bipush 48, 2) := by decide +kernel
theorem dX4_read_63 : decode cX4_read 63 = .ok (.if_icmp .eq 15, 3) := by decide +kernel
theorem dX4_read_66 : decode cX4_read 66 = .ok (.aload_n 0, 1) := by decide +kernel
theorem dX4_read_67 : decode cX4_read 67 = .ok (.iload_n 1, 1) := by decide +kernel
theorem dX4_read_68 : decode cX4_read 68 = .ok (.invokevirtual 26, 3) := by decide +kernel
theorem dX4_read_71 : decode cX4_read 71 = .ok (.ifCond .eq 7, 3) := by decide +kernel
theorem dX4_read_74 : decode cX4_read 74 = .ok (.iconst 1, 1) := by decide +kernel
theorem dX4_read_75 : decode cX4_read 75 = .ok (.goto 4, 3) := by decide +kernel
theorem dX4_read_78 : decode cX4_read 78 = .ok (.iconst 0, 1) := by decide +kernel
theorem dX4_read_79 : decode cX4_read 79 = .ok (.ireturn, 1) := by decide +kernel
theorem dX4_read_80 : decode cX4_read 80 = .ok (.iload_n 1, 1) := by decide +kernel
theorem dX4_read_81 : decode cX4_read 81 = .ok (.bipush 44, 2) := by decide +kernel
theorem dX4_read_83 : decode cX4_read 83 = .ok (.if_icmp .ne 10, 3) := by decide +kernel
theorem dX4_read_86 : decode cX4_read 86 = .ok (.aload_n 0, 1) := by decide +kernel
theorem dX4_read_87 : decode cX4_read 87 = .ok (.invokevirtual 29, 3) := by decide +kernel
theorem dX4_read_90 : decode cX4_read 90 = .ok (.goto 8, 3) := by decide +kernel
theorem dX4_read_93 : decode cX4_read 93 = .ok (.aload_n 0, 1) := by decide +kernel
theorem dX4_read_94 : decode cX4_read 94 = .ok (.iload_n 1, 1) := by decide +kernel
theorem dX4_read_95 : decode cX4_read 95 = .ok (.invokevirtual 26, 3) := by decide +kernel
theorem dX4_read_98 : decode cX4_read 98 = .ok (.ireturn, 1) := by decide +kernel
theorem dX4_readKind_0 : decode cX4_readKind 0 = .ok (.iload_n 1, 1) := by decide +kernel
theorem dX4_readKind_1 : decode cX4_readKind 1 = .ok (.bipush 48, 2) := by decide +kernel
theorem dX4_readKind_3 : decode cX4_readKind 3 = .ok (.isub, 1) := by decide +kernel
theorem dX4_readKind_4 : decode cX4_readKind 4 = .ok (.istore_n 2, 1) := by decide +kernel
theorem dX4_readKind_5 : decode cX4_readKind 5 = .ok (.iload_n 2, 1) := by decide +kernel
theorem dX4_readKind_6 : decode cX4_readKind 6 = .ok (.aload_n 0, 1) := by decide +kernel
theorem dX4_readKind_7 : decode cX4_readKind 7 = .ok (.getfield 15, 3) := by decide +kernel
theorem dX4_readKind_10 : decode cX4_readKind 10 = .ok (.if_icmp .le 13, 3) := by decide +kernel
theorem dX4_readKind_13 : decode cX4_readKind 13 = .ok (.iload_n 2, 1) := by decide +kernel
theorem dX4_readKind_14 : decode cX4_readKind 14 = .ok (.ifCond .lt 9, 3) := by decide +kernel
theorem dX4_readKind_17 : decode cX4_readKind 17 = .ok (.iload_n 2, 1) := by decide +kernel
theorem dX4_readKind_18 : decode cX4_readKind 18 = .ok (.bipush 10, 2) := by decide +kernel
theorem dX4_readKind_20 : decode cX4_readKind 20 = .ok (.if_icmp .lt 5, 3) := by decide +kernel
theorem dX4_readKind_23 : decode cX4_readKind 23 = .ok (.iconst 0, 1) := by decide +kernel
theorem dX4_readKind_24 : decode cX4_readKind 24 = .ok (.ireturn, 1) := by decide +kernel
theorem dX4_readKind_25 : decode cX4_readKind 25 = .ok (.aload_n 0, 1) := by decide +kernel
theorem dX4_readKind_26 : decode cX4_readKind 26 = .ok (.iload_n 2, 1) := by decide +kernel
theorem dX4_readKind_27 : decode cX4_readKind 27 = .ok (.putfield 15, 3) := by decide +kernel
theorem dX4_readKind_30 : decode cX4_readKind 30 = .ok (.aload_n 0, 1) := by decide +kernel
theorem dX4_readKind_31 : decode cX4_readKind 31 = .ok (.iconst 1, 1) := by decide +kernel
theorem dX4_readKind_32 : decode cX4_readKind 32 = .ok (.putfield 11, 3) := by decide +kernel
theorem dX4_readKind_35 : decode cX4_readKind 35 = .ok (.iconst 1, 1) := by decide +kernel
theorem dX4_readKind_36 : decode cX4_readKind 36 = .ok (.ireturn, 1) := by decide +kernel
theorem dX4_readDigit_0 : decode cX4_readDigit 0 = .ok (.iload_n 1, 1) := by decide +kernel
theorem dX4_readDigit_1 : decode cX4_readDigit 1 = .ok (.bipush 48, 2) := by decide +kernel
theorem dX4_readDigit_3 : decode cX4_readDigit 3 = .ok (.isub, 1) := by decide +kernel
theorem dX4_readDigit_4 : decode cX4_readDigit 4 = .ok (.istore_n 2, 1) := by decide +kernel
theorem dX4_readDigit_5 : decode cX4_readDigit 5 = .ok (.iload_n 2, 1) := by decide +kernel
theorem dX4_readDigit_6 : decode cX4_readDigit 6 = .ok (.ifCond .lt 25, 3) := by decide +kernel
theorem dX4_readDigit_9 : decode cX4_readDigit 9 = .ok (.iload_n 2, 1) := by decide +kernel
theorem dX4_readDigit_10 : decode cX4_readDigit 10 = .ok (.bipush 9, 2) := by decide +kernel
theorem dX4_readDigit_12 : decode cX4_readDigit 12 = .ok (.if_icmp .gt 19, 3) := by decide +kernel
theorem dX4_readDigit_15 : decode cX4_readDigit 15 = .ok (.aload_n 0, 1) := by decide +kernel
theorem dX4_readDigit_16 : decode cX4_readDigit 16 = .ok (.getfield 15, 3) := by decide +kernel
theorem dX4_readDigit_19 : decode cX4_readDigit 19 = .ok (.ifCond .lt 12, 3) := by decide +kernel
theorem dX4_readDigit_22 : decode cX4_readDigit 22 = .ok (.aload_n 0, 1) := by decide +kernel
theorem dX4_readDigit_23 : decode cX4_readDigit 23 = .ok (.getfield 15, 3) := by decide +kernel
theorem dX4_readDigit_26 : decode cX4_readDigit 26 = .ok (.bipush 10, 2) := by decide +kernel
theorem dX4_readDigit_28 : decode cX4_readDigit 28 = .ok (.if_icmp .lt 5, 3) := by decide +kernel
theorem dX4_readDigit_31 : decode cX4_readDigit 31 = .ok (.iconst 0, 1) := by decide +kernel
theorem dX4_readDigit_32 : decode cX4_readDigit 32 = .ok (.ireturn, 1) := by decide +kernel
theorem dX4_readDigit_33 : decode cX4_readDigit 33 = .ok (.aload_n 0, 1) := by decide +kernel
theorem dX4_readDigit_34 : decode cX4_readDigit 34 = .ok (.getfield 18, 3) := by decide +kernel
theorem dX4_readDigit_37 : decode cX4_readDigit 37 = .ok (.aload_n 0, 1) := by decide +kernel
theorem dX4_readDigit_38 : decode cX4_readDigit 38 = .ok (.getfield 15, 3) := by decide +kernel
theorem dX4_readDigit_41 : decode cX4_readDigit 41 = .ok (.aload_n 0, 1) := by decide +kernel
theorem dX4_readDigit_42 : decode cX4_readDigit 42 = .ok (.getfield 18, 3) := by decide +kernel
theorem dX4_readDigit_45 : decode cX4_readDigit 45 = .ok (.aload_n 0, 1) := by decide +kernel
theorem dX4_readDigit_46 : decode cX4_readDigit 46 = .ok (.getfield 15, 3) := by decide +kernel
theorem dX4_readDigit_49 : decode cX4_readDigit 49 = .ok (.iaload, 1) := by decide +kernel
theorem dX4_readDigit_50 : decode cX4_readDigit 50 = .ok (.bipush 10, 2) := by decide +kernel
theorem dX4_readDigit_52 : decode cX4_readDigit 52 = .ok (.imul, 1) := by decide +kernel
theorem dX4_readDigit_53 : decode cX4_readDigit 53 = .ok (.iload_n 2, 1) := by decide +kernel
theorem dX4_readDigit_54 : decode cX4_readDigit 54 = .ok (.iadd, 1) := by decide +kernel
theorem dX4_readDigit_55 : decode cX4_readDigit 55 = .ok (.iastore, 1) := by decide +kernel
theorem dX4_readDigit_56 : decode cX4_readDigit 56 = .ok (.aload_n 0, 1) := by decide +kernel
theorem dX4_readDigit_57 : decode cX4_readDigit 57 = .ok (.getfield 18, 3) := by decide +kernel
theorem dX4_readDigit_60 : decode cX4_readDigit 60 = .ok (.aload_n 0, 1) := by decide +kernel
theorem dX4_readDigit_61 : decode cX4_readDigit 61 = .ok (.getfield 15, 3) := by decide +kernel
theorem dX4_readDigit_64 : decode cX4_readDigit 64 = .ok (.iaload, 1) := by decide +kernel
theorem dX4_readDigit_65 : decode cX4_readDigit 65 = .ok (.bipush 20, 2) := by decide +kernel
theorem dX4_readDigit_67 : decode cX4_readDigit 67 = .ok (.if_icmp .gt 7, 3) := by decide +kernel
theorem dX4_readDigit_70 : decode cX4_readDigit 70 = .ok (.iconst 1, 1) := by decide +kernel
theorem dX4_readDigit_71 : decode cX4_readDigit 71 = .ok (.goto 4, 3) := by decide +kernel
theorem dX4_readDigit_74 : decode cX4_readDigit 74 = .ok (.iconst 0, 1) := by decide +kernel
theorem dX4_readDigit_75 : decode cX4_readDigit 75 = .ok (.ireturn, 1) := by decide +kernel
theorem dX4_readComma_0 : decode cX4_readComma 0 = .ok (.aload_n 0, 1) := by decide +kernel
theorem dX4_readComma_1 : decode cX4_readComma 1 = .ok (.iconst 0, 1) := by decide +kernel
theorem dX4_readComma_2 : decode cX4_readComma 2 = .ok (.putfield 11, 3) := by decide +kernel
theorem dX4_readComma_5 : decode cX4_readComma 5 = .ok (.aload_n 0, 1) := by decide +kernel
theorem dX4_readComma_6 : decode cX4_readComma 6 = .ok (.getfield 15, 3) := by decide +kernel
theorem dX4_readComma_9 : decode cX4_readComma 9 = .ok (.bipush 9, 2) := by decide +kernel
theorem dX4_readComma_11 : decode cX4_readComma 11 = .ok (.if_icmp .ge 7, 3) := by decide +kernel
theorem dX4_readComma_14 : decode cX4_readComma 14 = .ok (.iconst 1, 1) := by decide +kernel
theorem dX4_readComma_15 : decode cX4_readComma 15 = .ok (.goto 4, 3) := by decide +kernel
theorem dX4_readComma_18 : decode cX4_readComma 18 = .ok (.iconst 0, 1) := by decide +kernel
theorem dX4_readComma_19 : decode cX4_readComma 19 = .ok (.ireturn, 1) := by decide +kernel
set_option maxRecDepth 20000 in
theorem ggX5_init_X4_init : GoodIn wsX5_init wsX4_init := goodIn_r _ [12, 13, 2, 3, 14, 15, 5, 16, 20, 21, 22] rfl (by decide +kernel)
set_option maxRecDepth 20000 in
theorem gX5_init_X4_init_n21 : GoodIn wsX5_init (wsX4_init) := ggX5_init_X4_init
theorem dX5_init_0 : decode cX5_init 0 = .ok (.aload_n 0, 1) := by decide +kernel
theorem dX5_init_1 : decode cX5_init 1 = .ok (.invokespecial 3, 3) := by decide +kernel
theorem dX5_init_4 : decode cX5_init 4 = .ok (.aload_n 0, 1) := by decide +kernel
theorem dX5_init_5 : decode cX5_init 5 = .ok (.iconst 0, 1) := by decide +kernel
theorem dX5_init_6 : decode cX5_init 6 = .ok (.putfield 9, 3) := by decide +kernel
theorem dX5_init_9 : decode cX5_init 9 = .ok (.aload_n 0, 1) := by decide +kernel
theorem dX5_init_10 : decode cX5_init 10 = .ok (.bipush 60, 2) := by decide +kernel
theorem dX5_init_12 : decode cX5_init 12 = .ok (.newarray .int, 2) := by decide +kernel
theorem dX5_init_14 : decode cX5_init 14 = .ok (.putfield 15, 3) := by decide +kernel
theorem dX5_init_17 : decode cX5_init 17 = .ok (.aload_n 0, 1) := by decide +kernel
theorem dX5_init_18 : decode cX5_init 18 = .ok (.new 19, 3) := by decide +kernel
theorem dX5_init_21 : decode cX5_init 21 = .ok (.dup, 1) := by decide +kernel
theorem dX5_init_22 : decode cX5_init 22 = .ok (.invokespecial 21, 3) := by decide +kernel
theorem dX5_init_25 : decode cX5_init 25 = .ok (.putfield 22, 3) := by decide +kernel
theorem dX5_init_28 : decode cX5_init 28 = .ok (.return_, 1) := by decide +kernel
set_option maxRecDepth 20000 in
theorem ggX5_readAll_X4_begin : GoodIn wsX5_readAll wsX4_begin := goodIn_r _ [7, 8, 9, 10, 29, 30, 31] rfl (by decide +kernel)
set_option maxRecDepth 20000 in
theorem gX5_readAll_X4_begin_n26 : GoodIn wsX5_readAll (wsX4_begin) := ggX5_readAll_X4_begin
set_option maxRecDepth 20000 in
theorem ggX5_readAll_X4_read : GoodIn wsX5_readAll wsX4_read := goodIn_r _ [13, 8, 14, 15, 16, 5, 17, 9, 18, 19, 20, 21, 10, 22, 23, 24, 25, 29, 30, 31] rfl (by decide +kernel)
set_option maxRecDepth 20000 in
theorem gX5_readAll_X4_read_n29 : GoodIn wsX5_readAll (wsX4_read) := ggX5_readAll_X4_read
theorem dX5_readAll_0 : decode cX5_readAll 0 = .ok (.aload_n 0, 1) := by decide +kernel
theorem dX5_readAll_1 : decode cX5_readAll 1 = .ok (.getfield 22, 3) := by decide +kernel
theorem dX5_readAll_4 : decode cX5_readAll 4 = .ok (.invokevirtual 26, 3) := by decide +kernel
theorem dX5_readAll_7 : decode cX5_readAll 7 = .ok (.iconst 0, 1) := by decide +kernel
theorem dX5_readAll_8 : decode cX5_readAll 8 = .ok (.istore_n 1, 1) := by decide +kernel
theorem dX5_readAll_9 : decode cX5_readAll 9 = .ok (.iload_n 1, 1) := by decide +kernel
theorem dX5_readAll_10 : decode cX5_readAll 10 = .ok (.aload_n 0, 1) := by decide +kernel
theorem dX5_readAll_11 : decode cX5_readAll 11 = .ok (.getfield 9, 3) := by decide +kernel
theorem dX5_readAll_14 : decode cX5_readAll 14 = .ok (.if_icmp .ge 27, 3) := by decide +kernel
theorem dX5_readAll_17 : decode cX5_readAll 17 = .ok (.aload_n 0, 1) := by decide +kernel
theorem dX5_readAll_18 : decode cX5_readAll 18 = .ok (.getfield 22, 3) := by decide +kernel
theorem dX5_readAll_21 : decode cX5_readAll 21 = .ok (.aload_n 0, 1) := by decide +kernel
theorem dX5_readAll_22 : decode cX5_readAll 22 = .ok (.getfield 15, 3) := by decide +kernel
theorem dX5_readAll_25 : decode cX5_readAll 25 = .ok (.iload_n 1, 1) := by decide +kernel
theorem dX5_readAll_26 : decode cX5_readAll 26 = .ok (.iaload, 1) := by decide +kernel
theorem dX5_readAll_27 : decode cX5_readAll 27 = .ok (.invokevirtual 29, 3) := by decide +kernel
theorem dX5_readAll_30 : decode cX5_readAll 30 = .ok (.ifCond .ne 5, 3) := by decide +kernel
theorem dX5_readAll_33 : decode cX5_readAll 33 = .ok (.iload_n 1, 1) := by decide +kernel
theorem dX5_readAll_34 : decode cX5_readAll 34 = .ok (.ireturn, 1) := by decide +kernel
theorem dX5_readAll_35 : decode cX5_readAll 35 = .ok (.iinc 1 1, 3) := by decide +kernel
theorem dX5_readAll_38 : decode cX5_readAll 38 = .ok (.goto (-29), 3) := by decide +kernel
theorem dX5_readAll_41 : decode cX5_readAll 41 = .ok (.aload_n 0, 1) := by decide +kernel
theorem dX5_readAll_42 : decode cX5_readAll 42 = .ok (.getfield 9, 3) := by decide +kernel
theorem dX5_readAll_45 : decode cX5_readAll 45 = .ok (.ireturn, 1) := by decide +kernel
set_option maxRecDepth 20000 in
theorem ggX5_isOrder_X5_readAll : GoodIn wsX5_isOrder wsX5_readAll := goodIn_r _ [7, 2, 1, 8, 9, 10, 11, 12, 13, 14, 15, 16, 17, 18, 19, 20, 21, 22, 23, 24, 25, 26, 27, 28, 29, 30, 34, 35, 36, 37, 38, 39] rfl (by decide +kernel)
set_option maxRecDepth 20000 in
theorem gX5_isOrder_X5_readAll : GoodIn wsX5_isOrder (wsV RX5 33 RX5 yX5_readAll wsX5_readAll) := goodIn_app (goodIn_r _ [3, 4, 5, 6] rfl (by decide +kernel)) ggX5_isOrder_X5_readAll
set_option maxRecDepth 20000 in
theorem ggX5_isOrder_X4_isAtEnd : GoodIn wsX5_isOrder wsX4_isAtEnd := goodIn_r _ [33, 13, 37, 38, 39] rfl (by decide +kernel)
set_option maxRecDepth 20000 in
theorem gX5_isOrder_X4_isAtEnd_n37 : GoodIn wsX5_isOrder (wsX4_isAtEnd) := ggX5_isOrder_X4_isAtEnd
theorem dX5_isOrder_0 : decode cX5_isOrder 0 = .ok (.aload_n 0, 1) := by decide +kernel
theorem dX5_isOrder_1 : decode cX5_isOrder 1 = .ok (.invokevirtual 33, 3) := by decide +kernel
theorem dX5_isOrder_4 : decode cX5_isOrder 4 = .ok (.aload_n 0, 1) := by decide +kernel
theorem dX5_isOrder_5 : decode cX5_isOrder 5 = .ok (.getfield 9, 3) := by decide +kernel
theorem dX5_isOrder_8 : decode cX5_isOrder 8 = .ok (.if_icmp .ne 17, 3) := by decide +kernel
theorem dX5_isOrder_11 : decode cX5_isOrder 11 = .ok (.aload_n 0, 1) := by decide +kernel
theorem dX5_isOrder_12 : decode cX5_isOrder 12 = .ok (.getfield 22, 3) := by decide +kernel
theorem dX5_isOrder_15 : decode cX5_isOrder 15 = .ok (.invokevirtual 37, 3) := by decide +kernel
theorem dX5_isOrder_18 : decode cX5_isOrder 18 = .ok (.ifCond .eq 7, 3) := by decide +kernel
theorem dX5_isOrder_21 : decode cX5_isOrder 21 = .ok (.iconst 1, 1) := by decide +kernel
theorem dX5_isOrder_22 : decode cX5_isOrder 22 = .ok (.goto 4, 3) := by decide +kernel
theorem dX5_isOrder_25 : decode cX5_isOrder 25 = .ok (.iconst 0, 1) := by decide +kernel
theorem dX5_isOrder_26 : decode cX5_isOrder 26 = .ok (.ireturn, 1) := by decide +kernel
set_option maxRecDepth 20000 in
theorem ggX6_init_X7_init : GoodIn wsX6_init wsX7_init := goodIn_r _ [22, 23, 2, 3, 24, 25, 26, 27, 28, 29, 30, 54, 55, 56, 57, 58, 59] rfl (by decide +kernel)
set_option maxRecDepth 20000 in
theorem gX6_init_X7_init_n11 : GoodIn wsX6_init (wsX7_init) := ggX6_init_X7_init
set_option maxRecDepth 20000 in
theorem ggX6_init_X2_init : GoodIn wsX6_init wsX2_init := goodIn_r _ [32, 33, 2, 3, 34, 35, 36, 37, 38, 26, 39, 40, 41, 65, 66, 67, 68, 69, 70, 71] rfl (by decide +kernel)
set_option maxRecDepth 20000 in
theorem gX6_init_X2_init_n20 : GoodIn wsX6_init (wsX2_init) := ggX6_init_X2_init
set_option maxRecDepth 20000 in
theorem ggX6_init_X0_init : GoodIn wsX6_init wsX0_init := goodIn_r _ [43, 44, 2, 3, 26, 45, 46, 47, 48, 72, 73, 74, 75] rfl (by decide +kernel)
set_option maxRecDepth 20000 in
theorem gX6_init_X0_init_n27 : GoodIn wsX6_init (wsX0_init) := ggX6_init_X0_init
set_option maxRecDepth 20000 in
theorem ggX6_init_X3_init : GoodIn wsX6_init wsX3_init := goodIn_r _ [50, 51, 2, 3, 52, 26, 53, 76, 77] rfl (by decide +kernel)
set_option maxRecDepth 20000 in
theorem gX6_init_X3_init_n34 : GoodIn wsX6_init (wsX3_init) := ggX6_init_X3_init
theorem dX6_init_0 : decode cX6_init 0 = .ok (.aload_n 0, 1) := by decide +kernel
theorem dX6_init_1 : decode cX6_init 1 = .ok (.invokespecial 3, 3) := by decide +kernel
theorem dX6_init_4 : decode cX6_init 4 = .ok (.aload_n 0, 1) := by decide +kernel
theorem dX6_init_5 : decode cX6_init 5 = .ok (.new 9, 3) := by decide +kernel
theorem dX6_init_8 : decode cX6_init 8 = .ok (.dup, 1) := by decide +kernel
theorem dX6_init_9 : decode cX6_init 9 = .ok (.invokespecial 11, 3) := by decide +kernel
theorem dX6_init_12 : decode cX6_init 12 = .ok (.putfield 12, 3) := by decide +kernel
theorem dX6_init_15 : decode cX6_init 15 = .ok (.aload_n 0, 1) := by decide +kernel
theorem dX6_init_16 : decode cX6_init 16 = .ok (.new 18, 3) := by decide +kernel
theorem dX6_init_19 : decode cX6_init 19 = .ok (.dup, 1) := by decide +kernel
theorem dX6_init_20 : decode cX6_init 20 = .ok (.invokespecial 20, 3) := by decide +kernel
theorem dX6_init_23 : decode cX6_init 23 = .ok (.putfield 21, 3) := by decide +kernel
theorem dX6_init_26 : decode cX6_init 26 = .ok (.aload_n 0, 1) := by decide +kernel
theorem dX6_init_27 : decode cX6_init 27 = .ok (.new 25, 3) := by decide +kernel
theorem dX6_init_30 : decode cX6_init 30 = .ok (.dup, 1) := by decide +kernel
theorem dX6_init_31 : decode cX6_init 31 = .ok (.invokespecial 27, 3) := by decide +kernel
theorem dX6_init_34 : decode cX6_init 34 = .ok (.putfield 28, 3) := by decide +kernel
theorem dX6_init_37 : decode cX6_init 37 = .ok (.aload_n 0, 1) := by decide +kernel
theorem dX6_init_38 : decode cX6_init 38 = .ok (.new 32, 3) := by decide +kernel
theorem dX6_init_41 : decode cX6_init 41 = .ok (.dup, 1) := by decide +kernel
theorem dX6_init_42 : decode cX6_init 42 = .ok (.invokespecial 34, 3) := by decide +kernel
theorem dX6_init_45 : decode cX6_init 45 = .ok (.putfield 35, 3) := by decide +kernel
theorem dX6_init_48 : decode cX6_init 48 = .ok (.aload_n 0, 1) := by decide +kernel
theorem dX6_init_49 : decode cX6_init 49 = .ok (.iconst 0, 1) := by decide +kernel
theorem dX6_init_50 : decode cX6_init 50 = .ok (.putfield 39, 3) := by decide +kernel
theorem dX6_init_53 : decode cX6_init 53 = .ok (.return_, 1) := by decide +kernel
set_option maxRecDepth 20000 in
theorem ggX6_copyFrom_X7_copyFrom : GoodIn wsX6_copyFrom wsX7_copyFrom := goodIn_r _ [9, 10, 11, 12, 13, 14, 15, 16, 17, 18, 19, 52, 53, 54, 55, 56, 57] rfl (by decide +kernel)
set_option maxRecDepth 20000 in
theorem gX6_copyFrom_X7_copyFrom_n43 : GoodIn wsX6_copyFrom (wsX7_copyFrom) := ggX6_copyFrom_X7_copyFrom
set_option maxRecDepth 20000 in
theorem ggX6_copyFrom_X2_copyFrom : GoodIn wsX6_copyFrom wsX2_copyFrom := goodIn_r _ [23, 24, 25, 26, 27, 28, 29, 30, 58, 59, 60, 61, 62, 63, 64] rfl (by decide +kernel)
set_option maxRecDepth 20000 in
theorem gX6_copyFrom_X2_copyFrom_n47 : GoodIn wsX6_copyFrom (wsX2_copyFrom) := ggX6_copyFrom_X2_copyFrom
set_option maxRecDepth 20000 in
theorem ggX6_copyFrom_X0_copyFrom : GoodIn wsX6_copyFrom wsX0_copyFrom := goodIn_r _ [34, 35, 36, 14, 15, 16, 37, 38, 39, 65, 66, 67, 68] rfl (by decide +kernel)
set_option maxRecDepth 20000 in
theorem gX6_copyFrom_X0_copyFrom_n50 : GoodIn wsX6_copyFrom (wsX0_copyFrom) := ggX6_copyFrom_X0_copyFrom
set_option maxRecDepth 20000 in
theorem ggX6_copyFrom_X3_copyFrom : GoodIn wsX6_copyFrom wsX3_copyFrom := goodIn_r _ [43, 44, 45, 46, 14, 15, 16, 69, 70] rfl (by decide +kernel)
set_option maxRecDepth 20000 in
theorem gX6_copyFrom_X3_copyFrom_n53 : GoodIn wsX6_copyFrom (wsX3_copyFrom) := ggX6_copyFrom_X3_copyFrom
theorem dX6_copyFrom_0 : decode cX6_copyFrom 0 = .ok (.aload_n 0, 1) := by decide +kernel
theorem dX6_copyFrom_1 : decode cX6_copyFrom 1 = .ok (.getfield 12, 3) := by decide +kernel
theorem dX6_copyFrom_4 : decode cX6_copyFrom 4 = .ok (.aload_n 1, 1) := by decide +kernel
theorem dX6_copyFrom_5 : decode cX6_copyFrom 5 = .ok (.getfield 12, 3) := by decide +kernel
theorem dX6_copyFrom_8 : decode cX6_copyFrom 8 = .ok (.invokevirtual 43, 3) := by decide +kernel
theorem dX6_copyFrom_11 : decode cX6_copyFrom 11 = .ok (.aload_n 0, 1) := by decide +kernel
theorem dX6_copyFrom_12 : decode cX6_copyFrom 12 = .ok (.getfield 21, 3) := by decide +kernel
theorem dX6_copyFrom_15 : decode cX6_copyFrom 15 = .ok (.aload_n 1, 1) := by decide +kernel
theorem dX6_copyFrom_16 : decode cX6_copyFrom 16 = .ok (.getfield 21, 3) := by decide +kernel
theorem dX6_copyFrom_19 : decode cX6_copyFrom 19 = .ok (.invokevirtual 47, 3) := by decide +kernel
theorem dX6_copyFrom_22 : decode cX6_copyFrom 22 = .ok (.aload_n 0, 1) := by decide +kernel
theorem dX6_copyFrom_23 : decode cX6_copyFrom 23 = .ok (.getfield 28, 3) := by decide +kernel
theorem dX6_copyFrom_26 : decode cX6_copyFrom 26 = .ok (.aload_n 1, 1) := by decide +kernel
theorem dX6_copyFrom_27 : decode cX6_copyFrom 27 = .ok (.getfield 28, 3) := by decide +kernel
theorem dX6_copyFrom_30 : decode cX6_copyFrom 30 = .ok (.invokevirtual 50, 3) := by decide +kernel
theorem dX6_copyFrom_33 : decode cX6_copyFrom 33 = .ok (.aload_n 0, 1) := by decide +kernel
theorem dX6_copyFrom_34 : decode cX6_copyFrom 34 = .ok (.getfield 35, 3) := by decide +kernel
theorem dX6_copyFrom_37 : decode cX6_copyFrom 37 = .ok (.aload_n 1, 1) := by decide +kernel
theorem dX6_copyFrom_38 : decode cX6_copyFrom 38 = .ok (.getfield 35, 3) := by decide +kernel
theorem dX6_copyFrom_41 : decode cX6_copyFrom 41 = .ok (.invokevirtual 53, 3) := by decide +kernel
theorem dX6_copyFrom_44 : decode cX6_copyFrom 44 = .ok (.aload_n 0, 1) := by decide +kernel
theorem dX6_copyFrom_45 : decode cX6_copyFrom 45 = .ok (.aload_n 1, 1) := by decide +kernel
theorem dX6_copyFrom_46 : decode cX6_copyFrom 46 = .ok (.getfield 39, 3) := by decide +kernel
theorem dX6_copyFrom_49 : decode cX6_copyFrom 49 = .ok (.putfield 39, 3) := by decide +kernel
theorem dX6_copyFrom_52 : decode cX6_copyFrom 52 = .ok (.return_, 1) := by decide +kernel
set_option maxRecDepth 20000 in
theorem ggX6_weighShelf_X7_countIn : GoodIn wsX6_weighShelf wsX7_countIn := goodIn_r _ [6, 7, 17, 18, 19, 20, 21, 22] rfl (by decide +kernel)
set_option maxRecDepth 20000 in
theorem gX6_weighShelf_X7_countIn_n56 : GoodIn wsX6_weighShelf (wsX7_countIn) := ggX6_weighShelf_X7_countIn
theorem dX6_weighShelf_0 : decode cX6_weighShelf 0 = .ok (.iconst 0, 1) := by decide +kernel
theorem dX6_weighShelf_1 : decode cX6_weighShelf 1 = .ok (.istore_n 2, 1) := by decide +kernel
theorem dX6_weighShelf_2 : decode cX6_weighShelf 2 = .ok (.iconst 0, 1) := by decide +kernel
theorem dX6_weighShelf_3 : decode cX6_weighShelf 3 = .ok (.istore_n 3, 1) := by decide +kernel
theorem dX6_weighShelf_4 : decode cX6_weighShelf 4 = .ok (.iload_n 3, 1) := by decide +kernel
theorem dX6_weighShelf_5 : decode cX6_weighShelf 5 = .ok (.bipush 10, 2) := by decide +kernel
theorem dX6_weighShelf_7 : decode cX6_weighShelf 7 = .ok (.if_icmp .ge 31, 3) := by decide +kernel
theorem dX6_weighShelf_10 : decode cX6_weighShelf 10 = .ok (.iload_n 2, 1) := by decide +kernel
theorem dX6_weighShelf_11 : decode cX6_weighShelf 11 = .ok (.aload_n 0, 1) := by decide +kernel
theorem dX6_weighShelf_12 : decode cX6_weighShelf 12 = .ok (.getfield 12, 3) := by decide +kernel
theorem dX6_weighShelf_15 : decode cX6_weighShelf 15 = .ok (.iload_n 1, 1) := by decide +kernel
theorem dX6_weighShelf_16 : decode cX6_weighShelf 16 = .ok (.iload_n 3, 1) := by decide +kernel
theorem dX6_weighShelf_17 : decode cX6_weighShelf 17 = .ok (.invokevirtual 56, 3) := by decide +kernel
theorem dX6_weighShelf_20 : decode cX6_weighShelf 20 = .ok (.aload_n 0, 1) := by decide +kernel
theorem dX6_weighShelf_21 : decode cX6_weighShelf 21 = .ok (.getfield 28, 3) := by decide +kernel
theorem dX6_weighShelf_24 : decode cX6_weighShelf 24 = .ok (.getfield 60, 3) := by decide +kernel
theorem dX6_weighShelf_27 : decode cX6_weighShelf 27 = .ok (.iload_n 3, 1) := by decide +kernel
theorem dX6_weighShelf_28 : decode cX6_weighShelf 28 = .ok (.iaload, 1) := by decide +kernel
theorem dX6_weighShelf_29 : decode cX6_weighShelf 29 = .ok (.imul, 1) := by decide +kernel
theorem dX6_weighShelf_30 : decode cX6_weighShelf 30 = .ok (.iadd, 1) := by decide +kernel
theorem dX6_weighShelf_31 : decode cX6_weighShelf 31 = .ok (.istore_n 2, 1) := by decide +kernel
theorem dX6_weighShelf_32 : decode cX6_weighShelf 32 = .ok (.iinc 3 1, 3) := by decide +kernel
theorem dX6_weighShelf_35 : decode cX6_weighShelf 35 = .ok (.goto (-31), 3) := by decide +kernel
theorem dX6_weighShelf_38 : decode cX6_weighShelf 38 = .ok (.iload_n 2, 1) := by decide +kernel
theorem dX6_weighShelf_39 : decode cX6_weighShelf 39 = .ok (.ireturn, 1) := by decide +kernel
set_option maxRecDepth 20000 in
theorem ggX6_findHeaviest_X6_weighShelf : GoodIn wsX6_findHeaviest wsX6_weighShelf := goodIn_r _ [6, 1, 7, 8, 9, 10, 11, 12, 13, 14, 15, 16, 17, 24, 25, 26, 27, 18, 19, 20, 21, 22, 23] rfl (by decide +kernel)
set_option maxRecDepth 20000 in
theorem gX6_findHeaviest_X6_weighShelf : GoodIn wsX6_findHeaviest (wsV RX6 73 RX6 yX6_weighShelf wsX6_weighShelf) := goodIn_app (goodIn_r _ [2, 3, 4, 5] rfl (by decide +kernel)) ggX6_findHeaviest_X6_weighShelf
theorem dX6_findHeaviest_0 : decode cX6_findHeaviest 0 = .ok (.iconst (-1), 1) := by decide +kernel
theorem dX6_findHeaviest_1 : decode cX6_findHeaviest 1 = .ok (.istore_n 1, 1) := by decide +kernel
theorem dX6_findHeaviest_2 : decode cX6_findHeaviest 2 = .ok (.iconst 0, 1) := by decide +kernel
theorem dX6_findHeaviest_3 : decode cX6_findHeaviest 3 = .ok (.istore_n 2, 1) := by decide +kernel
theorem dX6_findHeaviest_4 : decode cX6_findHeaviest 4 = .ok (.iconst 0, 1) := by decide +kernel
theorem dX6_findHeaviest_5 : decode cX6_findHeaviest 5 = .ok (.istore_n 3, 1) := by decide +kernel
theorem dX6_findHeaviest_6 : decode cX6_findHeaviest 6 = .ok (.iload_n 3, 1) := by decide +kernel
theorem dX6_findHeaviest_7 : decode cX6_findHeaviest 7 = .ok (.aload_n 0, 1) := by decide +kernel
theorem dX6_findHeaviest_8 : decode cX6_findHeaviest 8 = .ok (.getfield 12, 3) := by decide +kernel
theorem dX6_findHeaviest_11 : decode cX6_findHeaviest 11 = .ok (.getfield 64, 3) := by decide +kernel
theorem dX6_findHeaviest_14 : decode cX6_findHeaviest 14 = .ok (.if_icmp .ge 32, 3) := by decide +kernel
theorem dX6_findHeaviest_17 : decode cX6_findHeaviest 17 = .ok (.aload_n 0, 1) := by decide +kernel
theorem dX6_findHeaviest_18 : decode cX6_findHeaviest 18 = .ok (.iload_n 3, 1) := by decide +kernel
theorem dX6_findHeaviest_19 : decode cX6_findHeaviest 19 = .ok (.invokevirtual 73, 3) := by decide +kernel
theorem dX6_findHeaviest_22 : decode cX6_findHeaviest 22 = .ok (.istore 4, 2) := by decide +kernel
theorem dX6_findHeaviest_24 : decode cX6_findHeaviest 24 = .ok (.iload_n 1, 1) := by decide +kernel
theorem dX6_findHeaviest_25 : decode cX6_findHeaviest 25 = .ok (.iconst (-1), 1) := by decide +kernel
theorem dX6_findHeaviest_26 : decode cX6_findHeaviest 26 = .ok (.if_icmp .eq 9, 3) := by decide +kernel
theorem dX6_findHeaviest_29 : decode cX6_findHeaviest 29 = .ok (.iload 4, 2) := by decide +kernel
theorem dX6_findHeaviest_31 : decode cX6_findHeaviest 31 = .ok (.iload_n 2, 1) := by decide +kernel
theorem dX6_findHeaviest_32 : decode cX6_findHeaviest 32 = .ok (.if_icmp .le 8, 3) := by decide +kernel
theorem dX6_findHeaviest_35 : decode cX6_findHeaviest 35 = .ok (.iload_n 3, 1) := by decide +kernel
theorem dX6_findHeaviest_36 : decode cX6_findHeaviest 36 = .ok (.istore_n 1, 1) := by decide +kernel
theorem dX6_findHeaviest_37 : decode cX6_findHeaviest 37 = .ok (.iload 4, 2) := by decide +kernel
theorem dX6_findHeaviest_39 : decode cX6_findHeaviest 39 = .ok (.istore_n 2, 1) := by decide +kernel
theorem dX6_findHeaviest_40 : decode cX6_findHeaviest 40 = .ok (.iinc 3 1, 3) := by decide +kernel
theorem dX6_findHeaviest_43 : decode cX6_findHeaviest 43 = .ok (.goto (-37), 3) := by decide +kernel
theorem dX6_findHeaviest_46 : decode cX6_findHeaviest 46 = .ok (.iload_n 1, 1) := by decide +kernel
theorem dX6_findHeaviest_47 : decode cX6_findHeaviest 47 = .ok (.ireturn, 1) := by decide +kernel
set_option maxRecDepth 20000 in
theorem ggX6_missing_X7_stockOf : GoodIn wsX6_missing wsX7_stockOf := goodIn_r _ [10, 11, 12, 13, 14, 8, 15, 16, 26, 27, 28, 29, 30, 31] rfl (by decide +kernel)
set_option maxRecDepth 20000 in
theorem gX6_missing_X7_stockOf_n80 : GoodIn wsX6_missing (wsX7_stockOf) := ggX6_missing_X7_stockOf
theorem dX6_missing_0 : decode cX6_missing 0 = .ok (.iconst 0, 1) := by decide +kernel
theorem dX6_missing_1 : decode cX6_missing 1 = .ok (.aload_n 0, 1) := by decide +kernel
theorem dX6_missing_2 : decode cX6_missing 2 = .ok (.getfield 28, 3) := by decide +kernel
theorem dX6_missing_5 : decode cX6_missing 5 = .ok (.getfield 77, 3) := by decide +kernel
theorem dX6_missing_8 : decode cX6_missing 8 = .ok (.iload_n 1, 1) := by decide +kernel
theorem dX6_missing_9 : decode cX6_missing 9 = .ok (.iaload, 1) := by decide +kernel
theorem dX6_missing_10 : decode cX6_missing 10 = .ok (.aload_n 0, 1) := by decide +kernel
theorem dX6_missing_11 : decode cX6_missing 11 = .ok (.getfield 12, 3) := by decide +kernel
theorem dX6_missing_14 : decode cX6_missing 14 = .ok (.iload_n 1, 1) := by decide +kernel
theorem dX6_missing_15 : decode cX6_missing 15 = .ok (.invokevirtual 80, 3) := by decide +kernel
theorem dX6_missing_18 : decode cX6_missing 18 = .ok (.isub, 1) := by decide +kernel
theorem dX6_missing_19 : decode cX6_missing 19 = .ok (.invokestatic 83, 3) := by decide +kernel
theorem dX6_missing_22 : decode cX6_missing 22 = .ok (.ireturn, 1) := by decide +kernel
set_option maxRecDepth 20000 in
theorem ggX6_ticksToBring_X7_wayOf : GoodIn wsX6_ticksToBring wsX7_wayOf := goodIn_r _ [9] rfl (by decide +kernel)
set_option maxRecDepth 20000 in
theorem gX6_ticksToBring_X7_wayOf_n94 : GoodIn wsX6_ticksToBring (wsX7_wayOf) := ggX6_ticksToBring_X7_wayOf
theorem dX6_ticksToBring_0 : decode cX6_ticksToBring 0 = .ok (.aload_n 0, 1) := by decide +kernel
theorem dX6_ticksToBring_1 : decode cX6_ticksToBring 1 = .ok (.getfield 12, 3) := by decide +kernel
theorem dX6_ticksToBring_4 : decode cX6_ticksToBring 4 = .ok (.getfield 70, 3) := by decide +kernel
theorem dX6_ticksToBring_7 : decode cX6_ticksToBring 7 = .ok (.iload_n 1, 1) := by decide +kernel
theorem dX6_ticksToBring_8 : decode cX6_ticksToBring 8 = .ok (.iaload, 1) := by decide +kernel
theorem dX6_ticksToBring_9 : decode cX6_ticksToBring 9 = .ok (.istore_n 2, 1) := by decide +kernel
theorem dX6_ticksToBring_10 : decode cX6_ticksToBring 10 = .ok (.aload_n 0, 1) := by decide +kernel
theorem dX6_ticksToBring_11 : decode cX6_ticksToBring 11 = .ok (.getfield 21, 3) := by decide +kernel
theorem dX6_ticksToBring_14 : decode cX6_ticksToBring 14 = .ok (.getfield 88, 3) := by decide +kernel
theorem dX6_ticksToBring_17 : decode cX6_ticksToBring 17 = .ok (.iload_n 2, 1) := by decide +kernel
theorem dX6_ticksToBring_18 : decode cX6_ticksToBring 18 = .ok (.bipush 20, 2) := by decide +kernel
theorem dX6_ticksToBring_20 : decode cX6_ticksToBring 20 = .ok (.irem, 1) := by decide +kernel
theorem dX6_ticksToBring_21 : decode cX6_ticksToBring 21 = .ok (.isub, 1) := by decide +kernel
theorem dX6_ticksToBring_22 : decode cX6_ticksToBring 22 = .ok (.invokestatic 91, 3) := by decide +kernel
theorem dX6_ticksToBring_25 : decode cX6_ticksToBring 25 = .ok (.iload_n 2, 1) := by decide +kernel
theorem dX6_ticksToBring_26 : decode cX6_ticksToBring 26 = .ok (.invokestatic 94, 3) := by decide +kernel
theorem dX6_ticksToBring_29 : decode cX6_ticksToBring 29 = .ok (.iadd, 1) := by decide +kernel
theorem dX6_ticksToBring_30 : decode cX6_ticksToBring 30 = .ok (.ireturn, 1) := by decide +kernel
set_option maxRecDepth 20000 in
theorem ggX6_bring_X6_ticksToBring : GoodIn wsX6_bring wsX6_ticksToBring := goodIn_r _ [7, 2, 1, 8, 9, 10, 11, 12, 13, 14, 28, 29, 30, 31, 32, 33, 34, 35, 36, 37, 38, 39, 40, 41, 42, 43, 44, 45] rfl (by decide +kernel)
set_option maxRecDepth 20000 in
theorem gX6_bring_X6_ticksToBring : GoodIn wsX6_bring (wsV RX6 97 RX6 yX6_ticksToBring wsX6_ticksToBring) := goodIn_app (goodIn_r _ [3, 4, 5, 6] rfl (by decide +kernel)) ggX6_bring_X6_ticksToBring
set_option maxRecDepth 20000 in
theorem ggX6_bring_X2_go : GoodIn wsX6_bring wsX2_go := goodIn_r _ [18, 19, 20, 21, 22, 23, 10, 24, 25, 26, 27, 39, 40, 41, 42, 43, 44, 45] rfl (by decide +kernel)
set_option maxRecDepth 20000 in
theorem gX6_bring_X2_go_n100 : GoodIn wsX6_bring (wsX2_go) := ggX6_bring_X2_go
theorem dX6_bring_0 : decode cX6_bring 0 = .ok (.aload_n 0, 1) := by decide +kernel
theorem dX6_bring_1 : decode cX6_bring 1 = .ok (.iload_n 1, 1) := by decide +kernel
theorem dX6_bring_2 : decode cX6_bring 2 = .ok (.invokevirtual 97, 3) := by decide +kernel
theorem dX6_bring_5 : decode cX6_bring 5 = .ok (.istore_n 2, 1) := by decide +kernel
theorem dX6_bring_6 : decode cX6_bring 6 = .ok (.aload_n 0, 1) := by decide +kernel
theorem dX6_bring_7 : decode cX6_bring 7 = .ok (.getfield 21, 3) := by decide +kernel
theorem dX6_bring_10 : decode cX6_bring 10 = .ok (.iload_n 2, 1) := by decide +kernel
theorem dX6_bring_11 : decode cX6_bring 11 = .ok (.iconst 1, 1) := by decide +kernel
theorem dX6_bring_12 : decode cX6_bring 12 = .ok (.iconst 0, 1) := by decide +kernel
theorem dX6_bring_13 : decode cX6_bring 13 = .ok (.invokevirtual 100, 3) := by decide +kernel
theorem dX6_bring_16 : decode cX6_bring 16 = .ok (.aload_n 0, 1) := by decide +kernel
theorem dX6_bring_17 : decode cX6_bring 17 = .ok (.getfield 12, 3) := by decide +kernel
theorem dX6_bring_20 : decode cX6_bring 20 = .ok (.iload_n 1, 1) := by decide +kernel
theorem dX6_bring_21 : decode cX6_bring 21 = .ok (.putfield 67, 3) := by decide +kernel
theorem dX6_bring_24 : decode cX6_bring 24 = .ok (.aload_n 0, 1) := by decide +kernel
theorem dX6_bring_25 : decode cX6_bring 25 = .ok (.getfield 12, 3) := by decide +kernel
theorem dX6_bring_28 : decode cX6_bring 28 = .ok (.getfield 104, 3) := by decide +kernel
theorem dX6_bring_31 : decode cX6_bring 31 = .ok (.iload_n 1, 1) := by decide +kernel
theorem dX6_bring_32 : decode cX6_bring 32 = .ok (.dup2, 1) := by decide +kernel
theorem dX6_bring_33 : decode cX6_bring 33 = .ok (.iaload, 1) := by decide +kernel
theorem dX6_bring_34 : decode cX6_bring 34 = .ok (.iconst 1, 1) := by decide +kernel
theorem dX6_bring_35 : decode cX6_bring 35 = .ok (.iadd, 1) := by decide +kernel
theorem dX6_bring_36 : decode cX6_bring 36 = .ok (.iastore, 1) := by decide +kernel
theorem dX6_bring_37 : decode cX6_bring 37 = .ok (.iload_n 2, 1) := by decide +kernel
theorem dX6_bring_38 : decode cX6_bring 38 = .ok (.ireturn, 1) := by decide +kernel
set_option maxRecDepth 20000 in
theorem ggX6_putAt_X7_wayOf : GoodIn wsX6_putAt wsX7_wayOf := goodIn_r _ [5] rfl (by decide +kernel)
set_option maxRecDepth 20000 in
theorem gX6_putAt_X7_wayOf_n94 : GoodIn wsX6_putAt (wsX7_wayOf) := ggX6_putAt_X7_wayOf
set_option maxRecDepth 20000 in
theorem ggX6_putAt_X2_go : GoodIn wsX6_putAt wsX2_go := goodIn_r _ [9, 10, 11, 12, 13, 14, 15, 16, 17, 18, 19, 31, 32, 33, 34, 35, 36, 37] rfl (by decide +kernel)
set_option maxRecDepth 20000 in
theorem gX6_putAt_X2_go_n100 : GoodIn wsX6_putAt (wsX2_go) := ggX6_putAt_X2_go
theorem dX6_putAt_0 : decode cX6_putAt 0 = .ok (.aload_n 0, 1) := by decide +kernel
theorem dX6_putAt_1 : decode cX6_putAt 1 = .ok (.getfield 12, 3) := by decide +kernel
theorem dX6_putAt_4 : decode cX6_putAt 4 = .ok (.getfield 67, 3) := by decide +kernel
theorem dX6_putAt_7 : decode cX6_putAt 7 = .ok (.istore_n 2, 1) := by decide +kernel
theorem dX6_putAt_8 : decode cX6_putAt 8 = .ok (.iload_n 2, 1) := by decide +kernel
theorem dX6_putAt_9 : decode cX6_putAt 9 = .ok (.ifCond .lt 14, 3) := by decide +kernel
theorem dX6_putAt_12 : decode cX6_putAt 12 = .ok (.iload_n 2, 1) := by decide +kernel
theorem dX6_putAt_13 : decode cX6_putAt 13 = .ok (.aload_n 0, 1) := by decide +kernel
theorem dX6_putAt_14 : decode cX6_putAt 14 = .ok (.getfield 12, 3) := by decide +kernel
theorem dX6_putAt_17 : decode cX6_putAt 17 = .ok (.getfield 64, 3) := by decide +kernel
theorem dX6_putAt_20 : decode cX6_putAt 20 = .ok (.if_icmp .lt 5, 3) := by decide +kernel
theorem dX6_putAt_23 : decode cX6_putAt 23 = .ok (.iconst 0, 1) := by decide +kernel
theorem dX6_putAt_24 : decode cX6_putAt 24 = .ok (.ireturn, 1) := by decide +kernel
theorem dX6_putAt_25 : decode cX6_putAt 25 = .ok (.iload_n 1, 1) := by decide +kernel
theorem dX6_putAt_26 : decode cX6_putAt 26 = .ok (.invokestatic 94, 3) := by decide +kernel
theorem dX6_putAt_29 : decode cX6_putAt 29 = .ok (.istore_n 3, 1) := by decide +kernel
theorem dX6_putAt_30 : decode cX6_putAt 30 = .ok (.aload_n 0, 1) := by decide +kernel
theorem dX6_putAt_31 : decode cX6_putAt 31 = .ok (.getfield 21, 3) := by decide +kernel
theorem dX6_putAt_34 : decode cX6_putAt 34 = .ok (.iload_n 3, 1) := by decide +kernel
theorem dX6_putAt_35 : decode cX6_putAt 35 = .ok (.iconst 0, 1) := by decide +kernel
theorem dX6_putAt_36 : decode cX6_putAt 36 = .ok (.iload_n 1, 1) := by decide +kernel
theorem dX6_putAt_37 : decode cX6_putAt 37 = .ok (.bipush 20, 2) := by decide +kernel
theorem dX6_putAt_39 : decode cX6_putAt 39 = .ok (.irem, 1) := by decide +kernel
theorem dX6_putAt_40 : decode cX6_putAt 40 = .ok (.invokevirtual 100, 3) := by decide +kernel
theorem dX6_putAt_43 : decode cX6_putAt 43 = .ok (.aload_n 0, 1) := by decide +kernel
theorem dX6_putAt_44 : decode cX6_putAt 44 = .ok (.getfield 12, 3) := by decide +kernel
theorem dX6_putAt_47 : decode cX6_putAt 47 = .ok (.getfield 70, 3) := by decide +kernel
theorem dX6_putAt_50 : decode cX6_putAt 50 = .ok (.iload_n 2, 1) := by decide +kernel
theorem dX6_putAt_51 : decode cX6_putAt 51 = .ok (.iload_n 1, 1) := by decide +kernel
theorem dX6_putAt_52 : decode cX6_putAt 52 = .ok (.iastore, 1) := by decide +kernel
theorem dX6_putAt_53 : decode cX6_putAt 53 = .ok (.aload_n 0, 1) := by decide +kernel
theorem dX6_putAt_54 : decode cX6_putAt 54 = .ok (.getfield 12, 3) := by decide +kernel
theorem dX6_putAt_57 : decode cX6_putAt 57 = .ok (.iconst (-1), 1) := by decide +kernel
theorem dX6_putAt_58 : decode cX6_putAt 58 = .ok (.putfield 67, 3) := by decide +kernel
theorem dX6_putAt_61 : decode cX6_putAt 61 = .ok (.iload_n 3, 1) := by decide +kernel
theorem dX6_putAt_62 : decode cX6_putAt 62 = .ok (.ireturn, 1) := by decide +kernel
set_option maxRecDepth 20000 in
theorem ggX6_putBack_X7_firstFree : GoodIn wsX6_putBack wsX7_firstFree := goodIn_r _ [6, 7, 8, 9, 4, 10, 11, 12, 13, 14, 15, 16, 17, 18, 19, 20, 21, 22, 23, 50, 51, 52, 53, 54, 55] rfl (by decide +kernel)
set_option maxRecDepth 20000 in
theorem gX6_putBack_X7_firstFree_n114 : GoodIn wsX6_putBack (wsX7_firstFree) := ggX6_putBack_X7_firstFree
set_option maxRecDepth 20000 in
theorem ggX6_putBack_X6_putAt : GoodIn wsX6_putBack wsX6_putAt := goodIn_r _ [28, 1, 2, 29, 4, 30, 31, 32, 33, 34, 35, 36, 37, 38, 39, 40, 41, 42, 43, 44, 45, 46, 47, 48, 49, 50, 51, 52, 53, 54, 55, 56, 57, 58, 59, 60, 61, 62] rfl (by decide +kernel)
set_option maxRecDepth 20000 in
theorem gX6_putBack_X6_putAt : GoodIn wsX6_putBack (wsV RX6 117 RX6 yX6_putAt wsX6_putAt) := goodIn_app (goodIn_r _ [24, 25, 26, 27] rfl (by decide +kernel)) ggX6_putBack_X6_putAt
theorem dX6_putBack_0 : decode cX6_putBack 0 = .ok (.aload_n 0, 1) := by decide +kernel
theorem dX6_putBack_1 : decode cX6_putBack 1 = .ok (.getfield 12, 3) := by decide +kernel
theorem dX6_putBack_4 : decode cX6_putBack 4 = .ok (.getfield 67, 3) := by decide +kernel
theorem dX6_putBack_7 : decode cX6_putBack 7 = .ok (.istore_n 1, 1) := by decide +kernel
theorem dX6_putBack_8 : decode cX6_putBack 8 = .ok (.iload_n 1, 1) := by decide +kernel
theorem dX6_putBack_9 : decode cX6_putBack 9 = .ok (.ifCond .lt 14, 3) := by decide +kernel
theorem dX6_putBack_12 : decode cX6_putBack 12 = .ok (.iload_n 1, 1) := by decide +kernel
theorem dX6_putBack_13 : decode cX6_putBack 13 = .ok (.aload_n 0, 1) := by decide +kernel
theorem dX6_putBack_14 : decode cX6_putBack 14 = .ok (.getfield 12, 3) := by decide +kernel
theorem dX6_putBack_17 : decode cX6_putBack 17 = .ok (.getfield 64, 3) := by decide +kernel
theorem dX6_putBack_20 : decode cX6_putBack 20 = .ok (.if_icmp .lt 5, 3) := by decide +kernel
theorem dX6_putBack_23 : decode cX6_putBack 23 = .ok (.iconst 0, 1) := by decide +kernel
theorem dX6_putBack_24 : decode cX6_putBack 24 = .ok (.ireturn, 1) := by decide +kernel
theorem dX6_putBack_25 : decode cX6_putBack 25 = .ok (.aload_n 0, 1) := by decide +kernel
theorem dX6_putBack_26 : decode cX6_putBack 26 = .ok (.getfield 21, 3) := by decide +kernel
theorem dX6_putBack_29 : decode cX6_putBack 29 = .ok (.getfield 107, 3) := by decide +kernel
theorem dX6_putBack_32 : decode cX6_putBack 32 = .ok (.ifCond .eq 7, 3) := by decide +kernel
theorem dX6_putBack_35 : decode cX6_putBack 35 = .ok (.iconst (-1), 1) := by decide +kernel
theorem dX6_putBack_36 : decode cX6_putBack 36 = .ok (.goto 19, 3) := by decide +kernel
theorem dX6_putBack_39 : decode cX6_putBack 39 = .ok (.aload_n 0, 1) := by decide +kernel
theorem dX6_putBack_40 : decode cX6_putBack 40 = .ok (.getfield 12, 3) := by decide +kernel
theorem dX6_putBack_43 : decode cX6_putBack 43 = .ok (.aload_n 0, 1) := by decide +kernel
theorem dX6_putBack_44 : decode cX6_putBack 44 = .ok (.getfield 12, 3) := by decide +kernel
theorem dX6_putBack_47 : decode cX6_putBack 47 = .ok (.getfield 111, 3) := by decide +kernel
theorem dX6_putBack_50 : decode cX6_putBack 50 = .ok (.iload_n 1, 1) := by decide +kernel
theorem dX6_putBack_51 : decode cX6_putBack 51 = .ok (.iaload, 1) := by decide +kernel
theorem dX6_putBack_52 : decode cX6_putBack 52 = .ok (.invokevirtual 114, 3) := by decide +kernel
theorem dX6_putBack_55 : decode cX6_putBack 55 = .ok (.istore_n 2, 1) := by decide +kernel
theorem dX6_putBack_56 : decode cX6_putBack 56 = .ok (.aload_n 0, 1) := by decide +kernel
theorem dX6_putBack_57 : decode cX6_putBack 57 = .ok (.iload_n 2, 1) := by decide +kernel
theorem dX6_putBack_58 : decode cX6_putBack 58 = .ok (.iconst (-1), 1) := by decide +kernel
theorem dX6_putBack_59 : decode cX6_putBack 59 = .ok (.if_icmp .ne 15, 3) := by decide +kernel
theorem dX6_putBack_62 : decode cX6_putBack 62 = .ok (.aload_n 0, 1) := by decide +kernel
theorem dX6_putBack_63 : decode cX6_putBack 63 = .ok (.getfield 12, 3) := by decide +kernel
theorem dX6_putBack_66 : decode cX6_putBack 66 = .ok (.getfield 70, 3) := by decide +kernel
theorem dX6_putBack_69 : decode cX6_putBack 69 = .ok (.iload_n 1, 1) := by decide +kernel
theorem dX6_putBack_70 : decode cX6_putBack 70 = .ok (.iaload, 1) := by decide +kernel
theorem dX6_putBack_71 : decode cX6_putBack 71 = .ok (.goto 4, 3) := by decide +kernel
theorem dX6_putBack_74 : decode cX6_putBack 74 = .ok (.iload_n 2, 1) := by decide +kernel
theorem dX6_putBack_75 : decode cX6_putBack 75 = .ok (.invokevirtual 117, 3) := by decide +kernel
theorem dX6_putBack_78 : decode cX6_putBack 78 = .ok (.ireturn, 1) := by decide +kernel
set_option maxRecDepth 20000 in
theorem ggX6_isServable_X6_isEnough : GoodIn wsX6_isServable wsX6_isEnough := goodIn_r _ [6, 7, 1, 8, 9, 10, 11, 12, 13, 14, 15, 16, 17, 18, 19, 20, 21, 22, 23, 24, 25, 26, 27, 28, 29, 30] rfl (by decide +kernel)
set_option maxRecDepth 20000 in
theorem gX6_isServable_X6_isEnough : GoodIn wsX6_isServable (wsV RX6 120 RX6 yX6_isEnough wsX6_isEnough) := goodIn_app (goodIn_r _ [2, 3, 4, 5] rfl (by decide +kernel)) ggX6_isServable_X6_isEnough
theorem dX6_isServable_0 : decode cX6_isServable 0 = .ok (.aload_n 0, 1) := by decide +kernel
theorem dX6_isServable_1 : decode cX6_isServable 1 = .ok (.iload_n 1, 1) := by decide +kernel
theorem dX6_isServable_2 : decode cX6_isServable 2 = .ok (.iconst 1, 1) := by decide +kernel
theorem dX6_isServable_3 : decode cX6_isServable 3 = .ok (.aload_n 0, 1) := by decide +kernel
theorem dX6_isServable_4 : decode cX6_isServable 4 = .ok (.getfield 12, 3) := by decide +kernel
theorem dX6_isServable_7 : decode cX6_isServable 7 = .ok (.getfield 64, 3) := by decide +kernel
theorem dX6_isServable_10 : decode cX6_isServable 10 = .ok (.ishl, 1) := by decide +kernel
theorem dX6_isServable_11 : decode cX6_isServable 11 = .ok (.iconst 1, 1) := by decide +kernel
theorem dX6_isServable_12 : decode cX6_isServable 12 = .ok (.isub, 1) := by decide +kernel
theorem dX6_isServable_13 : decode cX6_isServable 13 = .ok (.invokevirtual 120, 3) := by decide +kernel
theorem dX6_isServable_16 : decode cX6_isServable 16 = .ok (.ireturn, 1) := by decide +kernel
set_option maxRecDepth 20000 in
theorem ggX6_isEnough_X3_wantedOf : GoodIn wsX6_isEnough wsX3_wantedOf := goodIn_r _ [6, 7, 24, 25] rfl (by decide +kernel)
set_option maxRecDepth 20000 in
theorem gX6_isEnough_X3_wantedOf_n124 : GoodIn wsX6_isEnough (wsX3_wantedOf) := ggX6_isEnough_X3_wantedOf
set_option maxRecDepth 20000 in
theorem ggX6_isEnough_X7_countIn : GoodIn wsX6_isEnough wsX7_countIn := goodIn_r _ [11, 12, 18, 19, 20, 21, 22, 23] rfl (by decide +kernel)
set_option maxRecDepth 20000 in
theorem gX6_isEnough_X7_countIn_n56 : GoodIn wsX6_isEnough (wsX7_countIn) := ggX6_isEnough_X7_countIn
theorem dX6_isEnough_0 : decode cX6_isEnough 0 = .ok (.iconst 0, 1) := by decide +kernel
theorem dX6_isEnough_1 : decode cX6_isEnough 1 = .ok (.istore_n 3, 1) := by decide +kernel
theorem dX6_isEnough_2 : decode cX6_isEnough 2 = .ok (.iload_n 3, 1) := by decide +kernel
theorem dX6_isEnough_3 : decode cX6_isEnough 3 = .ok (.bipush 10, 2) := by decide +kernel
theorem dX6_isEnough_5 : decode cX6_isEnough 5 = .ok (.if_icmp .ge 77, 3) := by decide +kernel
theorem dX6_isEnough_8 : decode cX6_isEnough 8 = .ok (.aload_n 0, 1) := by decide +kernel
theorem dX6_isEnough_9 : decode cX6_isEnough 9 = .ok (.getfield 35, 3) := by decide +kernel
theorem dX6_isEnough_12 : decode cX6_isEnough 12 = .ok (.iload_n 1, 1) := by decide +kernel
theorem dX6_isEnough_13 : decode cX6_isEnough 13 = .ok (.iload_n 3, 1) := by decide +kernel
theorem dX6_isEnough_14 : decode cX6_isEnough 14 = .ok (.invokevirtual 124, 3) := by decide +kernel
theorem dX6_isEnough_17 : decode cX6_isEnough 17 = .ok (.istore 4, 2) := by decide +kernel
theorem dX6_isEnough_19 : decode cX6_isEnough 19 = .ok (.iconst 0, 1) := by decide +kernel
theorem dX6_isEnough_20 : decode cX6_isEnough 20 = .ok (.istore 5, 2) := by decide +kernel
theorem dX6_isEnough_22 : decode cX6_isEnough 22 = .ok (.iload 5, 2) := by decide +kernel
theorem dX6_isEnough_24 : decode cX6_isEnough 24 = .ok (.aload_n 0, 1) := by decide +kernel
theorem dX6_isEnough_25 : decode cX6_isEnough 25 = .ok (.getfield 12, 3) := by decide +kernel
theorem dX6_isEnough_28 : decode cX6_isEnough 28 = .ok (.getfield 64, 3) := by decide +kernel
theorem dX6_isEnough_31 : decode cX6_isEnough 31 = .ok (.if_icmp .ge 38, 3) := by decide +kernel
theorem dX6_isEnough_34 : decode cX6_isEnough 34 = .ok (.iload 4, 2) := by decide +kernel
theorem dX6_isEnough_36 : decode cX6_isEnough 36 = .ok (.ifCond .le 33, 3) := by decide +kernel
theorem dX6_isEnough_39 : decode cX6_isEnough 39 = .ok (.iload_n 2, 1) := by decide +kernel
theorem dX6_isEnough_40 : decode cX6_isEnough 40 = .ok (.iload 5, 2) := by decide +kernel
theorem dX6_isEnough_42 : decode cX6_isEnough 42 = .ok (.ishr, 1) := by decide +kernel
theorem dX6_isEnough_43 : decode cX6_isEnough 43 = .ok (.iconst 1, 1) := by decide +kernel
theorem dX6_isEnough_44 : decode cX6_isEnough 44 = .ok (.iand, 1) := by decide +kernel
theorem dX6_isEnough_45 : decode cX6_isEnough 45 = .ok (.ifCond .eq 18, 3) := by decide +kernel
theorem dX6_isEnough_48 : decode cX6_isEnough 48 = .ok (.iload 4, 2) := by decide +kernel
theorem dX6_isEnough_50 : decode cX6_isEnough 50 = .ok (.aload_n 0, 1) := by decide +kernel
theorem dX6_isEnough_51 : decode cX6_isEnough 51 = .ok (.getfield 12, 3) := by decide +kernel
theorem dX6_isEnough_54 : decode cX6_isEnough 54 = .ok (.iload 5, 2) := by decide +kernel
theorem dX6_isEnough_56 : decode cX6_isEnough 56 = .ok (.iload_n 3, 1) := by decide +kernel
theorem dX6_isEnough_57 : decode cX6_isEnough 57 = .ok (.invokevirtual 56, 3) := by decide +kernel
theorem dX6_isEnough_60 : decode cX6_isEnough 60 = .ok (.isub, 1) := by decide +kernel
theorem dX6_isEnough_61 : decode cX6_isEnough 61 = .ok (.istore 4, 2) := by decide +kernel
theorem dX6_isEnough_63 : decode cX6_isEnough 63 = .ok (.iinc 5 1, 3) := by decide +kernel
theorem dX6_isEnough_66 : decode cX6_isEnough 66 = .ok (.goto (-44), 3) := by decide +kernel
theorem dX6_isEnough_69 : decode cX6_isEnough 69 = .ok (.iload 4, 2) := by decide +kernel
theorem dX6_isEnough_71 : decode cX6_isEnough 71 = .ok (.ifCond .le 5, 3) := by decide +kernel
theorem dX6_isEnough_74 : decode cX6_isEnough 74 = .ok (.iconst 0, 1) := by decide +kernel
theorem dX6_isEnough_75 : decode cX6_isEnough 75 = .ok (.ireturn, 1) := by decide +kernel
theorem dX6_isEnough_76 : decode cX6_isEnough 76 = .ok (.iinc 3 1, 3) := by decide +kernel
theorem dX6_isEnough_79 : decode cX6_isEnough 79 = .ok (.goto (-77), 3) := by decide +kernel
theorem dX6_isEnough_82 : decode cX6_isEnough 82 = .ok (.iconst 1, 1) := by decide +kernel
theorem dX6_isEnough_83 : decode cX6_isEnough 83 = .ok (.ireturn, 1) := by decide +kernel
set_option maxRecDepth 20000 in
theorem ggX6_usefulShelves_X3_wantedOf : GoodIn wsX6_usefulShelves wsX3_wantedOf := goodIn_r _ [6, 7, 24, 25] rfl (by decide +kernel)
set_option maxRecDepth 20000 in
theorem gX6_usefulShelves_X3_wantedOf_n124 : GoodIn wsX6_usefulShelves (wsX3_wantedOf) := ggX6_usefulShelves_X3_wantedOf
set_option maxRecDepth 20000 in
theorem ggX6_usefulShelves_X7_countIn : GoodIn wsX6_usefulShelves wsX7_countIn := goodIn_r _ [11, 12, 18, 19, 20, 21, 22, 23] rfl (by decide +kernel)
set_option maxRecDepth 20000 in
theorem gX6_usefulShelves_X7_countIn_n56 : GoodIn wsX6_usefulShelves (wsX7_countIn) := ggX6_usefulShelves_X7_countIn
theorem dX6_usefulShelves_0 : decode cX6_usefulShelves 0 = .ok (.iconst 0, 1) := by decide +kernel
theorem dX6_usefulShelves_1 : decode cX6_usefulShelves 1 = .ok (.istore_n 2, 1) := by decide +kernel
theorem dX6_usefulShelves_2 : decode cX6_usefulShelves 2 = .ok (.iconst 0, 1) := by decide +kernel
theorem dX6_usefulShelves_3 : decode cX6_usefulShelves 3 = .ok (.istore_n 3, 1) := by decide +kernel
theorem dX6_usefulShelves_4 : decode cX6_usefulShelves 4 = .ok (.iload_n 3, 1) := by decide +kernel
theorem dX6_usefulShelves_5 : decode cX6_usefulShelves 5 = .ok (.aload_n 0, 1) := by decide +kernel
theorem dX6_usefulShelves_6 : decode cX6_usefulShelves 6 = .ok (.getfield 12, 3) := by decide +kernel
theorem dX6_usefulShelves_9 : decode cX6_usefulShelves 9 = .ok (.getfield 64, 3) := by decide +kernel
theorem dX6_usefulShelves_12 : decode cX6_usefulShelves 12 = .ok (.if_icmp .ge 57, 3) := by decide +kernel
theorem dX6_usefulShelves_15 : decode cX6_usefulShelves 15 = .ok (.iconst 0, 1) := by decide +kernel
theorem dX6_usefulShelves_16 : decode cX6_usefulShelves 16 = .ok (.istore 4, 2) := by decide +kernel
theorem dX6_usefulShelves_18 : decode cX6_usefulShelves 18 = .ok (.iload 4, 2) := by decide +kernel
theorem dX6_usefulShelves_20 : decode cX6_usefulShelves 20 = .ok (.bipush 10, 2) := by decide +kernel
theorem dX6_usefulShelves_22 : decode cX6_usefulShelves 22 = .ok (.if_icmp .ge 41, 3) := by decide +kernel
theorem dX6_usefulShelves_25 : decode cX6_usefulShelves 25 = .ok (.aload_n 0, 1) := by decide +kernel
theorem dX6_usefulShelves_26 : decode cX6_usefulShelves 26 = .ok (.getfield 35, 3) := by decide +kernel
theorem dX6_usefulShelves_29 : decode cX6_usefulShelves 29 = .ok (.iload_n 1, 1) := by decide +kernel
theorem dX6_usefulShelves_30 : decode cX6_usefulShelves 30 = .ok (.iload 4, 2) := by decide +kernel
theorem dX6_usefulShelves_32 : decode cX6_usefulShelves 32 = .ok (.invokevirtual 124, 3) := by decide +kernel
theorem dX6_usefulShelves_35 : decode cX6_usefulShelves 35 = .ok (.ifCond .le 22, 3) := by decide +kernel
theorem dX6_usefulShelves_38 : decode cX6_usefulShelves 38 = .ok (.aload_n 0, 1) := by decide +kernel
theorem dX6_usefulShelves_39 : decode cX6_usefulShelves 39 = .ok (.getfield 12, 3) := by decide +kernel
theorem dX6_usefulShelves_42 : decode cX6_usefulShelves 42 = .ok (.iload_n 3, 1) := by decide +kernel
theorem dX6_usefulShelves_43 : decode cX6_usefulShelves 43 = .ok (.iload 4, 2) := by decide +kernel
theorem dX6_usefulShelves_45 : decode cX6_usefulShelves 45 = .ok (.invokevirtual 56, 3) := by decide +kernel
theorem dX6_usefulShelves_48 : decode cX6_usefulShelves 48 = .ok (.ifCond .le 9, 3) := by decide +kernel
theorem dX6_usefulShelves_51 : decode cX6_usefulShelves 51 = .ok (.iload_n 2, 1) := by decide +kernel
theorem dX6_usefulShelves_52 : decode cX6_usefulShelves 52 = .ok (.iconst 1, 1) := by decide +kernel
theorem dX6_usefulShelves_53 : decode cX6_usefulShelves 53 = .ok (.iload_n 3, 1) := by decide +kernel
theorem dX6_usefulShelves_54 : decode cX6_usefulShelves 54 = .ok (.ishl, 1) := by decide +kernel
theorem dX6_usefulShelves_55 : decode cX6_usefulShelves 55 = .ok (.ior, 1) := by decide +kernel
theorem dX6_usefulShelves_56 : decode cX6_usefulShelves 56 = .ok (.istore_n 2, 1) := by decide +kernel
theorem dX6_usefulShelves_57 : decode cX6_usefulShelves 57 = .ok (.iinc 4 1, 3) := by decide +kernel
theorem dX6_usefulShelves_60 : decode cX6_usefulShelves 60 = .ok (.goto (-42), 3) := by decide +kernel
theorem dX6_usefulShelves_63 : decode cX6_usefulShelves 63 = .ok (.iinc 3 1, 3) := by decide +kernel
theorem dX6_usefulShelves_66 : decode cX6_usefulShelves 66 = .ok (.goto (-62), 3) := by decide +kernel
theorem dX6_usefulShelves_69 : decode cX6_usefulShelves 69 = .ok (.iload_n 2, 1) := by decide +kernel
theorem dX6_usefulShelves_70 : decode cX6_usefulShelves 70 = .ok (.ireturn, 1) := by decide +kernel
set_option maxRecDepth 20000 in
theorem ggX6_choice_X6_usefulShelves : GoodIn wsX6_choice wsX6_usefulShelves := goodIn_r _ [5, 6, 7, 8, 9, 10, 11, 12, 13, 14, 15, 16, 17, 29, 30, 31, 32, 33, 34, 35, 36, 37, 38, 39, 40, 41] rfl (by decide +kernel)
set_option maxRecDepth 20000 in
theorem gX6_choice_X6_usefulShelves : GoodIn wsX6_choice (wsV RX6 127 RX6 yX6_usefulShelves wsX6_usefulShelves) := goodIn_app (goodIn_r _ [1, 2, 3, 4] rfl (by decide +kernel)) ggX6_choice_X6_usefulShelves
set_option maxRecDepth 20000 in
theorem ggX6_choice_J6_bitCount_0f7a4 : GoodIn wsX6_choice wsJ6_bitCount_0f7a4 := goodIn_r _ [21, 22, 23, 24] rfl (by decide +kernel)
set_option maxRecDepth 20000 in
theorem gX6_choice_J6_bitCount_0f7a4 : GoodIn wsX6_choice (va_wsS RX6 130 yJ6_bitCount_0f7a4 wsJ6_bitCount_0f7a4) := goodIn_app (goodIn_r _ [18, 19, 20] rfl (by decide +kernel)) ggX6_choice_J6_bitCount_0f7a4
set_option maxRecDepth 20000 in
theorem ggX6_choice_X6_isEnough : GoodIn wsX6_choice wsX6_isEnough := goodIn_r _ [28, 7, 6, 8, 9, 10, 11, 12, 13, 14, 15, 16, 17, 29, 30, 31, 32, 33, 34, 35, 36, 37, 38, 39, 40, 41] rfl (by decide +kernel)
set_option maxRecDepth 20000 in
theorem gX6_choice_X6_isEnough : GoodIn wsX6_choice (wsV RX6 120 RX6 yX6_isEnough wsX6_isEnough) := goodIn_app (goodIn_r _ [25, 26, 27, 4] rfl (by decide +kernel)) ggX6_choice_X6_isEnough
theorem dX6_choice_0 : decode cX6_choice 0 = .ok (.aload_n 0, 1) := by decide +kernel
theorem dX6_choice_1 : decode cX6_choice 1 = .ok (.iload_n 1, 1) := by decide +kernel
theorem dX6_choice_2 : decode cX6_choice 2 = .ok (.invokevirtual 127, 3) := by decide +kernel
theorem dX6_choice_5 : decode cX6_choice 5 = .ok (.istore_n 2, 1) := by decide +kernel
theorem dX6_choice_6 : decode cX6_choice 6 = .ok (.iload_n 2, 1) := by decide +kernel
theorem dX6_choice_7 : decode cX6_choice 7 = .ok (.istore_n 3, 1) := by decide +kernel
theorem dX6_choice_8 : decode cX6_choice 8 = .ok (.iload_n 2, 1) := by decide +kernel
theorem dX6_choice_9 : decode cX6_choice 9 = .ok (.invokestatic 130, 3) := by decide +kernel
theorem dX6_choice_12 : decode cX6_choice 12 = .ok (.istore 4, 2) := by decide +kernel
theorem dX6_choice_14 : decode cX6_choice 14 = .ok (.iconst 0, 1) := by decide +kernel
theorem dX6_choice_15 : decode cX6_choice 15 = .ok (.istore 5, 2) := by decide +kernel
theorem dX6_choice_17 : decode cX6_choice 17 = .ok (.iload 5, 2) := by decide +kernel
theorem dX6_choice_19 : decode cX6_choice 19 = .ok (.iload_n 2, 1) := by decide +kernel
theorem dX6_choice_20 : decode cX6_choice 20 = .ok (.if_icmp .ge 48, 3) := by decide +kernel
theorem dX6_choice_23 : decode cX6_choice 23 = .ok (.iload 5, 2) := by decide +kernel
theorem dX6_choice_25 : decode cX6_choice 25 = .ok (.iload_n 2, 1) := by decide +kernel
theorem dX6_choice_26 : decode cX6_choice 26 = .ok (.iconst (-1), 1) := by decide +kernel
theorem dX6_choice_27 : decode cX6_choice 27 = .ok (.ixor, 1) := by decide +kernel
theorem dX6_choice_28 : decode cX6_choice 28 = .ok (.iand, 1) := by decide +kernel
theorem dX6_choice_29 : decode cX6_choice 29 = .ok (.ifCond .ne 33, 3) := by decide +kernel
theorem dX6_choice_32 : decode cX6_choice 32 = .ok (.iload 5, 2) := by decide +kernel
theorem dX6_choice_34 : decode cX6_choice 34 = .ok (.invokestatic 130, 3) := by decide +kernel
theorem dX6_choice_37 : decode cX6_choice 37 = .ok (.iload 4, 2) := by decide +kernel
theorem dX6_choice_39 : decode cX6_choice 39 = .ok (.if_icmp .ge 23, 3) := by decide +kernel
theorem dX6_choice_42 : decode cX6_choice 42 = .ok (.aload_n 0, 1) := by decide +kernel
theorem dX6_choice_43 : decode cX6_choice 43 = .ok (.iload_n 1, 1) := by decide +kernel
theorem dX6_choice_44 : decode cX6_choice 44 = .ok (.iload 5, 2) := by decide +kernel
theorem dX6_choice_46 : decode cX6_choice 46 = .ok (.invokevirtual 120, 3) := by decide +kernel
theorem dX6_choice_49 : decode cX6_choice 49 = .ok (.ifCond .eq 13, 3) := by decide +kernel
theorem dX6_choice_52 : decode cX6_choice 52 = .ok (.iload 5, 2) := by decide +kernel
theorem dX6_choice_54 : decode cX6_choice 54 = .ok (.istore_n 3, 1) := by decide +kernel
theorem dX6_choice_55 : decode cX6_choice 55 = .ok (.iload 5, 2) := by decide +kernel
theorem dX6_choice_57 : decode cX6_choice 57 = .ok (.invokestatic 130, 3) := by decide +kernel
theorem dX6_choice_60 : decode cX6_choice 60 = .ok (.istore 4, 2) := by decide +kernel
theorem dX6_choice_62 : decode cX6_choice 62 = .ok (.iinc 5 1, 3) := by decide +kernel
theorem dX6_choice_65 : decode cX6_choice 65 = .ok (.goto (-48), 3) := by decide +kernel
theorem dX6_choice_68 : decode cX6_choice 68 = .ok (.iload_n 3, 1) := by decide +kernel
theorem dX6_choice_69 : decode cX6_choice 69 = .ok (.ireturn, 1) := by decide +kernel
set_option maxRecDepth 20000 in
theorem ggX6_give_X7_countIn : GoodIn wsX6_give wsX7_countIn := goodIn_r _ [11, 12, 32, 33, 34, 35, 36, 37] rfl (by decide +kernel)
set_option maxRecDepth 20000 in
theorem gX6_give_X7_countIn_n56 : GoodIn wsX6_give (wsX7_countIn) := ggX6_give_X7_countIn
set_option maxRecDepth 20000 in
theorem ggX6_give_X3_wantedOf : GoodIn wsX6_give wsX3_wantedOf := goodIn_r _ [16, 17, 26, 27] rfl (by decide +kernel)
set_option maxRecDepth 20000 in
theorem gX6_give_X3_wantedOf_n124 : GoodIn wsX6_give (wsX3_wantedOf) := ggX6_give_X3_wantedOf
set_option maxRecDepth 20000 in
theorem ggX6_give_X7_change : GoodIn wsX6_give wsX7_change := goodIn_r _ [20, 12, 32, 33, 34, 35, 36, 37] rfl (by decide +kernel)
set_option maxRecDepth 20000 in
theorem gX6_give_X7_change_n138 : GoodIn wsX6_give (wsX7_change) := ggX6_give_X7_change
theorem dX6_give_0 : decode cX6_give 0 = .ok (.iconst 0, 1) := by decide +kernel
theorem dX6_give_1 : decode cX6_give 1 = .ok (.istore_n 3, 1) := by decide +kernel
theorem dX6_give_2 : decode cX6_give 2 = .ok (.iload_n 3, 1) := by decide +kernel
theorem dX6_give_3 : decode cX6_give 3 = .ok (.bipush 10, 2) := by decide +kernel
theorem dX6_give_5 : decode cX6_give 5 = .ok (.if_icmp .ge 78, 3) := by decide +kernel
theorem dX6_give_8 : decode cX6_give 8 = .ok (.aload_n 0, 1) := by decide +kernel
theorem dX6_give_9 : decode cX6_give 9 = .ok (.getfield 12, 3) := by decide +kernel
theorem dX6_give_12 : decode cX6_give 12 = .ok (.iload_n 1, 1) := by decide +kernel
theorem dX6_give_13 : decode cX6_give 13 = .ok (.iload_n 3, 1) := by decide +kernel
theorem dX6_give_14 : decode cX6_give 14 = .ok (.invokevirtual 56, 3) := by decide +kernel
theorem dX6_give_17 : decode cX6_give 17 = .ok (.aload_n 0, 1) := by decide +kernel
theorem dX6_give_18 : decode cX6_give 18 = .ok (.getfield 35, 3) := by decide +kernel
theorem dX6_give_21 : decode cX6_give 21 = .ok (.iload_n 2, 1) := by decide +kernel
theorem dX6_give_22 : decode cX6_give 22 = .ok (.iload_n 3, 1) := by decide +kernel
theorem dX6_give_23 : decode cX6_give 23 = .ok (.invokevirtual 124, 3) := by decide +kernel
theorem dX6_give_26 : decode cX6_give 26 = .ok (.invokestatic 135, 3) := by decide +kernel
theorem dX6_give_29 : decode cX6_give 29 = .ok (.istore 4, 2) := by decide +kernel
theorem dX6_give_31 : decode cX6_give 31 = .ok (.aload_n 0, 1) := by decide +kernel
theorem dX6_give_32 : decode cX6_give 32 = .ok (.getfield 12, 3) := by decide +kernel
theorem dX6_give_35 : decode cX6_give 35 = .ok (.iload_n 1, 1) := by decide +kernel
theorem dX6_give_36 : decode cX6_give 36 = .ok (.iload_n 3, 1) := by decide +kernel
theorem dX6_give_37 : decode cX6_give 37 = .ok (.iload 4, 2) := by decide +kernel
theorem dX6_give_39 : decode cX6_give 39 = .ok (.ineg, 1) := by decide +kernel
theorem dX6_give_40 : decode cX6_give 40 = .ok (.invokevirtual 138, 3) := by decide +kernel
theorem dX6_give_43 : decode cX6_give 43 = .ok (.pop, 1) := by decide +kernel
theorem dX6_give_44 : decode cX6_give 44 = .ok (.aload_n 0, 1) := by decide +kernel
theorem dX6_give_45 : decode cX6_give 45 = .ok (.getfield 35, 3) := by decide +kernel
theorem dX6_give_48 : decode cX6_give 48 = .ok (.getfield 142, 3) := by decide +kernel
theorem dX6_give_51 : decode cX6_give 51 = .ok (.iload_n 2, 1) := by decide +kernel
theorem dX6_give_52 : decode cX6_give 52 = .ok (.bipush 10, 2) := by decide +kernel
theorem dX6_give_54 : decode cX6_give 54 = .ok (.imul, 1) := by decide +kernel
theorem dX6_give_55 : decode cX6_give 55 = .ok (.iload_n 3, 1) := by decide +kernel
theorem dX6_give_56 : decode cX6_give 56 = .ok (.iadd, 1) := by decide +kernel
theorem dX6_give_57 : decode cX6_give 57 = .ok (.dup2, 1) := by decide +kernel
theorem dX6_give_58 : decode cX6_give 58 = .ok (.iaload, 1) := by decide +kernel
theorem dX6_give_59 : decode cX6_give 59 = .ok (.iload 4, 2) := by decide +kernel
theorem dX6_give_61 : decode cX6_give 61 = .ok (.isub, 1) := by decide +kernel
theorem dX6_give_62 : decode cX6_give 62 = .ok (.iastore, 1) := by decide +kernel
theorem dX6_give_63 : decode cX6_give 63 = .ok (.aload_n 0, 1) := by decide +kernel
theorem dX6_give_64 : decode cX6_give 64 = .ok (.getfield 28, 3) := by decide +kernel
theorem dX6_give_67 : decode cX6_give 67 = .ok (.getfield 145, 3) := by decide +kernel
theorem dX6_give_70 : decode cX6_give 70 = .ok (.iload_n 3, 1) := by decide +kernel
theorem dX6_give_71 : decode cX6_give 71 = .ok (.dup2, 1) := by decide +kernel
theorem dX6_give_72 : decode cX6_give 72 = .ok (.iaload, 1) := by decide +kernel
theorem dX6_give_73 : decode cX6_give 73 = .ok (.iload 4, 2) := by decide +kernel
theorem dX6_give_75 : decode cX6_give 75 = .ok (.iadd, 1) := by decide +kernel
theorem dX6_give_76 : decode cX6_give 76 = .ok (.iastore, 1) := by decide +kernel
theorem dX6_give_77 : decode cX6_give 77 = .ok (.iinc 3 1, 3) := by decide +kernel
theorem dX6_give_80 : decode cX6_give 80 = .ok (.goto (-78), 3) := by decide +kernel
theorem dX6_give_83 : decode cX6_give 83 = .ok (.return_, 1) := by decide +kernel
set_option maxRecDepth 20000 in
theorem ggX6_serveOne_X6_choice : GoodIn wsX6_serveOne wsX6_choice := goodIn_r _ [9, 10, 11, 12, 8, 13, 2, 3, 14, 15, 16, 17, 18, 19, 20, 21, 22, 23, 24, 25, 26, 27, 28, 29, 30, 31, 32, 33, 34, 107, 108, 109, 110, 111, 119, 120, 121, 122, 123, 124, 125, 126] rfl (by decide +kernel)
set_option maxRecDepth 20000 in
theorem gX6_serveOne_X6_choice : GoodIn wsX6_serveOne (wsV RX6 151 RX6 yX6_choice wsX6_choice) := goodIn_app (goodIn_r _ [5, 6, 7, 8] rfl (by decide +kernel)) ggX6_serveOne_X6_choice
set_option maxRecDepth 20000 in
theorem ggX6_serveOne_X6_bring : GoodIn wsX6_serveOne wsX6_bring := goodIn_r _ [38, 1, 2, 39, 40, 41, 8, 42, 43, 44, 45, 46, 47, 20, 48, 49, 50, 51, 52, 53, 54, 55, 56, 57, 58, 59, 60, 61, 107, 108, 109, 110, 111, 119, 120, 121, 122, 123, 124, 112, 113, 114, 115, 116, 117, 118] rfl (by decide +kernel)
set_option maxRecDepth 20000 in
theorem gX6_serveOne_X6_bring : GoodIn wsX6_serveOne (wsV RX6 154 RX6 yX6_bring wsX6_bring) := goodIn_app (goodIn_r _ [35, 36, 37, 8] rfl (by decide +kernel)) ggX6_serveOne_X6_bring
set_option maxRecDepth 20000 in
theorem ggX6_serveOne_X6_give : GoodIn wsX6_serveOne wsX6_give := goodIn_r _ [65, 2, 3, 66, 57, 45, 58, 67, 19, 20, 21, 22, 23, 14, 15, 16, 17, 18, 68, 69, 70, 107, 108, 109, 110, 111, 125, 126, 127, 128, 129, 130, 119, 120, 121, 122, 123, 124] rfl (by decide +kernel)
set_option maxRecDepth 20000 in
theorem gX6_serveOne_X6_give : GoodIn wsX6_serveOne (wsV RX6 157 RX6 yX6_give wsX6_give) := goodIn_app (goodIn_r _ [62, 63, 64, 8] rfl (by decide +kernel)) ggX6_serveOne_X6_give
set_option maxRecDepth 20000 in
theorem ggX6_serveOne_X6_putBack : GoodIn wsX6_serveOne wsX6_putBack := goodIn_r _ [74, 2, 1, 75, 20, 76, 77, 78, 79, 80, 81, 82, 83, 84, 85, 86, 87, 88, 89, 90, 91, 92, 93, 94, 95, 96, 97, 8, 98, 47, 48, 49, 50, 51, 52, 53, 54, 55, 56, 57, 45, 58, 59, 60, 61, 107, 108, 109, 110, 111, 119, 120, 121, 122, 123, 124, 112, 113, 114, 115, 116, 117, 118] rfl (by decide +kernel)
set_option maxRecDepth 20000 in
theorem gX6_serveOne_X6_putBack : GoodIn wsX6_serveOne (wsV RX6 161 RX6 yX6_putBack wsX6_putBack) := goodIn_app (goodIn_r _ [71, 72, 73, 8] rfl (by decide +kernel)) ggX6_serveOne_X6_putBack
set_option maxRecDepth 20000 in
theorem ggX6_serveOne_X3_remove : GoodIn wsX6_serveOne wsX3_remove := goodIn_r _ [101, 102, 18, 103, 104, 105, 106, 125, 126] rfl (by decide +kernel)
set_option maxRecDepth 20000 in
theorem gX6_serveOne_X3_remove_n165 : GoodIn wsX6_serveOne (wsX3_remove) := ggX6_serveOne_X3_remove
theorem dX6_serveOne_0 : decode cX6_serveOne 0 = .ok (.aload_n 0, 1) := by decide +kernel
theorem dX6_serveOne_1 : decode cX6_serveOne 1 = .ok (.getfield 21, 3) := by decide +kernel
theorem dX6_serveOne_4 : decode cX6_serveOne 4 = .ok (.getfield 148, 3) := by decide +kernel
theorem dX6_serveOne_7 : decode cX6_serveOne 7 = .ok (.istore_n 2, 1) := by decide +kernel
theorem dX6_serveOne_8 : decode cX6_serveOne 8 = .ok (.aload_n 0, 1) := by decide +kernel
theorem dX6_serveOne_9 : decode cX6_serveOne 9 = .ok (.iload_n 1, 1) := by decide +kernel
theorem dX6_serveOne_10 : decode cX6_serveOne 10 = .ok (.invokevirtual 151, 3) := by decide +kernel
theorem dX6_serveOne_13 : decode cX6_serveOne 13 = .ok (.istore_n 3, 1) := by decide +kernel
theorem dX6_serveOne_14 : decode cX6_serveOne 14 = .ok (.iconst 0, 1) := by decide +kernel
theorem dX6_serveOne_15 : decode cX6_serveOne 15 = .ok (.istore 4, 2) := by decide +kernel
theorem dX6_serveOne_17 : decode cX6_serveOne 17 = .ok (.iload 4, 2) := by decide +kernel
theorem dX6_serveOne_19 : decode cX6_serveOne 19 = .ok (.aload_n 0, 1) := by decide +kernel
theorem dX6_serveOne_20 : decode cX6_serveOne 20 = .ok (.getfield 12, 3) := by decide +kernel
theorem dX6_serveOne_23 : decode cX6_serveOne 23 = .ok (.getfield 64, 3) := by decide +kernel
theorem dX6_serveOne_26 : decode cX6_serveOne 26 = .ok (.if_icmp .ge 37, 3) := by decide +kernel
theorem dX6_serveOne_29 : decode cX6_serveOne 29 = .ok (.iload_n 3, 1) := by decide +kernel
theorem dX6_serveOne_30 : decode cX6_serveOne 30 = .ok (.iload 4, 2) := by decide +kernel
theorem dX6_serveOne_32 : decode cX6_serveOne 32 = .ok (.ishr, 1) := by decide +kernel
theorem dX6_serveOne_33 : decode cX6_serveOne 33 = .ok (.iconst 1, 1) := by decide +kernel
theorem dX6_serveOne_34 : decode cX6_serveOne 34 = .ok (.iand, 1) := by decide +kernel
theorem dX6_serveOne_35 : decode cX6_serveOne 35 = .ok (.ifCond .eq 22, 3) := by decide +kernel
theorem dX6_serveOne_38 : decode cX6_serveOne 38 = .ok (.aload_n 0, 1) := by decide +kernel
theorem dX6_serveOne_39 : decode cX6_serveOne 39 = .ok (.iload 4, 2) := by decide +kernel
theorem dX6_serveOne_41 : decode cX6_serveOne 41 = .ok (.invokevirtual 154, 3) := by decide +kernel
theorem dX6_serveOne_44 : decode cX6_serveOne 44 = .ok (.pop, 1) := by decide +kernel
theorem dX6_serveOne_45 : decode cX6_serveOne 45 = .ok (.aload_n 0, 1) := by decide +kernel
theorem dX6_serveOne_46 : decode cX6_serveOne 46 = .ok (.iload 4, 2) := by decide +kernel
theorem dX6_serveOne_48 : decode cX6_serveOne 48 = .ok (.iload_n 1, 1) := by decide +kernel
theorem dX6_serveOne_49 : decode cX6_serveOne 49 = .ok (.invokevirtual 157, 3) := by decide +kernel
theorem dX6_serveOne_52 : decode cX6_serveOne 52 = .ok (.aload_n 0, 1) := by decide +kernel
theorem dX6_serveOne_53 : decode cX6_serveOne 53 = .ok (.invokevirtual 161, 3) := by decide +kernel
theorem dX6_serveOne_56 : decode cX6_serveOne 56 = .ok (.pop, 1) := by decide +kernel
theorem dX6_serveOne_57 : decode cX6_serveOne 57 = .ok (.iinc 4 1, 3) := by decide +kernel
theorem dX6_serveOne_60 : decode cX6_serveOne 60 = .ok (.goto (-43), 3) := by decide +kernel
theorem dX6_serveOne_63 : decode cX6_serveOne 63 = .ok (.aload_n 0, 1) := by decide +kernel
theorem dX6_serveOne_64 : decode cX6_serveOne 64 = .ok (.getfield 35, 3) := by decide +kernel
theorem dX6_serveOne_67 : decode cX6_serveOne 67 = .ok (.iload_n 1, 1) := by decide +kernel
theorem dX6_serveOne_68 : decode cX6_serveOne 68 = .ok (.invokevirtual 165, 3) := by decide +kernel
theorem dX6_serveOne_71 : decode cX6_serveOne 71 = .ok (.aload_n 0, 1) := by decide +kernel
theorem dX6_serveOne_72 : decode cX6_serveOne 72 = .ok (.dup, 1) := by decide +kernel
theorem dX6_serveOne_73 : decode cX6_serveOne 73 = .ok (.getfield 39, 3) := by decide +kernel
theorem dX6_serveOne_76 : decode cX6_serveOne 76 = .ok (.iconst 1, 1) := by decide +kernel
theorem dX6_serveOne_77 : decode cX6_serveOne 77 = .ok (.iadd, 1) := by decide +kernel
theorem dX6_serveOne_78 : decode cX6_serveOne 78 = .ok (.putfield 39, 3) := by decide +kernel
theorem dX6_serveOne_81 : decode cX6_serveOne 81 = .ok (.aload_n 0, 1) := by decide +kernel
theorem dX6_serveOne_82 : decode cX6_serveOne 82 = .ok (.getfield 21, 3) := by decide +kernel
theorem dX6_serveOne_85 : decode cX6_serveOne 85 = .ok (.getfield 148, 3) := by decide +kernel
theorem dX6_serveOne_88 : decode cX6_serveOne 88 = .ok (.iload_n 2, 1) := by decide +kernel
theorem dX6_serveOne_89 : decode cX6_serveOne 89 = .ok (.isub, 1) := by decide +kernel
theorem dX6_serveOne_90 : decode cX6_serveOne 90 = .ok (.ireturn, 1) := by decide +kernel
set_option maxRecDepth 20000 in
theorem ggX6_firstServable_X6_isServable : GoodIn wsX6_firstServable wsX6_isServable := goodIn_r _ [6, 7, 8, 9, 10, 5, 11, 1, 12, 13, 14, 15, 16, 17, 18, 19, 20, 21, 22, 23, 24, 25, 26, 29, 30, 31, 32, 33, 34, 27, 28] rfl (by decide +kernel)
set_option maxRecDepth 20000 in
theorem gX6_firstServable_X6_isServable : GoodIn wsX6_firstServable (wsV RX6 170 RX6 yX6_isServable wsX6_isServable) := goodIn_app (goodIn_r _ [2, 3, 4, 5] rfl (by decide +kernel)) ggX6_firstServable_X6_isServable
theorem dX6_firstServable_0 : decode cX6_firstServable 0 = .ok (.iconst 0, 1) := by decide +kernel
theorem dX6_firstServable_1 : decode cX6_firstServable 1 = .ok (.istore_n 1, 1) := by decide +kernel
theorem dX6_firstServable_2 : decode cX6_firstServable 2 = .ok (.iload_n 1, 1) := by decide +kernel
theorem dX6_firstServable_3 : decode cX6_firstServable 3 = .ok (.aload_n 0, 1) := by decide +kernel
theorem dX6_firstServable_4 : decode cX6_firstServable 4 = .ok (.getfield 35, 3) := by decide +kernel
theorem dX6_firstServable_7 : decode cX6_firstServable 7 = .ok (.getfield 169, 3) := by decide +kernel
theorem dX6_firstServable_10 : decode cX6_firstServable 10 = .ok (.if_icmp .ge 19, 3) := by decide +kernel
theorem dX6_firstServable_13 : decode cX6_firstServable 13 = .ok (.aload_n 0, 1) := by decide +kernel
theorem dX6_firstServable_14 : decode cX6_firstServable 14 = .ok (.iload_n 1, 1) := by decide +kernel
theorem dX6_firstServable_15 : decode cX6_firstServable 15 = .ok (.invokevirtual 170, 3) := by decide +kernel
theorem dX6_firstServable_18 : decode cX6_firstServable 18 = .ok (.ifCond .eq 5, 3) := by decide +kernel
theorem dX6_firstServable_21 : decode cX6_firstServable 21 = .ok (.iload_n 1, 1) := by decide +kernel
theorem dX6_firstServable_22 : decode cX6_firstServable 22 = .ok (.ireturn, 1) := by decide +kernel
theorem dX6_firstServable_23 : decode cX6_firstServable 23 = .ok (.iinc 1 1, 3) := by decide +kernel
theorem dX6_firstServable_26 : decode cX6_firstServable 26 = .ok (.goto (-24), 3) := by decide +kernel
theorem dX6_firstServable_29 : decode cX6_firstServable 29 = .ok (.iconst (-1), 1) := by decide +kernel
theorem dX6_firstServable_30 : decode cX6_firstServable 30 = .ok (.ireturn, 1) := by decide +kernel
set_option maxRecDepth 20000 in
theorem ggX6_serveEach_X6_firstServable : GoodIn wsX6_serveEach wsX6_firstServable := goodIn_r _ [5, 6, 7, 8, 9, 4, 10, 11, 12, 13, 14, 15, 16, 17, 18, 19, 20, 21, 22, 23, 24, 25, 119, 120, 121, 122, 123, 124, 125, 126, 127, 128, 129, 130, 131] rfl (by decide +kernel)
set_option maxRecDepth 20000 in
theorem gX6_serveEach_X6_firstServable : GoodIn wsX6_serveEach (wsV RX6 174 RX6 yX6_firstServable wsX6_firstServable) := goodIn_app (goodIn_r _ [1, 2, 3, 4] rfl (by decide +kernel)) ggX6_serveEach_X6_firstServable
set_option maxRecDepth 20000 in
theorem ggX6_serveEach_X6_serveOne : GoodIn wsX6_serveEach wsX6_serveOne := goodIn_r _ [29, 30, 11, 6, 31, 32, 33, 34, 4, 35, 36, 37, 38, 39, 16, 17, 18, 19, 20, 21, 22, 23, 24, 25, 40, 41, 42, 43, 44, 45, 46, 12, 13, 14, 15, 47, 48, 49, 50, 51, 52, 53, 54, 55, 56, 57, 58, 59, 60, 61, 62, 63, 64, 65, 66, 67, 68, 69, 70, 71, 72, 73, 74, 75, 76, 77, 78, 79, 80, 81, 82, 83, 84, 85, 86, 87, 88, 89, 90, 91, 92, 93, 94, 95, 96, 97, 98, 99, 100, 101, 102, 103, 104, 105, 106, 107, 108, 109, 110, 111, 112, 113, 114, 115, 116, 117, 118, 119, 120, 121, 122, 123, 132, 133, 134, 135, 136, 137, 138, 126, 127, 128, 129, 130, 131, 124, 125, 139, 140, 141, 142] rfl (by decide +kernel)
set_option maxRecDepth 20000 in
theorem gX6_serveEach_X6_serveOne : GoodIn wsX6_serveEach (wsV RX6 177 RX6 yX6_serveOne wsX6_serveOne) := goodIn_app (goodIn_r _ [26, 27, 28, 4] rfl (by decide +kernel)) ggX6_serveEach_X6_serveOne
theorem dX6_serveEach_0 : decode cX6_serveEach 0 = .ok (.iconst 0, 1) := by decide +kernel
theorem dX6_serveEach_1 : decode cX6_serveEach 1 = .ok (.istore_n 1, 1) := by decide +kernel
theorem dX6_serveEach_2 : decode cX6_serveEach 2 = .ok (.iconst 0, 1) := by decide +kernel
theorem dX6_serveEach_3 : decode cX6_serveEach 3 = .ok (.istore_n 2, 1) := by decide +kernel
theorem dX6_serveEach_4 : decode cX6_serveEach 4 = .ok (.iload_n 2, 1) := by decide +kernel
theorem dX6_serveEach_5 : decode cX6_serveEach 5 = .ok (.bipush 8, 2) := by decide +kernel
theorem dX6_serveEach_7 : decode cX6_serveEach 7 = .ok (.if_icmp .ge 29, 3) := by decide +kernel
theorem dX6_serveEach_10 : decode cX6_serveEach 10 = .ok (.aload_n 0, 1) := by decide +kernel
theorem dX6_serveEach_11 : decode cX6_serveEach 11 = .ok (.invokevirtual 174, 3) := by decide +kernel
theorem dX6_serveEach_14 : decode cX6_serveEach 14 = .ok (.istore_n 3, 1) := by decide +kernel
theorem dX6_serveEach_15 : decode cX6_serveEach 15 = .ok (.iload_n 3, 1) := by decide +kernel
theorem dX6_serveEach_16 : decode cX6_serveEach 16 = .ok (.iconst (-1), 1) := by decide +kernel
theorem dX6_serveEach_17 : decode cX6_serveEach 17 = .ok (.if_icmp .ne 5, 3) := by decide +kernel
theorem dX6_serveEach_20 : decode cX6_serveEach 20 = .ok (.iload_n 1, 1) := by decide +kernel
theorem dX6_serveEach_21 : decode cX6_serveEach 21 = .ok (.ireturn, 1) := by decide +kernel
theorem dX6_serveEach_22 : decode cX6_serveEach 22 = .ok (.iload_n 1, 1) := by decide +kernel
theorem dX6_serveEach_23 : decode cX6_serveEach 23 = .ok (.aload_n 0, 1) := by decide +kernel
theorem dX6_serveEach_24 : decode cX6_serveEach 24 = .ok (.iload_n 3, 1) := by decide +kernel
theorem dX6_serveEach_25 : decode cX6_serveEach 25 = .ok (.invokevirtual 177, 3) := by decide +kernel
theorem dX6_serveEach_28 : decode cX6_serveEach 28 = .ok (.iadd, 1) := by decide +kernel
theorem dX6_serveEach_29 : decode cX6_serveEach 29 = .ok (.istore_n 1, 1) := by decide +kernel
theorem dX6_serveEach_30 : decode cX6_serveEach 30 = .ok (.iinc 2 1, 3) := by decide +kernel
theorem dX6_serveEach_33 : decode cX6_serveEach 33 = .ok (.goto (-29), 3) := by decide +kernel
theorem dX6_serveEach_36 : decode cX6_serveEach 36 = .ok (.iload_n 1, 1) := by decide +kernel
theorem dX6_serveEach_37 : decode cX6_serveEach 37 = .ok (.ireturn, 1) := by decide +kernel
theorem dX7_init_0 : decode cX7_init 0 = .ok (.aload_n 0, 1) := by decide +kernel
theorem dX7_init_1 : decode cX7_init 1 = .ok (.invokespecial 3, 3) := by decide +kernel
theorem dX7_init_4 : decode cX7_init 4 = .ok (.aload_n 0, 1) := by decide +kernel
theorem dX7_init_5 : decode cX7_init 5 = .ok (.iconst 0, 1) := by decide +kernel
theorem dX7_init_6 : decode cX7_init 6 = .ok (.putfield 9, 3) := by decide +kernel
theorem dX7_init_9 : decode cX7_init 9 = .ok (.aload_n 0, 1) := by decide +kernel
theorem dX7_init_10 : decode cX7_init 10 = .ok (.iconst (-1), 1) := by decide +kernel
theorem dX7_init_11 : decode cX7_init 11 = .ok (.putfield 15, 3) := by decide +kernel
theorem dX7_init_14 : decode cX7_init 14 = .ok (.aload_n 0, 1) := by decide +kernel
theorem dX7_init_15 : decode cX7_init 15 = .ok (.bipush 12, 2) := by decide +kernel
theorem dX7_init_17 : decode cX7_init 17 = .ok (.newarray .int, 2) := by decide +kernel
theorem dX7_init_19 : decode cX7_init 19 = .ok (.putfield 18, 3) := by decide +kernel
theorem dX7_init_22 : decode cX7_init 22 = .ok (.aload_n 0, 1) := by decide +kernel
theorem dX7_init_23 : decode cX7_init 23 = .ok (.bipush 12, 2) := by decide +kernel
theorem dX7_init_25 : decode cX7_init 25 = .ok (.newarray .int, 2) := by decide +kernel
theorem dX7_init_27 : decode cX7_init 27 = .ok (.putfield 22, 3) := by decide +kernel
theorem dX7_init_30 : decode cX7_init 30 = .ok (.aload_n 0, 1) := by decide +kernel
theorem dX7_init_31 : decode cX7_init 31 = .ok (.bipush 12, 2) := by decide +kernel
theorem dX7_init_33 : decode cX7_init 33 = .ok (.newarray .int, 2) := by decide +kernel
theorem dX7_init_35 : decode cX7_init 35 = .ok (.putfield 25, 3) := by decide +kernel
theorem dX7_init_38 : decode cX7_init 38 = .ok (.aload_n 0, 1) := by decide +kernel
theorem dX7_init_39 : decode cX7_init 39 = .ok (.bipush 120, 2) := by decide +kernel
theorem dX7_init_41 : decode cX7_init 41 = .ok (.newarray .int, 2) := by decide +kernel
theorem dX7_init_43 : decode cX7_init 43 = .ok (.putfield 28, 3) := by decide +kernel
theorem dX7_init_46 : decode cX7_init 46 = .ok (.return_, 1) := by decide +kernel
theorem dX7_copyFrom_0 : decode cX7_copyFrom 0 = .ok (.aload_n 0, 1) := by decide +kernel
theorem dX7_copyFrom_1 : decode cX7_copyFrom 1 = .ok (.aload_n 1, 1) := by decide +kernel
theorem dX7_copyFrom_2 : decode cX7_copyFrom 2 = .ok (.getfield 9, 3) := by decide +kernel
theorem dX7_copyFrom_5 : decode cX7_copyFrom 5 = .ok (.putfield 9, 3) := by decide +kernel
theorem dX7_copyFrom_8 : decode cX7_copyFrom 8 = .ok (.aload_n 0, 1) := by decide +kernel
theorem dX7_copyFrom_9 : decode cX7_copyFrom 9 = .ok (.aload_n 1, 1) := by decide +kernel
theorem dX7_copyFrom_10 : decode cX7_copyFrom 10 = .ok (.getfield 15, 3) := by decide +kernel
theorem dX7_copyFrom_13 : decode cX7_copyFrom 13 = .ok (.putfield 15, 3) := by decide +kernel
theorem dX7_copyFrom_16 : decode cX7_copyFrom 16 = .ok (.aload_n 1, 1) := by decide +kernel
theorem dX7_copyFrom_17 : decode cX7_copyFrom 17 = .ok (.getfield 18, 3) := by decide +kernel
theorem dX7_copyFrom_20 : decode cX7_copyFrom 20 = .ok (.iconst 0, 1) := by decide +kernel
theorem dX7_copyFrom_21 : decode cX7_copyFrom 21 = .ok (.aload_n 0, 1) := by decide +kernel
theorem dX7_copyFrom_22 : decode cX7_copyFrom 22 = .ok (.getfield 18, 3) := by decide +kernel
theorem dX7_copyFrom_25 : decode cX7_copyFrom 25 = .ok (.iconst 0, 1) := by decide +kernel
theorem dX7_copyFrom_26 : decode cX7_copyFrom 26 = .ok (.bipush 12, 2) := by decide +kernel
theorem dX7_copyFrom_28 : decode cX7_copyFrom 28 = .ok (.invokestatic 31, 3) := by decide +kernel
theorem dX7_copyFrom_31 : decode cX7_copyFrom 31 = .ok (.aload_n 1, 1) := by decide +kernel
theorem dX7_copyFrom_32 : decode cX7_copyFrom 32 = .ok (.getfield 22, 3) := by decide +kernel
theorem dX7_copyFrom_35 : decode cX7_copyFrom 35 = .ok (.iconst 0, 1) := by decide +kernel
theorem dX7_copyFrom_36 : decode cX7_copyFrom 36 = .ok (.aload_n 0, 1) := by decide +kernel
theorem dX7_copyFrom_37 : decode cX7_copyFrom 37 = .ok (.getfield 22, 3) := by decide +kernel
theorem dX7_copyFrom_40 : decode cX7_copyFrom 40 = .ok (.iconst 0, 1) := by decide +kernel
theorem dX7_copyFrom_41 : decode cX7_copyFrom 41 = .ok (.bipush 12, 2) := by decide +kernel
theorem dX7_copyFrom_43 : decode cX7_copyFrom 43 = .ok (.invokestatic 31, 3) := by decide +kernel
theorem dX7_copyFrom_46 : decode cX7_copyFrom 46 = .ok (.aload_n 1, 1) := by decide +kernel
theorem dX7_copyFrom_47 : decode cX7_copyFrom 47 = .ok (.getfield 25, 3) := by decide +kernel
theorem dX7_copyFrom_50 : decode cX7_copyFrom 50 = .ok (.iconst 0, 1) := by decide +kernel
theorem dX7_copyFrom_51 : decode cX7_copyFrom 51 = .ok (.aload_n 0, 1) := by decide +kernel
theorem dX7_copyFrom_52 : decode cX7_copyFrom 52 = .ok (.getfield 25, 3) := by decide +kernel
theorem dX7_copyFrom_55 : decode cX7_copyFrom 55 = .ok (.iconst 0, 1) := by decide +kernel
theorem dX7_copyFrom_56 : decode cX7_copyFrom 56 = .ok (.bipush 12, 2) := by decide +kernel
theorem dX7_copyFrom_58 : decode cX7_copyFrom 58 = .ok (.invokestatic 31, 3) := by decide +kernel
theorem dX7_copyFrom_61 : decode cX7_copyFrom 61 = .ok (.aload_n 1, 1) := by decide +kernel
theorem dX7_copyFrom_62 : decode cX7_copyFrom 62 = .ok (.getfield 28, 3) := by decide +kernel
theorem dX7_copyFrom_65 : decode cX7_copyFrom 65 = .ok (.iconst 0, 1) := by decide +kernel
theorem dX7_copyFrom_66 : decode cX7_copyFrom 66 = .ok (.aload_n 0, 1) := by decide +kernel
theorem dX7_copyFrom_67 : decode cX7_copyFrom 67 = .ok (.getfield 28, 3) := by decide +kernel
theorem dX7_copyFrom_70 : decode cX7_copyFrom 70 = .ok (.iconst 0, 1) := by decide +kernel
theorem dX7_copyFrom_71 : decode cX7_copyFrom 71 = .ok (.bipush 120, 2) := by decide +kernel
theorem dX7_copyFrom_73 : decode cX7_copyFrom 73 = .ok (.invokestatic 31, 3) := by decide +kernel
theorem dX7_copyFrom_76 : decode cX7_copyFrom 76 = .ok (.return_, 1) := by decide +kernel
theorem dX7_addAt_0 : decode cX7_addAt 0 = .ok (.aload_n 0, 1) := by decide +kernel
theorem dX7_addAt_1 : decode cX7_addAt 1 = .ok (.getfield 9, 3) := by decide +kernel
theorem dX7_addAt_4 : decode cX7_addAt 4 = .ok (.istore_n 3, 1) := by decide +kernel
theorem dX7_addAt_5 : decode cX7_addAt 5 = .ok (.aload_n 0, 1) := by decide +kernel
theorem dX7_addAt_6 : decode cX7_addAt 6 = .ok (.getfield 18, 3) := by decide +kernel
theorem dX7_addAt_9 : decode cX7_addAt 9 = .ok (.iload_n 3, 1) := by decide +kernel
theorem dX7_addAt_10 : decode cX7_addAt 10 = .ok (.iload_n 2, 1) := by decide +kernel
theorem dX7_addAt_11 : decode cX7_addAt 11 = .ok (.iastore, 1) := by decide +kernel
theorem dX7_addAt_12 : decode cX7_addAt 12 = .ok (.aload_n 0, 1) := by decide +kernel
theorem dX7_addAt_13 : decode cX7_addAt 13 = .ok (.getfield 22, 3) := by decide +kernel
theorem dX7_addAt_16 : decode cX7_addAt 16 = .ok (.iload_n 3, 1) := by decide +kernel
theorem dX7_addAt_17 : decode cX7_addAt 17 = .ok (.iload_n 1, 1) := by decide +kernel
theorem dX7_addAt_18 : decode cX7_addAt 18 = .ok (.iastore, 1) := by decide +kernel
theorem dX7_addAt_19 : decode cX7_addAt 19 = .ok (.aload_n 0, 1) := by decide +kernel
theorem dX7_addAt_20 : decode cX7_addAt 20 = .ok (.getfield 25, 3) := by decide +kernel
theorem dX7_addAt_23 : decode cX7_addAt 23 = .ok (.iload_n 3, 1) := by decide +kernel
theorem dX7_addAt_24 : decode cX7_addAt 24 = .ok (.iconst 0, 1) := by decide +kernel
theorem dX7_addAt_25 : decode cX7_addAt 25 = .ok (.iastore, 1) := by decide +kernel
theorem dX7_addAt_26 : decode cX7_addAt 26 = .ok (.iconst 0, 1) := by decide +kernel
theorem dX7_addAt_27 : decode cX7_addAt 27 = .ok (.istore 4, 2) := by decide +kernel
theorem dX7_addAt_29 : decode cX7_addAt 29 = .ok (.iload 4, 2) := by decide +kernel
theorem dX7_addAt_31 : decode cX7_addAt 31 = .ok (.bipush 10, 2) := by decide +kernel
theorem dX7_addAt_33 : decode cX7_addAt 33 = .ok (.if_icmp .ge 22, 3) := by decide +kernel
theorem dX7_addAt_36 : decode cX7_addAt 36 = .ok (.aload_n 0, 1) := by decide +kernel
theorem dX7_addAt_37 : decode cX7_addAt 37 = .ok (.getfield 28, 3) := by decide +kernel
theorem dX7_addAt_40 : decode cX7_addAt 40 = .ok (.iload_n 3, 1) := by decide +kernel
theorem dX7_addAt_41 : decode cX7_addAt 41 = .ok (.bipush 10, 2) := by decide +kernel
theorem dX7_addAt_43 : decode cX7_addAt 43 = .ok (.imul, 1) := by decide +kernel
theorem dX7_addAt_44 : decode cX7_addAt 44 = .ok (.iload 4, 2) := by decide +kernel
theorem dX7_addAt_46 : decode cX7_addAt 46 = .ok (.iadd, 1) := by decide +kernel
theorem dX7_addAt_47 : decode cX7_addAt 47 = .ok (.iconst 0, 1) := by decide +kernel
theorem dX7_addAt_48 : decode cX7_addAt 48 = .ok (.iastore, 1) := by decide +kernel
theorem dX7_addAt_49 : decode cX7_addAt 49 = .ok (.iinc 4 1, 3) := by decide +kernel
theorem dX7_addAt_52 : decode cX7_addAt 52 = .ok (.goto (-23), 3) := by decide +kernel
theorem dX7_addAt_55 : decode cX7_addAt 55 = .ok (.aload_n 0, 1) := by decide +kernel
theorem dX7_addAt_56 : decode cX7_addAt 56 = .ok (.dup, 1) := by decide +kernel
theorem dX7_addAt_57 : decode cX7_addAt 57 = .ok (.getfield 9, 3) := by decide +kernel
theorem dX7_addAt_60 : decode cX7_addAt 60 = .ok (.iconst 1, 1) := by decide +kernel
theorem dX7_addAt_61 : decode cX7_addAt 61 = .ok (.iadd, 1) := by decide +kernel
theorem dX7_addAt_62 : decode cX7_addAt 62 = .ok (.putfield 9, 3) := by decide +kernel
theorem dX7_addAt_65 : decode cX7_addAt 65 = .ok (.iload_n 3, 1) := by decide +kernel
theorem dX7_addAt_66 : decode cX7_addAt 66 = .ok (.ireturn, 1) := by decide +kernel
theorem dX7_remove_0 : decode cX7_remove 0 = .ok (.iload_n 1, 1) := by decide +kernel
theorem dX7_remove_1 : decode cX7_remove 1 = .ok (.iconst 1, 1) := by decide +kernel
theorem dX7_remove_2 : decode cX7_remove 2 = .ok (.iadd, 1) := by decide +kernel
theorem dX7_remove_3 : decode cX7_remove 3 = .ok (.istore_n 2, 1) := by decide +kernel
theorem dX7_remove_4 : decode cX7_remove 4 = .ok (.iload_n 2, 1) := by decide +kernel
theorem dX7_remove_5 : decode cX7_remove 5 = .ok (.aload_n 0, 1) := by decide +kernel
theorem dX7_remove_6 : decode cX7_remove 6 = .ok (.getfield 9, 3) := by decide +kernel
theorem dX7_remove_9 : decode cX7_remove 9 = .ok (.if_icmp .ge 74, 3) := by decide +kernel
theorem dX7_remove_12 : decode cX7_remove 12 = .ok (.aload_n 0, 1) := by decide +kernel
theorem dX7_remove_13 : decode cX7_remove 13 = .ok (.getfield 18, 3) := by decide +kernel
theorem dX7_remove_16 : decode cX7_remove 16 = .ok (.iload_n 2, 1) := by decide +kernel
theorem dX7_remove_17 : decode cX7_remove 17 = .ok (.iconst 1, 1) := by decide +kernel
theorem dX7_remove_18 : decode cX7_remove 18 = .ok (.isub, 1) := by decide +kernel
theorem dX7_remove_19 : decode cX7_remove 19 = .ok (.aload_n 0, 1) := by decide +kernel
theorem dX7_remove_20 : decode cX7_remove 20 = .ok (.getfield 18, 3) := by decide +kernel
theorem dX7_remove_23 : decode cX7_remove 23 = .ok (.iload_n 2, 1) := by decide +kernel
theorem dX7_remove_24 : decode cX7_remove 24 = .ok (.iaload, 1) := by decide +kernel
theorem dX7_remove_25 : decode cX7_remove 25 = .ok (.iastore, 1) := by decide +kernel
theorem dX7_remove_26 : decode cX7_remove 26 = .ok (.aload_n 0, 1) := by decide +kernel
theorem dX7_remove_27 : decode cX7_remove 27 = .ok (.getfield 22, 3) := by decide +kernel
theorem dX7_remove_30 : decode cX7_remove 30 = .ok (.iload_n 2, 1) := by decide +kernel
theorem dX7_remove_31 : decode cX7_remove 31 = .ok (.iconst 1, 1) := by decide +kernel
theorem dX7_remove_32 : decode cX7_remove 32 = .ok (.isub, 1) := by decide +kernel
theorem dX7_remove_33 : decode cX7_remove 33 = .ok (.aload_n 0, 1) := by decide +kernel
theorem dX7_remove_34 : decode cX7_remove 34 = .ok (.getfield 22, 3) := by decide +kernel
theorem dX7_remove_37 : decode cX7_remove 37 = .ok (.iload_n 2, 1) := by decide +kernel
theorem dX7_remove_38 : decode cX7_remove 38 = .ok (.iaload, 1) := by decide +kernel
theorem dX7_remove_39 : decode cX7_remove 39 = .ok (.iastore, 1) := by decide +kernel
theorem dX7_remove_40 : decode cX7_remove 40 = .ok (.aload_n 0, 1) := by decide +kernel
theorem dX7_remove_41 : decode cX7_remove 41 = .ok (.getfield 25, 3) := by decide +kernel
theorem dX7_remove_44 : decode cX7_remove 44 = .ok (.iload_n 2, 1) := by decide +kernel
theorem dX7_remove_45 : decode cX7_remove 45 = .ok (.iconst 1, 1) := by decide +kernel
theorem dX7_remove_46 : decode cX7_remove 46 = .ok (.isub, 1) := by decide +kernel
theorem dX7_remove_47 : decode cX7_remove 47 = .ok (.aload_n 0, 1) := by decide +kernel
theorem dX7_remove_48 : decode cX7_remove 48 = .ok (.getfield 25, 3) := by decide +kernel
theorem dX7_remove_51 : decode cX7_remove 51 = .ok (.iload_n 2, 1) := by decide +kernel
theorem dX7_remove_52 : decode cX7_remove 52 = .ok (.iaload, 1) := by decide +kernel
theorem dX7_remove_53 : decode cX7_remove 53 = .ok (.iastore, 1) := by decide +kernel
theorem dX7_remove_54 : decode cX7_remove 54 = .ok (.aload_n 0, 1) := by decide +kernel
theorem dX7_remove_55 : decode cX7_remove 55 = .ok (.getfield 28, 3) := by decide +kernel
theorem dX7_remove_58 : decode cX7_remove 58 = .ok (.iload_n 2, 1) := by decide +kernel
theorem dX7_remove_59 : decode cX7_remove 59 = .ok (.bipush 10, 2) := by decide +kernel
theorem dX7_remove_61 : decode cX7_remove 61 = .ok (.imul, 1) := by decide +kernel
theorem dX7_remove_62 : decode cX7_remove 62 = .ok (.aload_n 0, 1) := by decide +kernel
theorem dX7_remove_63 : decode cX7_remove 63 = .ok (.getfield 28, 3) := by decide +kernel
theorem dX7_remove_66 : decode cX7_remove 66 = .ok (.iload_n 2, 1) := by decide +kernel
theorem dX7_remove_67 : decode cX7_remove 67 = .ok (.iconst 1, 1) := by decide +kernel
theorem dX7_remove_68 : decode cX7_remove 68 = .ok (.isub, 1) := by decide +kernel
theorem dX7_remove_69 : decode cX7_remove 69 = .ok (.bipush 10, 2) := by decide +kernel
theorem dX7_remove_71 : decode cX7_remove 71 = .ok (.imul, 1) := by decide +kernel
theorem dX7_remove_72 : decode cX7_remove 72 = .ok (.bipush 10, 2) := by decide +kernel
theorem dX7_remove_74 : decode cX7_remove 74 = .ok (.invokestatic 31, 3) := by decide +kernel
theorem dX7_remove_77 : decode cX7_remove 77 = .ok (.iinc 2 1, 3) := by decide +kernel
theorem dX7_remove_80 : decode cX7_remove 80 = .ok (.goto (-76), 3) := by decide +kernel
theorem dX7_remove_83 : decode cX7_remove 83 = .ok (.aload_n 0, 1) := by decide +kernel
theorem dX7_remove_84 : decode cX7_remove 84 = .ok (.dup, 1) := by decide +kernel
theorem dX7_remove_85 : decode cX7_remove 85 = .ok (.getfield 9, 3) := by decide +kernel
theorem dX7_remove_88 : decode cX7_remove 88 = .ok (.iconst 1, 1) := by decide +kernel
theorem dX7_remove_89 : decode cX7_remove 89 = .ok (.isub, 1) := by decide +kernel
theorem dX7_remove_90 : decode cX7_remove 90 = .ok (.putfield 9, 3) := by decide +kernel
theorem dX7_remove_93 : decode cX7_remove 93 = .ok (.aload_n 0, 1) := by decide +kernel
theorem dX7_remove_94 : decode cX7_remove 94 = .ok (.getfield 15, 3) := by decide +kernel
theorem dX7_remove_97 : decode cX7_remove 97 = .ok (.iload_n 1, 1) := by decide +kernel
theorem dX7_remove_98 : decode cX7_remove 98 = .ok (.if_icmp .le 13, 3) := by decide +kernel
theorem dX7_remove_101 : decode cX7_remove 101 = .ok (.aload_n 0, 1) := by decide +kernel
theorem dX7_remove_102 : decode cX7_remove 102 = .ok (.dup, 1) := by decide +kernel
theorem dX7_remove_103 : decode cX7_remove 103 = .ok (.getfield 15, 3) := by decide +kernel
theorem dX7_remove_106 : decode cX7_remove 106 = .ok (.iconst 1, 1) := by decide +kernel
theorem dX7_remove_107 : decode cX7_remove 107 = .ok (.isub, 1) := by decide +kernel
theorem dX7_remove_108 : decode cX7_remove 108 = .ok (.putfield 15, 3) := by decide +kernel
theorem dX7_remove_111 : decode cX7_remove 111 = .ok (.return_, 1) := by decide +kernel
theorem dX7_countIn_0 : decode cX7_countIn 0 = .ok (.aload_n 0, 1) := by decide +kernel
theorem dX7_countIn_1 : decode cX7_countIn 1 = .ok (.getfield 28, 3) := by decide +kernel
theorem dX7_countIn_4 : decode cX7_countIn 4 = .ok (.iload_n 1, 1) := by decide +kernel
theorem dX7_countIn_5 : decode cX7_countIn 5 = .ok (.bipush 10, 2) := by decide +kernel
theorem dX7_countIn_7 : decode cX7_countIn 7 = .ok (.imul, 1) := by decide +kernel
theorem dX7_countIn_8 : decode cX7_countIn 8 = .ok (.iload_n 2, 1) := by decide +kernel
theorem dX7_countIn_9 : decode cX7_countIn 9 = .ok (.iadd, 1) := by decide +kernel
theorem dX7_countIn_10 : decode cX7_countIn 10 = .ok (.iaload, 1) := by decide +kernel
theorem dX7_countIn_11 : decode cX7_countIn 11 = .ok (.ireturn, 1) := by decide +kernel
theorem dX7_change_0 : decode cX7_change 0 = .ok (.aload_n 0, 1) := by decide +kernel
theorem dX7_change_1 : decode cX7_change 1 = .ok (.getfield 28, 3) := by decide +kernel
theorem dX7_change_4 : decode cX7_change 4 = .ok (.iload_n 1, 1) := by decide +kernel
theorem dX7_change_5 : decode cX7_change 5 = .ok (.bipush 10, 2) := by decide +kernel
theorem dX7_change_7 : decode cX7_change 7 = .ok (.imul, 1) := by decide +kernel
theorem dX7_change_8 : decode cX7_change 8 = .ok (.iload_n 2, 1) := by decide +kernel
theorem dX7_change_9 : decode cX7_change 9 = .ok (.iadd, 1) := by decide +kernel
theorem dX7_change_10 : decode cX7_change 10 = .ok (.dup2, 1) := by decide +kernel
theorem dX7_change_11 : decode cX7_change 11 = .ok (.iaload, 1) := by decide +kernel
theorem dX7_change_12 : decode cX7_change 12 = .ok (.iload_n 3, 1) := by decide +kernel
theorem dX7_change_13 : decode cX7_change 13 = .ok (.iadd, 1) := by decide +kernel
theorem dX7_change_14 : decode cX7_change 14 = .ok (.iastore, 1) := by decide +kernel
theorem dX7_change_15 : decode cX7_change 15 = .ok (.aload_n 0, 1) := by decide +kernel
theorem dX7_change_16 : decode cX7_change 16 = .ok (.getfield 28, 3) := by decide +kernel
theorem dX7_change_19 : decode cX7_change 19 = .ok (.iload_n 1, 1) := by decide +kernel
theorem dX7_change_20 : decode cX7_change 20 = .ok (.bipush 10, 2) := by decide +kernel
theorem dX7_change_22 : decode cX7_change 22 = .ok (.imul, 1) := by decide +kernel
theorem dX7_change_23 : decode cX7_change 23 = .ok (.iload_n 2, 1) := by decide +kernel
theorem dX7_change_24 : decode cX7_change 24 = .ok (.iadd, 1) := by decide +kernel
theorem dX7_change_25 : decode cX7_change 25 = .ok (.iaload, 1) := by decide +kernel
theorem dX7_change_26 : decode cX7_change 26 = .ok (.ireturn, 1) := by decide +kernel
set_option maxRecDepth 20000 in
theorem ggX7_isEmpty_X7_countIn : GoodIn wsX7_isEmpty wsX7_countIn := goodIn_r _ [5, 6, 7, 8, 9, 10, 11, 12] rfl (by decide +kernel)
set_option maxRecDepth 20000 in
theorem gX7_isEmpty_X7_countIn : GoodIn wsX7_isEmpty (wsV RX7 37 RX7 yX7_countIn wsX7_countIn) := goodIn_app (goodIn_r _ [1, 2, 3, 4] rfl (by decide +kernel)) ggX7_isEmpty_X7_countIn
theorem dX7_isEmpty_0 : decode cX7_isEmpty 0 = .ok (.iconst 0, 1) := by decide +kernel
theorem dX7_isEmpty_1 : decode cX7_isEmpty 1 = .ok (.istore_n 2, 1) := by decide +kernel
theorem dX7_isEmpty_2 : decode cX7_isEmpty 2 = .ok (.iload_n 2, 1) := by decide +kernel
theorem dX7_isEmpty_3 : decode cX7_isEmpty 3 = .ok (.bipush 10, 2) := by decide +kernel
theorem dX7_isEmpty_5 : decode cX7_isEmpty 5 = .ok (.if_icmp .ge 20, 3) := by decide +kernel
theorem dX7_isEmpty_8 : decode cX7_isEmpty 8 = .ok (.aload_n 0, 1) := by decide +kernel
theorem dX7_isEmpty_9 : decode cX7_isEmpty 9 = .ok (.iload_n 1, 1) := by decide +kernel
theorem dX7_isEmpty_10 : decode cX7_isEmpty 10 = .ok (.iload_n 2, 1) := by decide +kernel
theorem dX7_isEmpty_11 : decode cX7_isEmpty 11 = .ok (.invokevirtual 37, 3) := by decide +kernel
theorem dX7_isEmpty_14 : decode cX7_isEmpty 14 = .ok (.ifCond .le 5, 3) := by decide +kernel
theorem dX7_isEmpty_17 : decode cX7_isEmpty 17 = .ok (.iconst 0, 1) := by decide +kernel
theorem dX7_isEmpty_18 : decode cX7_isEmpty 18 = .ok (.ireturn, 1) := by decide +kernel
theorem dX7_isEmpty_19 : decode cX7_isEmpty 19 = .ok (.iinc 2 1, 3) := by decide +kernel
theorem dX7_isEmpty_22 : decode cX7_isEmpty 22 = .ok (.goto (-20), 3) := by decide +kernel
theorem dX7_isEmpty_25 : decode cX7_isEmpty 25 = .ok (.iconst 1, 1) := by decide +kernel
theorem dX7_isEmpty_26 : decode cX7_isEmpty 26 = .ok (.ireturn, 1) := by decide +kernel
set_option maxRecDepth 20000 in
theorem ggX7_stockOf_X7_countIn : GoodIn wsX7_stockOf wsX7_countIn := goodIn_r _ [6, 7, 8, 9, 10, 11, 12, 13] rfl (by decide +kernel)
set_option maxRecDepth 20000 in
theorem gX7_stockOf_X7_countIn : GoodIn wsX7_stockOf (wsV RX7 37 RX7 yX7_countIn wsX7_countIn) := goodIn_app (goodIn_r _ [2, 3, 4, 5] rfl (by decide +kernel)) ggX7_stockOf_X7_countIn
theorem dX7_stockOf_0 : decode cX7_stockOf 0 = .ok (.iconst 0, 1) := by decide +kernel
theorem dX7_stockOf_1 : decode cX7_stockOf 1 = .ok (.istore_n 2, 1) := by decide +kernel
theorem dX7_stockOf_2 : decode cX7_stockOf 2 = .ok (.iconst 0, 1) := by decide +kernel
theorem dX7_stockOf_3 : decode cX7_stockOf 3 = .ok (.istore_n 3, 1) := by decide +kernel
theorem dX7_stockOf_4 : decode cX7_stockOf 4 = .ok (.iload_n 3, 1) := by decide +kernel
theorem dX7_stockOf_5 : decode cX7_stockOf 5 = .ok (.aload_n 0, 1) := by decide +kernel
theorem dX7_stockOf_6 : decode cX7_stockOf 6 = .ok (.getfield 9, 3) := by decide +kernel
theorem dX7_stockOf_9 : decode cX7_stockOf 9 = .ok (.if_icmp .ge 18, 3) := by decide +kernel
theorem dX7_stockOf_12 : decode cX7_stockOf 12 = .ok (.iload_n 2, 1) := by decide +kernel
theorem dX7_stockOf_13 : decode cX7_stockOf 13 = .ok (.aload_n 0, 1) := by decide +kernel
theorem dX7_stockOf_14 : decode cX7_stockOf 14 = .ok (.iload_n 3, 1) := by decide +kernel
theorem dX7_stockOf_15 : decode cX7_stockOf 15 = .ok (.iload_n 1, 1) := by decide +kernel
theorem dX7_stockOf_16 : decode cX7_stockOf 16 = .ok (.invokevirtual 37, 3) := by decide +kernel
theorem dX7_stockOf_19 : decode cX7_stockOf 19 = .ok (.iadd, 1) := by decide +kernel
theorem dX7_stockOf_20 : decode cX7_stockOf 20 = .ok (.istore_n 2, 1) := by decide +kernel
theorem dX7_stockOf_21 : decode cX7_stockOf 21 = .ok (.iinc 3 1, 3) := by decide +kernel
theorem dX7_stockOf_24 : decode cX7_stockOf 24 = .ok (.goto (-20), 3) := by decide +kernel
theorem dX7_stockOf_27 : decode cX7_stockOf 27 = .ok (.iload_n 2, 1) := by decide +kernel
theorem dX7_stockOf_28 : decode cX7_stockOf 28 = .ok (.ireturn, 1) := by decide +kernel
set_option maxRecDepth 20000 in
theorem ggX7_helps_X7_countIn : GoodIn wsX7_helps wsX7_countIn := goodIn_r _ [5, 6, 7, 8, 9, 10, 11, 12] rfl (by decide +kernel)
set_option maxRecDepth 20000 in
theorem gX7_helps_X7_countIn : GoodIn wsX7_helps (wsV RX7 37 RX7 yX7_countIn wsX7_countIn) := goodIn_app (goodIn_r _ [1, 2, 3, 4] rfl (by decide +kernel)) ggX7_helps_X7_countIn
theorem dX7_helps_0 : decode cX7_helps 0 = .ok (.iconst 0, 1) := by decide +kernel
theorem dX7_helps_1 : decode cX7_helps 1 = .ok (.istore_n 3, 1) := by decide +kernel
theorem dX7_helps_2 : decode cX7_helps 2 = .ok (.iload_n 3, 1) := by decide +kernel
theorem dX7_helps_3 : decode cX7_helps 3 = .ok (.bipush 10, 2) := by decide +kernel
theorem dX7_helps_5 : decode cX7_helps 5 = .ok (.if_icmp .ge 32, 3) := by decide +kernel
theorem dX7_helps_8 : decode cX7_helps 8 = .ok (.iload_n 3, 1) := by decide +kernel
theorem dX7_helps_9 : decode cX7_helps 9 = .ok (.aload_n 2, 1) := by decide +kernel
theorem dX7_helps_10 : decode cX7_helps 10 = .ok (.arraylength, 1) := by decide +kernel
theorem dX7_helps_11 : decode cX7_helps 11 = .ok (.if_icmp .ge 26, 3) := by decide +kernel
theorem dX7_helps_14 : decode cX7_helps 14 = .ok (.aload_n 2, 1) := by decide +kernel
theorem dX7_helps_15 : decode cX7_helps 15 = .ok (.iload_n 3, 1) := by decide +kernel
theorem dX7_helps_16 : decode cX7_helps 16 = .ok (.iaload, 1) := by decide +kernel
theorem dX7_helps_17 : decode cX7_helps 17 = .ok (.ifCond .le 14, 3) := by decide +kernel
theorem dX7_helps_20 : decode cX7_helps 20 = .ok (.aload_n 0, 1) := by decide +kernel
theorem dX7_helps_21 : decode cX7_helps 21 = .ok (.iload_n 1, 1) := by decide +kernel
theorem dX7_helps_22 : decode cX7_helps 22 = .ok (.iload_n 3, 1) := by decide +kernel
theorem dX7_helps_23 : decode cX7_helps 23 = .ok (.invokevirtual 37, 3) := by decide +kernel
theorem dX7_helps_26 : decode cX7_helps 26 = .ok (.ifCond .le 5, 3) := by decide +kernel
theorem dX7_helps_29 : decode cX7_helps 29 = .ok (.iconst 1, 1) := by decide +kernel
theorem dX7_helps_30 : decode cX7_helps 30 = .ok (.ireturn, 1) := by decide +kernel
theorem dX7_helps_31 : decode cX7_helps 31 = .ok (.iinc 3 1, 3) := by decide +kernel
theorem dX7_helps_34 : decode cX7_helps 34 = .ok (.goto (-32), 3) := by decide +kernel
theorem dX7_helps_37 : decode cX7_helps 37 = .ok (.iconst 0, 1) := by decide +kernel
theorem dX7_helps_38 : decode cX7_helps 38 = .ok (.ireturn, 1) := by decide +kernel
set_option maxRecDepth 20000 in
theorem ggX7_lend_X7_countIn : GoodIn wsX7_lend wsX7_countIn := goodIn_r _ [5, 6, 7, 8, 9, 10, 11, 12] rfl (by decide +kernel)
set_option maxRecDepth 20000 in
theorem gX7_lend_X7_countIn : GoodIn wsX7_lend (wsV RX7 37 RX7 yX7_countIn wsX7_countIn) := goodIn_app (goodIn_r _ [1, 2, 3, 4] rfl (by decide +kernel)) ggX7_lend_X7_countIn
theorem dX7_lend_0 : decode cX7_lend 0 = .ok (.iconst 0, 1) := by decide +kernel
theorem dX7_lend_1 : decode cX7_lend 1 = .ok (.istore 4, 2) := by decide +kernel
theorem dX7_lend_3 : decode cX7_lend 3 = .ok (.iload 4, 2) := by decide +kernel
theorem dX7_lend_5 : decode cX7_lend 5 = .ok (.bipush 10, 2) := by decide +kernel
theorem dX7_lend_7 : decode cX7_lend 7 = .ok (.if_icmp .ge 32, 3) := by decide +kernel
theorem dX7_lend_10 : decode cX7_lend 10 = .ok (.iload 4, 2) := by decide +kernel
theorem dX7_lend_12 : decode cX7_lend 12 = .ok (.aload_n 2, 1) := by decide +kernel
theorem dX7_lend_13 : decode cX7_lend 13 = .ok (.arraylength, 1) := by decide +kernel
theorem dX7_lend_14 : decode cX7_lend 14 = .ok (.if_icmp .ge 25, 3) := by decide +kernel
theorem dX7_lend_17 : decode cX7_lend 17 = .ok (.aload_n 2, 1) := by decide +kernel
theorem dX7_lend_18 : decode cX7_lend 18 = .ok (.iload 4, 2) := by decide +kernel
theorem dX7_lend_20 : decode cX7_lend 20 = .ok (.dup2, 1) := by decide +kernel
theorem dX7_lend_21 : decode cX7_lend 21 = .ok (.iaload, 1) := by decide +kernel
theorem dX7_lend_22 : decode cX7_lend 22 = .ok (.iload_n 3, 1) := by decide +kernel
theorem dX7_lend_23 : decode cX7_lend 23 = .ok (.aload_n 0, 1) := by decide +kernel
theorem dX7_lend_24 : decode cX7_lend 24 = .ok (.iload_n 1, 1) := by decide +kernel
theorem dX7_lend_25 : decode cX7_lend 25 = .ok (.iload 4, 2) := by decide +kernel
theorem dX7_lend_27 : decode cX7_lend 27 = .ok (.invokevirtual 37, 3) := by decide +kernel
theorem dX7_lend_30 : decode cX7_lend 30 = .ok (.imul, 1) := by decide +kernel
theorem dX7_lend_31 : decode cX7_lend 31 = .ok (.iadd, 1) := by decide +kernel
theorem dX7_lend_32 : decode cX7_lend 32 = .ok (.iastore, 1) := by decide +kernel
theorem dX7_lend_33 : decode cX7_lend 33 = .ok (.iinc 4 1, 3) := by decide +kernel
theorem dX7_lend_36 : decode cX7_lend 36 = .ok (.goto (-33), 3) := by decide +kernel
theorem dX7_lend_39 : decode cX7_lend 39 = .ok (.return_, 1) := by decide +kernel
theorem dX7_rowOf_0 : decode cX7_rowOf 0 = .ok (.iconst 1, 1) := by decide +kernel
theorem dX7_rowOf_1 : decode cX7_rowOf 1 = .ok (.iload_n 1, 1) := by decide +kernel
theorem dX7_rowOf_2 : decode cX7_rowOf 2 = .ok (.ishl, 1) := by decide +kernel
theorem dX7_rowOf_3 : decode cX7_rowOf 3 = .ok (.iconst 1, 1) := by decide +kernel
theorem dX7_rowOf_4 : decode cX7_rowOf 4 = .ok (.isub, 1) := by decide +kernel
theorem dX7_rowOf_5 : decode cX7_rowOf 5 = .ok (.iload_n 0, 1) := by decide +kernel
theorem dX7_rowOf_6 : decode cX7_rowOf 6 = .ok (.ishl, 1) := by decide +kernel
theorem dX7_rowOf_7 : decode cX7_rowOf 7 = .ok (.ireturn, 1) := by decide +kernel
theorem dX7_fits_0 : decode cX7_fits 0 = .ok (.iload_n 1, 1) := by decide +kernel
theorem dX7_fits_1 : decode cX7_fits 1 = .ok (.iload_n 2, 1) := by decide +kernel
theorem dX7_fits_2 : decode cX7_fits 2 = .ok (.iadd, 1) := by decide +kernel
theorem dX7_fits_3 : decode cX7_fits 3 = .ok (.bipush 20, 2) := by decide +kernel
theorem dX7_fits_5 : decode cX7_fits 5 = .ok (.if_icmp .gt 19, 3) := by decide +kernel
theorem dX7_fits_8 : decode cX7_fits 8 = .ok (.iload_n 0, 1) := by decide +kernel
theorem dX7_fits_9 : decode cX7_fits 9 = .ok (.iload_n 1, 1) := by decide +kernel
theorem dX7_fits_10 : decode cX7_fits 10 = .ok (.ishr, 1) := by decide +kernel
theorem dX7_fits_11 : decode cX7_fits 11 = .ok (.iconst 1, 1) := by decide +kernel
theorem dX7_fits_12 : decode cX7_fits 12 = .ok (.iload_n 2, 1) := by decide +kernel
theorem dX7_fits_13 : decode cX7_fits 13 = .ok (.ishl, 1) := by decide +kernel
theorem dX7_fits_14 : decode cX7_fits 14 = .ok (.iconst 1, 1) := by decide +kernel
theorem dX7_fits_15 : decode cX7_fits 15 = .ok (.isub, 1) := by decide +kernel
theorem dX7_fits_16 : decode cX7_fits 16 = .ok (.iand, 1) := by decide +kernel
theorem dX7_fits_17 : decode cX7_fits 17 = .ok (.ifCond .ne 7, 3) := by decide +kernel
theorem dX7_fits_20 : decode cX7_fits 20 = .ok (.iconst 1, 1) := by decide +kernel
theorem dX7_fits_21 : decode cX7_fits 21 = .ok (.goto 4, 3) := by decide +kernel
theorem dX7_fits_24 : decode cX7_fits 24 = .ok (.iconst 0, 1) := by decide +kernel
theorem dX7_fits_25 : decode cX7_fits 25 = .ok (.ireturn, 1) := by decide +kernel
set_option maxRecDepth 20000 in
theorem ggX7_firstFit_X7_fits : GoodIn wsX7_firstFit wsX7_fits := goodIn_r _ [4] rfl (by decide +kernel)
set_option maxRecDepth 20000 in
theorem gX7_firstFit_X7_fits : GoodIn wsX7_firstFit (va_wsS RX7 41 yX7_fits wsX7_fits) := goodIn_app (goodIn_r _ [1, 2, 3] rfl (by decide +kernel)) ggX7_firstFit_X7_fits
theorem dX7_firstFit_0 : decode cX7_firstFit 0 = .ok (.iconst 0, 1) := by decide +kernel
theorem dX7_firstFit_1 : decode cX7_firstFit 1 = .ok (.istore_n 3, 1) := by decide +kernel
theorem dX7_firstFit_2 : decode cX7_firstFit 2 = .ok (.iload_n 3, 1) := by decide +kernel
theorem dX7_firstFit_3 : decode cX7_firstFit 3 = .ok (.bipush 20, 2) := by decide +kernel
theorem dX7_firstFit_5 : decode cX7_firstFit 5 = .ok (.if_icmp .ge 34, 3) := by decide +kernel
theorem dX7_firstFit_8 : decode cX7_firstFit 8 = .ok (.iload_n 0, 1) := by decide +kernel
theorem dX7_firstFit_9 : decode cX7_firstFit 9 = .ok (.iload_n 3, 1) := by decide +kernel
theorem dX7_firstFit_10 : decode cX7_firstFit 10 = .ok (.iload_n 2, 1) := by decide +kernel
theorem dX7_firstFit_11 : decode cX7_firstFit 11 = .ok (.invokestatic 41, 3) := by decide +kernel
theorem dX7_firstFit_14 : decode cX7_firstFit 14 = .ok (.ifCond .eq 5, 3) := by decide +kernel
theorem dX7_firstFit_17 : decode cX7_firstFit 17 = .ok (.iload_n 3, 1) := by decide +kernel
theorem dX7_firstFit_18 : decode cX7_firstFit 18 = .ok (.ireturn, 1) := by decide +kernel
theorem dX7_firstFit_19 : decode cX7_firstFit 19 = .ok (.iload_n 1, 1) := by decide +kernel
theorem dX7_firstFit_20 : decode cX7_firstFit 20 = .ok (.iload_n 3, 1) := by decide +kernel
theorem dX7_firstFit_21 : decode cX7_firstFit 21 = .ok (.iload_n 2, 1) := by decide +kernel
theorem dX7_firstFit_22 : decode cX7_firstFit 22 = .ok (.invokestatic 41, 3) := by decide +kernel
theorem dX7_firstFit_25 : decode cX7_firstFit 25 = .ok (.ifCond .eq 8, 3) := by decide +kernel
theorem dX7_firstFit_28 : decode cX7_firstFit 28 = .ok (.bipush 20, 2) := by decide +kernel
theorem dX7_firstFit_30 : decode cX7_firstFit 30 = .ok (.iload_n 3, 1) := by decide +kernel
theorem dX7_firstFit_31 : decode cX7_firstFit 31 = .ok (.iadd, 1) := by decide +kernel
theorem dX7_firstFit_32 : decode cX7_firstFit 32 = .ok (.ireturn, 1) := by decide +kernel
theorem dX7_firstFit_33 : decode cX7_firstFit 33 = .ok (.iinc 3 1, 3) := by decide +kernel
theorem dX7_firstFit_36 : decode cX7_firstFit 36 = .ok (.goto (-34), 3) := by decide +kernel
theorem dX7_firstFit_39 : decode cX7_firstFit 39 = .ok (.iconst (-1), 1) := by decide +kernel
theorem dX7_firstFit_40 : decode cX7_firstFit 40 = .ok (.ireturn, 1) := by decide +kernel
theorem dX7_wayOf_0 : decode cX7_wayOf 0 = .ok (.iload_n 0, 1) := by decide +kernel
theorem dX7_wayOf_1 : decode cX7_wayOf 1 = .ok (.bipush 20, 2) := by decide +kernel
theorem dX7_wayOf_3 : decode cX7_wayOf 3 = .ok (.irem, 1) := by decide +kernel
theorem dX7_wayOf_4 : decode cX7_wayOf 4 = .ok (.iconst 2, 1) := by decide +kernel
theorem dX7_wayOf_5 : decode cX7_wayOf 5 = .ok (.iload_n 0, 1) := by decide +kernel
theorem dX7_wayOf_6 : decode cX7_wayOf 6 = .ok (.bipush 20, 2) := by decide +kernel
theorem dX7_wayOf_8 : decode cX7_wayOf 8 = .ok (.idiv, 1) := by decide +kernel
theorem dX7_wayOf_9 : decode cX7_wayOf 9 = .ok (.imul, 1) := by decide +kernel
theorem dX7_wayOf_10 : decode cX7_wayOf 10 = .ok (.iadd, 1) := by decide +kernel
theorem dX7_wayOf_11 : decode cX7_wayOf 11 = .ok (.ireturn, 1) := by decide +kernel
set_option maxRecDepth 20000 in
theorem ggX7_takenOn_X7_rowOf : GoodIn wsX7_takenOn wsX7_rowOf := goodIn_r _ [8] rfl (by decide +kernel)
set_option maxRecDepth 20000 in
theorem gX7_takenOn_X7_rowOf : GoodIn wsX7_takenOn (va_wsS RX7 45 yX7_rowOf wsX7_rowOf) := goodIn_app (goodIn_r _ [5, 6, 7] rfl (by decide +kernel)) ggX7_takenOn_X7_rowOf
theorem dX7_takenOn_0 : decode cX7_takenOn 0 = .ok (.iconst 0, 1) := by decide +kernel
theorem dX7_takenOn_1 : decode cX7_takenOn 1 = .ok (.istore_n 2, 1) := by decide +kernel
theorem dX7_takenOn_2 : decode cX7_takenOn 2 = .ok (.iconst 0, 1) := by decide +kernel
theorem dX7_takenOn_3 : decode cX7_takenOn 3 = .ok (.istore_n 3, 1) := by decide +kernel
theorem dX7_takenOn_4 : decode cX7_takenOn 4 = .ok (.iload_n 3, 1) := by decide +kernel
theorem dX7_takenOn_5 : decode cX7_takenOn 5 = .ok (.aload_n 0, 1) := by decide +kernel
theorem dX7_takenOn_6 : decode cX7_takenOn 6 = .ok (.getfield 9, 3) := by decide +kernel
theorem dX7_takenOn_9 : decode cX7_takenOn 9 = .ok (.if_icmp .ge 51, 3) := by decide +kernel
theorem dX7_takenOn_12 : decode cX7_takenOn 12 = .ok (.iload_n 3, 1) := by decide +kernel
theorem dX7_takenOn_13 : decode cX7_takenOn 13 = .ok (.aload_n 0, 1) := by decide +kernel
theorem dX7_takenOn_14 : decode cX7_takenOn 14 = .ok (.getfield 15, 3) := by decide +kernel
theorem dX7_takenOn_17 : decode cX7_takenOn 17 = .ok (.if_icmp .eq 37, 3) := by decide +kernel
theorem dX7_takenOn_20 : decode cX7_takenOn 20 = .ok (.aload_n 0, 1) := by decide +kernel
theorem dX7_takenOn_21 : decode cX7_takenOn 21 = .ok (.getfield 22, 3) := by decide +kernel
theorem dX7_takenOn_24 : decode cX7_takenOn 24 = .ok (.iload_n 3, 1) := by decide +kernel
theorem dX7_takenOn_25 : decode cX7_takenOn 25 = .ok (.iaload, 1) := by decide +kernel
theorem dX7_takenOn_26 : decode cX7_takenOn 26 = .ok (.bipush 20, 2) := by decide +kernel
theorem dX7_takenOn_28 : decode cX7_takenOn 28 = .ok (.idiv, 1) := by decide +kernel
theorem dX7_takenOn_29 : decode cX7_takenOn 29 = .ok (.iload_n 1, 1) := by decide +kernel
theorem dX7_takenOn_30 : decode cX7_takenOn 30 = .ok (.if_icmp .ne 24, 3) := by decide +kernel
theorem dX7_takenOn_33 : decode cX7_takenOn 33 = .ok (.iload_n 2, 1) := by decide +kernel
theorem dX7_takenOn_34 : decode cX7_takenOn 34 = .ok (.aload_n 0, 1) := by decide +kernel
theorem dX7_takenOn_35 : decode cX7_takenOn 35 = .ok (.getfield 22, 3) := by decide +kernel
theorem dX7_takenOn_38 : decode cX7_takenOn 38 = .ok (.iload_n 3, 1) := by decide +kernel
theorem dX7_takenOn_39 : decode cX7_takenOn 39 = .ok (.iaload, 1) := by decide +kernel
theorem dX7_takenOn_40 : decode cX7_takenOn 40 = .ok (.bipush 20, 2) := by decide +kernel
theorem dX7_takenOn_42 : decode cX7_takenOn 42 = .ok (.irem, 1) := by decide +kernel
theorem dX7_takenOn_43 : decode cX7_takenOn 43 = .ok (.aload_n 0, 1) := by decide +kernel
theorem dX7_takenOn_44 : decode cX7_takenOn 44 = .ok (.getfield 18, 3) := by decide +kernel
theorem dX7_takenOn_47 : decode cX7_takenOn 47 = .ok (.iload_n 3, 1) := by decide +kernel
theorem dX7_takenOn_48 : decode cX7_takenOn 48 = .ok (.iaload, 1) := by decide +kernel
theorem dX7_takenOn_49 : decode cX7_takenOn 49 = .ok (.invokestatic 45, 3) := by decide +kernel
theorem dX7_takenOn_52 : decode cX7_takenOn 52 = .ok (.ior, 1) := by decide +kernel
theorem dX7_takenOn_53 : decode cX7_takenOn 53 = .ok (.istore_n 2, 1) := by decide +kernel
theorem dX7_takenOn_54 : decode cX7_takenOn 54 = .ok (.iinc 3 1, 3) := by decide +kernel
theorem dX7_takenOn_57 : decode cX7_takenOn 57 = .ok (.goto (-53), 3) := by decide +kernel
theorem dX7_takenOn_60 : decode cX7_takenOn 60 = .ok (.iload_n 2, 1) := by decide +kernel
theorem dX7_takenOn_61 : decode cX7_takenOn 61 = .ok (.ireturn, 1) := by decide +kernel
set_option maxRecDepth 20000 in
theorem ggX7_firstFree_X7_takenOn : GoodIn wsX7_firstFree wsX7_takenOn := goodIn_r _ [5, 6, 7, 8, 9, 10, 11, 4, 12, 19, 20, 21, 22, 23, 24] rfl (by decide +kernel)
set_option maxRecDepth 20000 in
theorem gX7_firstFree_X7_takenOn : GoodIn wsX7_firstFree (wsV RX7 48 RX7 yX7_takenOn wsX7_takenOn) := goodIn_app (goodIn_r _ [1, 2, 3, 4] rfl (by decide +kernel)) ggX7_firstFree_X7_takenOn
set_option maxRecDepth 20000 in
theorem ggX7_firstFree_X7_firstFit : GoodIn wsX7_firstFree wsX7_firstFit := goodIn_r _ [15, 16, 17, 4, 18] rfl (by decide +kernel)
set_option maxRecDepth 20000 in
theorem gX7_firstFree_X7_firstFit : GoodIn wsX7_firstFree (va_wsS RX7 52 yX7_firstFit wsX7_firstFit) := goodIn_app (goodIn_r _ [13, 14, 4] rfl (by decide +kernel)) ggX7_firstFree_X7_firstFit
theorem dX7_firstFree_0 : decode cX7_firstFree 0 = .ok (.aload_n 0, 1) := by decide +kernel
theorem dX7_firstFree_1 : decode cX7_firstFree 1 = .ok (.iconst 0, 1) := by decide +kernel
theorem dX7_firstFree_2 : decode cX7_firstFree 2 = .ok (.invokevirtual 48, 3) := by decide +kernel
theorem dX7_firstFree_5 : decode cX7_firstFree 5 = .ok (.aload_n 0, 1) := by decide +kernel
theorem dX7_firstFree_6 : decode cX7_firstFree 6 = .ok (.iconst 1, 1) := by decide +kernel
theorem dX7_firstFree_7 : decode cX7_firstFree 7 = .ok (.invokevirtual 48, 3) := by decide +kernel
theorem dX7_firstFree_10 : decode cX7_firstFree 10 = .ok (.iload_n 1, 1) := by decide +kernel
theorem dX7_firstFree_11 : decode cX7_firstFree 11 = .ok (.invokestatic 52, 3) := by decide +kernel
theorem dX7_firstFree_14 : decode cX7_firstFree 14 = .ok (.ireturn, 1) := by decide +kernel
theorem dX7_holderOf_0 : decode cX7_holderOf 0 = .ok (.iconst 0, 1) := by decide +kernel
theorem dX7_holderOf_1 : decode cX7_holderOf 1 = .ok (.istore_n 2, 1) := by decide +kernel
theorem dX7_holderOf_2 : decode cX7_holderOf 2 = .ok (.iload_n 2, 1) := by decide +kernel
theorem dX7_holderOf_3 : decode cX7_holderOf 3 = .ok (.aload_n 0, 1) := by decide +kernel
theorem dX7_holderOf_4 : decode cX7_holderOf 4 = .ok (.getfield 9, 3) := by decide +kernel
theorem dX7_holderOf_7 : decode cX7_holderOf 7 = .ok (.if_icmp .ge 46, 3) := by decide +kernel
theorem dX7_holderOf_10 : decode cX7_holderOf 10 = .ok (.iload_n 2, 1) := by decide +kernel
theorem dX7_holderOf_11 : decode cX7_holderOf 11 = .ok (.aload_n 0, 1) := by decide +kernel
theorem dX7_holderOf_12 : decode cX7_holderOf 12 = .ok (.getfield 15, 3) := by decide +kernel
theorem dX7_holderOf_15 : decode cX7_holderOf 15 = .ok (.if_icmp .eq 32, 3) := by decide +kernel
theorem dX7_holderOf_18 : decode cX7_holderOf 18 = .ok (.iload_n 1, 1) := by decide +kernel
theorem dX7_holderOf_19 : decode cX7_holderOf 19 = .ok (.aload_n 0, 1) := by decide +kernel
theorem dX7_holderOf_20 : decode cX7_holderOf 20 = .ok (.getfield 22, 3) := by decide +kernel
theorem dX7_holderOf_23 : decode cX7_holderOf 23 = .ok (.iload_n 2, 1) := by decide +kernel
theorem dX7_holderOf_24 : decode cX7_holderOf 24 = .ok (.iaload, 1) := by decide +kernel
theorem dX7_holderOf_25 : decode cX7_holderOf 25 = .ok (.if_icmp .lt 22, 3) := by decide +kernel
theorem dX7_holderOf_28 : decode cX7_holderOf 28 = .ok (.iload_n 1, 1) := by decide +kernel
theorem dX7_holderOf_29 : decode cX7_holderOf 29 = .ok (.aload_n 0, 1) := by decide +kernel
theorem dX7_holderOf_30 : decode cX7_holderOf 30 = .ok (.getfield 22, 3) := by decide +kernel
theorem dX7_holderOf_33 : decode cX7_holderOf 33 = .ok (.iload_n 2, 1) := by decide +kernel
theorem dX7_holderOf_34 : decode cX7_holderOf 34 = .ok (.iaload, 1) := by decide +kernel
theorem dX7_holderOf_35 : decode cX7_holderOf 35 = .ok (.aload_n 0, 1) := by decide +kernel
theorem dX7_holderOf_36 : decode cX7_holderOf 36 = .ok (.getfield 18, 3) := by decide +kernel
theorem dX7_holderOf_39 : decode cX7_holderOf 39 = .ok (.iload_n 2, 1) := by decide +kernel
theorem dX7_holderOf_40 : decode cX7_holderOf 40 = .ok (.iaload, 1) := by decide +kernel
theorem dX7_holderOf_41 : decode cX7_holderOf 41 = .ok (.iadd, 1) := by decide +kernel
theorem dX7_holderOf_42 : decode cX7_holderOf 42 = .ok (.if_icmp .ge 5, 3) := by decide +kernel
theorem dX7_holderOf_45 : decode cX7_holderOf 45 = .ok (.iload_n 2, 1) := by decide +kernel
theorem dX7_holderOf_46 : decode cX7_holderOf 46 = .ok (.ireturn, 1) := by decide +kernel
theorem dX7_holderOf_47 : decode cX7_holderOf 47 = .ok (.iinc 2 1, 3) := by decide +kernel
theorem dX7_holderOf_50 : decode cX7_holderOf 50 = .ok (.goto (-48), 3) := by decide +kernel
theorem dX7_holderOf_53 : decode cX7_holderOf 53 = .ok (.iconst (-1), 1) := by decide +kernel
theorem dX7_holderOf_54 : decode cX7_holderOf 54 = .ok (.ireturn, 1) := by decide +kernel
set_option maxRecDepth 20000 in
theorem ggX7_countFree_X7_takenOn : GoodIn wsX7_countFree wsX7_takenOn := goodIn_r _ [5, 6, 7, 8, 9, 10, 11, 4, 12, 16, 17, 18, 19, 20, 21] rfl (by decide +kernel)
set_option maxRecDepth 20000 in
theorem gX7_countFree_X7_takenOn : GoodIn wsX7_countFree (wsV RX7 48 RX7 yX7_takenOn wsX7_takenOn) := goodIn_app (goodIn_r _ [1, 2, 3, 4] rfl (by decide +kernel)) ggX7_countFree_X7_takenOn
set_option maxRecDepth 20000 in
theorem ggX7_countFree_X7_fits : GoodIn wsX7_countFree wsX7_fits := goodIn_r _ [15] rfl (by decide +kernel)
set_option maxRecDepth 20000 in
theorem gX7_countFree_X7_fits : GoodIn wsX7_countFree (va_wsS RX7 41 yX7_fits wsX7_fits) := goodIn_app (goodIn_r _ [13, 14, 4] rfl (by decide +kernel)) ggX7_countFree_X7_fits
theorem dX7_countFree_0 : decode cX7_countFree 0 = .ok (.aload_n 0, 1) := by decide +kernel
theorem dX7_countFree_1 : decode cX7_countFree 1 = .ok (.iload_n 1, 1) := by decide +kernel
theorem dX7_countFree_2 : decode cX7_countFree 2 = .ok (.invokevirtual 48, 3) := by decide +kernel
theorem dX7_countFree_5 : decode cX7_countFree 5 = .ok (.istore_n 2, 1) := by decide +kernel
theorem dX7_countFree_6 : decode cX7_countFree 6 = .ok (.iconst 0, 1) := by decide +kernel
theorem dX7_countFree_7 : decode cX7_countFree 7 = .ok (.istore_n 3, 1) := by decide +kernel
theorem dX7_countFree_8 : decode cX7_countFree 8 = .ok (.iconst 0, 1) := by decide +kernel
theorem dX7_countFree_9 : decode cX7_countFree 9 = .ok (.istore 4, 2) := by decide +kernel
theorem dX7_countFree_11 : decode cX7_countFree 11 = .ok (.iload 4, 2) := by decide +kernel
theorem dX7_countFree_13 : decode cX7_countFree 13 = .ok (.bipush 20, 2) := by decide +kernel
theorem dX7_countFree_15 : decode cX7_countFree 15 = .ok (.if_icmp .ge 22, 3) := by decide +kernel
theorem dX7_countFree_18 : decode cX7_countFree 18 = .ok (.iload_n 2, 1) := by decide +kernel
theorem dX7_countFree_19 : decode cX7_countFree 19 = .ok (.iload 4, 2) := by decide +kernel
theorem dX7_countFree_21 : decode cX7_countFree 21 = .ok (.iconst 1, 1) := by decide +kernel
theorem dX7_countFree_22 : decode cX7_countFree 22 = .ok (.invokestatic 41, 3) := by decide +kernel
theorem dX7_countFree_25 : decode cX7_countFree 25 = .ok (.ifCond .eq 6, 3) := by decide +kernel
theorem dX7_countFree_28 : decode cX7_countFree 28 = .ok (.iinc 3 1, 3) := by decide +kernel
theorem dX7_countFree_31 : decode cX7_countFree 31 = .ok (.iinc 4 1, 3) := by decide +kernel
theorem dX7_countFree_34 : decode cX7_countFree 34 = .ok (.goto (-23), 3) := by decide +kernel
theorem dX7_countFree_37 : decode cX7_countFree 37 = .ok (.iload_n 3, 1) := by decide +kernel
theorem dX7_countFree_38 : decode cX7_countFree 38 = .ok (.ireturn, 1) := by decide +kernel
set_option maxRecDepth 20000 in
theorem ggX7_longestFree_X7_takenOn : GoodIn wsX7_longestFree wsX7_takenOn := goodIn_r _ [9, 10, 11, 12, 13, 14, 15, 8, 16, 20, 21, 22, 23, 24, 25] rfl (by decide +kernel)
set_option maxRecDepth 20000 in
theorem gX7_longestFree_X7_takenOn : GoodIn wsX7_longestFree (wsV RX7 48 RX7 yX7_takenOn wsX7_takenOn) := goodIn_app (goodIn_r _ [5, 6, 7, 8] rfl (by decide +kernel)) ggX7_longestFree_X7_takenOn
set_option maxRecDepth 20000 in
theorem ggX7_longestFree_X7_fits : GoodIn wsX7_longestFree wsX7_fits := goodIn_r _ [19] rfl (by decide +kernel)
set_option maxRecDepth 20000 in
theorem gX7_longestFree_X7_fits : GoodIn wsX7_longestFree (va_wsS RX7 41 yX7_fits wsX7_fits) := goodIn_app (goodIn_r _ [17, 18, 8] rfl (by decide +kernel)) ggX7_longestFree_X7_fits
theorem dX7_longestFree_0 : decode cX7_longestFree 0 = .ok (.aload_n 0, 1) := by decide +kernel
theorem dX7_longestFree_1 : decode cX7_longestFree 1 = .ok (.iload_n 1, 1) := by decide +kernel
theorem dX7_longestFree_2 : decode cX7_longestFree 2 = .ok (.invokevirtual 48, 3) := by decide +kernel
theorem dX7_longestFree_5 : decode cX7_longestFree 5 = .ok (.istore_n 2, 1) := by decide +kernel
theorem dX7_longestFree_6 : decode cX7_longestFree 6 = .ok (.iconst 0, 1) := by decide +kernel
theorem dX7_longestFree_7 : decode cX7_longestFree 7 = .ok (.istore_n 3, 1) := by decide +kernel
theorem dX7_longestFree_8 : decode cX7_longestFree 8 = .ok (.iconst 0, 1) := by decide +kernel
theorem dX7_longestFree_9 : decode cX7_longestFree 9 = .ok (.istore 4, 2) := by decide +kernel
theorem dX7_longestFree_11 : decode cX7_longestFree 11 = .ok (.iconst 0, 1) := by decide +kernel
theorem dX7_longestFree_12 : decode cX7_longestFree 12 = .ok (.istore 5, 2) := by decide +kernel
theorem dX7_longestFree_14 : decode cX7_longestFree 14 = .ok (.iload 5, 2) := by decide +kernel
theorem dX7_longestFree_16 : decode cX7_longestFree 16 = .ok (.bipush 20, 2) := by decide +kernel
theorem dX7_longestFree_18 : decode cX7_longestFree 18 = .ok (.if_icmp .ge 36, 3) := by decide +kernel
theorem dX7_longestFree_21 : decode cX7_longestFree 21 = .ok (.iload_n 2, 1) := by decide +kernel
theorem dX7_longestFree_22 : decode cX7_longestFree 22 = .ok (.iload 5, 2) := by decide +kernel
theorem dX7_longestFree_24 : decode cX7_longestFree 24 = .ok (.iconst 1, 1) := by decide +kernel
theorem dX7_longestFree_25 : decode cX7_longestFree 25 = .ok (.invokestatic 41, 3) := by decide +kernel
theorem dX7_longestFree_28 : decode cX7_longestFree 28 = .ok (.ifCond .eq 10, 3) := by decide +kernel
theorem dX7_longestFree_31 : decode cX7_longestFree 31 = .ok (.iload 4, 2) := by decide +kernel
theorem dX7_longestFree_33 : decode cX7_longestFree 33 = .ok (.iconst 1, 1) := by decide +kernel
theorem dX7_longestFree_34 : decode cX7_longestFree 34 = .ok (.iadd, 1) := by decide +kernel
theorem dX7_longestFree_35 : decode cX7_longestFree 35 = .ok (.goto 4, 3) := by decide +kernel
theorem dX7_longestFree_38 : decode cX7_longestFree 38 = .ok (.iconst 0, 1) := by decide +kernel
theorem dX7_longestFree_39 : decode cX7_longestFree 39 = .ok (.istore 4, 2) := by decide +kernel
theorem dX7_longestFree_41 : decode cX7_longestFree 41 = .ok (.iload_n 3, 1) := by decide +kernel
theorem dX7_longestFree_42 : decode cX7_longestFree 42 = .ok (.iload 4, 2) := by decide +kernel
theorem dX7_longestFree_44 : decode cX7_longestFree 44 = .ok (.invokestatic 56, 3) := by decide +kernel
theorem dX7_longestFree_47 : decode cX7_longestFree 47 = .ok (.istore_n 3, 1) := by decide +kernel
theorem dX7_longestFree_48 : decode cX7_longestFree 48 = .ok (.iinc 5 1, 3) := by decide +kernel
theorem dX7_longestFree_51 : decode cX7_longestFree 51 = .ok (.goto (-37), 3) := by decide +kernel
theorem dX7_longestFree_54 : decode cX7_longestFree 54 = .ok (.iload_n 3, 1) := by decide +kernel
theorem dX7_longestFree_55 : decode cX7_longestFree 55 = .ok (.ireturn, 1) := by decide +kernel
theorem dX7_sumOfHeights_0 : decode cX7_sumOfHeights 0 = .ok (.iconst 0, 1) := by decide +kernel
theorem dX7_sumOfHeights_1 : decode cX7_sumOfHeights 1 = .ok (.istore_n 1, 1) := by decide +kernel
theorem dX7_sumOfHeights_2 : decode cX7_sumOfHeights 2 = .ok (.iconst 0, 1) := by decide +kernel
theorem dX7_sumOfHeights_3 : decode cX7_sumOfHeights 3 = .ok (.istore_n 2, 1) := by decide +kernel
theorem dX7_sumOfHeights_4 : decode cX7_sumOfHeights 4 = .ok (.iload_n 2, 1) := by decide +kernel
theorem dX7_sumOfHeights_5 : decode cX7_sumOfHeights 5 = .ok (.aload_n 0, 1) := by decide +kernel
theorem dX7_sumOfHeights_6 : decode cX7_sumOfHeights 6 = .ok (.getfield 9, 3) := by decide +kernel
theorem dX7_sumOfHeights_9 : decode cX7_sumOfHeights 9 = .ok (.if_icmp .ge 26, 3) := by decide +kernel
theorem dX7_sumOfHeights_12 : decode cX7_sumOfHeights 12 = .ok (.iload_n 2, 1) := by decide +kernel
theorem dX7_sumOfHeights_13 : decode cX7_sumOfHeights 13 = .ok (.aload_n 0, 1) := by decide +kernel
theorem dX7_sumOfHeights_14 : decode cX7_sumOfHeights 14 = .ok (.getfield 15, 3) := by decide +kernel
theorem dX7_sumOfHeights_17 : decode cX7_sumOfHeights 17 = .ok (.if_icmp .eq 12, 3) := by decide +kernel
theorem dX7_sumOfHeights_20 : decode cX7_sumOfHeights 20 = .ok (.iload_n 1, 1) := by decide +kernel
theorem dX7_sumOfHeights_21 : decode cX7_sumOfHeights 21 = .ok (.aload_n 0, 1) := by decide +kernel
theorem dX7_sumOfHeights_22 : decode cX7_sumOfHeights 22 = .ok (.getfield 18, 3) := by decide +kernel
theorem dX7_sumOfHeights_25 : decode cX7_sumOfHeights 25 = .ok (.iload_n 2, 1) := by decide +kernel
theorem dX7_sumOfHeights_26 : decode cX7_sumOfHeights 26 = .ok (.iaload, 1) := by decide +kernel
theorem dX7_sumOfHeights_27 : decode cX7_sumOfHeights 27 = .ok (.iadd, 1) := by decide +kernel
theorem dX7_sumOfHeights_28 : decode cX7_sumOfHeights 28 = .ok (.istore_n 1, 1) := by decide +kernel
theorem dX7_sumOfHeights_29 : decode cX7_sumOfHeights 29 = .ok (.iinc 2 1, 3) := by decide +kernel
theorem dX7_sumOfHeights_32 : decode cX7_sumOfHeights 32 = .ok (.goto (-28), 3) := by decide +kernel
theorem dX7_sumOfHeights_35 : decode cX7_sumOfHeights 35 = .ok (.iload_n 1, 1) := by decide +kernel
theorem dX7_sumOfHeights_36 : decode cX7_sumOfHeights 36 = .ok (.ireturn, 1) := by decide +kernel
theorem dX7_mostUsed_0 : decode cX7_mostUsed 0 = .ok (.iconst (-1), 1) := by decide +kernel
theorem dX7_mostUsed_1 : decode cX7_mostUsed 1 = .ok (.istore_n 2, 1) := by decide +kernel
theorem dX7_mostUsed_2 : decode cX7_mostUsed 2 = .ok (.iconst 0, 1) := by decide +kernel
theorem dX7_mostUsed_3 : decode cX7_mostUsed 3 = .ok (.istore_n 3, 1) := by decide +kernel
theorem dX7_mostUsed_4 : decode cX7_mostUsed 4 = .ok (.iload_n 3, 1) := by decide +kernel
theorem dX7_mostUsed_5 : decode cX7_mostUsed 5 = .ok (.aload_n 0, 1) := by decide +kernel
theorem dX7_mostUsed_6 : decode cX7_mostUsed 6 = .ok (.getfield 9, 3) := by decide +kernel
theorem dX7_mostUsed_9 : decode cX7_mostUsed 9 = .ok (.if_icmp .ge 51, 3) := by decide +kernel
theorem dX7_mostUsed_12 : decode cX7_mostUsed 12 = .ok (.iload_n 1, 1) := by decide +kernel
theorem dX7_mostUsed_13 : decode cX7_mostUsed 13 = .ok (.iload_n 3, 1) := by decide +kernel
theorem dX7_mostUsed_14 : decode cX7_mostUsed 14 = .ok (.ishr, 1) := by decide +kernel
theorem dX7_mostUsed_15 : decode cX7_mostUsed 15 = .ok (.iconst 1, 1) := by decide +kernel
theorem dX7_mostUsed_16 : decode cX7_mostUsed 16 = .ok (.iand, 1) := by decide +kernel
theorem dX7_mostUsed_17 : decode cX7_mostUsed 17 = .ok (.ifCond .ne 7, 3) := by decide +kernel
theorem dX7_mostUsed_20 : decode cX7_mostUsed 20 = .ok (.iconst 1, 1) := by decide +kernel
theorem dX7_mostUsed_21 : decode cX7_mostUsed 21 = .ok (.goto 4, 3) := by decide +kernel
theorem dX7_mostUsed_24 : decode cX7_mostUsed 24 = .ok (.iconst 0, 1) := by decide +kernel
theorem dX7_mostUsed_25 : decode cX7_mostUsed 25 = .ok (.istore 4, 2) := by decide +kernel
theorem dX7_mostUsed_27 : decode cX7_mostUsed 27 = .ok (.iload 4, 2) := by decide +kernel
theorem dX7_mostUsed_29 : decode cX7_mostUsed 29 = .ok (.ifCond .eq 25, 3) := by decide +kernel
theorem dX7_mostUsed_32 : decode cX7_mostUsed 32 = .ok (.iload_n 2, 1) := by decide +kernel
theorem dX7_mostUsed_33 : decode cX7_mostUsed 33 = .ok (.iconst (-1), 1) := by decide +kernel
theorem dX7_mostUsed_34 : decode cX7_mostUsed 34 = .ok (.if_icmp .eq 18, 3) := by decide +kernel
theorem dX7_mostUsed_37 : decode cX7_mostUsed 37 = .ok (.aload_n 0, 1) := by decide +kernel
theorem dX7_mostUsed_38 : decode cX7_mostUsed 38 = .ok (.getfield 25, 3) := by decide +kernel
theorem dX7_mostUsed_41 : decode cX7_mostUsed 41 = .ok (.iload_n 3, 1) := by decide +kernel
theorem dX7_mostUsed_42 : decode cX7_mostUsed 42 = .ok (.iaload, 1) := by decide +kernel
theorem dX7_mostUsed_43 : decode cX7_mostUsed 43 = .ok (.aload_n 0, 1) := by decide +kernel
theorem dX7_mostUsed_44 : decode cX7_mostUsed 44 = .ok (.getfield 25, 3) := by decide +kernel
theorem dX7_mostUsed_47 : decode cX7_mostUsed 47 = .ok (.iload_n 2, 1) := by decide +kernel
theorem dX7_mostUsed_48 : decode cX7_mostUsed 48 = .ok (.iaload, 1) := by decide +kernel
theorem dX7_mostUsed_49 : decode cX7_mostUsed 49 = .ok (.if_icmp .le 5, 3) := by decide +kernel
theorem dX7_mostUsed_52 : decode cX7_mostUsed 52 = .ok (.iload_n 3, 1) := by decide +kernel
theorem dX7_mostUsed_53 : decode cX7_mostUsed 53 = .ok (.istore_n 2, 1) := by decide +kernel
theorem dX7_mostUsed_54 : decode cX7_mostUsed 54 = .ok (.iinc 3 1, 3) := by decide +kernel
theorem dX7_mostUsed_57 : decode cX7_mostUsed 57 = .ok (.goto (-53), 3) := by decide +kernel
theorem dX7_mostUsed_60 : decode cX7_mostUsed 60 = .ok (.iload_n 2, 1) := by decide +kernel
theorem dX7_mostUsed_61 : decode cX7_mostUsed 61 = .ok (.ireturn, 1) := by decide +kernel
theorem dJ6_bitCount_0f7a4_0 : decode cJ6_bitCount_0f7a4 0 = .ok (.iload_n 0, 1) := by decide +kernel
theorem dJ6_bitCount_0f7a4_1 : decode cJ6_bitCount_0f7a4 1 = .ok (.iload_n 0, 1) := by decide +kernel
theorem dJ6_bitCount_0f7a4_2 : decode cJ6_bitCount_0f7a4 2 = .ok (.iconst 1, 1) := by decide +kernel
theorem dJ6_bitCount_0f7a4_3 : decode cJ6_bitCount_0f7a4 3 = .ok (.iushr, 1) := by decide +kernel
theorem dJ6_bitCount_0f7a4_4 : decode cJ6_bitCount_0f7a4 4 = .ok (.ldc_w 265, 3) := by decide +kernel
theorem dJ6_bitCount_0f7a4_7 : decode cJ6_bitCount_0f7a4 7 = .ok (.iand, 1) := by decide +kernel
theorem dJ6_bitCount_0f7a4_8 : decode cJ6_bitCount_0f7a4 8 = .ok (.isub, 1) := by decide +kernel
theorem dJ6_bitCount_0f7a4_9 : decode cJ6_bitCount_0f7a4 9 = .ok (.istore_n 0, 1) := by decide +kernel
theorem dJ6_bitCount_0f7a4_10 : decode cJ6_bitCount_0f7a4 10 = .ok (.iload_n 0, 1) := by decide +kernel
theorem dJ6_bitCount_0f7a4_11 : decode cJ6_bitCount_0f7a4 11 = .ok (.ldc_w 266, 3) := by decide +kernel
theorem dJ6_bitCount_0f7a4_14 : decode cJ6_bitCount_0f7a4 14 = .ok (.iand, 1) := by decide +kernel
theorem dJ6_bitCount_0f7a4_15 : decode cJ6_bitCount_0f7a4 15 = .ok (.iload_n 0, 1) := by decide +kernel
theorem dJ6_bitCount_0f7a4_16 : decode cJ6_bitCount_0f7a4 16 = .ok (.iconst 2, 1) := by decide +kernel
theorem dJ6_bitCount_0f7a4_17 : decode cJ6_bitCount_0f7a4 17 = .ok (.iushr, 1) := by decide +kernel
theorem dJ6_bitCount_0f7a4_18 : decode cJ6_bitCount_0f7a4 18 = .ok (.ldc_w 266, 3) := by decide +kernel
theorem dJ6_bitCount_0f7a4_21 : decode cJ6_bitCount_0f7a4 21 = .ok (.iand, 1) := by decide +kernel
theorem dJ6_bitCount_0f7a4_22 : decode cJ6_bitCount_0f7a4 22 = .ok (.iadd, 1) := by decide +kernel
theorem dJ6_bitCount_0f7a4_23 : decode cJ6_bitCount_0f7a4 23 = .ok (.istore_n 0, 1) := by decide +kernel
theorem dJ6_bitCount_0f7a4_24 : decode cJ6_bitCount_0f7a4 24 = .ok (.iload_n 0, 1) := by decide +kernel
theorem dJ6_bitCount_0f7a4_25 : decode cJ6_bitCount_0f7a4 25 = .ok (.iload_n 0, 1) := by decide +kernel
theorem dJ6_bitCount_0f7a4_26 : decode cJ6_bitCount_0f7a4 26 = .ok (.iconst 4, 1) := by decide +kernel
theorem dJ6_bitCount_0f7a4_27 : decode cJ6_bitCount_0f7a4 27 = .ok (.iushr, 1) := by decide +kernel
theorem dJ6_bitCount_0f7a4_28 : decode cJ6_bitCount_0f7a4 28 = .ok (.iadd, 1) := by decide +kernel
theorem dJ6_bitCount_0f7a4_29 : decode cJ6_bitCount_0f7a4 29 = .ok (.ldc_w 267, 3) := by decide +kernel
theorem dJ6_bitCount_0f7a4_32 : decode cJ6_bitCount_0f7a4 32 = .ok (.iand, 1) := by decide +kernel
theorem dJ6_bitCount_0f7a4_33 : decode cJ6_bitCount_0f7a4 33 = .ok (.istore_n 0, 1) := by decide +kernel
theorem dJ6_bitCount_0f7a4_34 : decode cJ6_bitCount_0f7a4 34 = .ok (.iload_n 0, 1) := by decide +kernel
theorem dJ6_bitCount_0f7a4_35 : decode cJ6_bitCount_0f7a4 35 = .ok (.iload_n 0, 1) := by decide +kernel
theorem dJ6_bitCount_0f7a4_36 : decode cJ6_bitCount_0f7a4 36 = .ok (.bipush 8, 2) := by decide +kernel
theorem dJ6_bitCount_0f7a4_38 : decode cJ6_bitCount_0f7a4 38 = .ok (.iushr, 1) := by decide +kernel
theorem dJ6_bitCount_0f7a4_39 : decode cJ6_bitCount_0f7a4 39 = .ok (.iadd, 1) := by decide +kernel
theorem dJ6_bitCount_0f7a4_40 : decode cJ6_bitCount_0f7a4 40 = .ok (.istore_n 0, 1) := by decide +kernel
theorem dJ6_bitCount_0f7a4_41 : decode cJ6_bitCount_0f7a4 41 = .ok (.iload_n 0, 1) := by decide +kernel
theorem dJ6_bitCount_0f7a4_42 : decode cJ6_bitCount_0f7a4 42 = .ok (.iload_n 0, 1) := by decide +kernel
theorem dJ6_bitCount_0f7a4_43 : decode cJ6_bitCount_0f7a4 43 = .ok (.bipush 16, 2) := by decide +kernel
theorem dJ6_bitCount_0f7a4_45 : decode cJ6_bitCount_0f7a4 45 = .ok (.iushr, 1) := by decide +kernel
theorem dJ6_bitCount_0f7a4_46 : decode cJ6_bitCount_0f7a4 46 = .ok (.iadd, 1) := by decide +kernel
theorem dJ6_bitCount_0f7a4_47 : decode cJ6_bitCount_0f7a4 47 = .ok (.istore_n 0, 1) := by decide +kernel
theorem dJ6_bitCount_0f7a4_48 : decode cJ6_bitCount_0f7a4 48 = .ok (.iload_n 0, 1) := by decide +kernel
theorem dJ6_bitCount_0f7a4_49 : decode cJ6_bitCount_0f7a4 49 = .ok (.bipush 63, 2) := by decide +kernel
theorem dJ6_bitCount_0f7a4_51 : decode cJ6_bitCount_0f7a4 51 = .ok (.iand, 1) := by decide +kernel
theorem dJ6_bitCount_0f7a4_52 : decode cJ6_bitCount_0f7a4 52 = .ok (.ireturn, 1) := by decide +kernel
theorem dJ9_abs_0f7a4_0 : decode cJ9_abs_0f7a4 0 = .ok (.iload_n 0, 1) := by decide +kernel
theorem dJ9_abs_0f7a4_1 : decode cJ9_abs_0f7a4 1 = .ok (.ifCond .ge 8, 3) := by decide +kernel
theorem dJ9_abs_0f7a4_4 : decode cJ9_abs_0f7a4 4 = .ok (.iload_n 0, 1) := by decide +kernel
theorem dJ9_abs_0f7a4_5 : decode cJ9_abs_0f7a4 5 = .ok (.ineg, 1) := by decide +kernel
theorem dJ9_abs_0f7a4_6 : decode cJ9_abs_0f7a4 6 = .ok (.goto 4, 3) := by decide +kernel
theorem dJ9_abs_0f7a4_9 : decode cJ9_abs_0f7a4 9 = .ok (.iload_n 0, 1) := by decide +kernel
theorem dJ9_abs_0f7a4_10 : decode cJ9_abs_0f7a4 10 = .ok (.ireturn, 1) := by decide +kernel
theorem dJ9_max_7cf53_0 : decode cJ9_max_7cf53 0 = .ok (.iload_n 0, 1) := by decide +kernel
theorem dJ9_max_7cf53_1 : decode cJ9_max_7cf53 1 = .ok (.iload_n 1, 1) := by decide +kernel
theorem dJ9_max_7cf53_2 : decode cJ9_max_7cf53 2 = .ok (.if_icmp .lt 7, 3) := by decide +kernel
theorem dJ9_max_7cf53_5 : decode cJ9_max_7cf53 5 = .ok (.iload_n 0, 1) := by decide +kernel
theorem dJ9_max_7cf53_6 : decode cJ9_max_7cf53 6 = .ok (.goto 4, 3) := by decide +kernel
theorem dJ9_max_7cf53_9 : decode cJ9_max_7cf53 9 = .ok (.iload_n 1, 1) := by decide +kernel
theorem dJ9_max_7cf53_10 : decode cJ9_max_7cf53 10 = .ok (.ireturn, 1) := by decide +kernel
theorem dJ9_min_7cf53_0 : decode cJ9_min_7cf53 0 = .ok (.iload_n 0, 1) := by decide +kernel
theorem dJ9_min_7cf53_1 : decode cJ9_min_7cf53 1 = .ok (.iload_n 1, 1) := by decide +kernel
theorem dJ9_min_7cf53_2 : decode cJ9_min_7cf53 2 = .ok (.if_icmp .gt 7, 3) := by decide +kernel
theorem dJ9_min_7cf53_5 : decode cJ9_min_7cf53 5 = .ok (.iload_n 0, 1) := by decide +kernel
theorem dJ9_min_7cf53_6 : decode cJ9_min_7cf53 6 = .ok (.goto 4, 3) := by decide +kernel
theorem dJ9_min_7cf53_9 : decode cJ9_min_7cf53 9 = .ok (.iload_n 1, 1) := by decide +kernel
theorem dJ9_min_7cf53_10 : decode cJ9_min_7cf53 10 = .ok (.ireturn, 1) := by decide +kernel
