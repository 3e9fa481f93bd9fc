theorem dX0_init_0 : decode cX0_init 0 = .ok (.aload_n 0, 1) := by decide +kernel
theorem dX0_init_1 : decode cX0_init 1 = .ok (.invokespecial 3, 3) := by decide +kernel
theorem dX0_init_4 : decode cX0_init 4 = .ok (.aload_n 0, 1) := by decide +kernel
theorem dX0_init_5 : decode cX0_init 5 = .ok (.bipush 10, 2) := by decide +kernel
theorem dX0_init_7 : decode cX0_init 7 = .ok (.newarray .int, 2) := by decide +kernel
theorem dX0_init_9 : decode cX0_init 9 = .ok (.putfield 9, 3) := by decide +kernel
theorem dX0_init_12 : decode cX0_init 12 = .ok (.aload_n 0, 1) := by decide +kernel
theorem dX0_init_13 : decode cX0_init 13 = .ok (.bipush 10, 2) := by decide +kernel
theorem dX0_init_15 : decode cX0_init 15 = .ok (.newarray .int, 2) := by decide +kernel
theorem dX0_init_17 : decode cX0_init 17 = .ok (.putfield 15, 3) := by decide +kernel
theorem dX0_init_20 : decode cX0_init 20 = .ok (.aload_n 0, 1) := by decide +kernel
theorem dX0_init_21 : decode cX0_init 21 = .ok (.bipush 10, 2) := by decide +kernel
theorem dX0_init_23 : decode cX0_init 23 = .ok (.newarray .int, 2) := by decide +kernel
theorem dX0_init_25 : decode cX0_init 25 = .ok (.putfield 18, 3) := by decide +kernel
theorem dX0_init_28 : decode cX0_init 28 = .ok (.aload_n 0, 1) := by decide +kernel
theorem dX0_init_29 : decode cX0_init 29 = .ok (.bipush 10, 2) := by decide +kernel
theorem dX0_init_31 : decode cX0_init 31 = .ok (.newarray .int, 2) := by decide +kernel
theorem dX0_init_33 : decode cX0_init 33 = .ok (.putfield 21, 3) := by decide +kernel
theorem dX0_init_36 : decode cX0_init 36 = .ok (.iconst 0, 1) := by decide +kernel
theorem dX0_init_37 : decode cX0_init 37 = .ok (.istore_n 1, 1) := by decide +kernel
theorem dX0_init_38 : decode cX0_init 38 = .ok (.iload_n 1, 1) := by decide +kernel
theorem dX0_init_39 : decode cX0_init 39 = .ok (.bipush 10, 2) := by decide +kernel
theorem dX0_init_41 : decode cX0_init 41 = .ok (.if_icmp .ge 16, 3) := by decide +kernel
theorem dX0_init_44 : decode cX0_init 44 = .ok (.aload_n 0, 1) := by decide +kernel
theorem dX0_init_45 : decode cX0_init 45 = .ok (.getfield 9, 3) := by decide +kernel
theorem dX0_init_48 : decode cX0_init 48 = .ok (.iload_n 1, 1) := by decide +kernel
theorem dX0_init_49 : decode cX0_init 49 = .ok (.iconst 1, 1) := by decide +kernel
theorem dX0_init_50 : decode cX0_init 50 = .ok (.iastore, 1) := by decide +kernel
theorem dX0_init_51 : decode cX0_init 51 = .ok (.iinc 1 1, 3) := by decide +kernel
theorem dX0_init_54 : decode cX0_init 54 = .ok (.goto (-16), 3) := by decide +kernel
theorem dX0_init_57 : decode cX0_init 57 = .ok (.return_, 1) := by decide +kernel
theorem dX0_copyFrom_0 : decode cX0_copyFrom 0 = .ok (.aload_n 1, 1) := by decide +kernel
theorem dX0_copyFrom_1 : decode cX0_copyFrom 1 = .ok (.getfield 9, 3) := by decide +kernel
theorem dX0_copyFrom_4 : decode cX0_copyFrom 4 = .ok (.iconst 0, 1) := by decide +kernel
theorem dX0_copyFrom_5 : decode cX0_copyFrom 5 = .ok (.aload_n 0, 1) := by decide +kernel
theorem dX0_copyFrom_6 : decode cX0_copyFrom 6 = .ok (.getfield 9, 3) := by decide +kernel
theorem dX0_copyFrom_9 : decode cX0_copyFrom 9 = .ok (.iconst 0, 1) := by decide +kernel
theorem dX0_copyFrom_10 : decode cX0_copyFrom 10 = .ok (.bipush 10, 2) := by decide +kernel
theorem dX0_copyFrom_12 : decode cX0_copyFrom 12 = .ok (.invokestatic 24, 3) := by decide +kernel
theorem dX0_copyFrom_15 : decode cX0_copyFrom 15 = .ok (.aload_n 1, 1) := by decide +kernel
theorem dX0_copyFrom_16 : decode cX0_copyFrom 16 = .ok (.getfield 15, 3) := by decide +kernel
theorem dX0_copyFrom_19 : decode cX0_copyFrom 19 = .ok (.iconst 0, 1) := by decide +kernel
theorem dX0_copyFrom_20 : decode cX0_copyFrom 20 = .ok (.aload_n 0, 1) := by decide +kernel
theorem dX0_copyFrom_21 : decode cX0_copyFrom 21 = .ok (.getfield 15, 3) := by decide +kernel
theorem dX0_copyFrom_24 : decode cX0_copyFrom 24 = .ok (.iconst 0, 1) := by decide +kernel
theorem dX0_copyFrom_25 : decode cX0_copyFrom 25 = .ok (.bipush 10, 2) := by decide +kernel
theorem dX0_copyFrom_27 : decode cX0_copyFrom 27 = .ok (.invokestatic 24, 3) := by decide +kernel
theorem dX0_copyFrom_30 : decode cX0_copyFrom 30 = .ok (.aload_n 1, 1) := by decide +kernel
theorem dX0_copyFrom_31 : decode cX0_copyFrom 31 = .ok (.getfield 18, 3) := by decide +kernel
theorem dX0_copyFrom_34 : decode cX0_copyFrom 34 = .ok (.iconst 0, 1) := by decide +kernel
theorem dX0_copyFrom_35 : decode cX0_copyFrom 35 = .ok (.aload_n 0, 1) := by decide +kernel
theorem dX0_copyFrom_36 : decode cX0_copyFrom 36 = .ok (.getfield 18, 3) := by decide +kernel
theorem dX0_copyFrom_39 : decode cX0_copyFrom 39 = .ok (.iconst 0, 1) := by decide +kernel
theorem dX0_copyFrom_40 : decode cX0_copyFrom 40 = .ok (.bipush 10, 2) := by decide +kernel
theorem dX0_copyFrom_42 : decode cX0_copyFrom 42 = .ok (.invokestatic 24, 3) := by decide +kernel
theorem dX0_copyFrom_45 : decode cX0_copyFrom 45 = .ok (.aload_n 1, 1) := by decide +kernel
theorem dX0_copyFrom_46 : decode cX0_copyFrom 46 = .ok (.getfield 21, 3) := by decide +kernel
theorem dX0_copyFrom_49 : decode cX0_copyFrom 49 = .ok (.iconst 0, 1) := by decide +kernel
theorem dX0_copyFrom_50 : decode cX0_copyFrom 50 = .ok (.aload_n 0, 1) := by decide +kernel
theorem dX0_copyFrom_51 : decode cX0_copyFrom 51 = .ok (.getfield 21, 3) := by decide +kernel
theorem dX0_copyFrom_54 : decode cX0_copyFrom 54 = .ok (.iconst 0, 1) := by decide +kernel
theorem dX0_copyFrom_55 : decode cX0_copyFrom 55 = .ok (.bipush 10, 2) := by decide +kernel
theorem dX0_copyFrom_57 : decode cX0_copyFrom 57 = .ok (.invokestatic 24, 3) := by decide +kernel
theorem dX0_copyFrom_60 : decode cX0_copyFrom 60 = .ok (.return_, 1) := by decide +kernel
theorem dX1_init_0 : decode cX1_init 0 = .ok (.aload_n 0, 1) := by decide +kernel
theorem dX1_init_1 : decode cX1_init 1 = .ok (.invokespecial 3, 3) := by decide +kernel
theorem dX1_init_4 : decode cX1_init 4 = .ok (.aload_n 0, 1) := by decide +kernel
theorem dX1_init_5 : decode cX1_init 5 = .ok (.iconst 0, 1) := by decide +kernel
theorem dX1_init_6 : decode cX1_init 6 = .ok (.putfield 9, 3) := by decide +kernel
theorem dX1_init_9 : decode cX1_init 9 = .ok (.aload_n 0, 1) := by decide +kernel
theorem dX1_init_10 : decode cX1_init 10 = .ok (.bipush 6, 2) := by decide +kernel
theorem dX1_init_12 : decode cX1_init 12 = .ok (.anewarray 15, 3) := by decide +kernel
theorem dX1_init_15 : decode cX1_init 15 = .ok (.putfield 17, 3) := by decide +kernel
theorem dX1_init_18 : decode cX1_init 18 = .ok (.aload_n 0, 1) := by decide +kernel
theorem dX1_init_19 : decode cX1_init 19 = .ok (.iconst 2, 1) := by decide +kernel
theorem dX1_init_20 : decode cX1_init 20 = .ok (.anewarray 15, 3) := by decide +kernel
theorem dX1_init_23 : decode cX1_init 23 = .ok (.putfield 21, 3) := by decide +kernel
theorem dX1_init_26 : decode cX1_init 26 = .ok (.return_, 1) := by decide +kernel
set_option maxRecDepth 20000 in
theorem ggX1_save_X1_dropOldest : GoodIn wsX1_save wsX1_dropOldest := goodIn_r _ [10, 2, 1, 87, 88, 89] (by decide +kernel) (by decide +kernel)
set_option maxRecDepth 20000 in
theorem gX1_save_X1_dropOldest : GoodIn wsX1_save (wsV RX1 24 RX1 yX1_dropOldest wsX1_dropOldest) := goodIn_app (goodIn_of _ (by decide +kernel)) ggX1_save_X1_dropOldest
set_option maxRecDepth 20000 in
theorem ggX1_save_X6_init : GoodIn wsX1_save wsX6_init := goodIn_r _ [12, 13, 14, 15, 16, 17, 18, 19, 20, 21, 22, 23, 24, 25, 26, 27, 28, 29, 30, 31, 32, 33, 34, 35, 36, 37, 38, 39, 40, 41, 42, 43, 44, 45, 46, 47, 48, 49, 50, 51, 52, 53, 54, 55, 56, 57, 58, 59, 60, 61, 62, 63, 64, 65, 95, 96, 97, 98, 99, 100, 90, 91, 92, 93, 94, 101, 102, 103, 104, 105, 106, 107, 108, 109, 110, 111, 112, 113] (by decide +kernel) (by decide +kernel)
set_option maxRecDepth 20000 in
theorem gX1_save_X6_init_n27 : GoodIn wsX1_save (wsX6_init) := ggX1_save_X6_init
set_option maxRecDepth 20000 in
theorem ggX1_save_X6_copyFrom : GoodIn wsX1_save wsX6_copyFrom := goodIn_r _ [68, 19, 23, 27, 31, 32, 69, 18, 70, 71, 36, 37, 39, 72, 73, 74, 75, 40, 41, 42, 76, 22, 77, 78, 46, 47, 48, 49, 50, 51, 53, 79, 26, 80, 81, 57, 82, 58, 59, 60, 83, 30, 84, 85, 64, 65, 86, 90, 91, 92, 93, 94, 95, 96, 97, 98, 99, 100, 101, 102, 103, 104, 105, 106, 107, 108, 109, 110, 111, 112, 113] (by decide +kernel) (by decide +kernel)
set_option maxRecDepth 20000 in
theorem gX1_save_X6_copyFrom_n28 : GoodIn wsX1_save (wsX6_copyFrom) := ggX1_save_X6_copyFrom
theorem dX1_save_0 : decode cX1_save 0 = .ok (.aload_n 0, 1) := by decide +kernel
theorem dX1_save_1 : decode cX1_save 1 = .ok (.getfield 9, 3) := by decide +kernel
theorem dX1_save_4 : decode cX1_save 4 = .ok (.bipush 6, 2) := by decide +kernel
theorem dX1_save_6 : decode cX1_save 6 = .ok (.if_icmp .lt 7, 3) := by decide +kernel
theorem dX1_save_9 : decode cX1_save 9 = .ok (.aload_n 0, 1) := by decide +kernel
theorem dX1_save_10 : decode cX1_save 10 = .ok (.invokevirtual 24, 3) := by decide +kernel
theorem dX1_save_13 : decode cX1_save 13 = .ok (.aload_n 0, 1) := by decide +kernel
theorem dX1_save_14 : decode cX1_save 14 = .ok (.getfield 17, 3) := by decide +kernel
theorem dX1_save_17 : decode cX1_save 17 = .ok (.aload_n 0, 1) := by decide +kernel
theorem dX1_save_18 : decode cX1_save 18 = .ok (.getfield 9, 3) := by decide +kernel
theorem dX1_save_21 : decode cX1_save 21 = .ok (.aaload, 1) := by decide +kernel
theorem dX1_save_22 : decode cX1_save 22 = .ok (.astore_n 2, 1) := by decide +kernel
theorem dX1_save_23 : decode cX1_save 23 = .ok (.aload_n 2, 1) := by decide +kernel
theorem dX1_save_24 : decode cX1_save 24 = .ok (.ifnonnull 21, 3) := by decide +kernel
theorem dX1_save_27 : decode cX1_save 27 = .ok (.new 15, 3) := by decide +kernel
theorem dX1_save_30 : decode cX1_save 30 = .ok (.dup, 1) := by decide +kernel
theorem dX1_save_31 : decode cX1_save 31 = .ok (.invokespecial 27, 3) := by decide +kernel
theorem dX1_save_34 : decode cX1_save 34 = .ok (.astore_n 2, 1) := by decide +kernel
theorem dX1_save_35 : decode cX1_save 35 = .ok (.aload_n 0, 1) := by decide +kernel
theorem dX1_save_36 : decode cX1_save 36 = .ok (.getfield 17, 3) := by decide +kernel
theorem dX1_save_39 : decode cX1_save 39 = .ok (.aload_n 0, 1) := by decide +kernel
theorem dX1_save_40 : decode cX1_save 40 = .ok (.getfield 9, 3) := by decide +kernel
theorem dX1_save_43 : decode cX1_save 43 = .ok (.aload_n 2, 1) := by decide +kernel
theorem dX1_save_44 : decode cX1_save 44 = .ok (.aastore, 1) := by decide +kernel
theorem dX1_save_45 : decode cX1_save 45 = .ok (.aload_n 2, 1) := by decide +kernel
theorem dX1_save_46 : decode cX1_save 46 = .ok (.aload_n 1, 1) := by decide +kernel
theorem dX1_save_47 : decode cX1_save 47 = .ok (.invokevirtual 28, 3) := by decide +kernel
theorem dX1_save_50 : decode cX1_save 50 = .ok (.aload_n 0, 1) := by decide +kernel
theorem dX1_save_51 : decode cX1_save 51 = .ok (.dup, 1) := by decide +kernel
theorem dX1_save_52 : decode cX1_save 52 = .ok (.getfield 9, 3) := by decide +kernel
theorem dX1_save_55 : decode cX1_save 55 = .ok (.iconst 1, 1) := by decide +kernel
theorem dX1_save_56 : decode cX1_save 56 = .ok (.iadd, 1) := by decide +kernel
theorem dX1_save_57 : decode cX1_save 57 = .ok (.putfield 9, 3) := by decide +kernel
theorem dX1_save_60 : decode cX1_save 60 = .ok (.return_, 1) := by decide +kernel
theorem dX1_dropOldest_0 : decode cX1_dropOldest 0 = .ok (.aload_n 0, 1) := by decide +kernel
theorem dX1_dropOldest_1 : decode cX1_dropOldest 1 = .ok (.getfield 17, 3) := by decide +kernel
theorem dX1_dropOldest_4 : decode cX1_dropOldest 4 = .ok (.iconst 0, 1) := by decide +kernel
theorem dX1_dropOldest_5 : decode cX1_dropOldest 5 = .ok (.aaload, 1) := by decide +kernel
theorem dX1_dropOldest_6 : decode cX1_dropOldest 6 = .ok (.astore_n 1, 1) := by decide +kernel
theorem dX1_dropOldest_7 : decode cX1_dropOldest 7 = .ok (.iconst 1, 1) := by decide +kernel
theorem dX1_dropOldest_8 : decode cX1_dropOldest 8 = .ok (.istore_n 2, 1) := by decide +kernel
theorem dX1_dropOldest_9 : decode cX1_dropOldest 9 = .ok (.iload_n 2, 1) := by decide +kernel
theorem dX1_dropOldest_10 : decode cX1_dropOldest 10 = .ok (.bipush 6, 2) := by decide +kernel
theorem dX1_dropOldest_12 : decode cX1_dropOldest 12 = .ok (.if_icmp .ge 23, 3) := by decide +kernel
theorem dX1_dropOldest_15 : decode cX1_dropOldest 15 = .ok (.aload_n 0, 1) := by decide +kernel
theorem dX1_dropOldest_16 : decode cX1_dropOldest 16 = .ok (.getfield 17, 3) := by decide +kernel
theorem dX1_dropOldest_19 : decode cX1_dropOldest 19 = .ok (.iload_n 2, 1) := by decide +kernel
theorem dX1_dropOldest_20 : decode cX1_dropOldest 20 = .ok (.iconst 1, 1) := by decide +kernel
theorem dX1_dropOldest_21 : decode cX1_dropOldest 21 = .ok (.isub, 1) := by decide +kernel
theorem dX1_dropOldest_22 : decode cX1_dropOldest 22 = .ok (.aload_n 0, 1) := by decide +kernel
theorem dX1_dropOldest_23 : decode cX1_dropOldest 23 = .ok (.getfield 17, 3) := by decide +kernel
theorem dX1_dropOldest_26 : decode cX1_dropOldest 26 = .ok (.iload_n 2, 1) := by decide +kernel
theorem dX1_dropOldest_27 : decode cX1_dropOldest 27 = .ok (.aaload, 1) := by decide +kernel
theorem dX1_dropOldest_28 : decode cX1_dropOldest 28 = .ok (.aastore, 1) := by decide +kernel
theorem dX1_dropOldest_29 : decode cX1_dropOldest 29 = .ok (.iinc 2 1, 3) := by decide +kernel
theorem dX1_dropOldest_32 : decode cX1_dropOldest 32 = .ok (.goto (-23), 3) := by decide +kernel
theorem dX1_dropOldest_35 : decode cX1_dropOldest 35 = .ok (.aload_n 0, 1) := by decide +kernel
theorem dX1_dropOldest_36 : decode cX1_dropOldest 36 = .ok (.getfield 17, 3) := by decide +kernel
theorem dX1_dropOldest_39 : decode cX1_dropOldest 39 = .ok (.iconst 5, 1) := by decide +kernel
theorem dX1_dropOldest_40 : decode cX1_dropOldest 40 = .ok (.aload_n 1, 1) := by decide +kernel
theorem dX1_dropOldest_41 : decode cX1_dropOldest 41 = .ok (.aastore, 1) := by decide +kernel
theorem dX1_dropOldest_42 : decode cX1_dropOldest 42 = .ok (.aload_n 0, 1) := by decide +kernel
theorem dX1_dropOldest_43 : decode cX1_dropOldest 43 = .ok (.iconst 5, 1) := by decide +kernel
theorem dX1_dropOldest_44 : decode cX1_dropOldest 44 = .ok (.putfield 9, 3) := by decide +kernel
theorem dX1_dropOldest_47 : decode cX1_dropOldest 47 = .ok (.return_, 1) := by decide +kernel
set_option maxRecDepth 20000 in
theorem ggX1_restoreLatest_X6_copyFrom : GoodIn wsX1_restoreLatest wsX6_copyFrom := goodIn_r _ [6, 7, 8, 9, 10, 11, 12, 13, 14, 15, 16, 17, 18, 19, 20, 21, 22, 23, 24, 25, 26, 27, 28, 29, 30, 31, 32, 33, 34, 35, 36, 37, 38, 39, 40, 41, 42, 43, 44, 45, 46, 47, 48, 49, 50, 51, 52, 56, 57, 58, 59, 60, 61, 62, 63, 64, 65, 66, 67, 68, 69, 70, 71, 72, 73, 74, 75, 76, 77, 78, 79] (by decide +kernel) (by decide +kernel)
set_option maxRecDepth 20000 in
theorem gX1_restoreLatest_X6_copyFrom_n28 : GoodIn wsX1_restoreLatest (wsX6_copyFrom) := ggX1_restoreLatest_X6_copyFrom
theorem dX1_restoreLatest_0 : decode cX1_restoreLatest 0 = .ok (.aload_n 0, 1) := by decide +kernel
theorem dX1_restoreLatest_1 : decode cX1_restoreLatest 1 = .ok (.getfield 9, 3) := by decide +kernel
theorem dX1_restoreLatest_4 : decode cX1_restoreLatest 4 = .ok (.ifCond .le 12, 3) := by decide +kernel
theorem dX1_restoreLatest_7 : decode cX1_restoreLatest 7 = .ok (.aload_n 0, 1) := by decide +kernel
theorem dX1_restoreLatest_8 : decode cX1_restoreLatest 8 = .ok (.getfield 9, 3) := by decide +kernel
theorem dX1_restoreLatest_11 : decode cX1_restoreLatest 11 = .ok (.bipush 6, 2) := by decide +kernel
theorem dX1_restoreLatest_13 : decode cX1_restoreLatest 13 = .ok (.if_icmp .le 5, 3) := by decide +kernel
theorem dX1_restoreLatest_16 : decode cX1_restoreLatest 16 = .ok (.iconst 0, 1) := by decide +kernel
theorem dX1_restoreLatest_17 : decode cX1_restoreLatest 17 = .ok (.ireturn, 1) := by decide +kernel
theorem dX1_restoreLatest_18 : decode cX1_restoreLatest 18 = .ok (.aload_n 0, 1) := by decide +kernel
theorem dX1_restoreLatest_19 : decode cX1_restoreLatest 19 = .ok (.getfield 17, 3) := by decide +kernel
theorem dX1_restoreLatest_22 : decode cX1_restoreLatest 22 = .ok (.aload_n 0, 1) := by decide +kernel
theorem dX1_restoreLatest_23 : decode cX1_restoreLatest 23 = .ok (.getfield 9, 3) := by decide +kernel
theorem dX1_restoreLatest_26 : decode cX1_restoreLatest 26 = .ok (.iconst 1, 1) := by decide +kernel
theorem dX1_restoreLatest_27 : decode cX1_restoreLatest 27 = .ok (.isub, 1) := by decide +kernel
theorem dX1_restoreLatest_28 : decode cX1_restoreLatest 28 = .ok (.aaload, 1) := by decide +kernel
theorem dX1_restoreLatest_29 : decode cX1_restoreLatest 29 = .ok (.astore_n 2, 1) := by decide +kernel
theorem dX1_restoreLatest_30 : decode cX1_restoreLatest 30 = .ok (.aload_n 2, 1) := by decide +kernel
theorem dX1_restoreLatest_31 : decode cX1_restoreLatest 31 = .ok (.ifnonnull 5, 3) := by decide +kernel
theorem dX1_restoreLatest_34 : decode cX1_restoreLatest 34 = .ok (.iconst 0, 1) := by decide +kernel
theorem dX1_restoreLatest_35 : decode cX1_restoreLatest 35 = .ok (.ireturn, 1) := by decide +kernel
theorem dX1_restoreLatest_36 : decode cX1_restoreLatest 36 = .ok (.aload_n 1, 1) := by decide +kernel
theorem dX1_restoreLatest_37 : decode cX1_restoreLatest 37 = .ok (.aload_n 2, 1) := by decide +kernel
theorem dX1_restoreLatest_38 : decode cX1_restoreLatest 38 = .ok (.invokevirtual 28, 3) := by decide +kernel
theorem dX1_restoreLatest_41 : decode cX1_restoreLatest 41 = .ok (.aload_n 0, 1) := by decide +kernel
theorem dX1_restoreLatest_42 : decode cX1_restoreLatest 42 = .ok (.dup, 1) := by decide +kernel
theorem dX1_restoreLatest_43 : decode cX1_restoreLatest 43 = .ok (.getfield 9, 3) := by decide +kernel
theorem dX1_restoreLatest_46 : decode cX1_restoreLatest 46 = .ok (.iconst 1, 1) := by decide +kernel
theorem dX1_restoreLatest_47 : decode cX1_restoreLatest 47 = .ok (.isub, 1) := by decide +kernel
theorem dX1_restoreLatest_48 : decode cX1_restoreLatest 48 = .ok (.putfield 9, 3) := by decide +kernel
theorem dX1_restoreLatest_51 : decode cX1_restoreLatest 51 = .ok (.iconst 1, 1) := by decide +kernel
theorem dX1_restoreLatest_52 : decode cX1_restoreLatest 52 = .ok (.ireturn, 1) := by decide +kernel
set_option maxRecDepth 20000 in
theorem ggX1_takeSnapshot_X6_init : GoodIn wsX1_takeSnapshot wsX6_init := goodIn_r _ [6, 7, 8, 9, 10, 11, 12, 13, 14, 15, 16, 17, 18, 19, 20, 21, 22, 23, 24, 25, 26, 27, 28, 29, 30, 31, 32, 33, 34, 35, 36, 37, 38, 39, 40, 41, 42, 43, 44, 45, 46, 47, 48, 49, 50, 51, 52, 53, 54, 55, 56, 57, 58, 59, 89, 90, 91, 92, 93, 94, 84, 85, 86, 87, 88, 95, 96, 97, 98, 99, 100, 101, 102, 103, 104, 105, 106, 107] (by decide +kernel) (by decide +kernel)
set_option maxRecDepth 20000 in
theorem gX1_takeSnapshot_X6_init_n27 : GoodIn wsX1_takeSnapshot (wsX6_init) := ggX1_takeSnapshot_X6_init
set_option maxRecDepth 20000 in
theorem ggX1_takeSnapshot_X6_copyFrom : GoodIn wsX1_takeSnapshot wsX6_copyFrom := goodIn_r _ [62, 13, 17, 21, 25, 26, 63, 12, 64, 65, 30, 31, 33, 66, 67, 68, 69, 34, 35, 36, 70, 16, 71, 72, 40, 41, 42, 43, 44, 45, 47, 73, 20, 74, 75, 51, 76, 52, 53, 54, 77, 24, 78, 79, 58, 59, 80, 84, 85, 86, 87, 88, 89, 90, 91, 92, 93, 94, 95, 96, 97, 98, 99, 100, 101, 102, 103, 104, 105, 106, 107] (by decide +kernel) (by decide +kernel)
set_option maxRecDepth 20000 in
theorem gX1_takeSnapshot_X6_copyFrom_n28 : GoodIn wsX1_takeSnapshot (wsX6_copyFrom) := ggX1_takeSnapshot_X6_copyFrom
theorem dX1_takeSnapshot_0 : decode cX1_takeSnapshot 0 = .ok (.aload_n 0, 1) := by decide +kernel
theorem dX1_takeSnapshot_1 : decode cX1_takeSnapshot 1 = .ok (.getfield 21, 3) := by decide +kernel
theorem dX1_takeSnapshot_4 : decode cX1_takeSnapshot 4 = .ok (.iload_n 1, 1) := by decide +kernel
theorem dX1_takeSnapshot_5 : decode cX1_takeSnapshot 5 = .ok (.aaload, 1) := by decide +kernel
theorem dX1_takeSnapshot_6 : decode cX1_takeSnapshot 6 = .ok (.astore_n 3, 1) := by decide +kernel
theorem dX1_takeSnapshot_7 : decode cX1_takeSnapshot 7 = .ok (.aload_n 3, 1) := by decide +kernel
theorem dX1_takeSnapshot_8 : decode cX1_takeSnapshot 8 = .ok (.ifnonnull 18, 3) := by decide +kernel
theorem dX1_takeSnapshot_11 : decode cX1_takeSnapshot 11 = .ok (.new 15, 3) := by decide +kernel
theorem dX1_takeSnapshot_14 : decode cX1_takeSnapshot 14 = .ok (.dup, 1) := by decide +kernel
theorem dX1_takeSnapshot_15 : decode cX1_takeSnapshot 15 = .ok (.invokespecial 27, 3) := by decide +kernel
theorem dX1_takeSnapshot_18 : decode cX1_takeSnapshot 18 = .ok (.astore_n 3, 1) := by decide +kernel
theorem dX1_takeSnapshot_19 : decode cX1_takeSnapshot 19 = .ok (.aload_n 0, 1) := by decide +kernel
theorem dX1_takeSnapshot_20 : decode cX1_takeSnapshot 20 = .ok (.getfield 21, 3) := by decide +kernel
theorem dX1_takeSnapshot_23 : decode cX1_takeSnapshot 23 = .ok (.iload_n 1, 1) := by decide +kernel
theorem dX1_takeSnapshot_24 : decode cX1_takeSnapshot 24 = .ok (.aload_n 3, 1) := by decide +kernel
theorem dX1_takeSnapshot_25 : decode cX1_takeSnapshot 25 = .ok (.aastore, 1) := by decide +kernel
theorem dX1_takeSnapshot_26 : decode cX1_takeSnapshot 26 = .ok (.aload_n 3, 1) := by decide +kernel
theorem dX1_takeSnapshot_27 : decode cX1_takeSnapshot 27 = .ok (.aload_n 2, 1) := by decide +kernel
theorem dX1_takeSnapshot_28 : decode cX1_takeSnapshot 28 = .ok (.invokevirtual 28, 3) := by decide +kernel
theorem dX1_takeSnapshot_31 : decode cX1_takeSnapshot 31 = .ok (.return_, 1) := by decide +kernel
theorem dX2_init_0 : decode cX2_init 0 = .ok (.aload_n 0, 1) := by decide +kernel
theorem dX2_init_1 : decode cX2_init 1 = .ok (.invokespecial 3, 3) := by decide +kernel
theorem dX2_init_4 : decode cX2_init 4 = .ok (.aload_n 0, 1) := by decide +kernel
theorem dX2_init_5 : decode cX2_init 5 = .ok (.iconst 0, 1) := by decide +kernel
theorem dX2_init_6 : decode cX2_init 6 = .ok (.putfield 9, 3) := by decide +kernel
theorem dX2_init_9 : decode cX2_init 9 = .ok (.aload_n 0, 1) := by decide +kernel
theorem dX2_init_10 : decode cX2_init 10 = .ok (.iconst 1, 1) := by decide +kernel
theorem dX2_init_11 : decode cX2_init 11 = .ok (.putfield 15, 3) := by decide +kernel
theorem dX2_init_14 : decode cX2_init 14 = .ok (.aload_n 0, 1) := by decide +kernel
theorem dX2_init_15 : decode cX2_init 15 = .ok (.iconst 0, 1) := by decide +kernel
theorem dX2_init_16 : decode cX2_init 16 = .ok (.putfield 19, 3) := by decide +kernel
theorem dX2_init_19 : decode cX2_init 19 = .ok (.aload_n 0, 1) := by decide +kernel
theorem dX2_init_20 : decode cX2_init 20 = .ok (.iconst 0, 1) := by decide +kernel
theorem dX2_init_21 : decode cX2_init 21 = .ok (.putfield 22, 3) := by decide +kernel
theorem dX2_init_24 : decode cX2_init 24 = .ok (.aload_n 0, 1) := by decide +kernel
theorem dX2_init_25 : decode cX2_init 25 = .ok (.iconst 0, 1) := by decide +kernel
theorem dX2_init_26 : decode cX2_init 26 = .ok (.putfield 25, 3) := by decide +kernel
theorem dX2_init_29 : decode cX2_init 29 = .ok (.aload_n 0, 1) := by decide +kernel
theorem dX2_init_30 : decode cX2_init 30 = .ok (.bipush 8, 2) := by decide +kernel
theorem dX2_init_32 : decode cX2_init 32 = .ok (.newarray .int, 2) := by decide +kernel
theorem dX2_init_34 : decode cX2_init 34 = .ok (.putfield 28, 3) := by decide +kernel
theorem dX2_init_37 : decode cX2_init 37 = .ok (.aload_n 0, 1) := by decide +kernel
theorem dX2_init_38 : decode cX2_init 38 = .ok (.bipush 8, 2) := by decide +kernel
theorem dX2_init_40 : decode cX2_init 40 = .ok (.newarray .boolean, 2) := by decide +kernel
theorem dX2_init_42 : decode cX2_init 42 = .ok (.putfield 32, 3) := by decide +kernel
theorem dX2_init_45 : decode cX2_init 45 = .ok (.return_, 1) := by decide +kernel
theorem dX2_copyFrom_0 : decode cX2_copyFrom 0 = .ok (.aload_n 0, 1) := by decide +kernel
theorem dX2_copyFrom_1 : decode cX2_copyFrom 1 = .ok (.aload_n 1, 1) := by decide +kernel
theorem dX2_copyFrom_2 : decode cX2_copyFrom 2 = .ok (.getfield 9, 3) := by decide +kernel
theorem dX2_copyFrom_5 : decode cX2_copyFrom 5 = .ok (.putfield 9, 3) := by decide +kernel
theorem dX2_copyFrom_8 : decode cX2_copyFrom 8 = .ok (.aload_n 0, 1) := by decide +kernel
theorem dX2_copyFrom_9 : decode cX2_copyFrom 9 = .ok (.aload_n 1, 1) := by decide +kernel
theorem dX2_copyFrom_10 : decode cX2_copyFrom 10 = .ok (.getfield 15, 3) := by decide +kernel
theorem dX2_copyFrom_13 : decode cX2_copyFrom 13 = .ok (.putfield 15, 3) := by decide +kernel
theorem dX2_copyFrom_16 : decode cX2_copyFrom 16 = .ok (.aload_n 0, 1) := by decide +kernel
theorem dX2_copyFrom_17 : decode cX2_copyFrom 17 = .ok (.aload_n 1, 1) := by decide +kernel
theorem dX2_copyFrom_18 : decode cX2_copyFrom 18 = .ok (.getfield 19, 3) := by decide +kernel
theorem dX2_copyFrom_21 : decode cX2_copyFrom 21 = .ok (.putfield 19, 3) := by decide +kernel
theorem dX2_copyFrom_24 : decode cX2_copyFrom 24 = .ok (.aload_n 0, 1) := by decide +kernel
theorem dX2_copyFrom_25 : decode cX2_copyFrom 25 = .ok (.aload_n 1, 1) := by decide +kernel
theorem dX2_copyFrom_26 : decode cX2_copyFrom 26 = .ok (.getfield 22, 3) := by decide +kernel
theorem dX2_copyFrom_29 : decode cX2_copyFrom 29 = .ok (.putfield 22, 3) := by decide +kernel
theorem dX2_copyFrom_32 : decode cX2_copyFrom 32 = .ok (.aload_n 0, 1) := by decide +kernel
theorem dX2_copyFrom_33 : decode cX2_copyFrom 33 = .ok (.aload_n 1, 1) := by decide +kernel
theorem dX2_copyFrom_34 : decode cX2_copyFrom 34 = .ok (.getfield 25, 3) := by decide +kernel
theorem dX2_copyFrom_37 : decode cX2_copyFrom 37 = .ok (.putfield 25, 3) := by decide +kernel
theorem dX2_copyFrom_40 : decode cX2_copyFrom 40 = .ok (.iconst 0, 1) := by decide +kernel
theorem dX2_copyFrom_41 : decode cX2_copyFrom 41 = .ok (.istore_n 2, 1) := by decide +kernel
theorem dX2_copyFrom_42 : decode cX2_copyFrom 42 = .ok (.iload_n 2, 1) := by decide +kernel
theorem dX2_copyFrom_43 : decode cX2_copyFrom 43 = .ok (.bipush 8, 2) := by decide +kernel
theorem dX2_copyFrom_45 : decode cX2_copyFrom 45 = .ok (.if_icmp .ge 33, 3) := by decide +kernel
theorem dX2_copyFrom_48 : decode cX2_copyFrom 48 = .ok (.aload_n 0, 1) := by decide +kernel
theorem dX2_copyFrom_49 : decode cX2_copyFrom 49 = .ok (.getfield 28, 3) := by decide +kernel
theorem dX2_copyFrom_52 : decode cX2_copyFrom 52 = .ok (.iload_n 2, 1) := by decide +kernel
theorem dX2_copyFrom_53 : decode cX2_copyFrom 53 = .ok (.aload_n 1, 1) := by decide +kernel
theorem dX2_copyFrom_54 : decode cX2_copyFrom 54 = .ok (.getfield 28, 3) := by decide +kernel
theorem dX2_copyFrom_57 : decode cX2_copyFrom 57 = .ok (.iload_n 2, 1) := by decide +kernel
theorem dX2_copyFrom_58 : decode cX2_copyFrom 58 = .ok (.iaload, 1) := by decide +kernel
theorem dX2_copyFrom_59 : decode cX2_copyFrom 59 = .ok (.iastore, 1) := by decide +kernel
theorem dX2_copyFrom_60 : decode cX2_copyFrom 60 = .ok (.aload_n 0, 1) := by decide +kernel
theorem dX2_copyFrom_61 : decode cX2_copyFrom 61 = .ok (.getfield 32, 3) := by decide +kernel
theorem dX2_copyFrom_64 : decode cX2_copyFrom 64 = .ok (.iload_n 2, 1) := by decide +kernel
theorem dX2_copyFrom_65 : decode cX2_copyFrom 65 = .ok (.aload_n 1, 1) := by decide +kernel
theorem dX2_copyFrom_66 : decode cX2_copyFrom 66 = .ok (.getfield 32, 3) := by decide +kernel
theorem dX2_copyFrom_69 : decode cX2_copyFrom 69 = .ok (.iload_n 2, 1) := by decide +kernel
theorem dX2_copyFrom_70 : decode cX2_copyFrom 70 = .ok (.baload, 1) := by decide +kernel
theorem dX2_copyFrom_71 : decode cX2_copyFrom 71 = .ok (.bastore, 1) := by decide +kernel
theorem dX2_copyFrom_72 : decode cX2_copyFrom 72 = .ok (.iinc 2 1, 3) := by decide +kernel
theorem dX2_copyFrom_75 : decode cX2_copyFrom 75 = .ok (.goto (-33), 3) := by decide +kernel
theorem dX2_copyFrom_78 : decode cX2_copyFrom 78 = .ok (.return_, 1) := by decide +kernel
theorem dX2_go_0 : decode cX2_go 0 = .ok (.bipush 7, 2) := by decide +kernel
theorem dX2_go_2 : decode cX2_go 2 = .ok (.istore 4, 2) := by decide +kernel
theorem dX2_go_4 : decode cX2_go 4 = .ok (.iload 4, 2) := by decide +kernel
theorem dX2_go_6 : decode cX2_go 6 = .ok (.ifCond .le 41, 3) := by decide +kernel
theorem dX2_go_9 : decode cX2_go 9 = .ok (.aload_n 0, 1) := by decide +kernel
theorem dX2_go_10 : decode cX2_go 10 = .ok (.getfield 28, 3) := by decide +kernel
theorem dX2_go_13 : decode cX2_go 13 = .ok (.iload 4, 2) := by decide +kernel
theorem dX2_go_15 : decode cX2_go 15 = .ok (.aload_n 0, 1) := by decide +kernel
theorem dX2_go_16 : decode cX2_go 16 = .ok (.getfield 28, 3) := by decide +kernel
theorem dX2_go_19 : decode cX2_go 19 = .ok (.iload 4, 2) := by decide +kernel
theorem dX2_go_21 : decode cX2_go 21 = .ok (.iconst 1, 1) := by decide +kernel
theorem dX2_go_22 : decode cX2_go 22 = .ok (.isub, 1) := by decide +kernel
theorem dX2_go_23 : decode cX2_go 23 = .ok (.iaload, 1) := by decide +kernel
theorem dX2_go_24 : decode cX2_go 24 = .ok (.iastore, 1) := by decide +kernel
theorem dX2_go_25 : decode cX2_go 25 = .ok (.aload_n 0, 1) := by decide +kernel
theorem dX2_go_26 : decode cX2_go 26 = .ok (.getfield 32, 3) := by decide +kernel
theorem dX2_go_29 : decode cX2_go 29 = .ok (.iload 4, 2) := by decide +kernel
theorem dX2_go_31 : decode cX2_go 31 = .ok (.aload_n 0, 1) := by decide +kernel
theorem dX2_go_32 : decode cX2_go 32 = .ok (.getfield 32, 3) := by decide +kernel
theorem dX2_go_35 : decode cX2_go 35 = .ok (.iload 4, 2) := by decide +kernel
theorem dX2_go_37 : decode cX2_go 37 = .ok (.iconst 1, 1) := by decide +kernel
theorem dX2_go_38 : decode cX2_go 38 = .ok (.isub, 1) := by decide +kernel
theorem dX2_go_39 : decode cX2_go 39 = .ok (.baload, 1) := by decide +kernel
theorem dX2_go_40 : decode cX2_go 40 = .ok (.bastore, 1) := by decide +kernel
theorem dX2_go_41 : decode cX2_go 41 = .ok (.iinc 4 (-1), 3) := by decide +kernel
theorem dX2_go_44 : decode cX2_go 44 = .ok (.goto (-40), 3) := by decide +kernel
theorem dX2_go_47 : decode cX2_go 47 = .ok (.aload_n 0, 1) := by decide +kernel
theorem dX2_go_48 : decode cX2_go 48 = .ok (.getfield 28, 3) := by decide +kernel
theorem dX2_go_51 : decode cX2_go 51 = .ok (.iconst 0, 1) := by decide +kernel
theorem dX2_go_52 : decode cX2_go 52 = .ok (.iload_n 1, 1) := by decide +kernel
theorem dX2_go_53 : decode cX2_go 53 = .ok (.iastore, 1) := by decide +kernel
theorem dX2_go_54 : decode cX2_go 54 = .ok (.aload_n 0, 1) := by decide +kernel
theorem dX2_go_55 : decode cX2_go 55 = .ok (.getfield 32, 3) := by decide +kernel
theorem dX2_go_58 : decode cX2_go 58 = .ok (.iconst 0, 1) := by decide +kernel
theorem dX2_go_59 : decode cX2_go 59 = .ok (.iload_n 2, 1) := by decide +kernel
theorem dX2_go_60 : decode cX2_go 60 = .ok (.bastore, 1) := by decide +kernel
theorem dX2_go_61 : decode cX2_go 61 = .ok (.aload_n 0, 1) := by decide +kernel
theorem dX2_go_62 : decode cX2_go 62 = .ok (.aload_n 0, 1) := by decide +kernel
theorem dX2_go_63 : decode cX2_go 63 = .ok (.getfield 25, 3) := by decide +kernel
theorem dX2_go_66 : decode cX2_go 66 = .ok (.iconst 1, 1) := by decide +kernel
theorem dX2_go_67 : decode cX2_go 67 = .ok (.iadd, 1) := by decide +kernel
theorem dX2_go_68 : decode cX2_go 68 = .ok (.bipush 8, 2) := by decide +kernel
theorem dX2_go_70 : decode cX2_go 70 = .ok (.invokestatic 36, 3) := by decide +kernel
theorem dX2_go_73 : decode cX2_go 73 = .ok (.putfield 25, 3) := by decide +kernel
theorem dX2_go_76 : decode cX2_go 76 = .ok (.aload_n 0, 1) := by decide +kernel
theorem dX2_go_77 : decode cX2_go 77 = .ok (.dup, 1) := by decide +kernel
theorem dX2_go_78 : decode cX2_go 78 = .ok (.getfield 19, 3) := by decide +kernel
theorem dX2_go_81 : decode cX2_go 81 = .ok (.iload_n 1, 1) := by decide +kernel
theorem dX2_go_82 : decode cX2_go 82 = .ok (.iadd, 1) := by decide +kernel
theorem dX2_go_83 : decode cX2_go 83 = .ok (.putfield 19, 3) := by decide +kernel
theorem dX2_go_86 : decode cX2_go 86 = .ok (.aload_n 0, 1) := by decide +kernel
theorem dX2_go_87 : decode cX2_go 87 = .ok (.dup, 1) := by decide +kernel
theorem dX2_go_88 : decode cX2_go 88 = .ok (.getfield 22, 3) := by decide +kernel
theorem dX2_go_91 : decode cX2_go 91 = .ok (.iload_n 2, 1) := by decide +kernel
theorem dX2_go_92 : decode cX2_go 92 = .ok (.ifCond .eq 7, 3) := by decide +kernel
theorem dX2_go_95 : decode cX2_go 95 = .ok (.iconst 1, 1) := by decide +kernel
theorem dX2_go_96 : decode cX2_go 96 = .ok (.goto 4, 3) := by decide +kernel
theorem dX2_go_99 : decode cX2_go 99 = .ok (.iconst 0, 1) := by decide +kernel
theorem dX2_go_100 : decode cX2_go 100 = .ok (.iadd, 1) := by decide +kernel
theorem dX2_go_101 : decode cX2_go 101 = .ok (.putfield 22, 3) := by decide +kernel
theorem dX2_go_104 : decode cX2_go 104 = .ok (.aload_n 0, 1) := by decide +kernel
theorem dX2_go_105 : decode cX2_go 105 = .ok (.iload_n 3, 1) := by decide +kernel
theorem dX2_go_106 : decode cX2_go 106 = .ok (.putfield 9, 3) := by decide +kernel
theorem dX2_go_109 : decode cX2_go 109 = .ok (.return_, 1) := by decide +kernel
theorem dX3_init_0 : decode cX3_init 0 = .ok (.aload_n 0, 1) := by decide +kernel
theorem dX3_init_1 : decode cX3_init 1 = .ok (.invokespecial 3, 3) := by decide +kernel
theorem dX3_init_4 : decode cX3_init 4 = .ok (.aload_n 0, 1) := by decide +kernel
theorem dX3_init_5 : decode cX3_init 5 = .ok (.iconst 0, 1) := by decide +kernel
theorem dX3_init_6 : decode cX3_init 6 = .ok (.putfield 9, 3) := by decide +kernel
theorem dX3_init_9 : decode cX3_init 9 = .ok (.aload_n 0, 1) := by decide +kernel
theorem dX3_init_10 : decode cX3_init 10 = .ok (.bipush 80, 2) := by decide +kernel
theorem dX3_init_12 : decode cX3_init 12 = .ok (.newarray .int, 2) := by decide +kernel
theorem dX3_init_14 : decode cX3_init 14 = .ok (.putfield 15, 3) := by decide +kernel
theorem dX3_init_17 : decode cX3_init 17 = .ok (.return_, 1) := by decide +kernel
theorem dX3_copyFrom_0 : decode cX3_copyFrom 0 = .ok (.aload_n 0, 1) := by decide +kernel
theorem dX3_copyFrom_1 : decode cX3_copyFrom 1 = .ok (.aload_n 1, 1) := by decide +kernel
theorem dX3_copyFrom_2 : decode cX3_copyFrom 2 = .ok (.getfield 9, 3) := by decide +kernel
theorem dX3_copyFrom_5 : decode cX3_copyFrom 5 = .ok (.putfield 9, 3) := by decide +kernel
theorem dX3_copyFrom_8 : decode cX3_copyFrom 8 = .ok (.aload_n 1, 1) := by decide +kernel
theorem dX3_copyFrom_9 : decode cX3_copyFrom 9 = .ok (.getfield 15, 3) := by decide +kernel
theorem dX3_copyFrom_12 : decode cX3_copyFrom 12 = .ok (.iconst 0, 1) := by decide +kernel
theorem dX3_copyFrom_13 : decode cX3_copyFrom 13 = .ok (.aload_n 0, 1) := by decide +kernel
theorem dX3_copyFrom_14 : decode cX3_copyFrom 14 = .ok (.getfield 15, 3) := by decide +kernel
theorem dX3_copyFrom_17 : decode cX3_copyFrom 17 = .ok (.iconst 0, 1) := by decide +kernel
theorem dX3_copyFrom_18 : decode cX3_copyFrom 18 = .ok (.bipush 80, 2) := by decide +kernel
theorem dX3_copyFrom_20 : decode cX3_copyFrom 20 = .ok (.invokestatic 19, 3) := by decide +kernel
theorem dX3_copyFrom_23 : decode cX3_copyFrom 23 = .ok (.return_, 1) := by decide +kernel
theorem dX3_add_0 : decode cX3_add 0 = .ok (.aload_n 0, 1) := by decide +kernel
theorem dX3_add_1 : decode cX3_add 1 = .ok (.getfield 9, 3) := by decide +kernel
theorem dX3_add_4 : decode cX3_add 4 = .ok (.istore_n 2, 1) := by decide +kernel
theorem dX3_add_5 : decode cX3_add 5 = .ok (.iconst 0, 1) := by decide +kernel
theorem dX3_add_6 : decode cX3_add 6 = .ok (.istore_n 3, 1) := by decide +kernel
theorem dX3_add_7 : decode cX3_add 7 = .ok (.iload_n 3, 1) := by decide +kernel
theorem dX3_add_8 : decode cX3_add 8 = .ok (.bipush 10, 2) := by decide +kernel
theorem dX3_add_10 : decode cX3_add 10 = .ok (.if_icmp .ge 29, 3) := by decide +kernel
theorem dX3_add_13 : decode cX3_add 13 = .ok (.iload_n 3, 1) := by decide +kernel
theorem dX3_add_14 : decode cX3_add 14 = .ok (.aload_n 1, 1) := by decide +kernel
theorem dX3_add_15 : decode cX3_add 15 = .ok (.arraylength, 1) := by decide +kernel
theorem dX3_add_16 : decode cX3_add 16 = .ok (.if_icmp .ge 23, 3) := by decide +kernel
theorem dX3_add_19 : decode cX3_add 19 = .ok (.aload_n 0, 1) := by decide +kernel
theorem dX3_add_20 : decode cX3_add 20 = .ok (.getfield 15, 3) := by decide +kernel
theorem dX3_add_23 : decode cX3_add 23 = .ok (.iload_n 2, 1) := by decide +kernel
theorem dX3_add_24 : decode cX3_add 24 = .ok (.bipush 10, 2) := by decide +kernel
theorem dX3_add_26 : decode cX3_add 26 = .ok (.imul, 1) := by decide +kernel
theorem dX3_add_27 : decode cX3_add 27 = .ok (.iload_n 3, 1) := by decide +kernel
theorem dX3_add_28 : decode cX3_add 28 = .ok (.iadd, 1) := by decide +kernel
theorem dX3_add_29 : decode cX3_add 29 = .ok (.aload_n 1, 1) := by decide +kernel
theorem dX3_add_30 : decode cX3_add 30 = .ok (.iload_n 3, 1) := by decide +kernel
theorem dX3_add_31 : decode cX3_add 31 = .ok (.iaload, 1) := by decide +kernel
theorem dX3_add_32 : decode cX3_add 32 = .ok (.iastore, 1) := by decide +kernel
theorem dX3_add_33 : decode cX3_add 33 = .ok (.iinc 3 1, 3) := by decide +kernel
theorem dX3_add_36 : decode cX3_add 36 = .ok (.goto (-29), 3) := by decide +kernel
theorem dX3_add_39 : decode cX3_add 39 = .ok (.aload_n 0, 1) := by decide +kernel
theorem dX3_add_40 : decode cX3_add 40 = .ok (.dup, 1) := by decide +kernel
theorem dX3_add_41 : decode cX3_add 41 = .ok (.getfield 9, 3) := by decide +kernel
theorem dX3_add_44 : decode cX3_add 44 = .ok (.iconst 1, 1) := by decide +kernel
theorem dX3_add_45 : decode cX3_add 45 = .ok (.iadd, 1) := by decide +kernel
theorem dX3_add_46 : decode cX3_add 46 = .ok (.putfield 9, 3) := by decide +kernel
theorem dX3_add_49 : decode cX3_add 49 = .ok (.iload_n 2, 1) := by decide +kernel
theorem dX3_add_50 : decode cX3_add 50 = .ok (.ireturn, 1) := by decide +kernel
theorem dX3_remove_0 : decode cX3_remove 0 = .ok (.iload_n 1, 1) := by decide +kernel
theorem dX3_remove_1 : decode cX3_remove 1 = .ok (.iconst 1, 1) := by decide +kernel
theorem dX3_remove_2 : decode cX3_remove 2 = .ok (.iadd, 1) := by decide +kernel
theorem dX3_remove_3 : decode cX3_remove 3 = .ok (.istore_n 2, 1) := by decide +kernel
theorem dX3_remove_4 : decode cX3_remove 4 = .ok (.iload_n 2, 1) := by decide +kernel
theorem dX3_remove_5 : decode cX3_remove 5 = .ok (.aload_n 0, 1) := by decide +kernel
theorem dX3_remove_6 : decode cX3_remove 6 = .ok (.getfield 9, 3) := by decide +kernel
theorem dX3_remove_9 : decode cX3_remove 9 = .ok (.if_icmp .ge 32, 3) := by decide +kernel
theorem dX3_remove_12 : decode cX3_remove 12 = .ok (.aload_n 0, 1) := by decide +kernel
theorem dX3_remove_13 : decode cX3_remove 13 = .ok (.getfield 15, 3) := by decide +kernel
theorem dX3_remove_16 : decode cX3_remove 16 = .ok (.iload_n 2, 1) := by decide +kernel
theorem dX3_remove_17 : decode cX3_remove 17 = .ok (.bipush 10, 2) := by decide +kernel
theorem dX3_remove_19 : decode cX3_remove 19 = .ok (.imul, 1) := by decide +kernel
theorem dX3_remove_20 : decode cX3_remove 20 = .ok (.aload_n 0, 1) := by decide +kernel
theorem dX3_remove_21 : decode cX3_remove 21 = .ok (.getfield 15, 3) := by decide +kernel
theorem dX3_remove_24 : decode cX3_remove 24 = .ok (.iload_n 2, 1) := by decide +kernel
theorem dX3_remove_25 : decode cX3_remove 25 = .ok (.iconst 1, 1) := by decide +kernel
theorem dX3_remove_26 : decode cX3_remove 26 = .ok (.isub, 1) := by decide +kernel
theorem dX3_remove_27 : decode cX3_remove 27 = .ok (.bipush 10, 2) := by decide +kernel
theorem dX3_remove_29 : decode cX3_remove 29 = .ok (.imul, 1) := by decide +kernel
theorem dX3_remove_30 : decode cX3_remove 30 = .ok (.bipush 10, 2) := by decide +kernel
theorem dX3_remove_32 : decode cX3_remove 32 = .ok (.invokestatic 19, 3) := by decide +kernel
theorem dX3_remove_35 : decode cX3_remove 35 = .ok (.iinc 2 1, 3) := by decide +kernel
theorem dX3_remove_38 : decode cX3_remove 38 = .ok (.goto (-34), 3) := by decide +kernel
theorem dX3_remove_41 : decode cX3_remove 41 = .ok (.aload_n 0, 1) := by decide +kernel
theorem dX3_remove_42 : decode cX3_remove 42 = .ok (.dup, 1) := by decide +kernel
theorem dX3_remove_43 : decode cX3_remove 43 = .ok (.getfield 9, 3) := by decide +kernel
theorem dX3_remove_46 : decode cX3_remove 46 = .ok (.iconst 1, 1) := by decide +kernel
theorem dX3_remove_47 : decode cX3_remove 47 = .ok (.isub, 1) := by decide +kernel
theorem dX3_remove_48 : decode cX3_remove 48 = .ok (.putfield 9, 3) := by decide +kernel
theorem dX3_remove_51 : decode cX3_remove 51 = .ok (.return_, 1) := by decide +kernel
theorem dX3_wantedOf_0 : decode cX3_wantedOf 0 = .ok (.aload_n 0, 1) := by decide +kernel
theorem dX3_wantedOf_1 : decode cX3_wantedOf 1 = .ok (.getfield 15, 3) := by decide +kernel
theorem dX3_wantedOf_4 : decode cX3_wantedOf 4 = .ok (.iload_n 1, 1) := by decide +kernel
theorem dX3_wantedOf_5 : decode cX3_wantedOf 5 = .ok (.bipush 10, 2) := by decide +kernel
theorem dX3_wantedOf_7 : decode cX3_wantedOf 7 = .ok (.imul, 1) := by decide +kernel
theorem dX3_wantedOf_8 : decode cX3_wantedOf 8 = .ok (.iload_n 2, 1) := by decide +kernel
theorem dX3_wantedOf_9 : decode cX3_wantedOf 9 = .ok (.iadd, 1) := by decide +kernel
theorem dX3_wantedOf_10 : decode cX3_wantedOf 10 = .ok (.iaload, 1) := by decide +kernel
theorem dX3_wantedOf_11 : decode cX3_wantedOf 11 = .ok (.ireturn, 1) := by decide +kernel
set_option maxRecDepth 20000 in
theorem ggX3_sumOf_X3_wantedOf : GoodIn wsX3_sumOf wsX3_wantedOf := goodIn_r _ [5, 6, 7, 8] (by decide +kernel) (by decide +kernel)
set_option maxRecDepth 20000 in
theorem gX3_sumOf_X3_wantedOf : GoodIn wsX3_sumOf (wsV RX3 25 RX3 yX3_wantedOf wsX3_wantedOf) := goodIn_app (goodIn_of _ (by decide +kernel)) ggX3_sumOf_X3_wantedOf
theorem dX3_sumOf_0 : decode cX3_sumOf 0 = .ok (.iconst 0, 1) := by decide +kernel
theorem dX3_sumOf_1 : decode cX3_sumOf 1 = .ok (.istore_n 2, 1) := by decide +kernel
theorem dX3_sumOf_2 : decode cX3_sumOf 2 = .ok (.iconst 0, 1) := by decide +kernel
theorem dX3_sumOf_3 : decode cX3_sumOf 3 = .ok (.istore_n 3, 1) := by decide +kernel
theorem dX3_sumOf_4 : decode cX3_sumOf 4 = .ok (.iload_n 3, 1) := by decide +kernel
theorem dX3_sumOf_5 : decode cX3_sumOf 5 = .ok (.bipush 10, 2) := by decide +kernel
theorem dX3_sumOf_7 : decode cX3_sumOf 7 = .ok (.if_icmp .ge 18, 3) := by decide +kernel
theorem dX3_sumOf_10 : decode cX3_sumOf 10 = .ok (.iload_n 2, 1) := by decide +kernel
theorem dX3_sumOf_11 : decode cX3_sumOf 11 = .ok (.aload_n 0, 1) := by decide +kernel
theorem dX3_sumOf_12 : decode cX3_sumOf 12 = .ok (.iload_n 1, 1) := by decide +kernel
theorem dX3_sumOf_13 : decode cX3_sumOf 13 = .ok (.iload_n 3, 1) := by decide +kernel
theorem dX3_sumOf_14 : decode cX3_sumOf 14 = .ok (.invokevirtual 25, 3) := by decide +kernel
theorem dX3_sumOf_17 : decode cX3_sumOf 17 = .ok (.iadd, 1) := by decide +kernel
theorem dX3_sumOf_18 : decode cX3_sumOf 18 = .ok (.istore_n 2, 1) := by decide +kernel
theorem dX3_sumOf_19 : decode cX3_sumOf 19 = .ok (.iinc 3 1, 3) := by decide +kernel
theorem dX3_sumOf_22 : decode cX3_sumOf 22 = .ok (.goto (-18), 3) := by decide +kernel
theorem dX3_sumOf_25 : decode cX3_sumOf 25 = .ok (.iload_n 2, 1) := by decide +kernel
theorem dX3_sumOf_26 : decode cX3_sumOf 26 = .ok (.ireturn, 1) := by decide +kernel
theorem dX4_init_0 : decode cX4_init 0 = .ok (.aload_n 0, 1) := by decide +kernel
theorem dX4_init_1 : decode cX4_init 1 = .ok (.invokespecial 3, 3) := by decide +kernel
theorem dX4_init_4 : decode cX4_init 4 = .ok (.aload_n 0, 1) := by decide +kernel
theorem dX4_init_5 : decode cX4_init 5 = .ok (.iconst 0, 1) := by decide +kernel
theorem dX4_init_6 : decode cX4_init 6 = .ok (.putfield 11, 3) := by decide +kernel
theorem dX4_init_9 : decode cX4_init 9 = .ok (.aload_n 0, 1) := by decide +kernel
theorem dX4_init_10 : decode cX4_init 10 = .ok (.iconst (-1), 1) := by decide +kernel
theorem dX4_init_11 : decode cX4_init 11 = .ok (.putfield 15, 3) := by decide +kernel
theorem dX4_init_14 : decode cX4_init 14 = .ok (.aload_n 0, 1) := by decide +kernel
theorem dX4_init_15 : decode cX4_init 15 = .ok (.bipush 10, 2) := by decide +kernel
theorem dX4_init_17 : decode cX4_init 17 = .ok (.newarray .int, 2) := by decide +kernel
theorem dX4_init_19 : decode cX4_init 19 = .ok (.putfield 18, 3) := by decide +kernel
theorem dX4_init_22 : decode cX4_init 22 = .ok (.return_, 1) := by decide +kernel
theorem dX4_begin_0 : decode cX4_begin 0 = .ok (.aload_n 0, 1) := by decide +kernel
theorem dX4_begin_1 : decode cX4_begin 1 = .ok (.iconst 0, 1) := by decide +kernel
theorem dX4_begin_2 : decode cX4_begin 2 = .ok (.putfield 11, 3) := by decide +kernel
theorem dX4_begin_5 : decode cX4_begin 5 = .ok (.aload_n 0, 1) := by decide +kernel
theorem dX4_begin_6 : decode cX4_begin 6 = .ok (.iconst (-1), 1) := by decide +kernel
theorem dX4_begin_7 : decode cX4_begin 7 = .ok (.putfield 15, 3) := by decide +kernel
theorem dX4_begin_10 : decode cX4_begin 10 = .ok (.iconst 0, 1) := by decide +kernel
theorem dX4_begin_11 : decode cX4_begin 11 = .ok (.istore_n 1, 1) := by decide +kernel
theorem dX4_begin_12 : decode cX4_begin 12 = .ok (.iload_n 1, 1) := by decide +kernel
theorem dX4_begin_13 : decode cX4_begin 13 = .ok (.bipush 10, 2) := by decide +kernel
theorem dX4_begin_15 : decode cX4_begin 15 = .ok (.if_icmp .ge 16, 3) := by decide +kernel
theorem dX4_begin_18 : decode cX4_begin 18 = .ok (.aload_n 0, 1) := by decide +kernel
theorem dX4_begin_19 : decode cX4_begin 19 = .ok (.getfield 18, 3) := by decide +kernel
theorem dX4_begin_22 : decode cX4_begin 22 = .ok (.iload_n 1, 1) := by decide +kernel
theorem dX4_begin_23 : decode cX4_begin 23 = .ok (.iconst 0, 1) := by decide +kernel
theorem dX4_begin_24 : decode cX4_begin 24 = .ok (.iastore, 1) := by decide +kernel
theorem dX4_begin_25 : decode cX4_begin 25 = .ok (.iinc 1 1, 3) := by decide +kernel
theorem dX4_begin_28 : decode cX4_begin 28 = .ok (.goto (-16), 3) := by decide +kernel
theorem dX4_begin_31 : decode cX4_begin 31 = .ok (.return_, 1) := by decide +kernel
theorem dX4_isAtEnd_0 : decode cX4_isAtEnd 0 = .ok (.aload_n 0, 1) := by decide +kernel
theorem dX4_isAtEnd_1 : decode cX4_isAtEnd 1 = .ok (.getfield 11, 3) := by decide +kernel
theorem dX4_isAtEnd_4 : decode cX4_isAtEnd 4 = .ok (.iconst 3, 1) := by decide +kernel
theorem dX4_isAtEnd_5 : decode cX4_isAtEnd 5 = .ok (.if_icmp .ne 7, 3) := by decide +kernel
theorem dX4_isAtEnd_8 : decode cX4_isAtEnd 8 = .ok (.iconst 1, 1) := by decide +kernel
theorem dX4_isAtEnd_9 : decode cX4_isAtEnd 9 = .ok (.goto 4, 3) := by decide +kernel
theorem dX4_isAtEnd_12 : decode cX4_isAtEnd 12 = .ok (.iconst 0, 1) := by decide +kernel
theorem dX4_isAtEnd_13 : decode cX4_isAtEnd 13 = .ok (.ireturn, 1) := by decide +kernel
set_option maxRecDepth 20000 in
theorem ggX4_read_X4_readKind : GoodIn wsX4_read wsX4_readKind := goodIn_r _ [6, 7, 1, 17, 18, 19] (by decide +kernel) (by decide +kernel)
set_option maxRecDepth 20000 in
theorem gX4_read_X4_readKind : GoodIn wsX4_read (wsV RX4 22 RX4 yX4_readKind wsX4_readKind) := goodIn_app (goodIn_of _ (by decide +kernel)) ggX4_read_X4_readKind
set_option maxRecDepth 20000 in
theorem ggX4_read_X4_readDigit : GoodIn wsX4_read wsX4_readDigit := goodIn_r _ [11, 7, 12, 17, 18, 19] (by decide +kernel) (by decide +kernel)
set_option maxRecDepth 20000 in
theorem gX4_read_X4_readDigit : GoodIn wsX4_read (wsV RX4 26 RX4 yX4_readDigit wsX4_readDigit) := goodIn_app (goodIn_of _ (by decide +kernel)) ggX4_read_X4_readDigit
set_option maxRecDepth 20000 in
theorem ggX4_read_X4_readComma : GoodIn wsX4_read wsX4_readComma := goodIn_r _ [16, 1, 7, 17, 18, 19] (by decide +kernel) (by decide +kernel)
set_option maxRecDepth 20000 in
theorem gX4_read_X4_readComma : GoodIn wsX4_read (wsV RX4 29 RX4 yX4_readComma wsX4_readComma) := goodIn_app (goodIn_of _ (by decide +kernel)) ggX4_read_X4_readComma
theorem dX4_read_0 : decode cX4_read 0 = .ok (.aload_n 0, 1) := by decide +kernel
theorem dX4_read_1 : decode cX4_read 1 = .ok (.getfield 11, 3) := by decide +kernel
theorem dX4_read_4 : decode cX4_read 4 = .ok (.tableswitch 76 0 2 #[28, 34, 51], 28) := by decide +kernel
theorem dX4_read_32 : decode cX4_read 32 = .ok (.aload_n 0, 1) := by decide +kernel
theorem dX4_read_33 : decode cX4_read 33 = .ok (.iload_n 1, 1) := by decide +kernel
theorem dX4_read_34 : decode cX4_read 34 = .ok (.invokevirtual 22, 3) := by decide +kernel
theorem dX4_read_37 : decode cX4_read 37 = .ok (.ireturn, 1) := by decide +kernel
theorem dX4_read_38 : decode cX4_read 38 = .ok (.aload_n 0, 1) := by decide +kernel
theorem dX4_read_39 : decode cX4_read 39 = .ok (.iconst 2, 1) := by decide +kernel
theorem dX4_read_40 : decode cX4_read 40 = .ok (.putfield 11, 3) := by decide +kernel
theorem dX4_read_43 : decode cX4_read 43 = .ok (.iload_n 1, 1) := by decide +kernel
theorem dX4_read_44 : decode cX4_read 44 = .ok (.bipush 42, 2) := by decide +kernel
theorem dX4_read_46 : decode cX4_read 46 = .ok (.if_icmp .ne 7, 3) := by decide +kernel
theorem dX4_read_49 : decode cX4_read 49 = .ok (.iconst 1, 1) := by decide +kernel
theorem dX4_read_50 : decode cX4_read 50 = .ok (.goto 4, 3) := by decide +kernel
theorem dX4_read_53 : decode cX4_read 53 = .ok (.iconst 0, 1) := by decide +kernel
theorem dX4_read_54 : decode cX4_read 54 = .ok (.ireturn, 1) := by decide +kernel
theorem dX4_read_55 : decode cX4_read 55 = .ok (.aload_n 0, 1) := by decide +kernel
theorem dX4_read_56 : decode cX4_read 56 = .ok (.iconst 3, 1) := by decide +kernel
theorem dX4_read_57 : decode cX4_read 57 = .ok (.putfield 11, 3) := by decide +kernel
theorem dX4_read_60 : decode cX4_read 60 = .ok (.iload_n 1, 1) := by decide +kernel
theorem dX4_read_61 : decode cX4_read 61 = .ok (.bipush 48, 2) := by decide +kernel
theorem dX4_read_63 : decode cX4_read 63 = .ok (.if_icmp .eq 15, 3) := by decide +kernel
theorem dX4_read_66 : decode cX4_read 66 = .ok (.aload_n 0, 1) := by decide +kernel
theorem dX4_read_67 : decode cX4_read 67 = .ok (.iload_n 1, 1) := by decide +kernel
theorem dX4_read_68 : decode cX4_read 68 = .ok (.invokevirtual 26, 3) := by decide +kernel
theorem dX4_read_71 : decode cX4_read 71 = .ok (.ifCond .eq 7, 3) := by decide +kernel
theorem dX4_read_74 : decode cX4_read 74 = .ok (.iconst 1, 1) := by decide +kernel
theorem dX4_read_75 : decode cX4_read 75 = .ok (.goto 4, 3) := by decide +kernel
theorem dX4_read_78 : decode cX4_read 78 = .ok (.iconst 0, 1) := by decide +kernel
theorem dX4_read_79 : decode cX4_read 79 = .ok (.ireturn, 1) := by decide +kernel
theorem dX4_read_80 : decode cX4_read 80 = .ok (.iload_n 1, 1) := by decide +kernel
theorem dX4_read_81 : decode cX4_read 81 = .ok (.bipush 44, 2) := by decide +kernel
theorem dX4_read_83 : decode cX4_read 83 = .ok (.if_icmp .ne 10, 3) := by decide +kernel
theorem dX4_read_86 : decode cX4_read 86 = .ok (.aload_n 0, 1) := by decide +kernel
theorem dX4_read_87 : decode cX4_read 87 = .ok (.invokevirtual 29, 3) := by decide +kernel
theorem dX4_read_90 : decode cX4_read 90 = .ok (.goto 8, 3) := by decide +kernel
theorem dX4_read_93 : decode cX4_read 93 = .ok (.aload_n 0, 1) := by decide +kernel
theorem dX4_read_94 : decode cX4_read 94 = .ok (.iload_n 1, 1) := by decide +kernel
theorem dX4_read_95 : decode cX4_read 95 = .ok (.invokevirtual 26, 3) := by decide +kernel
theorem dX4_read_98 : decode cX4_read 98 = .ok (.ireturn, 1) := by decide +kernel
theorem dX4_readKind_0 : decode cX4_readKind 0 = .ok (.iload_n 1, 1) := by decide +kernel
theorem dX4_readKind_1 : decode cX4_readKind 1 = .ok (.bipush 48, 2) := by decide +kernel
theorem dX4_readKind_3 : decode cX4_readKind 3 = .ok (.isub, 1) := by decide +kernel
theorem dX4_readKind_4 : decode cX4_readKind 4 = .ok (.istore_n 2, 1) := by decide +kernel
theorem dX4_readKind_5 : decode cX4_readKind 5 = .ok (.iload_n 2, 1) := by decide +kernel
theorem dX4_readKind_6 : decode cX4_readKind 6 = .ok (.aload_n 0, 1) := by decide +kernel
theorem dX4_readKind_7 : decode cX4_readKind 7 = .ok (.getfield 15, 3) := by decide +kernel
theorem dX4_readKind_10 : decode cX4_readKind 10 = .ok (.if_icmp .le 13, 3) := by decide +kernel
theorem dX4_readKind_13 : decode cX4_readKind 13 = .ok (.iload_n 2, 1) := by decide +kernel
theorem dX4_readKind_14 : decode cX4_readKind 14 = .ok (.ifCond .lt 9, 3) := by decide +kernel
theorem dX4_readKind_17 : decode cX4_readKind 17 = .ok (.iload_n 2, 1) := by decide +kernel
theorem dX4_readKind_18 : decode cX4_readKind 18 = .ok (.bipush 10, 2) := by decide +kernel
theorem dX4_readKind_20 : decode cX4_readKind 20 = .ok (.if_icmp .lt 5, 3) := by decide +kernel
theorem dX4_readKind_23 : decode cX4_readKind 23 = .ok (.iconst 0, 1) := by decide +kernel
theorem dX4_readKind_24 : decode cX4_readKind 24 = .ok (.ireturn, 1) := by decide +kernel
theorem dX4_readKind_25 : decode cX4_readKind 25 = .ok (.aload_n 0, 1) := by decide +kernel
theorem dX4_readKind_26 : decode cX4_readKind 26 = .ok (.iload_n 2, 1) := by decide +kernel
theorem dX4_readKind_27 : decode cX4_readKind 27 = .ok (.putfield 15, 3) := by decide +kernel
theorem dX4_readKind_30 : decode cX4_readKind 30 = .ok (.aload_n 0, 1) := by decide +kernel
theorem dX4_readKind_31 : decode cX4_readKind 31 = .ok (.iconst 1, 1) := by decide +kernel
theorem dX4_readKind_32 : decode cX4_readKind 32 = .ok (.putfield 11, 3) := by decide +kernel
theorem dX4_readKind_35 : decode cX4_readKind 35 = .ok (.iconst 1, 1) := by decide +kernel
theorem dX4_readKind_36 : decode cX4_readKind 36 = .ok (.ireturn, 1) := by decide +kernel
theorem dX4_readDigit_0 : decode cX4_readDigit 0 = .ok (.iload_n 1, 1) := by decide +kernel
theorem dX4_readDigit_1 : decode cX4_readDigit 1 = .ok (.bipush 48, 2) := by decide +kernel
theorem dX4_readDigit_3 : decode cX4_readDigit 3 = .ok (.isub, 1) := by decide +kernel
theorem dX4_readDigit_4 : decode cX4_readDigit 4 = .ok (.istore_n 2, 1) := by decide +kernel
theorem dX4_readDigit_5 : decode cX4_readDigit 5 = .ok (.iload_n 2, 1) := by decide +kernel
theorem dX4_readDigit_6 : decode cX4_readDigit 6 = .ok (.ifCond .lt 25, 3) := by decide +kernel
theorem dX4_readDigit_9 : decode cX4_readDigit 9 = .ok (.iload_n 2, 1) := by decide +kernel
theorem dX4_readDigit_10 : decode cX4_readDigit 10 = .ok (.bipush 9, 2) := by decide +kernel
theorem dX4_readDigit_12 : decode cX4_readDigit 12 = .ok (.if_icmp .gt 19, 3) := by decide +kernel
theorem dX4_readDigit_15 : decode cX4_readDigit 15 = .ok (.aload_n 0, 1) := by decide +kernel
theorem dX4_readDigit_16 : decode cX4_readDigit 16 = .ok (.getfield 15, 3) := by decide +kernel
theorem dX4_readDigit_19 : decode cX4_readDigit 19 = .ok (.ifCond .lt 12, 3) := by decide +kernel
theorem dX4_readDigit_22 : decode cX4_readDigit 22 = .ok (.aload_n 0, 1) := by decide +kernel
theorem dX4_readDigit_23 : decode cX4_readDigit 23 = .ok (.getfield 15, 3) := by decide +kernel
theorem dX4_readDigit_26 : decode cX4_readDigit 26 = .ok (.bipush 10, 2) := by decide +kernel
theorem dX4_readDigit_28 : decode cX4_readDigit 28 = .ok (.if_icmp .lt 5, 3) := by decide +kernel
theorem dX4_readDigit_31 : decode cX4_readDigit 31 = .ok (.iconst 0, 1) := by decide +kernel
theorem dX4_readDigit_32 : decode cX4_readDigit 32 = .ok (.ireturn, 1) := by decide +kernel
theorem dX4_readDigit_33 : decode cX4_readDigit 33 = .ok (.aload_n 0, 1) := by decide +kernel
theorem dX4_readDigit_34 : decode cX4_readDigit 34 = .ok (.getfield 18, 3) := by decide +kernel
theorem dX4_readDigit_37 : decode cX4_readDigit 37 = .ok (.aload_n 0, 1) := by decide +kernel
theorem dX4_readDigit_38 : decode cX4_readDigit 38 = .ok (.getfield 15, 3) := by decide +kernel
theorem dX4_readDigit_41 : decode cX4_readDigit 41 = .ok (.aload_n 0, 1) := by decide +kernel
theorem dX4_readDigit_42 : decode cX4_readDigit 42 = .ok (.getfield 18, 3) := by decide +kernel
theorem dX4_readDigit_45 : decode cX4_readDigit 45 = .ok (.aload_n 0, 1) := by decide +kernel
theorem dX4_readDigit_46 : decode cX4_readDigit 46 = .ok (.getfield 15, 3) := by decide +kernel
theorem dX4_readDigit_49 : decode cX4_readDigit 49 = .ok (.iaload, 1) := by decide +kernel
theorem dX4_readDigit_50 : decode cX4_readDigit 50 = .ok (.bipush 10, 2) := by decide +kernel
theorem dX4_readDigit_52 : decode cX4_readDigit 52 = .ok (.imul, 1) := by decide +kernel
theorem dX4_readDigit_53 : decode cX4_readDigit 53 = .ok (.iload_n 2, 1) := by decide +kernel
theorem dX4_readDigit_54 : decode cX4_readDigit 54 = .ok (.iadd, 1) := by decide +kernel
theorem dX4_readDigit_55 : decode cX4_readDigit 55 = .ok (.iastore, 1) := by decide +kernel
theorem dX4_readDigit_56 : decode cX4_readDigit 56 = .ok (.aload_n 0, 1) := by decide +kernel
theorem dX4_readDigit_57 : decode cX4_readDigit 57 = .ok (.getfield 18, 3) := by decide +kernel
theorem dX4_readDigit_60 : decode cX4_readDigit 60 = .ok (.aload_n 0, 1) := by decide +kernel
theorem dX4_readDigit_61 : decode cX4_readDigit 61 = .ok (.getfield 15, 3) := by decide +kernel
theorem dX4_readDigit_64 : decode cX4_readDigit 64 = .ok (.iaload, 1) := by decide +kernel
theorem dX4_readDigit_65 : decode cX4_readDigit 65 = .ok (.bipush 20, 2) := by decide +kernel
theorem dX4_readDigit_67 : decode cX4_readDigit 67 = .ok (.if_icmp .gt 7, 3) := by decide +kernel
theorem dX4_readDigit_70 : decode cX4_readDigit 70 = .ok (.iconst 1, 1) := by decide +kernel
theorem dX4_readDigit_71 : decode cX4_readDigit 71 = .ok (.goto 4, 3) := by decide +kernel
theorem dX4_readDigit_74 : decode cX4_readDigit 74 = .ok (.iconst 0, 1) := by decide +kernel
theorem dX4_readDigit_75 : decode cX4_readDigit 75 = .ok (.ireturn, 1) := by decide +kernel
theorem dX4_readComma_0 : decode cX4_readComma 0 = .ok (.aload_n 0, 1) := by decide +kernel
theorem dX4_readComma_1 : decode cX4_readComma 1 = .ok (.iconst 0, 1) := by decide +kernel
theorem dX4_readComma_2 : decode cX4_readComma 2 = .ok (.putfield 11, 3) := by decide +kernel
theorem dX4_readComma_5 : decode cX4_readComma 5 = .ok (.aload_n 0, 1) := by decide +kernel
theorem dX4_readComma_6 : decode cX4_readComma 6 = .ok (.getfield 15, 3) := by decide +kernel
theorem dX4_readComma_9 : decode cX4_readComma 9 = .ok (.bipush 9, 2) := by decide +kernel
theorem dX4_readComma_11 : decode cX4_readComma 11 = .ok (.if_icmp .ge 7, 3) := by decide +kernel
theorem dX4_readComma_14 : decode cX4_readComma 14 = .ok (.iconst 1, 1) := by decide +kernel
theorem dX4_readComma_15 : decode cX4_readComma 15 = .ok (.goto 4, 3) := by decide +kernel
theorem dX4_readComma_18 : decode cX4_readComma 18 = .ok (.iconst 0, 1) := by decide +kernel
theorem dX4_readComma_19 : decode cX4_readComma 19 = .ok (.ireturn, 1) := by decide +kernel
set_option maxRecDepth 20000 in
theorem ggX5_init_X4_init : GoodIn wsX5_init wsX4_init := goodIn_r _ [12, 13, 2, 3, 14, 15, 5, 16, 20, 21, 22] (by decide +kernel) (by decide +kernel)
set_option maxRecDepth 20000 in
theorem gX5_init_X4_init_n21 : GoodIn wsX5_init (wsX4_init) := ggX5_init_X4_init
theorem dX5_init_0 : decode cX5_init 0 = .ok (.aload_n 0, 1) := by decide +kernel
theorem dX5_init_1 : decode cX5_init 1 = .ok (.invokespecial 3, 3) := by decide +kernel
theorem dX5_init_4 : decode cX5_init 4 = .ok (.aload_n 0, 1) := by decide +kernel
theorem dX5_init_5 : decode cX5_init 5 = .ok (.iconst 0, 1) := by decide +kernel
theorem dX5_init_6 : decode cX5_init 6 = .ok (.putfield 9, 3) := by decide +kernel
theorem dX5_init_9 : decode cX5_init 9 = .ok (.aload_n 0, 1) := by decide +kernel
theorem dX5_init_10 : decode cX5_init 10 = .ok (.bipush 60, 2) := by decide +kernel
theorem dX5_init_12 : decode cX5_init 12 = .ok (.newarray .int, 2) := by decide +kernel
theorem dX5_init_14 : decode cX5_init 14 = .ok (.putfield 15, 3) := by decide +kernel
theorem dX5_init_17 : decode cX5_init 17 = .ok (.aload_n 0, 1) := by decide +kernel
theorem dX5_init_18 : decode cX5_init 18 = .ok (.new 19, 3) := by decide +kernel
theorem dX5_init_21 : decode cX5_init 21 = .ok (.dup, 1) := by decide +kernel
theorem dX5_init_22 : decode cX5_init 22 = .ok (.invokespecial 21, 3) := by decide +kernel
theorem dX5_init_25 : decode cX5_init 25 = .ok (.putfield 22, 3) := by decide +kernel
theorem dX5_init_28 : decode cX5_init 28 = .ok (.return_, 1) := by decide +kernel
set_option maxRecDepth 20000 in
theorem ggX5_readAll_X4_begin : GoodIn wsX5_readAll wsX4_begin := goodIn_r _ [7, 8, 9, 10, 29, 30, 31] (by decide +kernel) (by decide +kernel)
set_option maxRecDepth 20000 in
theorem gX5_readAll_X4_begin_n26 : GoodIn wsX5_readAll (wsX4_begin) := ggX5_readAll_X4_begin
set_option maxRecDepth 20000 in
theorem ggX5_readAll_X4_read : GoodIn wsX5_readAll wsX4_read := goodIn_r _ [13, 8, 14, 15, 16, 5, 17, 9, 18, 19, 20, 21, 10, 22, 23, 24, 25, 29, 30, 31] (by decide +kernel) (by decide +kernel)
set_option maxRecDepth 20000 in
theorem gX5_readAll_X4_read_n29 : GoodIn wsX5_readAll (wsX4_read) := ggX5_readAll_X4_read
theorem dX5_readAll_0 : decode cX5_readAll 0 = .ok (.aload_n 0, 1) := by decide +kernel
theorem dX5_readAll_1 : decode cX5_readAll 1 = .ok (.getfield 22, 3) := by decide +kernel
theorem dX5_readAll_4 : decode cX5_readAll 4 = .ok (.invokevirtual 26, 3) := by decide +kernel
theorem dX5_readAll_7 : decode cX5_readAll 7 = .ok (.iconst 0, 1) := by decide +kernel
theorem dX5_readAll_8 : decode cX5_readAll 8 = .ok (.istore_n 1, 1) := by decide +kernel
theorem dX5_readAll_9 : decode cX5_readAll 9 = .ok (.iload_n 1, 1) := by decide +kernel
theorem dX5_readAll_10 : decode cX5_readAll 10 = .ok (.aload_n 0, 1) := by decide +kernel
theorem dX5_readAll_11 : decode cX5_readAll 11 = .ok (.getfield 9, 3) := by decide +kernel
theorem dX5_readAll_14 : decode cX5_readAll 14 = .ok (.if_icmp .ge 27, 3) := by decide +kernel
theorem dX5_readAll_17 : decode cX5_readAll 17 = .ok (.aload_n 0, 1) := by decide +kernel
theorem dX5_readAll_18 : decode cX5_readAll 18 = .ok (.getfield 22, 3) := by decide +kernel
theorem dX5_readAll_21 : decode cX5_readAll 21 = .ok (.aload_n 0, 1) := by decide +kernel
theorem dX5_readAll_22 : decode cX5_readAll 22 = .ok (.getfield 15, 3) := by decide +kernel
theorem dX5_readAll_25 : decode cX5_readAll 25 = .ok (.iload_n 1, 1) := by decide +kernel
theorem dX5_readAll_26 : decode cX5_readAll 26 = .ok (.iaload, 1) := by decide +kernel
theorem dX5_readAll_27 : decode cX5_readAll 27 = .ok (.invokevirtual 29, 3) := by decide +kernel
theorem dX5_readAll_30 : decode cX5_readAll 30 = .ok (.ifCond .ne 5, 3) := by decide +kernel
theorem dX5_readAll_33 : decode cX5_readAll 33 = .ok (.iload_n 1, 1) := by decide +kernel
theorem dX5_readAll_34 : decode cX5_readAll 34 = .ok (.ireturn, 1) := by decide +kernel
theorem dX5_readAll_35 : decode cX5_readAll 35 = .ok (.iinc 1 1, 3) := by decide +kernel
theorem dX5_readAll_38 : decode cX5_readAll 38 = .ok (.goto (-29), 3) := by decide +kernel
theorem dX5_readAll_41 : decode cX5_readAll 41 = .ok (.aload_n 0, 1) := by decide +kernel
theorem dX5_readAll_42 : decode cX5_readAll 42 = .ok (.getfield 9, 3) := by decide +kernel
theorem dX5_readAll_45 : decode cX5_readAll 45 = .ok (.ireturn, 1) := by decide +kernel
set_option maxRecDepth 20000 in
theorem ggX5_isOrder_X5_readAll : GoodIn wsX5_isOrder wsX5_readAll := goodIn_r _ [7, 2, 1, 8, 9, 10, 11, 12, 13, 14, 15, 16, 17, 18, 19, 20, 21, 22, 23, 24, 25, 26, 27, 28, 29, 30, 34, 35, 36, 37, 38, 39] (by decide +kernel) (by decide +kernel)
set_option maxRecDepth 20000 in
theorem gX5_isOrder_X5_readAll : GoodIn wsX5_isOrder (wsV RX5 33 RX5 yX5_readAll wsX5_readAll) := goodIn_app (goodIn_of _ (by decide +kernel)) ggX5_isOrder_X5_readAll
set_option maxRecDepth 20000 in
theorem ggX5_isOrder_X4_isAtEnd : GoodIn wsX5_isOrder wsX4_isAtEnd := goodIn_r _ [33, 13, 37, 38, 39] (by decide +kernel) (by decide +kernel)
set_option maxRecDepth 20000 in
theorem gX5_isOrder_X4_isAtEnd_n37 : GoodIn wsX5_isOrder (wsX4_isAtEnd) := ggX5_isOrder_X4_isAtEnd
theorem dX5_isOrder_0 : decode cX5_isOrder 0 = .ok (.aload_n 0, 1) := by decide +kernel
theorem dX5_isOrder_1 : decode cX5_isOrder 1 = .ok (.invokevirtual 33, 3) := by decide +kernel
theorem dX5_isOrder_4 : decode cX5_isOrder 4 = .ok (.aload_n 0, 1) := by decide +kernel
theorem dX5_isOrder_5 : decode cX5_isOrder 5 = .ok (.getfield 9, 3) := by decide +kernel
theorem dX5_isOrder_8 : decode cX5_isOrder 8 = .ok (.if_icmp .ne 17, 3) := by decide +kernel
theorem dX5_isOrder_11 : decode cX5_isOrder 11 = .ok (.aload_n 0, 1) := by decide +kernel
theorem dX5_isOrder_12 : decode cX5_isOrder 12 = .ok (.getfield 22, 3) := by decide +kernel
theorem dX5_isOrder_15 : decode cX5_isOrder 15 = .ok (.invokevirtual 37, 3) := by decide +kernel
theorem dX5_isOrder_18 : decode cX5_isOrder 18 = .ok (.ifCond .eq 7, 3) := by decide +kernel
theorem dX5_isOrder_21 : decode cX5_isOrder 21 = .ok (.iconst 1, 1) := by decide +kernel
theorem dX5_isOrder_22 : decode cX5_isOrder 22 = .ok (.goto 4, 3) := by decide +kernel
theorem dX5_isOrder_25 : decode cX5_isOrder 25 = .ok (.iconst 0, 1) := by decide +kernel
theorem dX5_isOrder_26 : decode cX5_isOrder 26 = .ok (.ireturn, 1) := by decide +kernel
set_option maxRecDepth 20000 in
theorem ggX6_init_X7_init : GoodIn wsX6_init wsX7_init := goodIn_r _ [22, 23, 2, 3, 24, 25, 26, 27, 28, 29, 30, 54, 55, 56, 57, 58, 59] (by decide +kernel) (by decide +kernel)
set_option maxRecDepth 20000 in
theorem gX6_init_X7_init_n11 : GoodIn wsX6_init (wsX7_init) := ggX6_init_X7_init
set_option maxRecDepth 20000 in
theorem ggX6_init_X2_init : GoodIn wsX6_init wsX2_init := goodIn_r _ [32, 33, 2, 3, 34, 35, 36, 37, 38, 26, 39, 40, 41, 65, 66, 67, 68, 69, 70, 71] (by decide +kernel) (by decide +kernel)
set_option maxRecDepth 20000 in
theorem gX6_init_X2_init_n20 : GoodIn wsX6_init (wsX2_init) := ggX6_init_X2_init
set_option maxRecDepth 20000 in
theorem ggX6_init_X0_init : GoodIn wsX6_init wsX0_init := goodIn_r _ [43, 44, 2, 3, 26, 45, 46, 47, 48, 72, 73, 74, 75] (by decide +kernel) (by decide +kernel)
set_option maxRecDepth 20000 in
theorem gX6_init_X0_init_n27 : GoodIn wsX6_init (wsX0_init) := ggX6_init_X0_init
set_option maxRecDepth 20000 in
theorem ggX6_init_X3_init : GoodIn wsX6_init wsX3_init := goodIn_r _ [50, 51, 2, 3, 52, 26, 53, 76, 77] (by decide +kernel) (by decide +kernel)
set_option maxRecDepth 20000 in
theorem gX6_init_X3_init_n34 : GoodIn wsX6_init (wsX3_init) := ggX6_init_X3_init
theorem dX6_init_0 : decode cX6_init 0 = .ok (.aload_n 0, 1) := by decide +kernel
theorem dX6_init_1 : decode cX6_init 1 = .ok (.invokespecial 3, 3) := by decide +kernel
theorem dX6_init_4 : decode cX6_init 4 = .ok (.aload_n 0, 1) := by decide +kernel
theorem dX6_init_5 : decode cX6_init 5 = .ok (.new 9, 3) := by decide +kernel
theorem dX6_init_8 : decode cX6_init 8 = .ok (.dup, 1) := by decide +kernel
theorem dX6_init_9 : decode cX6_init 9 = .ok (.invokespecial 11, 3) := by decide +kernel
theorem dX6_init_12 : decode cX6_init 12 = .ok (.putfield 12, 3) := by decide +kernel
theorem dX6_init_15 : decode cX6_init 15 = .ok (.aload_n 0, 1) := by decide +kernel
theorem dX6_init_16 : decode cX6_init 16 = .ok (.new 18, 3) := by decide +kernel
theorem dX6_init_19 : decode cX6_init 19 = .ok (.dup, 1) := by decide +kernel
theorem dX6_init_20 : decode cX6_init 20 = .ok (.invokespecial 20, 3) := by decide +kernel
theorem dX6_init_23 : decode cX6_init 23 = .ok (.putfield 21, 3) := by decide +kernel
theorem dX6_init_26 : decode cX6_init 26 = .ok (.aload_n 0, 1) := by decide +kernel
theorem dX6_init_27 : decode cX6_init 27 = .ok (.new 25, 3) := by decide +kernel
theorem dX6_init_30 : decode cX6_init 30 = .ok (.dup, 1) := by decide +kernel
theorem dX6_init_31 : decode cX6_init 31 = .ok (.invokespecial 27, 3) := by decide +kernel
theorem dX6_init_34 : decode cX6_init 34 = .ok (.putfield 28, 3) := by decide +kernel
theorem dX6_init_37 : decode cX6_init 37 = .ok (.aload_n 0, 1) := by decide +kernel
theorem dX6_init_38 : decode cX6_init 38 = .ok (.new 32, 3) := by decide +kernel
theorem dX6_init_41 : decode cX6_init 41 = .ok (.dup, 1) := by decide +kernel
theorem dX6_init_42 : decode cX6_init 42 = .ok (.invokespecial 34, 3) := by decide +kernel
theorem dX6_init_45 : decode cX6_init 45 = .ok (.putfield 35, 3) := by decide +kernel
theorem dX6_init_48 : decode cX6_init 48 = .ok (.aload_n 0, 1) := by decide +kernel
theorem dX6_init_49 : decode cX6_init 49 = .ok (.iconst 0, 1) := by decide +kernel
theorem dX6_init_50 : decode cX6_init 50 = .ok (.putfield 39, 3) := by decide +kernel
theorem dX6_init_53 : decode cX6_init 53 = .ok (.return_, 1) := by decide +kernel
set_option maxRecDepth 20000 in
theorem ggX6_copyFrom_X7_copyFrom : GoodIn wsX6_copyFrom wsX7_copyFrom := goodIn_r _ [9, 10, 11, 12, 13, 14, 15, 16, 17, 18, 19, 52, 53, 54, 55, 56, 57] (by decide +kernel) (by decide +kernel)
set_option maxRecDepth 20000 in
theorem gX6_copyFrom_X7_copyFrom_n43 : GoodIn wsX6_copyFrom (wsX7_copyFrom) := ggX6_copyFrom_X7_copyFrom
set_option maxRecDepth 20000 in
theorem ggX6_copyFrom_X2_copyFrom : GoodIn wsX6_copyFrom wsX2_copyFrom := goodIn_r _ [23, 24, 25, 26, 27, 28, 29, 30, 58, 59, 60, 61, 62, 63, 64] (by decide +kernel) (by decide +kernel)
set_option maxRecDepth 20000 in
theorem gX6_copyFrom_X2_copyFrom_n47 : GoodIn wsX6_copyFrom (wsX2_copyFrom) := ggX6_copyFrom_X2_copyFrom
set_option maxRecDepth 20000 in
theorem ggX6_copyFrom_X0_copyFrom : GoodIn wsX6_copyFrom wsX0_copyFrom := goodIn_r _ [34, 35, 36, 14, 15, 16, 37, 38, 39, 65, 66, 67, 68] (by decide +kernel) (by decide +kernel)
set_option maxRecDepth 20000 in
theorem gX6_copyFrom_X0_copyFrom_n50 : GoodIn wsX6_copyFrom (wsX0_copyFrom) := ggX6_copyFrom_X0_copyFrom
set_option maxRecDepth 20000 in
theorem ggX6_copyFrom_X3_copyFrom : GoodIn wsX6_copyFrom wsX3_copyFrom := goodIn_r _ [43, 44, 45, 46, 14, 15, 16, 69, 70] (by decide +kernel) (by decide +kernel)
set_option maxRecDepth 20000 in
theorem gX6_copyFrom_X3_copyFrom_n53 : GoodIn wsX6_copyFrom (wsX3_copyFrom) := ggX6_copyFrom_X3_copyFrom
theorem dX6_copyFrom_0 : decode cX6_copyFrom 0 = .ok (.aload_n 0, 1) := by decide +kernel
theorem dX6_copyFrom_1 : decode cX6_copyFrom 1 = .ok (.getfield 12, 3) := by decide +kernel
theorem dX6_copyFrom_4 : decode cX6_copyFrom 4 = .ok (.aload_n 1, 1) := by decide +kernel
theorem dX6_copyFrom_5 : decode cX6_copyFrom 5 = .ok (.getfield 12, 3) := by decide +kernel
theorem dX6_copyFrom_8 : decode cX6_copyFrom 8 = .ok (.invokevirtual 43, 3) := by decide +kernel
theorem dX6_copyFrom_11 : decode cX6_copyFrom 11 = .ok (.aload_n 0, 1) := by decide +kernel
theorem dX6_copyFrom_12 : decode cX6_copyFrom 12 = .ok (.getfield 21, 3) := by decide +kernel
theorem dX6_copyFrom_15 : decode cX6_copyFrom 15 = .ok (.aload_n 1, 1) := by decide +kernel
theorem dX6_copyFrom_16 : decode cX6_copyFrom 16 = .ok (.getfield 21, 3) := by decide +kernel
theorem dX6_copyFrom_19 : decode cX6_copyFrom 19 = .ok (.invokevirtual 47, 3) := by decide +kernel
theorem dX6_copyFrom_22 : decode cX6_copyFrom 22 = .ok (.aload_n 0, 1) := by decide +kernel
theorem dX6_copyFrom_23 : decode cX6_copyFrom 23 = .ok (.getfield 28, 3) := by decide +kernel
theorem dX6_copyFrom_26 : decode cX6_copyFrom 26 = .ok (.aload_n 1, 1) := by decide +kernel
theorem dX6_copyFrom_27 : decode cX6_copyFrom 27 = .ok (.getfield 28, 3) := by decide +kernel
theorem dX6_copyFrom_30 : decode cX6_copyFrom 30 = .ok (.invokevirtual 50, 3) := by decide +kernel
theorem dX6_copyFrom_33 : decode cX6_copyFrom 33 = .ok (.aload_n 0, 1) := by decide +kernel
theorem dX6_copyFrom_34 : decode cX6_copyFrom 34 = .ok (.getfield 35, 3) := by decide +kernel
theorem dX6_copyFrom_37 : decode cX6_copyFrom 37 = .ok (.aload_n 1, 1) := by decide +kernel
theorem dX6_copyFrom_38 : decode cX6_copyFrom 38 = .ok (.getfield 35, 3) := by decide +kernel
theorem dX6_copyFrom_41 : decode cX6_copyFrom 41 = .ok (.invokevirtual 53, 3) := by decide +kernel
theorem dX6_copyFrom_44 : decode cX6_copyFrom 44 = .ok (.aload_n 0, 1) := by decide +kernel
theorem dX6_copyFrom_45 : decode cX6_copyFrom 45 = .ok (.aload_n 1, 1) := by decide +kernel
theorem dX6_copyFrom_46 : decode cX6_copyFrom 46 = .ok (.getfield 39, 3) := by decide +kernel
theorem dX6_copyFrom_49 : decode cX6_copyFrom 49 = .ok (.putfield 39, 3) := by decide +kernel
theorem dX6_copyFrom_52 : decode cX6_copyFrom 52 = .ok (.return_, 1) := by decide +kernel
set_option maxRecDepth 20000 in
theorem ggX6_weighShelf_X7_countIn : GoodIn wsX6_weighShelf wsX7_countIn := goodIn_r _ [6, 7, 17, 18, 19, 20, 21, 22] (by decide +kernel) (by decide +kernel)
set_option maxRecDepth 20000 in
theorem gX6_weighShelf_X7_countIn_n56 : GoodIn wsX6_weighShelf (wsX7_countIn) := ggX6_weighShelf_X7_countIn
theorem dX6_weighShelf_0 : decode cX6_weighShelf 0 = .ok (.iconst 0, 1) := by decide +kernel
theorem dX6_weighShelf_1 : decode cX6_weighShelf 1 = .ok (.istore_n 2, 1) := by decide +kernel
theorem dX6_weighShelf_2 : decode cX6_weighShelf 2 = .ok (.iconst 0, 1) := by decide +kernel
theorem dX6_weighShelf_3 : decode cX6_weighShelf 3 = .ok (.istore_n 3, 1) := by decide +kernel
theorem dX6_weighShelf_4 : decode cX6_weighShelf 4 = .ok (.iload_n 3, 1) := by decide +kernel
theorem dX6_weighShelf_5 : decode cX6_weighShelf 5 = .ok (.bipush 10, 2) := by decide +kernel
theorem dX6_weighShelf_7 : decode cX6_weighShelf 7 = .ok (.if_icmp .ge 31, 3) := by decide +kernel
theorem dX6_weighShelf_10 : decode cX6_weighShelf 10 = .ok (.iload_n 2, 1) := by decide +kernel
theorem dX6_weighShelf_11 : decode cX6_weighShelf 11 = .ok (.aload_n 0, 1) := by decide +kernel
theorem dX6_weighShelf_12 : decode cX6_weighShelf 12 = .ok (.getfield 12, 3) := by decide +kernel
theorem dX6_weighShelf_15 : decode cX6_weighShelf 15 = .ok (.iload_n 1, 1) := by decide +kernel
theorem dX6_weighShelf_16 : decode cX6_weighShelf 16 = .ok (.iload_n 3, 1) := by decide +kernel
theorem dX6_weighShelf_17 : decode cX6_weighShelf 17 = .ok (.invokevirtual 56, 3) := by decide +kernel
theorem dX6_weighShelf_20 : decode cX6_weighShelf 20 = .ok (.aload_n 0, 1) := by decide +kernel
theorem dX6_weighShelf_21 : decode cX6_weighShelf 21 = .ok (.getfield 28, 3) := by decide +kernel
theorem dX6_weighShelf_24 : decode cX6_weighShelf 24 = .ok (.getfield 60, 3) := by decide +kernel
theorem dX6_weighShelf_27 : decode cX6_weighShelf 27 = .ok (.iload_n 3, 1) := by decide +kernel
theorem dX6_weighShelf_28 : decode cX6_weighShelf 28 = .ok (.iaload, 1) := by decide +kernel
theorem dX6_weighShelf_29 : decode cX6_weighShelf 29 = .ok (.imul, 1) := by decide +kernel
theorem dX6_weighShelf_30 : decode cX6_weighShelf 30 = .ok (.iadd, 1) := by decide +kernel
theorem dX6_weighShelf_31 : decode cX6_weighShelf 31 = .ok (.istore_n 2, 1) := by decide +kernel
theorem dX6_weighShelf_32 : decode cX6_weighShelf 32 = .ok (.iinc 3 1, 3) := by decide +kernel
theorem dX6_weighShelf_35 : decode cX6_weighShelf 35 = .ok (.goto (-31), 3) := by decide +kernel
theorem dX6_weighShelf_38 : decode cX6_weighShelf 38 = .ok (.iload_n 2, 1) := by decide +kernel
theorem dX6_weighShelf_39 : decode cX6_weighShelf 39 = .ok (.ireturn, 1) := by decide +kernel
set_option maxRecDepth 20000 in
theorem ggX6_weighSide_X6_weighShelf : GoodIn wsX6_weighSide wsX6_weighShelf := goodIn_r _ [6, 1, 7, 8, 9, 10, 11, 12, 13, 14, 15, 16, 17, 24, 25, 26, 27, 18, 19, 20, 21, 22, 23] (by decide +kernel) (by decide +kernel)
set_option maxRecDepth 20000 in
theorem gX6_weighSide_X6_weighShelf : GoodIn wsX6_weighSide (wsV RX6 73 RX6 yX6_weighShelf wsX6_weighShelf) := goodIn_app (goodIn_of _ (by decide +kernel)) ggX6_weighSide_X6_weighShelf
theorem dX6_weighSide_0 : decode cX6_weighSide 0 = .ok (.iconst 0, 1) := by decide +kernel
theorem dX6_weighSide_1 : decode cX6_weighSide 1 = .ok (.istore_n 2, 1) := by decide +kernel
theorem dX6_weighSide_2 : decode cX6_weighSide 2 = .ok (.iconst 0, 1) := by decide +kernel
theorem dX6_weighSide_3 : decode cX6_weighSide 3 = .ok (.istore_n 3, 1) := by decide +kernel
theorem dX6_weighSide_4 : decode cX6_weighSide 4 = .ok (.iload_n 3, 1) := by decide +kernel
theorem dX6_weighSide_5 : decode cX6_weighSide 5 = .ok (.aload_n 0, 1) := by decide +kernel
theorem dX6_weighSide_6 : decode cX6_weighSide 6 = .ok (.getfield 12, 3) := by decide +kernel
theorem dX6_weighSide_9 : decode cX6_weighSide 9 = .ok (.getfield 64, 3) := by decide +kernel
theorem dX6_weighSide_12 : decode cX6_weighSide 12 = .ok (.if_icmp .ge 44, 3) := by decide +kernel
theorem dX6_weighSide_15 : decode cX6_weighSide 15 = .ok (.iload_n 3, 1) := by decide +kernel
theorem dX6_weighSide_16 : decode cX6_weighSide 16 = .ok (.aload_n 0, 1) := by decide +kernel
theorem dX6_weighSide_17 : decode cX6_weighSide 17 = .ok (.getfield 12, 3) := by decide +kernel
theorem dX6_weighSide_20 : decode cX6_weighSide 20 = .ok (.getfield 67, 3) := by decide +kernel
theorem dX6_weighSide_23 : decode cX6_weighSide 23 = .ok (.if_icmp .eq 27, 3) := by decide +kernel
theorem dX6_weighSide_26 : decode cX6_weighSide 26 = .ok (.aload_n 0, 1) := by decide +kernel
theorem dX6_weighSide_27 : decode cX6_weighSide 27 = .ok (.getfield 12, 3) := by decide +kernel
theorem dX6_weighSide_30 : decode cX6_weighSide 30 = .ok (.getfield 70, 3) := by decide +kernel
theorem dX6_weighSide_33 : decode cX6_weighSide 33 = .ok (.iload_n 3, 1) := by decide +kernel
theorem dX6_weighSide_34 : decode cX6_weighSide 34 = .ok (.iaload, 1) := by decide +kernel
theorem dX6_weighSide_35 : decode cX6_weighSide 35 = .ok (.bipush 20, 2) := by decide +kernel
theorem dX6_weighSide_37 : decode cX6_weighSide 37 = .ok (.idiv, 1) := by decide +kernel
theorem dX6_weighSide_38 : decode cX6_weighSide 38 = .ok (.iload_n 1, 1) := by decide +kernel
theorem dX6_weighSide_39 : decode cX6_weighSide 39 = .ok (.if_icmp .ne 11, 3) := by decide +kernel
theorem dX6_weighSide_42 : decode cX6_weighSide 42 = .ok (.iload_n 2, 1) := by decide +kernel
theorem dX6_weighSide_43 : decode cX6_weighSide 43 = .ok (.aload_n 0, 1) := by decide +kernel
theorem dX6_weighSide_44 : decode cX6_weighSide 44 = .ok (.iload_n 3, 1) := by decide +kernel
theorem dX6_weighSide_45 : decode cX6_weighSide 45 = .ok (.invokevirtual 73, 3) := by decide +kernel
theorem dX6_weighSide_48 : decode cX6_weighSide 48 = .ok (.iadd, 1) := by decide +kernel
theorem dX6_weighSide_49 : decode cX6_weighSide 49 = .ok (.istore_n 2, 1) := by decide +kernel
theorem dX6_weighSide_50 : decode cX6_weighSide 50 = .ok (.iinc 3 1, 3) := by decide +kernel
theorem dX6_weighSide_53 : decode cX6_weighSide 53 = .ok (.goto (-49), 3) := by decide +kernel
theorem dX6_weighSide_56 : decode cX6_weighSide 56 = .ok (.iload_n 2, 1) := by decide +kernel
theorem dX6_weighSide_57 : decode cX6_weighSide 57 = .ok (.ireturn, 1) := by decide +kernel
set_option maxRecDepth 20000 in
theorem ggX6_wouldBeTooHeavy_X6_weighShelf : GoodIn wsX6_wouldBeTooHeavy wsX6_weighShelf := goodIn_r _ [7, 2, 1, 8, 9, 10, 11, 12, 13, 14, 15, 16, 17, 18, 19, 20, 21, 22, 23, 24, 25, 26, 27] (by decide +kernel) (by decide +kernel)
set_option maxRecDepth 20000 in
theorem gX6_wouldBeTooHeavy_X6_weighShelf : GoodIn wsX6_wouldBeTooHeavy (wsV RX6 73 RX6 yX6_weighShelf wsX6_weighShelf) := goodIn_app (goodIn_of _ (by decide +kernel)) ggX6_wouldBeTooHeavy_X6_weighShelf
set_option maxRecDepth 20000 in
theorem ggX6_wouldBeTooHeavy_X7_countIn : GoodIn wsX6_wouldBeTooHeavy wsX7_countIn := goodIn_r _ [11, 12, 22, 23, 24, 25, 26, 27] (by decide +kernel) (by decide +kernel)
set_option maxRecDepth 20000 in
theorem gX6_wouldBeTooHeavy_X7_countIn_n56 : GoodIn wsX6_wouldBeTooHeavy (wsX7_countIn) := ggX6_wouldBeTooHeavy_X7_countIn
theorem dX6_wouldBeTooHeavy_0 : decode cX6_wouldBeTooHeavy 0 = .ok (.iload_n 2, 1) := by decide +kernel
theorem dX6_wouldBeTooHeavy_1 : decode cX6_wouldBeTooHeavy 1 = .ok (.aload_n 0, 1) := by decide +kernel
theorem dX6_wouldBeTooHeavy_2 : decode cX6_wouldBeTooHeavy 2 = .ok (.getfield 28, 3) := by decide +kernel
theorem dX6_wouldBeTooHeavy_5 : decode cX6_wouldBeTooHeavy 5 = .ok (.getfield 60, 3) := by decide +kernel
theorem dX6_wouldBeTooHeavy_8 : decode cX6_wouldBeTooHeavy 8 = .ok (.iload_n 1, 1) := by decide +kernel
theorem dX6_wouldBeTooHeavy_9 : decode cX6_wouldBeTooHeavy 9 = .ok (.iaload, 1) := by decide +kernel
theorem dX6_wouldBeTooHeavy_10 : decode cX6_wouldBeTooHeavy 10 = .ok (.isub, 1) := by decide +kernel
theorem dX6_wouldBeTooHeavy_11 : decode cX6_wouldBeTooHeavy 11 = .ok (.istore_n 3, 1) := by decide +kernel
theorem dX6_wouldBeTooHeavy_12 : decode cX6_wouldBeTooHeavy 12 = .ok (.iconst 0, 1) := by decide +kernel
theorem dX6_wouldBeTooHeavy_13 : decode cX6_wouldBeTooHeavy 13 = .ok (.istore 4, 2) := by decide +kernel
theorem dX6_wouldBeTooHeavy_15 : decode cX6_wouldBeTooHeavy 15 = .ok (.iload 4, 2) := by decide +kernel
theorem dX6_wouldBeTooHeavy_17 : decode cX6_wouldBeTooHeavy 17 = .ok (.aload_n 0, 1) := by decide +kernel
theorem dX6_wouldBeTooHeavy_18 : decode cX6_wouldBeTooHeavy 18 = .ok (.getfield 12, 3) := by decide +kernel
theorem dX6_wouldBeTooHeavy_21 : decode cX6_wouldBeTooHeavy 21 = .ok (.getfield 64, 3) := by decide +kernel
theorem dX6_wouldBeTooHeavy_24 : decode cX6_wouldBeTooHeavy 24 = .ok (.if_icmp .ge 36, 3) := by decide +kernel
theorem dX6_wouldBeTooHeavy_27 : decode cX6_wouldBeTooHeavy 27 = .ok (.aload_n 0, 1) := by decide +kernel
theorem dX6_wouldBeTooHeavy_28 : decode cX6_wouldBeTooHeavy 28 = .ok (.iload 4, 2) := by decide +kernel
theorem dX6_wouldBeTooHeavy_30 : decode cX6_wouldBeTooHeavy 30 = .ok (.invokevirtual 73, 3) := by decide +kernel
theorem dX6_wouldBeTooHeavy_33 : decode cX6_wouldBeTooHeavy 33 = .ok (.iload_n 3, 1) := by decide +kernel
theorem dX6_wouldBeTooHeavy_34 : decode cX6_wouldBeTooHeavy 34 = .ok (.aload_n 0, 1) := by decide +kernel
theorem dX6_wouldBeTooHeavy_35 : decode cX6_wouldBeTooHeavy 35 = .ok (.getfield 12, 3) := by decide +kernel
theorem dX6_wouldBeTooHeavy_38 : decode cX6_wouldBeTooHeavy 38 = .ok (.iload 4, 2) := by decide +kernel
theorem dX6_wouldBeTooHeavy_40 : decode cX6_wouldBeTooHeavy 40 = .ok (.iload_n 1, 1) := by decide +kernel
theorem dX6_wouldBeTooHeavy_41 : decode cX6_wouldBeTooHeavy 41 = .ok (.invokevirtual 56, 3) := by decide +kernel
theorem dX6_wouldBeTooHeavy_44 : decode cX6_wouldBeTooHeavy 44 = .ok (.imul, 1) := by decide +kernel
theorem dX6_wouldBeTooHeavy_45 : decode cX6_wouldBeTooHeavy 45 = .ok (.iadd, 1) := by decide +kernel
theorem dX6_wouldBeTooHeavy_46 : decode cX6_wouldBeTooHeavy 46 = .ok (.sipush 150, 3) := by decide +kernel
theorem dX6_wouldBeTooHeavy_49 : decode cX6_wouldBeTooHeavy 49 = .ok (.if_icmp .le 5, 3) := by decide +kernel
theorem dX6_wouldBeTooHeavy_52 : decode cX6_wouldBeTooHeavy 52 = .ok (.iconst 1, 1) := by decide +kernel
theorem dX6_wouldBeTooHeavy_53 : decode cX6_wouldBeTooHeavy 53 = .ok (.ireturn, 1) := by decide +kernel
theorem dX6_wouldBeTooHeavy_54 : decode cX6_wouldBeTooHeavy 54 = .ok (.iinc 4 1, 3) := by decide +kernel
theorem dX6_wouldBeTooHeavy_57 : decode cX6_wouldBeTooHeavy 57 = .ok (.goto (-42), 3) := by decide +kernel
theorem dX6_wouldBeTooHeavy_60 : decode cX6_wouldBeTooHeavy 60 = .ok (.iconst 0, 1) := by decide +kernel
theorem dX6_wouldBeTooHeavy_61 : decode cX6_wouldBeTooHeavy 61 = .ok (.ireturn, 1) := by decide +kernel
set_option maxRecDepth 20000 in
theorem ggX6_findHeaviest_X6_weighShelf : GoodIn wsX6_findHeaviest wsX6_weighShelf := goodIn_r _ [6, 1, 7, 8, 9, 10, 11, 12, 13, 14, 15, 16, 17, 24, 25, 26, 27, 18, 19, 20, 21, 22, 23] (by decide +kernel) (by decide +kernel)
set_option maxRecDepth 20000 in
theorem gX6_findHeaviest_X6_weighShelf : GoodIn wsX6_findHeaviest (wsV RX6 73 RX6 yX6_weighShelf wsX6_weighShelf) := goodIn_app (goodIn_of _ (by decide +kernel)) ggX6_findHeaviest_X6_weighShelf
theorem dX6_findHeaviest_0 : decode cX6_findHeaviest 0 = .ok (.iconst (-1), 1) := by decide +kernel
theorem dX6_findHeaviest_1 : decode cX6_findHeaviest 1 = .ok (.istore_n 1, 1) := by decide +kernel
theorem dX6_findHeaviest_2 : decode cX6_findHeaviest 2 = .ok (.iconst 0, 1) := by decide +kernel
theorem dX6_findHeaviest_3 : decode cX6_findHeaviest 3 = .ok (.istore_n 2, 1) := by decide +kernel
theorem dX6_findHeaviest_4 : decode cX6_findHeaviest 4 = .ok (.iconst 0, 1) := by decide +kernel
theorem dX6_findHeaviest_5 : decode cX6_findHeaviest 5 = .ok (.istore_n 3, 1) := by decide +kernel
theorem dX6_findHeaviest_6 : decode cX6_findHeaviest 6 = .ok (.iload_n 3, 1) := by decide +kernel
theorem dX6_findHeaviest_7 : decode cX6_findHeaviest 7 = .ok (.aload_n 0, 1) := by decide +kernel
theorem dX6_findHeaviest_8 : decode cX6_findHeaviest 8 = .ok (.getfield 12, 3) := by decide +kernel
theorem dX6_findHeaviest_11 : decode cX6_findHeaviest 11 = .ok (.getfield 64, 3) := by decide +kernel
theorem dX6_findHeaviest_14 : decode cX6_findHeaviest 14 = .ok (.if_icmp .ge 32, 3) := by decide +kernel
theorem dX6_findHeaviest_17 : decode cX6_findHeaviest 17 = .ok (.aload_n 0, 1) := by decide +kernel
theorem dX6_findHeaviest_18 : decode cX6_findHeaviest 18 = .ok (.iload_n 3, 1) := by decide +kernel
theorem dX6_findHeaviest_19 : decode cX6_findHeaviest 19 = .ok (.invokevirtual 73, 3) := by decide +kernel
theorem dX6_findHeaviest_22 : decode cX6_findHeaviest 22 = .ok (.istore 4, 2) := by decide +kernel
theorem dX6_findHeaviest_24 : decode cX6_findHeaviest 24 = .ok (.iload_n 1, 1) := by decide +kernel
theorem dX6_findHeaviest_25 : decode cX6_findHeaviest 25 = .ok (.iconst (-1), 1) := by decide +kernel
theorem dX6_findHeaviest_26 : decode cX6_findHeaviest 26 = .ok (.if_icmp .eq 9, 3) := by decide +kernel
theorem dX6_findHeaviest_29 : decode cX6_findHeaviest 29 = .ok (.iload 4, 2) := by decide +kernel
theorem dX6_findHeaviest_31 : decode cX6_findHeaviest 31 = .ok (.iload_n 2, 1) := by decide +kernel
theorem dX6_findHeaviest_32 : decode cX6_findHeaviest 32 = .ok (.if_icmp .le 8, 3) := by decide +kernel
theorem dX6_findHeaviest_35 : decode cX6_findHeaviest 35 = .ok (.iload_n 3, 1) := by decide +kernel
theorem dX6_findHeaviest_36 : decode cX6_findHeaviest 36 = .ok (.istore_n 1, 1) := by decide +kernel
theorem dX6_findHeaviest_37 : decode cX6_findHeaviest 37 = .ok (.iload 4, 2) := by decide +kernel
theorem dX6_findHeaviest_39 : decode cX6_findHeaviest 39 = .ok (.istore_n 2, 1) := by decide +kernel
theorem dX6_findHeaviest_40 : decode cX6_findHeaviest 40 = .ok (.iinc 3 1, 3) := by decide +kernel
theorem dX6_findHeaviest_43 : decode cX6_findHeaviest 43 = .ok (.goto (-37), 3) := by decide +kernel
theorem dX6_findHeaviest_46 : decode cX6_findHeaviest 46 = .ok (.iload_n 1, 1) := by decide +kernel
theorem dX6_findHeaviest_47 : decode cX6_findHeaviest 47 = .ok (.ireturn, 1) := by decide +kernel
set_option maxRecDepth 20000 in
theorem ggX6_missing_X7_stockOf : GoodIn wsX6_missing wsX7_stockOf := goodIn_r _ [10, 11, 12, 13, 14, 8, 15, 16, 26, 27, 28, 29, 30, 31] (by decide +kernel) (by decide +kernel)
set_option maxRecDepth 20000 in
theorem gX6_missing_X7_stockOf_n80 : GoodIn wsX6_missing (wsX7_stockOf) := ggX6_missing_X7_stockOf
theorem dX6_missing_0 : decode cX6_missing 0 = .ok (.iconst 0, 1) := by decide +kernel
theorem dX6_missing_1 : decode cX6_missing 1 = .ok (.aload_n 0, 1) := by decide +kernel
theorem dX6_missing_2 : decode cX6_missing 2 = .ok (.getfield 28, 3) := by decide +kernel
theorem dX6_missing_5 : decode cX6_missing 5 = .ok (.getfield 77, 3) := by decide +kernel
theorem dX6_missing_8 : decode cX6_missing 8 = .ok (.iload_n 1, 1) := by decide +kernel
theorem dX6_missing_9 : decode cX6_missing 9 = .ok (.iaload, 1) := by decide +kernel
theorem dX6_missing_10 : decode cX6_missing 10 = .ok (.aload_n 0, 1) := by decide +kernel
theorem dX6_missing_11 : decode cX6_missing 11 = .ok (.getfield 12, 3) := by decide +kernel
theorem dX6_missing_14 : decode cX6_missing 14 = .ok (.iload_n 1, 1) := by decide +kernel
theorem dX6_missing_15 : decode cX6_missing 15 = .ok (.invokevirtual 80, 3) := by decide +kernel
theorem dX6_missing_18 : decode cX6_missing 18 = .ok (.isub, 1) := by decide +kernel
theorem dX6_missing_19 : decode cX6_missing 19 = .ok (.invokestatic 83, 3) := by decide +kernel
theorem dX6_missing_22 : decode cX6_missing 22 = .ok (.ireturn, 1) := by decide +kernel
set_option maxRecDepth 20000 in
theorem ggX6_ticksToBring_X7_wayOf : GoodIn wsX6_ticksToBring wsX7_wayOf := goodIn_r _ [9] (by decide +kernel) (by decide +kernel)
set_option maxRecDepth 20000 in
theorem gX6_ticksToBring_X7_wayOf_n94 : GoodIn wsX6_ticksToBring (wsX7_wayOf) := ggX6_ticksToBring_X7_wayOf
theorem dX6_ticksToBring_0 : decode cX6_ticksToBring 0 = .ok (.aload_n 0, 1) := by decide +kernel
theorem dX6_ticksToBring_1 : decode cX6_ticksToBring 1 = .ok (.getfield 12, 3) := by decide +kernel
theorem dX6_ticksToBring_4 : decode cX6_ticksToBring 4 = .ok (.getfield 70, 3) := by decide +kernel
theorem dX6_ticksToBring_7 : decode cX6_ticksToBring 7 = .ok (.iload_n 1, 1) := by decide +kernel
theorem dX6_ticksToBring_8 : decode cX6_ticksToBring 8 = .ok (.iaload, 1) := by decide +kernel
theorem dX6_ticksToBring_9 : decode cX6_ticksToBring 9 = .ok (.istore_n 2, 1) := by decide +kernel
theorem dX6_ticksToBring_10 : decode cX6_ticksToBring 10 = .ok (.aload_n 0, 1) := by decide +kernel
theorem dX6_ticksToBring_11 : decode cX6_ticksToBring 11 = .ok (.getfield 21, 3) := by decide +kernel
theorem dX6_ticksToBring_14 : decode cX6_ticksToBring 14 = .ok (.getfield 88, 3) := by decide +kernel
theorem dX6_ticksToBring_17 : decode cX6_ticksToBring 17 = .ok (.iload_n 2, 1) := by decide +kernel
theorem dX6_ticksToBring_18 : decode cX6_ticksToBring 18 = .ok (.bipush 20, 2) := by decide +kernel
theorem dX6_ticksToBring_20 : decode cX6_ticksToBring 20 = .ok (.irem, 1) := by decide +kernel
theorem dX6_ticksToBring_21 : decode cX6_ticksToBring 21 = .ok (.isub, 1) := by decide +kernel
theorem dX6_ticksToBring_22 : decode cX6_ticksToBring 22 = .ok (.invokestatic 91, 3) := by decide +kernel
theorem dX6_ticksToBring_25 : decode cX6_ticksToBring 25 = .ok (.iload_n 2, 1) := by decide +kernel
theorem dX6_ticksToBring_26 : decode cX6_ticksToBring 26 = .ok (.invokestatic 94, 3) := by decide +kernel
theorem dX6_ticksToBring_29 : decode cX6_ticksToBring 29 = .ok (.iadd, 1) := by decide +kernel
theorem dX6_ticksToBring_30 : decode cX6_ticksToBring 30 = .ok (.ireturn, 1) := by decide +kernel
set_option maxRecDepth 20000 in
theorem ggX6_bring_X6_ticksToBring : GoodIn wsX6_bring wsX6_ticksToBring := goodIn_r _ [7, 2, 1, 8, 9, 10, 11, 12, 13, 14, 28, 29, 30, 31, 32, 33, 34, 35, 36, 37, 38, 39, 40, 41, 42, 43, 44, 45] (by decide +kernel) (by decide +kernel)
set_option maxRecDepth 20000 in
theorem gX6_bring_X6_ticksToBring : GoodIn wsX6_bring (wsV RX6 97 RX6 yX6_ticksToBring wsX6_ticksToBring) := goodIn_app (goodIn_of _ (by decide +kernel)) ggX6_bring_X6_ticksToBring
set_option maxRecDepth 20000 in
theorem ggX6_bring_X2_go : GoodIn wsX6_bring wsX2_go := goodIn_r _ [18, 19, 20, 21, 22, 23, 10, 24, 25, 26, 27, 39, 40, 41, 42, 43, 44, 45] (by decide +kernel) (by decide +kernel)
set_option maxRecDepth 20000 in
theorem gX6_bring_X2_go_n100 : GoodIn wsX6_bring (wsX2_go) := ggX6_bring_X2_go
theorem dX6_bring_0 : decode cX6_bring 0 = .ok (.aload_n 0, 1) := by decide +kernel
theorem dX6_bring_1 : decode cX6_bring 1 = .ok (.iload_n 1, 1) := by decide +kernel
theorem dX6_bring_2 : decode cX6_bring 2 = .ok (.invokevirtual 97, 3) := by decide +kernel
theorem dX6_bring_5 : decode cX6_bring 5 = .ok (.istore_n 2, 1) := by decide +kernel
theorem dX6_bring_6 : decode cX6_bring 6 = .ok (.aload_n 0, 1) := by decide +kernel
theorem dX6_bring_7 : decode cX6_bring 7 = .ok (.getfield 21, 3) := by decide +kernel
theorem dX6_bring_10 : decode cX6_bring 10 = .ok (.iload_n 2, 1) := by decide +kernel
theorem dX6_bring_11 : decode cX6_bring 11 = .ok (.iconst 1, 1) := by decide +kernel
theorem dX6_bring_12 : decode cX6_bring 12 = .ok (.iconst 0, 1) := by decide +kernel
theorem dX6_bring_13 : decode cX6_bring 13 = .ok (.invokevirtual 100, 3) := by decide +kernel
theorem dX6_bring_16 : decode cX6_bring 16 = .ok (.aload_n 0, 1) := by decide +kernel
theorem dX6_bring_17 : decode cX6_bring 17 = .ok (.getfield 12, 3) := by decide +kernel
theorem dX6_bring_20 : decode cX6_bring 20 = .ok (.iload_n 1, 1) := by decide +kernel
theorem dX6_bring_21 : decode cX6_bring 21 = .ok (.putfield 67, 3) := by decide +kernel
theorem dX6_bring_24 : decode cX6_bring 24 = .ok (.aload_n 0, 1) := by decide +kernel
theorem dX6_bring_25 : decode cX6_bring 25 = .ok (.getfield 12, 3) := by decide +kernel
theorem dX6_bring_28 : decode cX6_bring 28 = .ok (.getfield 104, 3) := by decide +kernel
theorem dX6_bring_31 : decode cX6_bring 31 = .ok (.iload_n 1, 1) := by decide +kernel
theorem dX6_bring_32 : decode cX6_bring 32 = .ok (.dup2, 1) := by decide +kernel
theorem dX6_bring_33 : decode cX6_bring 33 = .ok (.iaload, 1) := by decide +kernel
theorem dX6_bring_34 : decode cX6_bring 34 = .ok (.iconst 1, 1) := by decide +kernel
theorem dX6_bring_35 : decode cX6_bring 35 = .ok (.iadd, 1) := by decide +kernel
theorem dX6_bring_36 : decode cX6_bring 36 = .ok (.iastore, 1) := by decide +kernel
theorem dX6_bring_37 : decode cX6_bring 37 = .ok (.iload_n 2, 1) := by decide +kernel
theorem dX6_bring_38 : decode cX6_bring 38 = .ok (.ireturn, 1) := by decide +kernel
set_option maxRecDepth 20000 in
theorem ggX6_putAt_X7_wayOf : GoodIn wsX6_putAt wsX7_wayOf := goodIn_r _ [5] (by decide +kernel) (by decide +kernel)
set_option maxRecDepth 20000 in
theorem gX6_putAt_X7_wayOf_n94 : GoodIn wsX6_putAt (wsX7_wayOf) := ggX6_putAt_X7_wayOf
set_option maxRecDepth 20000 in
theorem ggX6_putAt_X2_go : GoodIn wsX6_putAt wsX2_go := goodIn_r _ [9, 10, 11, 12, 13, 14, 15, 16, 17, 18, 19, 31, 32, 33, 34, 35, 36, 37] (by decide +kernel) (by decide +kernel)
set_option maxRecDepth 20000 in
theorem gX6_putAt_X2_go_n100 : GoodIn wsX6_putAt (wsX2_go) := ggX6_putAt_X2_go
theorem dX6_putAt_0 : decode cX6_putAt 0 = .ok (.aload_n 0, 1) := by decide +kernel
theorem dX6_putAt_1 : decode cX6_putAt 1 = .ok (.getfield 12, 3) := by decide +kernel
theorem dX6_putAt_4 : decode cX6_putAt 4 = .ok (.getfield 67, 3) := by decide +kernel
theorem dX6_putAt_7 : decode cX6_putAt 7 = .ok (.istore_n 2, 1) := by decide +kernel
theorem dX6_putAt_8 : decode cX6_putAt 8 = .ok (.iload_n 2, 1) := by decide +kernel
theorem dX6_putAt_9 : decode cX6_putAt 9 = .ok (.ifCond .lt 14, 3) := by decide +kernel
theorem dX6_putAt_12 : decode cX6_putAt 12 = .ok (.iload_n 2, 1) := by decide +kernel
theorem dX6_putAt_13 : decode cX6_putAt 13 = .ok (.aload_n 0, 1) := by decide +kernel
theorem dX6_putAt_14 : decode cX6_putAt 14 = .ok (.getfield 12, 3) := by decide +kernel
theorem dX6_putAt_17 : decode cX6_putAt 17 = .ok (.getfield 64, 3) := by decide +kernel
theorem dX6_putAt_20 : decode cX6_putAt 20 = .ok (.if_icmp .lt 5, 3) := by decide +kernel
theorem dX6_putAt_23 : decode cX6_putAt 23 = .ok (.iconst 0, 1) := by decide +kernel
theorem dX6_putAt_24 : decode cX6_putAt 24 = .ok (.ireturn, 1) := by decide +kernel
theorem dX6_putAt_25 : decode cX6_putAt 25 = .ok (.iload_n 1, 1) := by decide +kernel
theorem dX6_putAt_26 : decode cX6_putAt 26 = .ok (.invokestatic 94, 3) := by decide +kernel
theorem dX6_putAt_29 : decode cX6_putAt 29 = .ok (.istore_n 3, 1) := by decide +kernel
theorem dX6_putAt_30 : decode cX6_putAt 30 = .ok (.aload_n 0, 1) := by decide +kernel
theorem dX6_putAt_31 : decode cX6_putAt 31 = .ok (.getfield 21, 3) := by decide +kernel
theorem dX6_putAt_34 : decode cX6_putAt 34 = .ok (.iload_n 3, 1) := by decide +kernel
theorem dX6_putAt_35 : decode cX6_putAt 35 = .ok (.iconst 0, 1) := by decide +kernel
theorem dX6_putAt_36 : decode cX6_putAt 36 = .ok (.iload_n 1, 1) := by decide +kernel
theorem dX6_putAt_37 : decode cX6_putAt 37 = .ok (.bipush 20, 2) := by decide +kernel
theorem dX6_putAt_39 : decode cX6_putAt 39 = .ok (.irem, 1) := by decide +kernel
theorem dX6_putAt_40 : decode cX6_putAt 40 = .ok (.invokevirtual 100, 3) := by decide +kernel
theorem dX6_putAt_43 : decode cX6_putAt 43 = .ok (.aload_n 0, 1) := by decide +kernel
theorem dX6_putAt_44 : decode cX6_putAt 44 = .ok (.getfield 12, 3) := by decide +kernel
theorem dX6_putAt_47 : decode cX6_putAt 47 = .ok (.getfield 70, 3) := by decide +kernel
theorem dX6_putAt_50 : decode cX6_putAt 50 = .ok (.iload_n 2, 1) := by decide +kernel
theorem dX6_putAt_51 : decode cX6_putAt 51 = .ok (.iload_n 1, 1) := by decide +kernel
theorem dX6_putAt_52 : decode cX6_putAt 52 = .ok (.iastore, 1) := by decide +kernel
theorem dX6_putAt_53 : decode cX6_putAt 53 = .ok (.aload_n 0, 1) := by decide +kernel
theorem dX6_putAt_54 : decode cX6_putAt 54 = .ok (.getfield 12, 3) := by decide +kernel
theorem dX6_putAt_57 : decode cX6_putAt 57 = .ok (.iconst (-1), 1) := by decide +kernel
theorem dX6_putAt_58 : decode cX6_putAt 58 = .ok (.putfield 67, 3) := by decide +kernel
theorem dX6_putAt_61 : decode cX6_putAt 61 = .ok (.iload_n 3, 1) := by decide +kernel
theorem dX6_putAt_62 : decode cX6_putAt 62 = .ok (.ireturn, 1) := by decide +kernel
set_option maxRecDepth 20000 in
theorem ggX6_putBack_X7_firstFree : GoodIn wsX6_putBack wsX7_firstFree := goodIn_r _ [6, 7, 8, 9, 4, 10, 11, 12, 13, 14, 15, 16, 17, 18, 19, 20, 21, 22, 23, 50, 51, 52, 53, 54, 55] (by decide +kernel) (by decide +kernel)
set_option maxRecDepth 20000 in
theorem gX6_putBack_X7_firstFree_n114 : GoodIn wsX6_putBack (wsX7_firstFree) := ggX6_putBack_X7_firstFree
set_option maxRecDepth 20000 in
theorem ggX6_putBack_X6_putAt : GoodIn wsX6_putBack wsX6_putAt := goodIn_r _ [28, 1, 2, 29, 4, 30, 31, 32, 33, 34, 35, 36, 37, 38, 39, 40, 41, 42, 43, 44, 45, 46, 47, 48, 49, 50, 51, 52, 53, 54, 55, 56, 57, 58, 59, 60, 61, 62] (by decide +kernel) (by decide +kernel)
set_option maxRecDepth 20000 in
theorem gX6_putBack_X6_putAt : GoodIn wsX6_putBack (wsV RX6 117 RX6 yX6_putAt wsX6_putAt) := goodIn_app (goodIn_of _ (by decide +kernel)) ggX6_putBack_X6_putAt
theorem dX6_putBack_0 : decode cX6_putBack 0 = .ok (.aload_n 0, 1) := by decide +kernel
theorem dX6_putBack_1 : decode cX6_putBack 1 = .ok (.getfield 12, 3) := by decide +kernel
theorem dX6_putBack_4 : decode cX6_putBack 4 = .ok (.getfield 67, 3) := by decide +kernel
theorem dX6_putBack_7 : decode cX6_putBack 7 = .ok (.istore_n 1, 1) := by decide +kernel
theorem dX6_putBack_8 : decode cX6_putBack 8 = .ok (.iload_n 1, 1) := by decide +kernel
theorem dX6_putBack_9 : decode cX6_putBack 9 = .ok (.ifCond .lt 14, 3) := by decide +kernel
theorem dX6_putBack_12 : decode cX6_putBack 12 = .ok (.iload_n 1, 1) := by decide +kernel
theorem dX6_putBack_13 : decode cX6_putBack 13 = .ok (.aload_n 0, 1) := by decide +kernel
theorem dX6_putBack_14 : decode cX6_putBack 14 = .ok (.getfield 12, 3) := by decide +kernel
theorem dX6_putBack_17 : decode cX6_putBack 17 = .ok (.getfield 64, 3) := by decide +kernel
theorem dX6_putBack_20 : decode cX6_putBack 20 = .ok (.if_icmp .lt 5, 3) := by decide +kernel
theorem dX6_putBack_23 : decode cX6_putBack 23 = .ok (.iconst 0, 1) := by decide +kernel
theorem dX6_putBack_24 : decode cX6_putBack 24 = .ok (.ireturn, 1) := by decide +kernel
theorem dX6_putBack_25 : decode cX6_putBack 25 = .ok (.aload_n 0, 1) := by decide +kernel
theorem dX6_putBack_26 : decode cX6_putBack 26 = .ok (.getfield 21, 3) := by decide +kernel
theorem dX6_putBack_29 : decode cX6_putBack 29 = .ok (.getfield 107, 3) := by decide +kernel
theorem dX6_putBack_32 : decode cX6_putBack 32 = .ok (.ifCond .eq 7, 3) := by decide +kernel
theorem dX6_putBack_35 : decode cX6_putBack 35 = .ok (.iconst (-1), 1) := by decide +kernel
theorem dX6_putBack_36 : decode cX6_putBack 36 = .ok (.goto 19, 3) := by decide +kernel
theorem dX6_putBack_39 : decode cX6_putBack 39 = .ok (.aload_n 0, 1) := by decide +kernel
theorem dX6_putBack_40 : decode cX6_putBack 40 = .ok (.getfield 12, 3) := by decide +kernel
theorem dX6_putBack_43 : decode cX6_putBack 43 = .ok (.aload_n 0, 1) := by decide +kernel
theorem dX6_putBack_44 : decode cX6_putBack 44 = .ok (.getfield 12, 3) := by decide +kernel
theorem dX6_putBack_47 : decode cX6_putBack 47 = .ok (.getfield 111, 3) := by decide +kernel
theorem dX6_putBack_50 : decode cX6_putBack 50 = .ok (.iload_n 1, 1) := by decide +kernel
theorem dX6_putBack_51 : decode cX6_putBack 51 = .ok (.iaload, 1) := by decide +kernel
theorem dX6_putBack_52 : decode cX6_putBack 52 = .ok (.invokevirtual 114, 3) := by decide +kernel
theorem dX6_putBack_55 : decode cX6_putBack 55 = .ok (.istore_n 2, 1) := by decide +kernel
theorem dX6_putBack_56 : decode cX6_putBack 56 = .ok (.aload_n 0, 1) := by decide +kernel
theorem dX6_putBack_57 : decode cX6_putBack 57 = .ok (.iload_n 2, 1) := by decide +kernel
theorem dX6_putBack_58 : decode cX6_putBack 58 = .ok (.iconst (-1), 1) := by decide +kernel
theorem dX6_putBack_59 : decode cX6_putBack 59 = .ok (.if_icmp .ne 15, 3) := by decide +kernel
theorem dX6_putBack_62 : decode cX6_putBack 62 = .ok (.aload_n 0, 1) := by decide +kernel
theorem dX6_putBack_63 : decode cX6_putBack 63 = .ok (.getfield 12, 3) := by decide +kernel
theorem dX6_putBack_66 : decode cX6_putBack 66 = .ok (.getfield 70, 3) := by decide +kernel
theorem dX6_putBack_69 : decode cX6_putBack 69 = .ok (.iload_n 1, 1) := by decide +kernel
theorem dX6_putBack_70 : decode cX6_putBack 70 = .ok (.iaload, 1) := by decide +kernel
theorem dX6_putBack_71 : decode cX6_putBack 71 = .ok (.goto 4, 3) := by decide +kernel
theorem dX6_putBack_74 : decode cX6_putBack 74 = .ok (.iload_n 2, 1) := by decide +kernel
theorem dX6_putBack_75 : decode cX6_putBack 75 = .ok (.invokevirtual 117, 3) := by decide +kernel
theorem dX6_putBack_78 : decode cX6_putBack 78 = .ok (.ireturn, 1) := by decide +kernel
set_option maxRecDepth 20000 in
theorem ggX6_isServable_X6_isEnough : GoodIn wsX6_isServable wsX6_isEnough := goodIn_r _ [6, 7, 1, 8, 9, 10, 11, 12, 13, 14, 15, 16, 17, 18, 19, 20, 21, 22, 23, 24, 25, 26, 27, 28, 29, 30] (by decide +kernel) (by decide +kernel)
set_option maxRecDepth 20000 in
theorem gX6_isServable_X6_isEnough : GoodIn wsX6_isServable (wsV RX6 120 RX6 yX6_isEnough wsX6_isEnough) := goodIn_app (goodIn_of _ (by decide +kernel)) ggX6_isServable_X6_isEnough
theorem dX6_isServable_0 : decode cX6_isServable 0 = .ok (.aload_n 0, 1) := by decide +kernel
theorem dX6_isServable_1 : decode cX6_isServable 1 = .ok (.iload_n 1, 1) := by decide +kernel
theorem dX6_isServable_2 : decode cX6_isServable 2 = .ok (.iconst 1, 1) := by decide +kernel
theorem dX6_isServable_3 : decode cX6_isServable 3 = .ok (.aload_n 0, 1) := by decide +kernel
theorem dX6_isServable_4 : decode cX6_isServable 4 = .ok (.getfield 12, 3) := by decide +kernel
theorem dX6_isServable_7 : decode cX6_isServable 7 = .ok (.getfield 64, 3) := by decide +kernel
theorem dX6_isServable_10 : decode cX6_isServable 10 = .ok (.ishl, 1) := by decide +kernel
theorem dX6_isServable_11 : decode cX6_isServable 11 = .ok (.iconst 1, 1) := by decide +kernel
theorem dX6_isServable_12 : decode cX6_isServable 12 = .ok (.isub, 1) := by decide +kernel
theorem dX6_isServable_13 : decode cX6_isServable 13 = .ok (.invokevirtual 120, 3) := by decide +kernel
theorem dX6_isServable_16 : decode cX6_isServable 16 = .ok (.ireturn, 1) := by decide +kernel
set_option maxRecDepth 20000 in
theorem ggX6_isEnough_X3_wantedOf : GoodIn wsX6_isEnough wsX3_wantedOf := goodIn_r _ [6, 7, 24, 25] (by decide +kernel) (by decide +kernel)
set_option maxRecDepth 20000 in
theorem gX6_isEnough_X3_wantedOf_n124 : GoodIn wsX6_isEnough (wsX3_wantedOf) := ggX6_isEnough_X3_wantedOf
set_option maxRecDepth 20000 in
theorem ggX6_isEnough_X7_countIn : GoodIn wsX6_isEnough wsX7_countIn := goodIn_r _ [11, 12, 18, 19, 20, 21, 22, 23] (by decide +kernel) (by decide +kernel)
set_option maxRecDepth 20000 in
theorem gX6_isEnough_X7_countIn_n56 : GoodIn wsX6_isEnough (wsX7_countIn) := ggX6_isEnough_X7_countIn
theorem dX6_isEnough_0 : decode cX6_isEnough 0 = .ok (.iconst 0, 1) := by decide +kernel
theorem dX6_isEnough_1 : decode cX6_isEnough 1 = .ok (.istore_n 3, 1) := by decide +kernel
theorem dX6_isEnough_2 : decode cX6_isEnough 2 = .ok (.iload_n 3, 1) := by decide +kernel
theorem dX6_isEnough_3 : decode cX6_isEnough 3 = .ok (.bipush 10, 2) := by decide +kernel
theorem dX6_isEnough_5 : decode cX6_isEnough 5 = .ok (.if_icmp .ge 77, 3) := by decide +kernel
theorem dX6_isEnough_8 : decode cX6_isEnough 8 = .ok (.aload_n 0, 1) := by decide +kernel
theorem dX6_isEnough_9 : decode cX6_isEnough 9 = .ok (.getfield 35, 3) := by decide +kernel
theorem dX6_isEnough_12 : decode cX6_isEnough 12 = .ok (.iload_n 1, 1) := by decide +kernel
theorem dX6_isEnough_13 : decode cX6_isEnough 13 = .ok (.iload_n 3, 1) := by decide +kernel
theorem dX6_isEnough_14 : decode cX6_isEnough 14 = .ok (.invokevirtual 124, 3) := by decide +kernel
theorem dX6_isEnough_17 : decode cX6_isEnough 17 = .ok (.istore 4, 2) := by decide +kernel
theorem dX6_isEnough_19 : decode cX6_isEnough 19 = .ok (.iconst 0, 1) := by decide +kernel
theorem dX6_isEnough_20 : decode cX6_isEnough 20 = .ok (.istore 5, 2) := by decide +kernel
theorem dX6_isEnough_22 : decode cX6_isEnough 22 = .ok (.iload 5, 2) := by decide +kernel
theorem dX6_isEnough_24 : decode cX6_isEnough 24 = .ok (.aload_n 0, 1) := by decide +kernel
theorem dX6_isEnough_25 : decode cX6_isEnough 25 = .ok (.getfield 12, 3) := by decide +kernel
theorem dX6_isEnough_28 : decode cX6_isEnough 28 = .ok (.getfield 64, 3) := by decide +kernel
theorem dX6_isEnough_31 : decode cX6_isEnough 31 = .ok (.if_icmp .ge 38, 3) := by decide +kernel
theorem dX6_isEnough_34 : decode cX6_isEnough 34 = .ok (.iload 4, 2) := by decide +kernel
theorem dX6_isEnough_36 : decode cX6_isEnough 36 = .ok (.ifCond .le 33, 3) := by decide +kernel
theorem dX6_isEnough_39 : decode cX6_isEnough 39 = .ok (.iload_n 2, 1) := by decide +kernel
theorem dX6_isEnough_40 : decode cX6_isEnough 40 = .ok (.iload 5, 2) := by decide +kernel
theorem dX6_isEnough_42 : decode cX6_isEnough 42 = .ok (.ishr, 1) := by decide +kernel
theorem dX6_isEnough_43 : decode cX6_isEnough 43 = .ok (.iconst 1, 1) := by decide +kernel
theorem dX6_isEnough_44 : decode cX6_isEnough 44 = .ok (.iand, 1) := by decide +kernel
theorem dX6_isEnough_45 : decode cX6_isEnough 45 = .ok (.ifCond .eq 18, 3) := by decide +kernel
theorem dX6_isEnough_48 : decode cX6_isEnough 48 = .ok (.iload 4, 2) := by decide +kernel
theorem dX6_isEnough_50 : decode cX6_isEnough 50 = .ok (.aload_n 0, 1) := by decide +kernel
theorem dX6_isEnough_51 : decode cX6_isEnough 51 = .ok (.getfield 12, 3) := by decide +kernel
theorem dX6_isEnough_54 : decode cX6_isEnough 54 = .ok (.iload 5, 2) := by decide +kernel
theorem dX6_isEnough_56 : decode cX6_isEnough 56 = .ok (.iload_n 3, 1) := by decide +kernel
theorem dX6_isEnough_57 : decode cX6_isEnough 57 = .ok (.invokevirtual 56, 3) := by decide +kernel
theorem dX6_isEnough_60 : decode cX6_isEnough 60 = .ok (.isub, 1) := by decide +kernel
theorem dX6_isEnough_61 : decode cX6_isEnough 61 = .ok (.istore 4, 2) := by decide +kernel
theorem dX6_isEnough_63 : decode cX6_isEnough 63 = .ok (.iinc 5 1, 3) := by decide +kernel
theorem dX6_isEnough_66 : decode cX6_isEnough 66 = .ok (.goto (-44), 3) := by decide +kernel
theorem dX6_isEnough_69 : decode cX6_isEnough 69 = .ok (.iload 4, 2) := by decide +kernel
theorem dX6_isEnough_71 : decode cX6_isEnough 71 = .ok (.ifCond .le 5, 3) := by decide +kernel
theorem dX6_isEnough_74 : decode cX6_isEnough 74 = .ok (.iconst 0, 1) := by decide +kernel
theorem dX6_isEnough_75 : decode cX6_isEnough 75 = .ok (.ireturn, 1) := by decide +kernel
theorem dX6_isEnough_76 : decode cX6_isEnough 76 = .ok (.iinc 3 1, 3) := by decide +kernel
theorem dX6_isEnough_79 : decode cX6_isEnough 79 = .ok (.goto (-77), 3) := by decide +kernel
theorem dX6_isEnough_82 : decode cX6_isEnough 82 = .ok (.iconst 1, 1) := by decide +kernel
theorem dX6_isEnough_83 : decode cX6_isEnough 83 = .ok (.ireturn, 1) := by decide +kernel
set_option maxRecDepth 20000 in
theorem ggX6_usefulShelves_X3_wantedOf : GoodIn wsX6_usefulShelves wsX3_wantedOf := goodIn_r _ [6, 7, 24, 25] (by decide +kernel) (by decide +kernel)
set_option maxRecDepth 20000 in
theorem gX6_usefulShelves_X3_wantedOf_n124 : GoodIn wsX6_usefulShelves (wsX3_wantedOf) := ggX6_usefulShelves_X3_wantedOf
set_option maxRecDepth 20000 in
theorem ggX6_usefulShelves_X7_countIn : GoodIn wsX6_usefulShelves wsX7_countIn := goodIn_r _ [11, 12, 18, 19, 20, 21, 22, 23] (by decide +kernel) (by decide +kernel)
set_option maxRecDepth 20000 in
theorem gX6_usefulShelves_X7_countIn_n56 : GoodIn wsX6_usefulShelves (wsX7_countIn) := ggX6_usefulShelves_X7_countIn
theorem dX6_usefulShelves_0 : decode cX6_usefulShelves 0 = .ok (.iconst 0, 1) := by decide +kernel
theorem dX6_usefulShelves_1 : decode cX6_usefulShelves 1 = .ok (.istore_n 2, 1) := by decide +kernel
theorem dX6_usefulShelves_2 : decode cX6_usefulShelves 2 = .ok (.iconst 0, 1) := by decide +kernel
theorem dX6_usefulShelves_3 : decode cX6_usefulShelves 3 = .ok (.istore_n 3, 1) := by decide +kernel
theorem dX6_usefulShelves_4 : decode cX6_usefulShelves 4 = .ok (.iload_n 3, 1) := by decide +kernel
theorem dX6_usefulShelves_5 : decode cX6_usefulShelves 5 = .ok (.aload_n 0, 1) := by decide +kernel
theorem dX6_usefulShelves_6 : decode cX6_usefulShelves 6 = .ok (.getfield 12, 3) := by decide +kernel
theorem dX6_usefulShelves_9 : decode cX6_usefulShelves 9 = .ok (.getfield 64, 3) := by decide +kernel
theorem dX6_usefulShelves_12 : decode cX6_usefulShelves 12 = .ok (.if_icmp .ge 57, 3) := by decide +kernel
theorem dX6_usefulShelves_15 : decode cX6_usefulShelves 15 = .ok (.iconst 0, 1) := by decide +kernel
theorem dX6_usefulShelves_16 : decode cX6_usefulShelves 16 = .ok (.istore 4, 2) := by decide +kernel
theorem dX6_usefulShelves_18 : decode cX6_usefulShelves 18 = .ok (.iload 4, 2) := by decide +kernel
theorem dX6_usefulShelves_20 : decode cX6_usefulShelves 20 = .ok (.bipush 10, 2) := by decide +kernel
theorem dX6_usefulShelves_22 : decode cX6_usefulShelves 22 = .ok (.if_icmp .ge 41, 3) := by decide +kernel
theorem dX6_usefulShelves_25 : decode cX6_usefulShelves 25 = .ok (.aload_n 0, 1) := by decide +kernel
theorem dX6_usefulShelves_26 : decode cX6_usefulShelves 26 = .ok (.getfield 35, 3) := by decide +kernel
theorem dX6_usefulShelves_29 : decode cX6_usefulShelves 29 = .ok (.iload_n 1, 1) := by decide +kernel
theorem dX6_usefulShelves_30 : decode cX6_usefulShelves 30 = .ok (.iload 4, 2) := by decide +kernel
theorem dX6_usefulShelves_32 : decode cX6_usefulShelves 32 = .ok (.invokevirtual 124, 3) := by decide +kernel
theorem dX6_usefulShelves_35 : decode cX6_usefulShelves 35 = .ok (.ifCond .le 22, 3) := by decide +kernel
theorem dX6_usefulShelves_38 : decode cX6_usefulShelves 38 = .ok (.aload_n 0, 1) := by decide +kernel
theorem dX6_usefulShelves_39 : decode cX6_usefulShelves 39 = .ok (.getfield 12, 3) := by decide +kernel
theorem dX6_usefulShelves_42 : decode cX6_usefulShelves 42 = .ok (.iload_n 3, 1) := by decide +kernel
theorem dX6_usefulShelves_43 : decode cX6_usefulShelves 43 = .ok (.iload 4, 2) := by decide +kernel
theorem dX6_usefulShelves_45 : decode cX6_usefulShelves 45 = .ok (.invokevirtual 56, 3) := by decide +kernel
theorem dX6_usefulShelves_48 : decode cX6_usefulShelves 48 = .ok (.ifCond .le 9, 3) := by decide +kernel
theorem dX6_usefulShelves_51 : decode cX6_usefulShelves 51 = .ok (.iload_n 2, 1) := by decide +kernel
theorem dX6_usefulShelves_52 : decode cX6_usefulShelves 52 = .ok (.iconst 1, 1) := by decide +kernel
theorem dX6_usefulShelves_53 : decode cX6_usefulShelves 53 = .ok (.iload_n 3, 1) := by decide +kernel
theorem dX6_usefulShelves_54 : decode cX6_usefulShelves 54 = .ok (.ishl, 1) := by decide +kernel
theorem dX6_usefulShelves_55 : decode cX6_usefulShelves 55 = .ok (.ior, 1) := by decide +kernel
theorem dX6_usefulShelves_56 : decode cX6_usefulShelves 56 = .ok (.istore_n 2, 1) := by decide +kernel
theorem dX6_usefulShelves_57 : decode cX6_usefulShelves 57 = .ok (.iinc 4 1, 3) := by decide +kernel
theorem dX6_usefulShelves_60 : decode cX6_usefulShelves 60 = .ok (.goto (-42), 3) := by decide +kernel
theorem dX6_usefulShelves_63 : decode cX6_usefulShelves 63 = .ok (.iinc 3 1, 3) := by decide +kernel
theorem dX6_usefulShelves_66 : decode cX6_usefulShelves 66 = .ok (.goto (-62), 3) := by decide +kernel
theorem dX6_usefulShelves_69 : decode cX6_usefulShelves 69 = .ok (.iload_n 2, 1) := by decide +kernel
theorem dX6_usefulShelves_70 : decode cX6_usefulShelves 70 = .ok (.ireturn, 1) := by decide +kernel
set_option maxRecDepth 20000 in
theorem ggX6_choice_X6_usefulShelves : GoodIn wsX6_choice wsX6_usefulShelves := goodIn_r _ [5, 6, 7, 8, 9, 10, 11, 12, 13, 14, 15, 16, 17, 29, 30, 31, 32, 33, 34, 35, 36, 37, 38, 39, 40, 41] (by decide +kernel) (by decide +kernel)
set_option maxRecDepth 20000 in
theorem gX6_choice_X6_usefulShelves : GoodIn wsX6_choice (wsV RX6 127 RX6 yX6_usefulShelves wsX6_usefulShelves) := goodIn_app (goodIn_of _ (by decide +kernel)) ggX6_choice_X6_usefulShelves
set_option maxRecDepth 20000 in
theorem ggX6_choice_J6_bitCount_0f7a4 : GoodIn wsX6_choice wsJ6_bitCount_0f7a4 := goodIn_r _ [21, 22, 23, 24] (by decide +kernel) (by decide +kernel)
set_option maxRecDepth 20000 in
theorem gX6_choice_J6_bitCount_0f7a4 : GoodIn wsX6_choice (va_wsS RX6 130 yJ6_bitCount_0f7a4 wsJ6_bitCount_0f7a4) := goodIn_app (goodIn_of _ (by decide +kernel)) ggX6_choice_J6_bitCount_0f7a4
set_option maxRecDepth 20000 in
theorem ggX6_choice_X6_isEnough : GoodIn wsX6_choice wsX6_isEnough := goodIn_r _ [28, 7, 6, 8, 9, 10, 11, 12, 13, 14, 15, 16, 17, 29, 30, 31, 32, 33, 34, 35, 36, 37, 38, 39, 40, 41] (by decide +kernel) (by decide +kernel)
set_option maxRecDepth 20000 in
theorem gX6_choice_X6_isEnough : GoodIn wsX6_choice (wsV RX6 120 RX6 yX6_isEnough wsX6_isEnough) := goodIn_app (goodIn_of _ (by decide +kernel)) ggX6_choice_X6_isEnough
theorem dX6_choice_0 : decode cX6_choice 0 = .ok (.aload_n 0, 1) := by decide +kernel
theorem dX6_choice_1 : decode cX6_choice 1 = .ok (.iload_n 1, 1) := by decide +kernel
theorem dX6_choice_2 : decode cX6_choice 2 = .ok (.invokevirtual 127, 3) := by decide +kernel
theorem dX6_choice_5 : decode cX6_choice 5 = .ok (.istore_n 2, 1) := by decide +kernel
theorem dX6_choice_6 : decode cX6_choice 6 = .ok (.iload_n 2, 1) := by decide +kernel
theorem dX6_choice_7 : decode cX6_choice 7 = .ok (.istore_n 3, 1) := by decide +kernel
theorem dX6_choice_8 : decode cX6_choice 8 = .ok (.iload_n 2, 1) := by decide +kernel
theorem dX6_choice_9 : decode cX6_choice 9 = .ok (.invokestatic 130, 3) := by decide +kernel
theorem dX6_choice_12 : decode cX6_choice 12 = .ok (.istore 4, 2) := by decide +kernel
theorem dX6_choice_14 : decode cX6_choice 14 = .ok (.iconst 0, 1) := by decide +kernel
theorem dX6_choice_15 : decode cX6_choice 15 = .ok (.istore 5, 2) := by decide +kernel
theorem dX6_choice_17 : decode cX6_choice 17 = .ok (.iload 5, 2) := by decide +kernel
theorem dX6_choice_19 : decode cX6_choice 19 = .ok (.iload_n 2, 1) := by decide +kernel
theorem dX6_choice_20 : decode cX6_choice 20 = .ok (.if_icmp .ge 48, 3) := by decide +kernel
theorem dX6_choice_23 : decode cX6_choice 23 = .ok (.iload 5, 2) := by decide +kernel
theorem dX6_choice_25 : decode cX6_choice 25 = .ok (.iload_n 2, 1) := by decide +kernel
theorem dX6_choice_26 : decode cX6_choice 26 = .ok (.iconst (-1), 1) := by decide +kernel
theorem dX6_choice_27 : decode cX6_choice 27 = .ok (.ixor, 1) := by decide +kernel
theorem dX6_choice_28 : decode cX6_choice 28 = .ok (.iand, 1) := by decide +kernel
theorem dX6_choice_29 : decode cX6_choice 29 = .ok (.ifCond .ne 33, 3) := by decide +kernel
theorem dX6_choice_32 : decode cX6_choice 32 = .ok (.iload 5, 2) := by decide +kernel
theorem dX6_choice_34 : decode cX6_choice 34 = .ok (.invokestatic 130, 3) := by decide +kernel
theorem dX6_choice_37 : decode cX6_choice 37 = .ok (.iload 4, 2) := by decide +kernel
theorem dX6_choice_39 : decode cX6_choice 39 = .ok (.if_icmp .ge 23, 3) := by decide +kernel
theorem dX6_choice_42 : decode cX6_choice 42 = .ok (.aload_n 0, 1) := by decide +kernel
theorem dX6_choice_43 : decode cX6_choice 43 = .ok (.iload_n 1, 1) := by decide +kernel
theorem dX6_choice_44 : decode cX6_choice 44 = .ok (.iload 5, 2) := by decide +kernel
theorem dX6_choice_46 : decode cX6_choice 46 = .ok (.invokevirtual 120, 3) := by decide +kernel
theorem dX6_choice_49 : decode cX6_choice 49 = .ok (.ifCond .eq 13, 3) := by decide +kernel
theorem dX6_choice_52 : decode cX6_choice 52 = .ok (.iload 5, 2) := by decide +kernel
theorem dX6_choice_54 : decode cX6_choice 54 = .ok (.istore_n 3, 1) := by decide +kernel
theorem dX6_choice_55 : decode cX6_choice 55 = .ok (.iload 5, 2) := by decide +kernel
theorem dX6_choice_57 : decode cX6_choice 57 = .ok (.invokestatic 130, 3) := by decide +kernel
theorem dX6_choice_60 : decode cX6_choice 60 = .ok (.istore 4, 2) := by decide +kernel
theorem dX6_choice_62 : decode cX6_choice 62 = .ok (.iinc 5 1, 3) := by decide +kernel
theorem dX6_choice_65 : decode cX6_choice 65 = .ok (.goto (-48), 3) := by decide +kernel
theorem dX6_choice_68 : decode cX6_choice 68 = .ok (.iload_n 3, 1) := by decide +kernel
theorem dX6_choice_69 : decode cX6_choice 69 = .ok (.ireturn, 1) := by decide +kernel
set_option maxRecDepth 20000 in
theorem ggX6_sumTicks_X7_wayOf : GoodIn wsX6_sumTicks wsX7_wayOf := goodIn_r _ [9] (by decide +kernel) (by decide +kernel)
set_option maxRecDepth 20000 in
theorem gX6_sumTicks_X7_wayOf_n94 : GoodIn wsX6_sumTicks (wsX7_wayOf) := ggX6_sumTicks_X7_wayOf
theorem dX6_sumTicks_0 : decode cX6_sumTicks 0 = .ok (.iconst 0, 1) := by decide +kernel
theorem dX6_sumTicks_1 : decode cX6_sumTicks 1 = .ok (.istore_n 2, 1) := by decide +kernel
theorem dX6_sumTicks_2 : decode cX6_sumTicks 2 = .ok (.aload_n 0, 1) := by decide +kernel
theorem dX6_sumTicks_3 : decode cX6_sumTicks 3 = .ok (.getfield 21, 3) := by decide +kernel
theorem dX6_sumTicks_6 : decode cX6_sumTicks 6 = .ok (.getfield 88, 3) := by decide +kernel
theorem dX6_sumTicks_9 : decode cX6_sumTicks 9 = .ok (.istore_n 3, 1) := by decide +kernel
theorem dX6_sumTicks_10 : decode cX6_sumTicks 10 = .ok (.iconst 0, 1) := by decide +kernel
theorem dX6_sumTicks_11 : decode cX6_sumTicks 11 = .ok (.istore 4, 2) := by decide +kernel
theorem dX6_sumTicks_13 : decode cX6_sumTicks 13 = .ok (.iload 4, 2) := by decide +kernel
theorem dX6_sumTicks_15 : decode cX6_sumTicks 15 = .ok (.aload_n 0, 1) := by decide +kernel
theorem dX6_sumTicks_16 : decode cX6_sumTicks 16 = .ok (.getfield 12, 3) := by decide +kernel
theorem dX6_sumTicks_19 : decode cX6_sumTicks 19 = .ok (.getfield 64, 3) := by decide +kernel
theorem dX6_sumTicks_22 : decode cX6_sumTicks 22 = .ok (.if_icmp .ge 57, 3) := by decide +kernel
theorem dX6_sumTicks_25 : decode cX6_sumTicks 25 = .ok (.iload_n 1, 1) := by decide +kernel
theorem dX6_sumTicks_26 : decode cX6_sumTicks 26 = .ok (.iload 4, 2) := by decide +kernel
theorem dX6_sumTicks_28 : decode cX6_sumTicks 28 = .ok (.ishr, 1) := by decide +kernel
theorem dX6_sumTicks_29 : decode cX6_sumTicks 29 = .ok (.iconst 1, 1) := by decide +kernel
theorem dX6_sumTicks_30 : decode cX6_sumTicks 30 = .ok (.iand, 1) := by decide +kernel
theorem dX6_sumTicks_31 : decode cX6_sumTicks 31 = .ok (.ifCond .eq 42, 3) := by decide +kernel
theorem dX6_sumTicks_34 : decode cX6_sumTicks 34 = .ok (.aload_n 0, 1) := by decide +kernel
theorem dX6_sumTicks_35 : decode cX6_sumTicks 35 = .ok (.getfield 12, 3) := by decide +kernel
theorem dX6_sumTicks_38 : decode cX6_sumTicks 38 = .ok (.getfield 70, 3) := by decide +kernel
theorem dX6_sumTicks_41 : decode cX6_sumTicks 41 = .ok (.iload 4, 2) := by decide +kernel
theorem dX6_sumTicks_43 : decode cX6_sumTicks 43 = .ok (.iaload, 1) := by decide +kernel
theorem dX6_sumTicks_44 : decode cX6_sumTicks 44 = .ok (.istore 5, 2) := by decide +kernel
theorem dX6_sumTicks_46 : decode cX6_sumTicks 46 = .ok (.iload_n 2, 1) := by decide +kernel
theorem dX6_sumTicks_47 : decode cX6_sumTicks 47 = .ok (.iload_n 3, 1) := by decide +kernel
theorem dX6_sumTicks_48 : decode cX6_sumTicks 48 = .ok (.iload 5, 2) := by decide +kernel
theorem dX6_sumTicks_50 : decode cX6_sumTicks 50 = .ok (.bipush 20, 2) := by decide +kernel
theorem dX6_sumTicks_52 : decode cX6_sumTicks 52 = .ok (.irem, 1) := by decide +kernel
theorem dX6_sumTicks_53 : decode cX6_sumTicks 53 = .ok (.isub, 1) := by decide +kernel
theorem dX6_sumTicks_54 : decode cX6_sumTicks 54 = .ok (.invokestatic 91, 3) := by decide +kernel
theorem dX6_sumTicks_57 : decode cX6_sumTicks 57 = .ok (.iconst 2, 1) := by decide +kernel
theorem dX6_sumTicks_58 : decode cX6_sumTicks 58 = .ok (.iload 5, 2) := by decide +kernel
theorem dX6_sumTicks_60 : decode cX6_sumTicks 60 = .ok (.invokestatic 94, 3) := by decide +kernel
theorem dX6_sumTicks_63 : decode cX6_sumTicks 63 = .ok (.imul, 1) := by decide +kernel
theorem dX6_sumTicks_64 : decode cX6_sumTicks 64 = .ok (.iadd, 1) := by decide +kernel
theorem dX6_sumTicks_65 : decode cX6_sumTicks 65 = .ok (.iadd, 1) := by decide +kernel
theorem dX6_sumTicks_66 : decode cX6_sumTicks 66 = .ok (.istore_n 2, 1) := by decide +kernel
theorem dX6_sumTicks_67 : decode cX6_sumTicks 67 = .ok (.iload 5, 2) := by decide +kernel
theorem dX6_sumTicks_69 : decode cX6_sumTicks 69 = .ok (.bipush 20, 2) := by decide +kernel
theorem dX6_sumTicks_71 : decode cX6_sumTicks 71 = .ok (.irem, 1) := by decide +kernel
theorem dX6_sumTicks_72 : decode cX6_sumTicks 72 = .ok (.istore_n 3, 1) := by decide +kernel
theorem dX6_sumTicks_73 : decode cX6_sumTicks 73 = .ok (.iinc 4 1, 3) := by decide +kernel
theorem dX6_sumTicks_76 : decode cX6_sumTicks 76 = .ok (.goto (-63), 3) := by decide +kernel
theorem dX6_sumTicks_79 : decode cX6_sumTicks 79 = .ok (.iload_n 2, 1) := by decide +kernel
theorem dX6_sumTicks_80 : decode cX6_sumTicks 80 = .ok (.ireturn, 1) := by decide +kernel
set_option maxRecDepth 20000 in
theorem ggX6_give_X7_countIn : GoodIn wsX6_give wsX7_countIn := goodIn_r _ [11, 12, 32, 33, 34, 35, 36, 37] (by decide +kernel) (by decide +kernel)
set_option maxRecDepth 20000 in
theorem gX6_give_X7_countIn_n56 : GoodIn wsX6_give (wsX7_countIn) := ggX6_give_X7_countIn
set_option maxRecDepth 20000 in
theorem ggX6_give_X3_wantedOf : GoodIn wsX6_give wsX3_wantedOf := goodIn_r _ [16, 17, 26, 27] (by decide +kernel) (by decide +kernel)
set_option maxRecDepth 20000 in
theorem gX6_give_X3_wantedOf_n124 : GoodIn wsX6_give (wsX3_wantedOf) := ggX6_give_X3_wantedOf
set_option maxRecDepth 20000 in
theorem ggX6_give_X7_change : GoodIn wsX6_give wsX7_change := goodIn_r _ [20, 12, 32, 33, 34, 35, 36, 37] (by decide +kernel) (by decide +kernel)
set_option maxRecDepth 20000 in
theorem gX6_give_X7_change_n138 : GoodIn wsX6_give (wsX7_change) := ggX6_give_X7_change
theorem dX6_give_0 : decode cX6_give 0 = .ok (.iconst 0, 1) := by decide +kernel
theorem dX6_give_1 : decode cX6_give 1 = .ok (.istore_n 3, 1) := by decide +kernel
theorem dX6_give_2 : decode cX6_give 2 = .ok (.iload_n 3, 1) := by decide +kernel
theorem dX6_give_3 : decode cX6_give 3 = .ok (.bipush 10, 2) := by decide +kernel
theorem dX6_give_5 : decode cX6_give 5 = .ok (.if_icmp .ge 78, 3) := by decide +kernel
theorem dX6_give_8 : decode cX6_give 8 = .ok (.aload_n 0, 1) := by decide +kernel
theorem dX6_give_9 : decode cX6_give 9 = .ok (.getfield 12, 3) := by decide +kernel
theorem dX6_give_12 : decode cX6_give 12 = .ok (.iload_n 1, 1) := by decide +kernel
theorem dX6_give_13 : decode cX6_give 13 = .ok (.iload_n 3, 1) := by decide +kernel
theorem dX6_give_14 : decode cX6_give 14 = .ok (.invokevirtual 56, 3) := by decide +kernel
theorem dX6_give_17 : decode cX6_give 17 = .ok (.aload_n 0, 1) := by decide +kernel
theorem dX6_give_18 : decode cX6_give 18 = .ok (.getfield 35, 3) := by decide +kernel
theorem dX6_give_21 : decode cX6_give 21 = .ok (.iload_n 2, 1) := by decide +kernel
theorem dX6_give_22 : decode cX6_give 22 = .ok (.iload_n 3, 1) := by decide +kernel
theorem dX6_give_23 : decode cX6_give 23 = .ok (.invokevirtual 124, 3) := by decide +kernel
theorem dX6_give_26 : decode cX6_give 26 = .ok (.invokestatic 135, 3) := by decide +kernel
theorem dX6_give_29 : decode cX6_give 29 = .ok (.istore 4, 2) := by decide +kernel
theorem dX6_give_31 : decode cX6_give 31 = .ok (.aload_n 0, 1) := by decide +kernel
theorem dX6_give_32 : decode cX6_give 32 = .ok (.getfield 12, 3) := by decide +kernel
theorem dX6_give_35 : decode cX6_give 35 = .ok (.iload_n 1, 1) := by decide +kernel
theorem dX6_give_36 : decode cX6_give 36 = .ok (.iload_n 3, 1) := by decide +kernel
theorem dX6_give_37 : decode cX6_give 37 = .ok (.iload 4, 2) := by decide +kernel
theorem dX6_give_39 : decode cX6_give 39 = .ok (.ineg, 1) := by decide +kernel
theorem dX6_give_40 : decode cX6_give 40 = .ok (.invokevirtual 138, 3) := by decide +kernel
theorem dX6_give_43 : decode cX6_give 43 = .ok (.pop, 1) := by decide +kernel
theorem dX6_give_44 : decode cX6_give 44 = .ok (.aload_n 0, 1) := by decide +kernel
theorem dX6_give_45 : decode cX6_give 45 = .ok (.getfield 35, 3) := by decide +kernel
theorem dX6_give_48 : decode cX6_give 48 = .ok (.getfield 142, 3) := by decide +kernel
theorem dX6_give_51 : decode cX6_give 51 = .ok (.iload_n 2, 1) := by decide +kernel
theorem dX6_give_52 : decode cX6_give 52 = .ok (.bipush 10, 2) := by decide +kernel
theorem dX6_give_54 : decode cX6_give 54 = .ok (.imul, 1) := by decide +kernel
theorem dX6_give_55 : decode cX6_give 55 = .ok (.iload_n 3, 1) := by decide +kernel
theorem dX6_give_56 : decode cX6_give 56 = .ok (.iadd, 1) := by decide +kernel
theorem dX6_give_57 : decode cX6_give 57 = .ok (.dup2, 1) := by decide +kernel
theorem dX6_give_58 : decode cX6_give 58 = .ok (.iaload, 1) := by decide +kernel
theorem dX6_give_59 : decode cX6_give 59 = .ok (.iload 4, 2) := by decide +kernel
theorem dX6_give_61 : decode cX6_give 61 = .ok (.isub, 1) := by decide +kernel
theorem dX6_give_62 : decode cX6_give 62 = .ok (.iastore, 1) := by decide +kernel
theorem dX6_give_63 : decode cX6_give 63 = .ok (.aload_n 0, 1) := by decide +kernel
theorem dX6_give_64 : decode cX6_give 64 = .ok (.getfield 28, 3) := by decide +kernel
theorem dX6_give_67 : decode cX6_give 67 = .ok (.getfield 145, 3) := by decide +kernel
theorem dX6_give_70 : decode cX6_give 70 = .ok (.iload_n 3, 1) := by decide +kernel
theorem dX6_give_71 : decode cX6_give 71 = .ok (.dup2, 1) := by decide +kernel
theorem dX6_give_72 : decode cX6_give 72 = .ok (.iaload, 1) := by decide +kernel
theorem dX6_give_73 : decode cX6_give 73 = .ok (.iload 4, 2) := by decide +kernel
theorem dX6_give_75 : decode cX6_give 75 = .ok (.iadd, 1) := by decide +kernel
theorem dX6_give_76 : decode cX6_give 76 = .ok (.iastore, 1) := by decide +kernel
theorem dX6_give_77 : decode cX6_give 77 = .ok (.iinc 3 1, 3) := by decide +kernel
theorem dX6_give_80 : decode cX6_give 80 = .ok (.goto (-78), 3) := by decide +kernel
theorem dX6_give_83 : decode cX6_give 83 = .ok (.return_, 1) := by decide +kernel
set_option maxRecDepth 20000 in
theorem ggX6_serveOne_X6_choice : GoodIn wsX6_serveOne wsX6_choice := goodIn_r _ [9, 10, 11, 12, 8, 13, 2, 3, 14, 15, 16, 17, 18, 19, 20, 21, 22, 23, 24, 25, 26, 27, 28, 29, 30, 31, 32, 33, 34, 107, 108, 109, 110, 111, 119, 120, 121, 122, 123, 124, 125, 126] (by decide +kernel) (by decide +kernel)
set_option maxRecDepth 20000 in
theorem gX6_serveOne_X6_choice : GoodIn wsX6_serveOne (wsV RX6 151 RX6 yX6_choice wsX6_choice) := goodIn_app (goodIn_of _ (by decide +kernel)) ggX6_serveOne_X6_choice
set_option maxRecDepth 20000 in
theorem ggX6_serveOne_X6_bring : GoodIn wsX6_serveOne wsX6_bring := goodIn_r _ [38, 1, 2, 39, 40, 41, 8, 42, 43, 44, 45, 46, 47, 20, 48, 49, 50, 51, 52, 53, 54, 55, 56, 57, 58, 59, 60, 61, 107, 108, 109, 110, 111, 119, 120, 121, 122, 123, 124, 112, 113, 114, 115, 116, 117, 118] (by decide +kernel) (by decide +kernel)
set_option maxRecDepth 20000 in
theorem gX6_serveOne_X6_bring : GoodIn wsX6_serveOne (wsV RX6 154 RX6 yX6_bring wsX6_bring) := goodIn_app (goodIn_of _ (by decide +kernel)) ggX6_serveOne_X6_bring
set_option maxRecDepth 20000 in
theorem ggX6_serveOne_X6_give : GoodIn wsX6_serveOne wsX6_give := goodIn_r _ [65, 2, 3, 66, 57, 45, 58, 67, 19, 20, 21, 22, 23, 14, 15, 16, 17, 18, 68, 69, 70, 107, 108, 109, 110, 111, 125, 126, 127, 128, 129, 130, 119, 120, 121, 122, 123, 124] (by decide +kernel) (by decide +kernel)
set_option maxRecDepth 20000 in
theorem gX6_serveOne_X6_give : GoodIn wsX6_serveOne (wsV RX6 157 RX6 yX6_give wsX6_give) := goodIn_app (goodIn_of _ (by decide +kernel)) ggX6_serveOne_X6_give
set_option maxRecDepth 20000 in
theorem ggX6_serveOne_X6_putBack : GoodIn wsX6_serveOne wsX6_putBack := goodIn_r _ [74, 2, 1, 75, 20, 76, 77, 78, 79, 80, 81, 82, 83, 84, 85, 86, 87, 88, 89, 90, 91, 92, 93, 94, 95, 96, 97, 8, 98, 47, 48, 49, 50, 51, 52, 53, 54, 55, 56, 57, 45, 58, 59, 60, 61, 107, 108, 109, 110, 111, 119, 120, 121, 122, 123, 124, 112, 113, 114, 115, 116, 117, 118] (by decide +kernel) (by decide +kernel)
set_option maxRecDepth 20000 in
theorem gX6_serveOne_X6_putBack : GoodIn wsX6_serveOne (wsV RX6 161 RX6 yX6_putBack wsX6_putBack) := goodIn_app (goodIn_of _ (by decide +kernel)) ggX6_serveOne_X6_putBack
set_option maxRecDepth 20000 in
theorem ggX6_serveOne_X3_remove : GoodIn wsX6_serveOne wsX3_remove := goodIn_r _ [101, 102, 18, 103, 104, 105, 106, 125, 126] (by decide +kernel) (by decide +kernel)
set_option maxRecDepth 20000 in
theorem gX6_serveOne_X3_remove_n165 : GoodIn wsX6_serveOne (wsX3_remove) := ggX6_serveOne_X3_remove
theorem dX6_serveOne_0 : decode cX6_serveOne 0 = .ok (.aload_n 0, 1) := by decide +kernel
theorem dX6_serveOne_1 : decode cX6_serveOne 1 = .ok (.getfield 21, 3) := by decide +kernel
theorem dX6_serveOne_4 : decode cX6_serveOne 4 = .ok (.getfield 148, 3) := by decide +kernel
theorem dX6_serveOne_7 : decode cX6_serveOne 7 = .ok (.istore_n 2, 1) := by decide +kernel
theorem dX6_serveOne_8 : decode cX6_serveOne 8 = .ok (.aload_n 0, 1) := by decide +kernel
theorem dX6_serveOne_9 : decode cX6_serveOne 9 = .ok (.iload_n 1, 1) := by decide +kernel
theorem dX6_serveOne_10 : decode cX6_serveOne 10 = .ok (.invokevirtual 151, 3) := by decide +kernel
theorem dX6_serveOne_13 : decode cX6_serveOne 13 = .ok (.istore_n 3, 1) := by decide +kernel
theorem dX6_serveOne_14 : decode cX6_serveOne 14 = .ok (.iconst 0, 1) := by decide +kernel
theorem dX6_serveOne_15 : decode cX6_serveOne 15 = .ok (.istore 4, 2) := by decide +kernel
theorem dX6_serveOne_17 : decode cX6_serveOne 17 = .ok (.iload 4, 2) := by decide +kernel
theorem dX6_serveOne_19 : decode cX6_serveOne 19 = .ok (.aload_n 0, 1) := by decide +kernel
theorem dX6_serveOne_20 : decode cX6_serveOne 20 = .ok (.getfield 12, 3) := by decide +kernel
theorem dX6_serveOne_23 : decode cX6_serveOne 23 = .ok (.getfield 64, 3) := by decide +kernel
theorem dX6_serveOne_26 : decode cX6_serveOne 26 = .ok (.if_icmp .ge 37, 3) := by decide +kernel
theorem dX6_serveOne_29 : decode cX6_serveOne 29 = .ok (.iload_n 3, 1) := by decide +kernel
theorem dX6_serveOne_30 : decode cX6_serveOne 30 = .ok (.iload 4, 2) := by decide +kernel
theorem dX6_serveOne_32 : decode cX6_serveOne 32 = .ok (.ishr, 1) := by decide +kernel
theorem dX6_serveOne_33 : decode cX6_serveOne 33 = .ok (.iconst 1, 1) := by decide +kernel
theorem dX6_serveOne_34 : decode cX6_serveOne 34 = .ok (.iand, 1) := by decide +kernel
theorem dX6_serveOne_35 : decode cX6_serveOne 35 = .ok (.ifCond .eq 22, 3) := by decide +kernel
theorem dX6_serveOne_38 : decode cX6_serveOne 38 = .ok (.aload_n 0, 1) := by decide +kernel
theorem dX6_serveOne_39 : decode cX6_serveOne 39 = .ok (.iload 4, 2) := by decide +kernel
theorem dX6_serveOne_41 : decode cX6_serveOne 41 = .ok (.invokevirtual 154, 3) := by decide +kernel
theorem dX6_serveOne_44 : decode cX6_serveOne 44 = .ok (.pop, 1) := by decide +kernel
theorem dX6_serveOne_45 : decode cX6_serveOne 45 = .ok (.aload_n 0, 1) := by decide +kernel
theorem dX6_serveOne_46 : decode cX6_serveOne 46 = .ok (.iload 4, 2) := by decide +kernel
theorem dX6_serveOne_48 : decode cX6_serveOne 48 = .ok (.iload_n 1, 1) := by decide +kernel
theorem dX6_serveOne_49 : decode cX6_serveOne 49 = .ok (.invokevirtual 157, 3) := by decide +kernel
theorem dX6_serveOne_52 : decode cX6_serveOne 52 = .ok (.aload_n 0, 1) := by decide +kernel
theorem dX6_serveOne_53 : decode cX6_serveOne 53 = .ok (.invokevirtual 161, 3) := by decide +kernel
theorem dX6_serveOne_56 : decode cX6_serveOne 56 = .ok (.pop, 1) := by decide +kernel
theorem dX6_serveOne_57 : decode cX6_serveOne 57 = .ok (.iinc 4 1, 3) := by decide +kernel
theorem dX6_serveOne_60 : decode cX6_serveOne 60 = .ok (.goto (-43), 3) := by decide +kernel
theorem dX6_serveOne_63 : decode cX6_serveOne 63 = .ok (.aload_n 0, 1) := by decide +kernel
theorem dX6_serveOne_64 : decode cX6_serveOne 64 = .ok (.getfield 35, 3) := by decide +kernel
theorem dX6_serveOne_67 : decode cX6_serveOne 67 = .ok (.iload_n 1, 1) := by decide +kernel
theorem dX6_serveOne_68 : decode cX6_serveOne 68 = .ok (.invokevirtual 165, 3) := by decide +kernel
theorem dX6_serveOne_71 : decode cX6_serveOne 71 = .ok (.aload_n 0, 1) := by decide +kernel
theorem dX6_serveOne_72 : decode cX6_serveOne 72 = .ok (.dup, 1) := by decide +kernel
theorem dX6_serveOne_73 : decode cX6_serveOne 73 = .ok (.getfield 39, 3) := by decide +kernel
theorem dX6_serveOne_76 : decode cX6_serveOne 76 = .ok (.iconst 1, 1) := by decide +kernel
theorem dX6_serveOne_77 : decode cX6_serveOne 77 = .ok (.iadd, 1) := by decide +kernel
theorem dX6_serveOne_78 : decode cX6_serveOne 78 = .ok (.putfield 39, 3) := by decide +kernel
theorem dX6_serveOne_81 : decode cX6_serveOne 81 = .ok (.aload_n 0, 1) := by decide +kernel
theorem dX6_serveOne_82 : decode cX6_serveOne 82 = .ok (.getfield 21, 3) := by decide +kernel
theorem dX6_serveOne_85 : decode cX6_serveOne 85 = .ok (.getfield 148, 3) := by decide +kernel
theorem dX6_serveOne_88 : decode cX6_serveOne 88 = .ok (.iload_n 2, 1) := by decide +kernel
theorem dX6_serveOne_89 : decode cX6_serveOne 89 = .ok (.isub, 1) := by decide +kernel
theorem dX6_serveOne_90 : decode cX6_serveOne 90 = .ok (.ireturn, 1) := by decide +kernel
set_option maxRecDepth 20000 in
theorem ggX6_firstServable_X6_isServable : GoodIn wsX6_firstServable wsX6_isServable := goodIn_r _ [6, 7, 8, 9, 10, 5, 11, 1, 12, 13, 14, 15, 16, 17, 18, 19, 20, 21, 22, 23, 24, 25, 26, 29, 30, 31, 32, 33, 34, 27, 28] (by decide +kernel) (by decide +kernel)
set_option maxRecDepth 20000 in
theorem gX6_firstServable_X6_isServable : GoodIn wsX6_firstServable (wsV RX6 170 RX6 yX6_isServable wsX6_isServable) := goodIn_app (goodIn_of _ (by decide +kernel)) ggX6_firstServable_X6_isServable
theorem dX6_firstServable_0 : decode cX6_firstServable 0 = .ok (.iconst 0, 1) := by decide +kernel
theorem dX6_firstServable_1 : decode cX6_firstServable 1 = .ok (.istore_n 1, 1) := by decide +kernel
theorem dX6_firstServable_2 : decode cX6_firstServable 2 = .ok (.iload_n 1, 1) := by decide +kernel
theorem dX6_firstServable_3 : decode cX6_firstServable 3 = .ok (.aload_n 0, 1) := by decide +kernel
theorem dX6_firstServable_4 : decode cX6_firstServable 4 = .ok (.getfield 35, 3) := by decide +kernel
theorem dX6_firstServable_7 : decode cX6_firstServable 7 = .ok (.getfield 169, 3) := by decide +kernel
theorem dX6_firstServable_10 : decode cX6_firstServable 10 = .ok (.if_icmp .ge 19, 3) := by decide +kernel
theorem dX6_firstServable_13 : decode cX6_firstServable 13 = .ok (.aload_n 0, 1) := by decide +kernel
theorem dX6_firstServable_14 : decode cX6_firstServable 14 = .ok (.iload_n 1, 1) := by decide +kernel
theorem dX6_firstServable_15 : decode cX6_firstServable 15 = .ok (.invokevirtual 170, 3) := by decide +kernel
theorem dX6_firstServable_18 : decode cX6_firstServable 18 = .ok (.ifCond .eq 5, 3) := by decide +kernel
theorem dX6_firstServable_21 : decode cX6_firstServable 21 = .ok (.iload_n 1, 1) := by decide +kernel
theorem dX6_firstServable_22 : decode cX6_firstServable 22 = .ok (.ireturn, 1) := by decide +kernel
theorem dX6_firstServable_23 : decode cX6_firstServable 23 = .ok (.iinc 1 1, 3) := by decide +kernel
theorem dX6_firstServable_26 : decode cX6_firstServable 26 = .ok (.goto (-24), 3) := by decide +kernel
theorem dX6_firstServable_29 : decode cX6_firstServable 29 = .ok (.iconst (-1), 1) := by decide +kernel
theorem dX6_firstServable_30 : decode cX6_firstServable 30 = .ok (.ireturn, 1) := by decide +kernel
set_option maxRecDepth 20000 in
theorem ggX6_serveEach_X6_firstServable : GoodIn wsX6_serveEach wsX6_firstServable := goodIn_r _ [5, 6, 7, 8, 9, 4, 10, 11, 12, 13, 14, 15, 16, 17, 18, 19, 20, 21, 22, 23, 24, 25, 119, 120, 121, 122, 123, 124, 125, 126, 127, 128, 129, 130, 131] (by decide +kernel) (by decide +kernel)
set_option maxRecDepth 20000 in
theorem gX6_serveEach_X6_firstServable : GoodIn wsX6_serveEach (wsV RX6 174 RX6 yX6_firstServable wsX6_firstServable) := goodIn_app (goodIn_of _ (by decide +kernel)) ggX6_serveEach_X6_firstServable
set_option maxRecDepth 20000 in
theorem ggX6_serveEach_X6_serveOne : GoodIn wsX6_serveEach wsX6_serveOne := goodIn_r _ [29, 30, 11, 6, 31, 32, 33, 34, 4, 35, 36, 37, 38, 39, 16, 17, 18, 19, 20, 21, 22, 23, 24, 25, 40, 41, 42, 43, 44, 45, 46, 12, 13, 14, 15, 47, 48, 49, 50, 51, 52, 53, 54, 55, 56, 57, 58, 59, 60, 61, 62, 63, 64, 65, 66, 67, 68, 69, 70, 71, 72, 73, 74, 75, 76, 77, 78, 79, 80, 81, 82, 83, 84, 85, 86, 87, 88, 89, 90, 91, 92, 93, 94, 95, 96, 97, 98, 99, 100, 101, 102, 103, 104, 105, 106, 107, 108, 109, 110, 111, 112, 113, 114, 115, 116, 117, 118, 119, 120, 121, 122, 123, 132, 133, 134, 135, 136, 137, 138, 126, 127, 128, 129, 130, 131, 124, 125, 139, 140, 141, 142] (by decide +kernel) (by decide +kernel)
set_option maxRecDepth 20000 in
theorem gX6_serveEach_X6_serveOne : GoodIn wsX6_serveEach (wsV RX6 177 RX6 yX6_serveOne wsX6_serveOne) := goodIn_app (goodIn_of _ (by decide +kernel)) ggX6_serveEach_X6_serveOne
theorem dX6_serveEach_0 : decode cX6_serveEach 0 = .ok (.iconst 0, 1) := by decide +kernel
theorem dX6_serveEach_1 : decode cX6_serveEach 1 = .ok (.istore_n 1, 1) := by decide +kernel
theorem dX6_serveEach_2 : decode cX6_serveEach 2 = .ok (.iconst 0, 1) := by decide +kernel
theorem dX6_serveEach_3 : decode cX6_serveEach 3 = .ok (.istore_n 2, 1) := by decide +kernel
theorem dX6_serveEach_4 : decode cX6_serveEach 4 = .ok (.iload_n 2, 1) := by decide +kernel
theorem dX6_serveEach_5 : decode cX6_serveEach 5 = .ok (.bipush 8, 2) := by decide +kernel
theorem dX6_serveEach_7 : decode cX6_serveEach 7 = .ok (.if_icmp .ge 29, 3) := by decide +kernel
theorem dX6_serveEach_10 : decode cX6_serveEach 10 = .ok (.aload_n 0, 1) := by decide +kernel
theorem dX6_serveEach_11 : decode cX6_serveEach 11 = .ok (.invokevirtual 174, 3) := by decide +kernel
theorem dX6_serveEach_14 : decode cX6_serveEach 14 = .ok (.istore_n 3, 1) := by decide +kernel
theorem dX6_serveEach_15 : decode cX6_serveEach 15 = .ok (.iload_n 3, 1) := by decide +kernel
theorem dX6_serveEach_16 : decode cX6_serveEach 16 = .ok (.iconst (-1), 1) := by decide +kernel
theorem dX6_serveEach_17 : decode cX6_serveEach 17 = .ok (.if_icmp .ne 5, 3) := by decide +kernel
theorem dX6_serveEach_20 : decode cX6_serveEach 20 = .ok (.iload_n 1, 1) := by decide +kernel
theorem dX6_serveEach_21 : decode cX6_serveEach 21 = .ok (.ireturn, 1) := by decide +kernel
theorem dX6_serveEach_22 : decode cX6_serveEach 22 = .ok (.iload_n 1, 1) := by decide +kernel
theorem dX6_serveEach_23 : decode cX6_serveEach 23 = .ok (.aload_n 0, 1) := by decide +kernel
theorem dX6_serveEach_24 : decode cX6_serveEach 24 = .ok (.iload_n 3, 1) := by decide +kernel
theorem dX6_serveEach_25 : decode cX6_serveEach 25 = .ok (.invokevirtual 177, 3) := by decide +kernel
theorem dX6_serveEach_28 : decode cX6_serveEach 28 = .ok (.iadd, 1) := by decide +kernel
theorem dX6_serveEach_29 : decode cX6_serveEach 29 = .ok (.istore_n 1, 1) := by decide +kernel
theorem dX6_serveEach_30 : decode cX6_serveEach 30 = .ok (.iinc 2 1, 3) := by decide +kernel
theorem dX6_serveEach_33 : decode cX6_serveEach 33 = .ok (.goto (-29), 3) := by decide +kernel
theorem dX6_serveEach_36 : decode cX6_serveEach 36 = .ok (.iload_n 1, 1) := by decide +kernel
theorem dX6_serveEach_37 : decode cX6_serveEach 37 = .ok (.ireturn, 1) := by decide +kernel
theorem dX7_init_0 : decode cX7_init 0 = .ok (.aload_n 0, 1) := by decide +kernel
theorem dX7_init_1 : decode cX7_init 1 = .ok (.invokespecial 3, 3) := by decide +kernel
theorem dX7_init_4 : decode cX7_init 4 = .ok (.aload_n 0, 1) := by decide +kernel
theorem dX7_init_5 : decode cX7_init 5 = .ok (.iconst 0, 1) := by decide +kernel
theorem dX7_init_6 : decode cX7_init 6 = .ok (.putfield 9, 3) := by decide +kernel
theorem dX7_init_9 : decode cX7_init 9 = .ok (.aload_n 0, 1) := by decide +kernel
theorem dX7_init_10 : decode cX7_init 10 = .ok (.iconst (-1), 1) := by decide +kernel
theorem dX7_init_11 : decode cX7_init 11 = .ok (.putfield 15, 3) := by decide +kernel
theorem dX7_init_14 : decode cX7_init 14 = .ok (.aload_n 0, 1) := by decide +kernel
theorem dX7_init_15 : decode cX7_init 15 = .ok (.bipush 12, 2) := by decide +kernel
theorem dX7_init_17 : decode cX7_init 17 = .ok (.newarray .int, 2) := by decide +kernel
theorem dX7_init_19 : decode cX7_init 19 = .ok (.putfield 18, 3) := by decide +kernel
theorem dX7_init_22 : decode cX7_init 22 = .ok (.aload_n 0, 1) := by decide +kernel
theorem dX7_init_23 : decode cX7_init 23 = .ok (.bipush 12, 2) := by decide +kernel
theorem dX7_init_25 : decode cX7_init 25 = .ok (.newarray .int, 2) := by decide +kernel
theorem dX7_init_27 : decode cX7_init 27 = .ok (.putfield 22, 3) := by decide +kernel
theorem dX7_init_30 : decode cX7_init 30 = .ok (.aload_n 0, 1) := by decide +kernel
theorem dX7_init_31 : decode cX7_init 31 = .ok (.bipush 12, 2) := by decide +kernel
theorem dX7_init_33 : decode cX7_init 33 = .ok (.newarray .int, 2) := by decide +kernel
theorem dX7_init_35 : decode cX7_init 35 = .ok (.putfield 25, 3) := by decide +kernel
theorem dX7_init_38 : decode cX7_init 38 = .ok (.aload_n 0, 1) := by decide +kernel
theorem dX7_init_39 : decode cX7_init 39 = .ok (.bipush 120, 2) := by decide +kernel
theorem dX7_init_41 : decode cX7_init 41 = .ok (.newarray .int, 2) := by decide +kernel
theorem dX7_init_43 : decode cX7_init 43 = .ok (.putfield 28, 3) := by decide +kernel
theorem dX7_init_46 : decode cX7_init 46 = .ok (.return_, 1) := by decide +kernel
theorem dX7_copyFrom_0 : decode cX7_copyFrom 0 = .ok (.aload_n 0, 1) := by decide +kernel
theorem dX7_copyFrom_1 : decode cX7_copyFrom 1 = .ok (.aload_n 1, 1) := by decide +kernel
theorem dX7_copyFrom_2 : decode cX7_copyFrom 2 = .ok (.getfield 9, 3) := by decide +kernel
theorem dX7_copyFrom_5 : decode cX7_copyFrom 5 = .ok (.putfield 9, 3) := by decide +kernel
theorem dX7_copyFrom_8 : decode cX7_copyFrom 8 = .ok (.aload_n 0, 1) := by decide +kernel
theorem dX7_copyFrom_9 : decode cX7_copyFrom 9 = .ok (.aload_n 1, 1) := by decide +kernel
theorem dX7_copyFrom_10 : decode cX7_copyFrom 10 = .ok (.getfield 15, 3) := by decide +kernel
theorem dX7_copyFrom_13 : decode cX7_copyFrom 13 = .ok (.putfield 15, 3) := by decide +kernel
theorem dX7_copyFrom_16 : decode cX7_copyFrom 16 = .ok (.aload_n 1, 1) := by decide +kernel
theorem dX7_copyFrom_17 : decode cX7_copyFrom 17 = .ok (.getfield 18, 3) := by decide +kernel
theorem dX7_copyFrom_20 : decode cX7_copyFrom 20 = .ok (.iconst 0, 1) := by decide +kernel
theorem dX7_copyFrom_21 : decode cX7_copyFrom 21 = .ok (.aload_n 0, 1) := by decide +kernel
theorem dX7_copyFrom_22 : decode cX7_copyFrom 22 = .ok (.getfield 18, 3) := by decide +kernel
theorem dX7_copyFrom_25 : decode cX7_copyFrom 25 = .ok (.iconst 0, 1) := by decide +kernel
theorem dX7_copyFrom_26 : decode cX7_copyFrom 26 = .ok (.bipush 12, 2) := by decide +kernel
theorem dX7_copyFrom_28 : decode cX7_copyFrom 28 = .ok (.invokestatic 31, 3) := by decide +kernel
theorem dX7_copyFrom_31 : decode cX7_copyFrom 31 = .ok (.aload_n 1, 1) := by decide +kernel
theorem dX7_copyFrom_32 : decode cX7_copyFrom 32 = .ok (.getfield 22, 3) := by decide +kernel
theorem dX7_copyFrom_35 : decode cX7_copyFrom 35 = .ok (.iconst 0, 1) := by decide +kernel
theorem dX7_copyFrom_36 : decode cX7_copyFrom 36 = .ok (.aload_n 0, 1) := by decide +kernel
theorem dX7_copyFrom_37 : decode cX7_copyFrom 37 = .ok (.getfield 22, 3) := by decide +kernel
theorem dX7_copyFrom_40 : decode cX7_copyFrom 40 = .ok (.iconst 0, 1) := by decide +kernel
theorem dX7_copyFrom_41 : decode cX7_copyFrom 41 = .ok (.bipush 12, 2) := by decide +kernel
theorem dX7_copyFrom_43 : decode cX7_copyFrom 43 = .ok (.invokestatic 31, 3) := by decide +kernel
theorem dX7_copyFrom_46 : decode cX7_copyFrom 46 = .ok (.aload_n 1, 1) := by decide +kernel
theorem dX7_copyFrom_47 : decode cX7_copyFrom 47 = .ok (.getfield 25, 3) := by decide +kernel
theorem dX7_copyFrom_50 : decode cX7_copyFrom 50 = .ok (.iconst 0, 1) := by decide +kernel
theorem dX7_copyFrom_51 : decode cX7_copyFrom 51 = .ok (.aload_n 0, 1) := by decide +kernel
theorem dX7_copyFrom_52 : decode cX7_copyFrom 52 = .ok (.getfield 25, 3) := by decide +kernel
theorem dX7_copyFrom_55 : decode cX7_copyFrom 55 = .ok (.iconst 0, 1) := by decide +kernel
theorem dX7_copyFrom_56 : decode cX7_copyFrom 56 = .ok (.bipush 12, 2) := by decide +kernel
theorem dX7_copyFrom_58 : decode cX7_copyFrom 58 = .ok (.invokestatic 31, 3) := by decide +kernel
theorem dX7_copyFrom_61 : decode cX7_copyFrom 61 = .ok (.aload_n 1, 1) := by decide +kernel
theorem dX7_copyFrom_62 : decode cX7_copyFrom 62 = .ok (.getfield 28, 3) := by decide +kernel
theorem dX7_copyFrom_65 : decode cX7_copyFrom 65 = .ok (.iconst 0, 1) := by decide +kernel
theorem dX7_copyFrom_66 : decode cX7_copyFrom 66 = .ok (.aload_n 0, 1) := by decide +kernel
theorem dX7_copyFrom_67 : decode cX7_copyFrom 67 = .ok (.getfield 28, 3) := by decide +kernel
theorem dX7_copyFrom_70 : decode cX7_copyFrom 70 = .ok (.iconst 0, 1) := by decide +kernel
theorem dX7_copyFrom_71 : decode cX7_copyFrom 71 = .ok (.bipush 120, 2) := by decide +kernel
theorem dX7_copyFrom_73 : decode cX7_copyFrom 73 = .ok (.invokestatic 31, 3) := by decide +kernel
theorem dX7_copyFrom_76 : decode cX7_copyFrom 76 = .ok (.return_, 1) := by decide +kernel
theorem dX7_addAt_0 : decode cX7_addAt 0 = .ok (.aload_n 0, 1) := by decide +kernel
theorem dX7_addAt_1 : decode cX7_addAt 1 = .ok (.getfield 9, 3) := by decide +kernel
theorem dX7_addAt_4 : decode cX7_addAt 4 = .ok (.istore_n 3, 1) := by decide +kernel
theorem dX7_addAt_5 : decode cX7_addAt 5 = .ok (.aload_n 0, 1) := by decide +kernel
theorem dX7_addAt_6 : decode cX7_addAt 6 = .ok (.getfield 18, 3) := by decide +kernel
theorem dX7_addAt_9 : decode cX7_addAt 9 = .ok (.iload_n 3, 1) := by decide +kernel
theorem dX7_addAt_10 : decode cX7_addAt 10 = .ok (.iload_n 2, 1) := by decide +kernel
theorem dX7_addAt_11 : decode cX7_addAt 11 = .ok (.iastore, 1) := by decide +kernel
theorem dX7_addAt_12 : decode cX7_addAt 12 = .ok (.aload_n 0, 1) := by decide +kernel
theorem dX7_addAt_13 : decode cX7_addAt 13 = .ok (.getfield 22, 3) := by decide +kernel
theorem dX7_addAt_16 : decode cX7_addAt 16 = .ok (.iload_n 3, 1) := by decide +kernel
theorem dX7_addAt_17 : decode cX7_addAt 17 = .ok (.iload_n 1, 1) := by decide +kernel
theorem dX7_addAt_18 : decode cX7_addAt 18 = .ok (.iastore, 1) := by decide +kernel
theorem dX7_addAt_19 : decode cX7_addAt 19 = .ok (.aload_n 0, 1) := by decide +kernel
theorem dX7_addAt_20 : decode cX7_addAt 20 = .ok (.getfield 25, 3) := by decide +kernel
theorem dX7_addAt_23 : decode cX7_addAt 23 = .ok (.iload_n 3, 1) := by decide +kernel
theorem dX7_addAt_24 : decode cX7_addAt 24 = .ok (.iconst 0, 1) := by decide +kernel
theorem dX7_addAt_25 : decode cX7_addAt 25 = .ok (.iastore, 1) := by decide +kernel
theorem dX7_addAt_26 : decode cX7_addAt 26 = .ok (.iconst 0, 1) := by decide +kernel
theorem dX7_addAt_27 : decode cX7_addAt 27 = .ok (.istore 4, 2) := by decide +kernel
theorem dX7_addAt_29 : decode cX7_addAt 29 = .ok (.iload 4, 2) := by decide +kernel
theorem dX7_addAt_31 : decode cX7_addAt 31 = .ok (.bipush 10, 2) := by decide +kernel
theorem dX7_addAt_33 : decode cX7_addAt 33 = .ok (.if_icmp .ge 22, 3) := by decide +kernel
theorem dX7_addAt_36 : decode cX7_addAt 36 = .ok (.aload_n 0, 1) := by decide +kernel
theorem dX7_addAt_37 : decode cX7_addAt 37 = .ok (.getfield 28, 3) := by decide +kernel
theorem dX7_addAt_40 : decode cX7_addAt 40 = .ok (.iload_n 3, 1) := by decide +kernel
theorem dX7_addAt_41 : decode cX7_addAt 41 = .ok (.bipush 10, 2) := by decide +kernel
theorem dX7_addAt_43 : decode cX7_addAt 43 = .ok (.imul, 1) := by decide +kernel
theorem dX7_addAt_44 : decode cX7_addAt 44 = .ok (.iload 4, 2) := by decide +kernel
theorem dX7_addAt_46 : decode cX7_addAt 46 = .ok (.iadd, 1) := by decide +kernel
theorem dX7_addAt_47 : decode cX7_addAt 47 = .ok (.iconst 0, 1) := by decide +kernel
theorem dX7_addAt_48 : decode cX7_addAt 48 = .ok (.iastore, 1) := by decide +kernel
theorem dX7_addAt_49 : decode cX7_addAt 49 = .ok (.iinc 4 1, 3) := by decide +kernel
theorem dX7_addAt_52 : decode cX7_addAt 52 = .ok (.goto (-23), 3) := by decide +kernel
theorem dX7_addAt_55 : decode cX7_addAt 55 = .ok (.aload_n 0, 1) := by decide +kernel
theorem dX7_addAt_56 : decode cX7_addAt 56 = .ok (.dup, 1) := by decide +kernel
theorem dX7_addAt_57 : decode cX7_addAt 57 = .ok (.getfield 9, 3) := by decide +kernel
theorem dX7_addAt_60 : decode cX7_addAt 60 = .ok (.iconst 1, 1) := by decide +kernel
theorem dX7_addAt_61 : decode cX7_addAt 61 = .ok (.iadd, 1) := by decide +kernel
theorem dX7_addAt_62 : decode cX7_addAt 62 = .ok (.putfield 9, 3) := by decide +kernel
theorem dX7_addAt_65 : decode cX7_addAt 65 = .ok (.iload_n 3, 1) := by decide +kernel
theorem dX7_addAt_66 : decode cX7_addAt 66 = .ok (.ireturn, 1) := by decide +kernel
theorem dX7_remove_0 : decode cX7_remove 0 = .ok (.iload_n 1, 1) := by decide +kernel
theorem dX7_remove_1 : decode cX7_remove 1 = .ok (.iconst 1, 1) := by decide +kernel
theorem dX7_remove_2 : decode cX7_remove 2 = .ok (.iadd, 1) := by decide +kernel
theorem dX7_remove_3 : decode cX7_remove 3 = .ok (.istore_n 2, 1) := by decide +kernel
theorem dX7_remove_4 : decode cX7_remove 4 = .ok (.iload_n 2, 1) := by decide +kernel
theorem dX7_remove_5 : decode cX7_remove 5 = .ok (.aload_n 0, 1) := by decide +kernel
theorem dX7_remove_6 : decode cX7_remove 6 = .ok (.getfield 9, 3) := by decide +kernel
theorem dX7_remove_9 : decode cX7_remove 9 = .ok (.if_icmp .ge 74, 3) := by decide +kernel
theorem dX7_remove_12 : decode cX7_remove 12 = .ok (.aload_n 0, 1) := by decide +kernel
theorem dX7_remove_13 : decode cX7_remove 13 = .ok (.getfield 18, 3) := by decide +kernel
theorem dX7_remove_16 : decode cX7_remove 16 = .ok (.iload_n 2, 1) := by decide +kernel
theorem dX7_remove_17 : decode cX7_remove 17 = .ok (.iconst 1, 1) := by decide +kernel
theorem dX7_remove_18 : decode cX7_remove 18 = .ok (.isub, 1) := by decide +kernel
theorem dX7_remove_19 : decode cX7_remove 19 = .ok (.aload_n 0, 1) := by decide +kernel
theorem dX7_remove_20 : decode cX7_remove 20 = .ok (.getfield 18, 3) := by decide +kernel
theorem dX7_remove_23 : decode cX7_remove 23 = .ok (.iload_n 2, 1) := by decide +kernel
theorem dX7_remove_24 : decode cX7_remove 24 = .ok (.iaload, 1) := by decide +kernel
theorem dX7_remove_25 : decode cX7_remove 25 = .ok (.iastore, 1) := by decide +kernel
theorem dX7_remove_26 : decode cX7_remove 26 = .ok (.aload_n 0, 1) := by decide +kernel
theorem dX7_remove_27 : decode cX7_remove 27 = .ok (.getfield 22, 3) := by decide +kernel
theorem dX7_remove_30 : decode cX7_remove 30 = .ok (.iload_n 2, 1) := by decide +kernel
theorem dX7_remove_31 : decode cX7_remove 31 = .ok (.iconst 1, 1) := by decide +kernel
theorem dX7_remove_32 : decode cX7_remove 32 = .ok (.isub, 1) := by decide +kernel
theorem dX7_remove_33 : decode cX7_remove 33 = .ok (.aload_n 0, 1) := by decide +kernel
theorem dX7_remove_34 : decode cX7_remove 34 = .ok (.getfield 22, 3) := by decide +kernel
theorem dX7_remove_37 : decode cX7_remove 37 = .ok (.iload_n 2, 1) := by decide +kernel
theorem dX7_remove_38 : decode cX7_remove 38 = .ok (.iaload, 1) := by decide +kernel
theorem dX7_remove_39 : decode cX7_remove 39 = .ok (.iastore, 1) := by decide +kernel
theorem dX7_remove_40 : decode cX7_remove 40 = .ok (.aload_n 0, 1) := by decide +kernel
theorem dX7_remove_41 : decode cX7_remove 41 = .ok (.getfield 25, 3) := by decide +kernel
theorem dX7_remove_44 : decode cX7_remove 44 = .ok (.iload_n 2, 1) := by decide +kernel
theorem dX7_remove_45 : decode cX7_remove 45 = .ok (.iconst 1, 1) := by decide +kernel
theorem dX7_remove_46 : decode cX7_remove 46 = .ok (.isub, 1) := by decide +kernel
theorem dX7_remove_47 : decode cX7_remove 47 = .ok (.aload_n 0, 1) := by decide +kernel
theorem dX7_remove_48 : decode cX7_remove 48 = .ok (.getfield 25, 3) := by decide +kernel
theorem dX7_remove_51 : decode cX7_remove 51 = .ok (.iload_n 2, 1) := by decide +kernel
theorem dX7_remove_52 : decode cX7_remove 52 = .ok (.iaload, 1) := by decide +kernel
theorem dX7_remove_53 : decode cX7_remove 53 = .ok (.iastore, 1) := by decide +kernel
theorem dX7_remove_54 : decode cX7_remove 54 = .ok (.aload_n 0, 1) := by decide +kernel
theorem dX7_remove_55 : decode cX7_remove 55 = .ok (.getfield 28, 3) := by decide +kernel
theorem dX7_remove_58 : decode cX7_remove 58 = .ok (.iload_n 2, 1) := by decide +kernel
theorem dX7_remove_59 : decode cX7_remove 59 = .ok (.bipush 10, 2) := by decide +kernel
theorem dX7_remove_61 : decode cX7_remove 61 = .ok (.imul, 1) := by decide +kernel
theorem dX7_remove_62 : decode cX7_remove 62 = .ok (.aload_n 0, 1) := by decide +kernel
theorem dX7_remove_63 : decode cX7_remove 63 = .ok (.getfield 28, 3) := by decide +kernel
theorem dX7_remove_66 : decode cX7_remove 66 = .ok (.iload_n 2, 1) := by decide +kernel
theorem dX7_remove_67 : decode cX7_remove 67 = .ok (.iconst 1, 1) := by decide +kernel
theorem dX7_remove_68 : decode cX7_remove 68 = .ok (.isub, 1) := by decide +kernel
theorem dX7_remove_69 : decode cX7_remove 69 = .ok (.bipush 10, 2) := by decide +kernel
theorem dX7_remove_71 : decode cX7_remove 71 = .ok (.imul, 1) := by decide +kernel
theorem dX7_remove_72 : decode cX7_remove 72 = .ok (.bipush 10, 2) := by decide +kernel
theorem dX7_remove_74 : decode cX7_remove 74 = .ok (.invokestatic 31, 3) := by decide +kernel
theorem dX7_remove_77 : decode cX7_remove 77 = .ok (.iinc 2 1, 3) := by decide +kernel
theorem dX7_remove_80 : decode cX7_remove 80 = .ok (.goto (-76), 3) := by decide +kernel
theorem dX7_remove_83 : decode cX7_remove 83 = .ok (.aload_n 0, 1) := by decide +kernel
theorem dX7_remove_84 : decode cX7_remove 84 = .ok (.dup, 1) := by decide +kernel
theorem dX7_remove_85 : decode cX7_remove 85 = .ok (.getfield 9, 3) := by decide +kernel
theorem dX7_remove_88 : decode cX7_remove 88 = .ok (.iconst 1, 1) := by decide +kernel
theorem dX7_remove_89 : decode cX7_remove 89 = .ok (.isub, 1) := by decide +kernel
theorem dX7_remove_90 : decode cX7_remove 90 = .ok (.putfield 9, 3) := by decide +kernel
theorem dX7_remove_93 : decode cX7_remove 93 = .ok (.aload_n 0, 1) := by decide +kernel
theorem dX7_remove_94 : decode cX7_remove 94 = .ok (.getfield 15, 3) := by decide +kernel
theorem dX7_remove_97 : decode cX7_remove 97 = .ok (.iload_n 1, 1) := by decide +kernel
theorem dX7_remove_98 : decode cX7_remove 98 = .ok (.if_icmp .le 13, 3) := by decide +kernel
theorem dX7_remove_101 : decode cX7_remove 101 = .ok (.aload_n 0, 1) := by decide +kernel
theorem dX7_remove_102 : decode cX7_remove 102 = .ok (.dup, 1) := by decide +kernel
theorem dX7_remove_103 : decode cX7_remove 103 = .ok (.getfield 15, 3) := by decide +kernel
theorem dX7_remove_106 : decode cX7_remove 106 = .ok (.iconst 1, 1) := by decide +kernel
theorem dX7_remove_107 : decode cX7_remove 107 = .ok (.isub, 1) := by decide +kernel
theorem dX7_remove_108 : decode cX7_remove 108 = .ok (.putfield 15, 3) := by decide +kernel
theorem dX7_remove_111 : decode cX7_remove 111 = .ok (.return_, 1) := by decide +kernel
theorem dX7_countIn_0 : decode cX7_countIn 0 = .ok (.aload_n 0, 1) := by decide +kernel
theorem dX7_countIn_1 : decode cX7_countIn 1 = .ok (.getfield 28, 3) := by decide +kernel
theorem dX7_countIn_4 : decode cX7_countIn 4 = .ok (.iload_n 1, 1) := by decide +kernel
theorem dX7_countIn_5 : decode cX7_countIn 5 = .ok (.bipush 10, 2) := by decide +kernel
theorem dX7_countIn_7 : decode cX7_countIn 7 = .ok (.imul, 1) := by decide +kernel
theorem dX7_countIn_8 : decode cX7_countIn 8 = .ok (.iload_n 2, 1) := by decide +kernel
theorem dX7_countIn_9 : decode cX7_countIn 9 = .ok (.iadd, 1) := by decide +kernel
theorem dX7_countIn_10 : decode cX7_countIn 10 = .ok (.iaload, 1) := by decide +kernel
theorem dX7_countIn_11 : decode cX7_countIn 11 = .ok (.ireturn, 1) := by decide +kernel
theorem dX7_change_0 : decode cX7_change 0 = .ok (.aload_n 0, 1) := by decide +kernel
theorem dX7_change_1 : decode cX7_change 1 = .ok (.getfield 28, 3) := by decide +kernel
theorem dX7_change_4 : decode cX7_change 4 = .ok (.iload_n 1, 1) := by decide +kernel
theorem dX7_change_5 : decode cX7_change 5 = .ok (.bipush 10, 2) := by decide +kernel
theorem dX7_change_7 : decode cX7_change 7 = .ok (.imul, 1) := by decide +kernel
theorem dX7_change_8 : decode cX7_change 8 = .ok (.iload_n 2, 1) := by decide +kernel
theorem dX7_change_9 : decode cX7_change 9 = .ok (.iadd, 1) := by decide +kernel
theorem dX7_change_10 : decode cX7_change 10 = .ok (.dup2, 1) := by decide +kernel
theorem dX7_change_11 : decode cX7_change 11 = .ok (.iaload, 1) := by decide +kernel
theorem dX7_change_12 : decode cX7_change 12 = .ok (.iload_n 3, 1) := by decide +kernel
theorem dX7_change_13 : decode cX7_change 13 = .ok (.iadd, 1) := by decide +kernel
theorem dX7_change_14 : decode cX7_change 14 = .ok (.iastore, 1) := by decide +kernel
theorem dX7_change_15 : decode cX7_change 15 = .ok (.aload_n 0, 1) := by decide +kernel
theorem dX7_change_16 : decode cX7_change 16 = .ok (.getfield 28, 3) := by decide +kernel
theorem dX7_change_19 : decode cX7_change 19 = .ok (.iload_n 1, 1) := by decide +kernel
theorem dX7_change_20 : decode cX7_change 20 = .ok (.bipush 10, 2) := by decide +kernel
theorem dX7_change_22 : decode cX7_change 22 = .ok (.imul, 1) := by decide +kernel
theorem dX7_change_23 : decode cX7_change 23 = .ok (.iload_n 2, 1) := by decide +kernel
theorem dX7_change_24 : decode cX7_change 24 = .ok (.iadd, 1) := by decide +kernel
theorem dX7_change_25 : decode cX7_change 25 = .ok (.iaload, 1) := by decide +kernel
theorem dX7_change_26 : decode cX7_change 26 = .ok (.ireturn, 1) := by decide +kernel
set_option maxRecDepth 20000 in
theorem ggX7_isEmpty_X7_countIn : GoodIn wsX7_isEmpty wsX7_countIn := goodIn_r _ [5, 6, 7, 8, 9, 10, 11, 12] (by decide +kernel) (by decide +kernel)
set_option maxRecDepth 20000 in
theorem gX7_isEmpty_X7_countIn : GoodIn wsX7_isEmpty (wsV RX7 37 RX7 yX7_countIn wsX7_countIn) := goodIn_app (goodIn_of _ (by decide +kernel)) ggX7_isEmpty_X7_countIn
theorem dX7_isEmpty_0 : decode cX7_isEmpty 0 = .ok (.iconst 0, 1) := by decide +kernel
theorem dX7_isEmpty_1 : decode cX7_isEmpty 1 = .ok (.istore_n 2, 1) := by decide +kernel
theorem dX7_isEmpty_2 : decode cX7_isEmpty 2 = .ok (.iload_n 2, 1) := by decide +kernel
theorem dX7_isEmpty_3 : decode cX7_isEmpty 3 = .ok (.bipush 10, 2) := by decide +kernel
theorem dX7_isEmpty_5 : decode cX7_isEmpty 5 = .ok (.if_icmp .ge 20, 3) := by decide +kernel
theorem dX7_isEmpty_8 : decode cX7_isEmpty 8 = .ok (.aload_n 0, 1) := by decide +kernel
theorem dX7_isEmpty_9 : decode cX7_isEmpty 9 = .ok (.iload_n 1, 1) := by decide +kernel
theorem dX7_isEmpty_10 : decode cX7_isEmpty 10 = .ok (.iload_n 2, 1) := by decide +kernel
theorem dX7_isEmpty_11 : decode cX7_isEmpty 11 = .ok (.invokevirtual 37, 3) := by decide +kernel
theorem dX7_isEmpty_14 : decode cX7_isEmpty 14 = .ok (.ifCond .le 5, 3) := by decide +kernel
theorem dX7_isEmpty_17 : decode cX7_isEmpty 17 = .ok (.iconst 0, 1) := by decide +kernel
theorem dX7_isEmpty_18 : decode cX7_isEmpty 18 = .ok (.ireturn, 1) := by decide +kernel
theorem dX7_isEmpty_19 : decode cX7_isEmpty 19 = .ok (.iinc 2 1, 3) := by decide +kernel
theorem dX7_isEmpty_22 : decode cX7_isEmpty 22 = .ok (.goto (-20), 3) := by decide +kernel
theorem dX7_isEmpty_25 : decode cX7_isEmpty 25 = .ok (.iconst 1, 1) := by decide +kernel
theorem dX7_isEmpty_26 : decode cX7_isEmpty 26 = .ok (.ireturn, 1) := by decide +kernel
set_option maxRecDepth 20000 in
theorem ggX7_stockOf_X7_countIn : GoodIn wsX7_stockOf wsX7_countIn := goodIn_r _ [6, 7, 8, 9, 10, 11, 12, 13] (by decide +kernel) (by decide +kernel)
set_option maxRecDepth 20000 in
theorem gX7_stockOf_X7_countIn : GoodIn wsX7_stockOf (wsV RX7 37 RX7 yX7_countIn wsX7_countIn) := goodIn_app (goodIn_of _ (by decide +kernel)) ggX7_stockOf_X7_countIn
theorem dX7_stockOf_0 : decode cX7_stockOf 0 = .ok (.iconst 0, 1) := by decide +kernel
theorem dX7_stockOf_1 : decode cX7_stockOf 1 = .ok (.istore_n 2, 1) := by decide +kernel
theorem dX7_stockOf_2 : decode cX7_stockOf 2 = .ok (.iconst 0, 1) := by decide +kernel
theorem dX7_stockOf_3 : decode cX7_stockOf 3 = .ok (.istore_n 3, 1) := by decide +kernel
theorem dX7_stockOf_4 : decode cX7_stockOf 4 = .ok (.iload_n 3, 1) := by decide +kernel
theorem dX7_stockOf_5 : decode cX7_stockOf 5 = .ok (.aload_n 0, 1) := by decide +kernel
theorem dX7_stockOf_6 : decode cX7_stockOf 6 = .ok (.getfield 9, 3) := by decide +kernel
theorem dX7_stockOf_9 : decode cX7_stockOf 9 = .ok (.if_icmp .ge 18, 3) := by decide +kernel
theorem dX7_stockOf_12 : decode cX7_stockOf 12 = .ok (.iload_n 2, 1) := by decide +kernel
theorem dX7_stockOf_13 : decode cX7_stockOf 13 = .ok (.aload_n 0, 1) := by decide +kernel
theorem dX7_stockOf_14 : decode cX7_stockOf 14 = .ok (.iload_n 3, 1) := by decide +kernel
theorem dX7_stockOf_15 : decode cX7_stockOf 15 = .ok (.iload_n 1, 1) := by decide +kernel
theorem dX7_stockOf_16 : decode cX7_stockOf 16 = .ok (.invokevirtual 37, 3) := by decide +kernel
theorem dX7_stockOf_19 : decode cX7_stockOf 19 = .ok (.iadd, 1) := by decide +kernel
theorem dX7_stockOf_20 : decode cX7_stockOf 20 = .ok (.istore_n 2, 1) := by decide +kernel
theorem dX7_stockOf_21 : decode cX7_stockOf 21 = .ok (.iinc 3 1, 3) := by decide +kernel
theorem dX7_stockOf_24 : decode cX7_stockOf 24 = .ok (.goto (-20), 3) := by decide +kernel
theorem dX7_stockOf_27 : decode cX7_stockOf 27 = .ok (.iload_n 2, 1) := by decide +kernel
theorem dX7_stockOf_28 : decode cX7_stockOf 28 = .ok (.ireturn, 1) := by decide +kernel
set_option maxRecDepth 20000 in
theorem ggX7_countHolding_X7_countIn : GoodIn wsX7_countHolding wsX7_countIn := goodIn_r _ [6, 7, 8, 9, 10, 11, 12, 13] (by decide +kernel) (by decide +kernel)
set_option maxRecDepth 20000 in
theorem gX7_countHolding_X7_countIn : GoodIn wsX7_countHolding (wsV RX7 37 RX7 yX7_countIn wsX7_countIn) := goodIn_app (goodIn_of _ (by decide +kernel)) ggX7_countHolding_X7_countIn
theorem dX7_countHolding_0 : decode cX7_countHolding 0 = .ok (.iconst 0, 1) := by decide +kernel
theorem dX7_countHolding_1 : decode cX7_countHolding 1 = .ok (.istore_n 2, 1) := by decide +kernel
theorem dX7_countHolding_2 : decode cX7_countHolding 2 = .ok (.iconst 0, 1) := by decide +kernel
theorem dX7_countHolding_3 : decode cX7_countHolding 3 = .ok (.istore_n 3, 1) := by decide +kernel
theorem dX7_countHolding_4 : decode cX7_countHolding 4 = .ok (.iload_n 3, 1) := by decide +kernel
theorem dX7_countHolding_5 : decode cX7_countHolding 5 = .ok (.aload_n 0, 1) := by decide +kernel
theorem dX7_countHolding_6 : decode cX7_countHolding 6 = .ok (.getfield 9, 3) := by decide +kernel
theorem dX7_countHolding_9 : decode cX7_countHolding 9 = .ok (.if_icmp .ge 21, 3) := by decide +kernel
theorem dX7_countHolding_12 : decode cX7_countHolding 12 = .ok (.aload_n 0, 1) := by decide +kernel
theorem dX7_countHolding_13 : decode cX7_countHolding 13 = .ok (.iload_n 3, 1) := by decide +kernel
theorem dX7_countHolding_14 : decode cX7_countHolding 14 = .ok (.iload_n 1, 1) := by decide +kernel
theorem dX7_countHolding_15 : decode cX7_countHolding 15 = .ok (.invokevirtual 37, 3) := by decide +kernel
theorem dX7_countHolding_18 : decode cX7_countHolding 18 = .ok (.ifCond .le 6, 3) := by decide +kernel
theorem dX7_countHolding_21 : decode cX7_countHolding 21 = .ok (.iinc 2 1, 3) := by decide +kernel
theorem dX7_countHolding_24 : decode cX7_countHolding 24 = .ok (.iinc 3 1, 3) := by decide +kernel
theorem dX7_countHolding_27 : decode cX7_countHolding 27 = .ok (.goto (-23), 3) := by decide +kernel
theorem dX7_countHolding_30 : decode cX7_countHolding 30 = .ok (.iload_n 2, 1) := by decide +kernel
theorem dX7_countHolding_31 : decode cX7_countHolding 31 = .ok (.ireturn, 1) := by decide +kernel
set_option maxRecDepth 20000 in
theorem ggX7_helps_X7_countIn : GoodIn wsX7_helps wsX7_countIn := goodIn_r _ [5, 6, 7, 8, 9, 10, 11, 12] (by decide +kernel) (by decide +kernel)
set_option maxRecDepth 20000 in
theorem gX7_helps_X7_countIn : GoodIn wsX7_helps (wsV RX7 37 RX7 yX7_countIn wsX7_countIn) := goodIn_app (goodIn_of _ (by decide +kernel)) ggX7_helps_X7_countIn
theorem dX7_helps_0 : decode cX7_helps 0 = .ok (.iconst 0, 1) := by decide +kernel
theorem dX7_helps_1 : decode cX7_helps 1 = .ok (.istore_n 3, 1) := by decide +kernel
theorem dX7_helps_2 : decode cX7_helps 2 = .ok (.iload_n 3, 1) := by decide +kernel
theorem dX7_helps_3 : decode cX7_helps 3 = .ok (.bipush 10, 2) := by decide +kernel
theorem dX7_helps_5 : decode cX7_helps 5 = .ok (.if_icmp .ge 32, 3) := by decide +kernel
theorem dX7_helps_8 : decode cX7_helps 8 = .ok (.iload_n 3, 1) := by decide +kernel
theorem dX7_helps_9 : decode cX7_helps 9 = .ok (.aload_n 2, 1) := by decide +kernel
theorem dX7_helps_10 : decode cX7_helps 10 = .ok (.arraylength, 1) := by decide +kernel
theorem dX7_helps_11 : decode cX7_helps 11 = .ok (.if_icmp .ge 26, 3) := by decide +kernel
theorem dX7_helps_14 : decode cX7_helps 14 = .ok (.aload_n 2, 1) := by decide +kernel
theorem dX7_helps_15 : decode cX7_helps 15 = .ok (.iload_n 3, 1) := by decide +kernel
theorem dX7_helps_16 : decode cX7_helps 16 = .ok (.iaload, 1) := by decide +kernel
theorem dX7_helps_17 : decode cX7_helps 17 = .ok (.ifCond .le 14, 3) := by decide +kernel
theorem dX7_helps_20 : decode cX7_helps 20 = .ok (.aload_n 0, 1) := by decide +kernel
theorem dX7_helps_21 : decode cX7_helps 21 = .ok (.iload_n 1, 1) := by decide +kernel
theorem dX7_helps_22 : decode cX7_helps 22 = .ok (.iload_n 3, 1) := by decide +kernel
theorem dX7_helps_23 : decode cX7_helps 23 = .ok (.invokevirtual 37, 3) := by decide +kernel
theorem dX7_helps_26 : decode cX7_helps 26 = .ok (.ifCond .le 5, 3) := by decide +kernel
theorem dX7_helps_29 : decode cX7_helps 29 = .ok (.iconst 1, 1) := by decide +kernel
theorem dX7_helps_30 : decode cX7_helps 30 = .ok (.ireturn, 1) := by decide +kernel
theorem dX7_helps_31 : decode cX7_helps 31 = .ok (.iinc 3 1, 3) := by decide +kernel
theorem dX7_helps_34 : decode cX7_helps 34 = .ok (.goto (-32), 3) := by decide +kernel
theorem dX7_helps_37 : decode cX7_helps 37 = .ok (.iconst 0, 1) := by decide +kernel
theorem dX7_helps_38 : decode cX7_helps 38 = .ok (.ireturn, 1) := by decide +kernel
set_option maxRecDepth 20000 in
theorem ggX7_lend_X7_countIn : GoodIn wsX7_lend wsX7_countIn := goodIn_r _ [5, 6, 7, 8, 9, 10, 11, 12] (by decide +kernel) (by decide +kernel)
set_option maxRecDepth 20000 in
theorem gX7_lend_X7_countIn : GoodIn wsX7_lend (wsV RX7 37 RX7 yX7_countIn wsX7_countIn) := goodIn_app (goodIn_of _ (by decide +kernel)) ggX7_lend_X7_countIn
theorem dX7_lend_0 : decode cX7_lend 0 = .ok (.iconst 0, 1) := by decide +kernel
theorem dX7_lend_1 : decode cX7_lend 1 = .ok (.istore 4, 2) := by decide +kernel
theorem dX7_lend_3 : decode cX7_lend 3 = .ok (.iload 4, 2) := by decide +kernel
theorem dX7_lend_5 : decode cX7_lend 5 = .ok (.bipush 10, 2) := by decide +kernel
theorem dX7_lend_7 : decode cX7_lend 7 = .ok (.if_icmp .ge 32, 3) := by decide +kernel
theorem dX7_lend_10 : decode cX7_lend 10 = .ok (.iload 4, 2) := by decide +kernel
theorem dX7_lend_12 : decode cX7_lend 12 = .ok (.aload_n 2, 1) := by decide +kernel
theorem dX7_lend_13 : decode cX7_lend 13 = .ok (.arraylength, 1) := by decide +kernel
theorem dX7_lend_14 : decode cX7_lend 14 = .ok (.if_icmp .ge 25, 3) := by decide +kernel
theorem dX7_lend_17 : decode cX7_lend 17 = .ok (.aload_n 2, 1) := by decide +kernel
theorem dX7_lend_18 : decode cX7_lend 18 = .ok (.iload 4, 2) := by decide +kernel
theorem dX7_lend_20 : decode cX7_lend 20 = .ok (.dup2, 1) := by decide +kernel
theorem dX7_lend_21 : decode cX7_lend 21 = .ok (.iaload, 1) := by decide +kernel
theorem dX7_lend_22 : decode cX7_lend 22 = .ok (.iload_n 3, 1) := by decide +kernel
theorem dX7_lend_23 : decode cX7_lend 23 = .ok (.aload_n 0, 1) := by decide +kernel
theorem dX7_lend_24 : decode cX7_lend 24 = .ok (.iload_n 1, 1) := by decide +kernel
theorem dX7_lend_25 : decode cX7_lend 25 = .ok (.iload 4, 2) := by decide +kernel
theorem dX7_lend_27 : decode cX7_lend 27 = .ok (.invokevirtual 37, 3) := by decide +kernel
theorem dX7_lend_30 : decode cX7_lend 30 = .ok (.imul, 1) := by decide +kernel
theorem dX7_lend_31 : decode cX7_lend 31 = .ok (.iadd, 1) := by decide +kernel
theorem dX7_lend_32 : decode cX7_lend 32 = .ok (.iastore, 1) := by decide +kernel
theorem dX7_lend_33 : decode cX7_lend 33 = .ok (.iinc 4 1, 3) := by decide +kernel
theorem dX7_lend_36 : decode cX7_lend 36 = .ok (.goto (-33), 3) := by decide +kernel
theorem dX7_lend_39 : decode cX7_lend 39 = .ok (.return_, 1) := by decide +kernel
theorem dX7_rowOf_0 : decode cX7_rowOf 0 = .ok (.iconst 1, 1) := by decide +kernel
theorem dX7_rowOf_1 : decode cX7_rowOf 1 = .ok (.iload_n 1, 1) := by decide +kernel
theorem dX7_rowOf_2 : decode cX7_rowOf 2 = .ok (.ishl, 1) := by decide +kernel
theorem dX7_rowOf_3 : decode cX7_rowOf 3 = .ok (.iconst 1, 1) := by decide +kernel
theorem dX7_rowOf_4 : decode cX7_rowOf 4 = .ok (.isub, 1) := by decide +kernel
theorem dX7_rowOf_5 : decode cX7_rowOf 5 = .ok (.iload_n 0, 1) := by decide +kernel
theorem dX7_rowOf_6 : decode cX7_rowOf 6 = .ok (.ishl, 1) := by decide +kernel
theorem dX7_rowOf_7 : decode cX7_rowOf 7 = .ok (.ireturn, 1) := by decide +kernel
theorem dX7_fits_0 : decode cX7_fits 0 = .ok (.iload_n 1, 1) := by decide +kernel
theorem dX7_fits_1 : decode cX7_fits 1 = .ok (.iload_n 2, 1) := by decide +kernel
theorem dX7_fits_2 : decode cX7_fits 2 = .ok (.iadd, 1) := by decide +kernel
theorem dX7_fits_3 : decode cX7_fits 3 = .ok (.bipush 20, 2) := by decide +kernel
theorem dX7_fits_5 : decode cX7_fits 5 = .ok (.if_icmp .gt 19, 3) := by decide +kernel
theorem dX7_fits_8 : decode cX7_fits 8 = .ok (.iload_n 0, 1) := by decide +kernel
theorem dX7_fits_9 : decode cX7_fits 9 = .ok (.iload_n 1, 1) := by decide +kernel
theorem dX7_fits_10 : decode cX7_fits 10 = .ok (.ishr, 1) := by decide +kernel
theorem dX7_fits_11 : decode cX7_fits 11 = .ok (.iconst 1, 1) := by decide +kernel
theorem dX7_fits_12 : decode cX7_fits 12 = .ok (.iload_n 2, 1) := by decide +kernel
theorem dX7_fits_13 : decode cX7_fits 13 = .ok (.ishl, 1) := by decide +kernel
theorem dX7_fits_14 : decode cX7_fits 14 = .ok (.iconst 1, 1) := by decide +kernel
theorem dX7_fits_15 : decode cX7_fits 15 = .ok (.isub, 1) := by decide +kernel
theorem dX7_fits_16 : decode cX7_fits 16 = .ok (.iand, 1) := by decide +kernel
theorem dX7_fits_17 : decode cX7_fits 17 = .ok (.ifCond .ne 7, 3) := by decide +kernel
theorem dX7_fits_20 : decode cX7_fits 20 = .ok (.iconst 1, 1) := by decide +kernel
theorem dX7_fits_21 : decode cX7_fits 21 = .ok (.goto 4, 3) := by decide +kernel
theorem dX7_fits_24 : decode cX7_fits 24 = .ok (.iconst 0, 1) := by decide +kernel
theorem dX7_fits_25 : decode cX7_fits 25 = .ok (.ireturn, 1) := by decide +kernel
set_option maxRecDepth 20000 in
theorem ggX7_firstFit_X7_fits : GoodIn wsX7_firstFit wsX7_fits := goodIn_r _ [4] (by decide +kernel) (by decide +kernel)
set_option maxRecDepth 20000 in
theorem gX7_firstFit_X7_fits : GoodIn wsX7_firstFit (va_wsS RX7 41 yX7_fits wsX7_fits) := goodIn_app (goodIn_of _ (by decide +kernel)) ggX7_firstFit_X7_fits
theorem dX7_firstFit_0 : decode cX7_firstFit 0 = .ok (.iconst 0, 1) := by decide +kernel
theorem dX7_firstFit_1 : decode cX7_firstFit 1 = .ok (.istore_n 3, 1) := by decide +kernel
theorem dX7_firstFit_2 : decode cX7_firstFit 2 = .ok (.iload_n 3, 1) := by decide +kernel
theorem dX7_firstFit_3 : decode cX7_firstFit 3 = .ok (.bipush 20, 2) := by decide +kernel
theorem dX7_firstFit_5 : decode cX7_firstFit 5 = .ok (.if_icmp .ge 34, 3) := by decide +kernel
theorem dX7_firstFit_8 : decode cX7_firstFit 8 = .ok (.iload_n 0, 1) := by decide +kernel
theorem dX7_firstFit_9 : decode cX7_firstFit 9 = .ok (.iload_n 3, 1) := by decide +kernel
theorem dX7_firstFit_10 : decode cX7_firstFit 10 = .ok (.iload_n 2, 1) := by decide +kernel
theorem dX7_firstFit_11 : decode cX7_firstFit 11 = .ok (.invokestatic 41, 3) := by decide +kernel
theorem dX7_firstFit_14 : decode cX7_firstFit 14 = .ok (.ifCond .eq 5, 3) := by decide +kernel
theorem dX7_firstFit_17 : decode cX7_firstFit 17 = .ok (.iload_n 3, 1) := by decide +kernel
theorem dX7_firstFit_18 : decode cX7_firstFit 18 = .ok (.ireturn, 1) := by decide +kernel
theorem dX7_firstFit_19 : decode cX7_firstFit 19 = .ok (.iload_n 1, 1) := by decide +kernel
theorem dX7_firstFit_20 : decode cX7_firstFit 20 = .ok (.iload_n 3, 1) := by decide +kernel
theorem dX7_firstFit_21 : decode cX7_firstFit 21 = .ok (.iload_n 2, 1) := by decide +kernel
theorem dX7_firstFit_22 : decode cX7_firstFit 22 = .ok (.invokestatic 41, 3) := by decide +kernel
theorem dX7_firstFit_25 : decode cX7_firstFit 25 = .ok (.ifCond .eq 8, 3) := by decide +kernel
theorem dX7_firstFit_28 : decode cX7_firstFit 28 = .ok (.bipush 20, 2) := by decide +kernel
theorem dX7_firstFit_30 : decode cX7_firstFit 30 = .ok (.iload_n 3, 1) := by decide +kernel
theorem dX7_firstFit_31 : decode cX7_firstFit 31 = .ok (.iadd, 1) := by decide +kernel
theorem dX7_firstFit_32 : decode cX7_firstFit 32 = .ok (.ireturn, 1) := by decide +kernel
theorem dX7_firstFit_33 : decode cX7_firstFit 33 = .ok (.iinc 3 1, 3) := by decide +kernel
theorem dX7_firstFit_36 : decode cX7_firstFit 36 = .ok (.goto (-34), 3) := by decide +kernel
theorem dX7_firstFit_39 : decode cX7_firstFit 39 = .ok (.iconst (-1), 1) := by decide +kernel
theorem dX7_firstFit_40 : decode cX7_firstFit 40 = .ok (.ireturn, 1) := by decide +kernel
theorem dX7_wayOf_0 : decode cX7_wayOf 0 = .ok (.iload_n 0, 1) := by decide +kernel
theorem dX7_wayOf_1 : decode cX7_wayOf 1 = .ok (.bipush 20, 2) := by decide +kernel
theorem dX7_wayOf_3 : decode cX7_wayOf 3 = .ok (.irem, 1) := by decide +kernel
theorem dX7_wayOf_4 : decode cX7_wayOf 4 = .ok (.iconst 2, 1) := by decide +kernel
theorem dX7_wayOf_5 : decode cX7_wayOf 5 = .ok (.iload_n 0, 1) := by decide +kernel
theorem dX7_wayOf_6 : decode cX7_wayOf 6 = .ok (.bipush 20, 2) := by decide +kernel
theorem dX7_wayOf_8 : decode cX7_wayOf 8 = .ok (.idiv, 1) := by decide +kernel
theorem dX7_wayOf_9 : decode cX7_wayOf 9 = .ok (.imul, 1) := by decide +kernel
theorem dX7_wayOf_10 : decode cX7_wayOf 10 = .ok (.iadd, 1) := by decide +kernel
theorem dX7_wayOf_11 : decode cX7_wayOf 11 = .ok (.ireturn, 1) := by decide +kernel
set_option maxRecDepth 20000 in
theorem ggX7_takenOn_X7_rowOf : GoodIn wsX7_takenOn wsX7_rowOf := goodIn_r _ [8] (by decide +kernel) (by decide +kernel)
set_option maxRecDepth 20000 in
theorem gX7_takenOn_X7_rowOf : GoodIn wsX7_takenOn (va_wsS RX7 45 yX7_rowOf wsX7_rowOf) := goodIn_app (goodIn_of _ (by decide +kernel)) ggX7_takenOn_X7_rowOf
theorem dX7_takenOn_0 : decode cX7_takenOn 0 = .ok (.iconst 0, 1) := by decide +kernel
theorem dX7_takenOn_1 : decode cX7_takenOn 1 = .ok (.istore_n 2, 1) := by decide +kernel
theorem dX7_takenOn_2 : decode cX7_takenOn 2 = .ok (.iconst 0, 1) := by decide +kernel
theorem dX7_takenOn_3 : decode cX7_takenOn 3 = .ok (.istore_n 3, 1) := by decide +kernel
theorem dX7_takenOn_4 : decode cX7_takenOn 4 = .ok (.iload_n 3, 1) := by decide +kernel
theorem dX7_takenOn_5 : decode cX7_takenOn 5 = .ok (.aload_n 0, 1) := by decide +kernel
theorem dX7_takenOn_6 : decode cX7_takenOn 6 = .ok (.getfield 9, 3) := by decide +kernel
theorem dX7_takenOn_9 : decode cX7_takenOn 9 = .ok (.if_icmp .ge 51, 3) := by decide +kernel
theorem dX7_takenOn_12 : decode cX7_takenOn 12 = .ok (.iload_n 3, 1) := by decide +kernel
theorem dX7_takenOn_13 : decode cX7_takenOn 13 = .ok (.aload_n 0, 1) := by decide +kernel
theorem dX7_takenOn_14 : decode cX7_takenOn 14 = .ok (.getfield 15, 3) := by decide +kernel
theorem dX7_takenOn_17 : decode cX7_takenOn 17 = .ok (.if_icmp .eq 37, 3) := by decide +kernel
theorem dX7_takenOn_20 : decode cX7_takenOn 20 = .ok (.aload_n 0, 1) := by decide +kernel
theorem dX7_takenOn_21 : decode cX7_takenOn 21 = .ok (.getfield 22, 3) := by decide +kernel
theorem dX7_takenOn_24 : decode cX7_takenOn 24 = .ok (.iload_n 3, 1) := by decide +kernel
theorem dX7_takenOn_25 : decode cX7_takenOn 25 = .ok (.iaload, 1) := by decide +kernel
theorem dX7_takenOn_26 : decode cX7_takenOn 26 = .ok (.bipush 20, 2) := by decide +kernel
theorem dX7_takenOn_28 : decode cX7_takenOn 28 = .ok (.idiv, 1) := by decide +kernel
theorem dX7_takenOn_29 : decode cX7_takenOn 29 = .ok (.iload_n 1, 1) := by decide +kernel
theorem dX7_takenOn_30 : decode cX7_takenOn 30 = .ok (.if_icmp .ne 24, 3) := by decide +kernel
theorem dX7_takenOn_33 : decode cX7_takenOn 33 = .ok (.iload_n 2, 1) := by decide +kernel
theorem dX7_takenOn_34 : decode cX7_takenOn 34 = .ok (.aload_n 0, 1) := by decide +kernel
theorem dX7_takenOn_35 : decode cX7_takenOn 35 = .ok (.getfield 22, 3) := by decide +kernel
theorem dX7_takenOn_38 : decode cX7_takenOn 38 = .ok (.iload_n 3, 1) := by decide +kernel
theorem dX7_takenOn_39 : decode cX7_takenOn 39 = .ok (.iaload, 1) := by decide +kernel
theorem dX7_takenOn_40 : decode cX7_takenOn 40 = .ok (.bipush 20, 2) := by decide +kernel
theorem dX7_takenOn_42 : decode cX7_takenOn 42 = .ok (.irem, 1) := by decide +kernel
theorem dX7_takenOn_43 : decode cX7_takenOn 43 = .ok (.aload_n 0, 1) := by decide +kernel
theorem dX7_takenOn_44 : decode cX7_takenOn 44 = .ok (.getfield 18, 3) := by decide +kernel
theorem dX7_takenOn_47 : decode cX7_takenOn 47 = .ok (.iload_n 3, 1) := by decide +kernel
theorem dX7_takenOn_48 : decode cX7_takenOn 48 = .ok (.iaload, 1) := by decide +kernel
theorem dX7_takenOn_49 : decode cX7_takenOn 49 = .ok (.invokestatic 45, 3) := by decide +kernel
theorem dX7_takenOn_52 : decode cX7_takenOn 52 = .ok (.ior, 1) := by decide +kernel
theorem dX7_takenOn_53 : decode cX7_takenOn 53 = .ok (.istore_n 2, 1) := by decide +kernel
theorem dX7_takenOn_54 : decode cX7_takenOn 54 = .ok (.iinc 3 1, 3) := by decide +kernel
theorem dX7_takenOn_57 : decode cX7_takenOn 57 = .ok (.goto (-53), 3) := by decide +kernel
theorem dX7_takenOn_60 : decode cX7_takenOn 60 = .ok (.iload_n 2, 1) := by decide +kernel
theorem dX7_takenOn_61 : decode cX7_takenOn 61 = .ok (.ireturn, 1) := by decide +kernel
set_option maxRecDepth 20000 in
theorem ggX7_firstFree_X7_takenOn : GoodIn wsX7_firstFree wsX7_takenOn := goodIn_r _ [5, 6, 7, 8, 9, 10, 11, 4, 12, 19, 20, 21, 22, 23, 24] (by decide +kernel) (by decide +kernel)
set_option maxRecDepth 20000 in
theorem gX7_firstFree_X7_takenOn : GoodIn wsX7_firstFree (wsV RX7 48 RX7 yX7_takenOn wsX7_takenOn) := goodIn_app (goodIn_of _ (by decide +kernel)) ggX7_firstFree_X7_takenOn
set_option maxRecDepth 20000 in
theorem ggX7_firstFree_X7_firstFit : GoodIn wsX7_firstFree wsX7_firstFit := goodIn_r _ [15, 16, 17, 4, 18] (by decide +kernel) (by decide +kernel)
set_option maxRecDepth 20000 in
theorem gX7_firstFree_X7_firstFit : GoodIn wsX7_firstFree (va_wsS RX7 52 yX7_firstFit wsX7_firstFit) := goodIn_app (goodIn_of _ (by decide +kernel)) ggX7_firstFree_X7_firstFit
theorem dX7_firstFree_0 : decode cX7_firstFree 0 = .ok (.aload_n 0, 1) := by decide +kernel
theorem dX7_firstFree_1 : decode cX7_firstFree 1 = .ok (.iconst 0, 1) := by decide +kernel
theorem dX7_firstFree_2 : decode cX7_firstFree 2 = .ok (.invokevirtual 48, 3) := by decide +kernel
theorem dX7_firstFree_5 : decode cX7_firstFree 5 = .ok (.aload_n 0, 1) := by decide +kernel
theorem dX7_firstFree_6 : decode cX7_firstFree 6 = .ok (.iconst 1, 1) := by decide +kernel
theorem dX7_firstFree_7 : decode cX7_firstFree 7 = .ok (.invokevirtual 48, 3) := by decide +kernel
theorem dX7_firstFree_10 : decode cX7_firstFree 10 = .ok (.iload_n 1, 1) := by decide +kernel
theorem dX7_firstFree_11 : decode cX7_firstFree 11 = .ok (.invokestatic 52, 3) := by decide +kernel
theorem dX7_firstFree_14 : decode cX7_firstFree 14 = .ok (.ireturn, 1) := by decide +kernel
theorem dX7_holderOf_0 : decode cX7_holderOf 0 = .ok (.iconst 0, 1) := by decide +kernel
theorem dX7_holderOf_1 : decode cX7_holderOf 1 = .ok (.istore_n 2, 1) := by decide +kernel
theorem dX7_holderOf_2 : decode cX7_holderOf 2 = .ok (.iload_n 2, 1) := by decide +kernel
theorem dX7_holderOf_3 : decode cX7_holderOf 3 = .ok (.aload_n 0, 1) := by decide +kernel
theorem dX7_holderOf_4 : decode cX7_holderOf 4 = .ok (.getfield 9, 3) := by decide +kernel
theorem dX7_holderOf_7 : decode cX7_holderOf 7 = .ok (.if_icmp .ge 46, 3) := by decide +kernel
theorem dX7_holderOf_10 : decode cX7_holderOf 10 = .ok (.iload_n 2, 1) := by decide +kernel
theorem dX7_holderOf_11 : decode cX7_holderOf 11 = .ok (.aload_n 0, 1) := by decide +kernel
theorem dX7_holderOf_12 : decode cX7_holderOf 12 = .ok (.getfield 15, 3) := by decide +kernel
theorem dX7_holderOf_15 : decode cX7_holderOf 15 = .ok (.if_icmp .eq 32, 3) := by decide +kernel
theorem dX7_holderOf_18 : decode cX7_holderOf 18 = .ok (.iload_n 1, 1) := by decide +kernel
theorem dX7_holderOf_19 : decode cX7_holderOf 19 = .ok (.aload_n 0, 1) := by decide +kernel
theorem dX7_holderOf_20 : decode cX7_holderOf 20 = .ok (.getfield 22, 3) := by decide +kernel
theorem dX7_holderOf_23 : decode cX7_holderOf 23 = .ok (.iload_n 2, 1) := by decide +kernel
theorem dX7_holderOf_24 : decode cX7_holderOf 24 = .ok (.iaload, 1) := by decide +kernel
theorem dX7_holderOf_25 : decode cX7_holderOf 25 = .ok (.if_icmp .lt 22, 3) := by decide +kernel
theorem dX7_holderOf_28 : decode cX7_holderOf 28 = .ok (.iload_n 1, 1) := by decide +kernel
theorem dX7_holderOf_29 : decode cX7_holderOf 29 = .ok (.aload_n 0, 1) := by decide +kernel
theorem dX7_holderOf_30 : decode cX7_holderOf 30 = .ok (.getfield 22, 3) := by decide +kernel
theorem dX7_holderOf_33 : decode cX7_holderOf 33 = .ok (.iload_n 2, 1) := by decide +kernel
theorem dX7_holderOf_34 : decode cX7_holderOf 34 = .ok (.iaload, 1) := by decide +kernel
theorem dX7_holderOf_35 : decode cX7_holderOf 35 = .ok (.aload_n 0, 1) := by decide +kernel
theorem dX7_holderOf_36 : decode cX7_holderOf 36 = .ok (.getfield 18, 3) := by decide +kernel
theorem dX7_holderOf_39 : decode cX7_holderOf 39 = .ok (.iload_n 2, 1) := by decide +kernel
theorem dX7_holderOf_40 : decode cX7_holderOf 40 = .ok (.iaload, 1) := by decide +kernel
theorem dX7_holderOf_41 : decode cX7_holderOf 41 = .ok (.iadd, 1) := by decide +kernel
theorem dX7_holderOf_42 : decode cX7_holderOf 42 = .ok (.if_icmp .ge 5, 3) := by decide +kernel
theorem dX7_holderOf_45 : decode cX7_holderOf 45 = .ok (.iload_n 2, 1) := by decide +kernel
theorem dX7_holderOf_46 : decode cX7_holderOf 46 = .ok (.ireturn, 1) := by decide +kernel
theorem dX7_holderOf_47 : decode cX7_holderOf 47 = .ok (.iinc 2 1, 3) := by decide +kernel
theorem dX7_holderOf_50 : decode cX7_holderOf 50 = .ok (.goto (-48), 3) := by decide +kernel
theorem dX7_holderOf_53 : decode cX7_holderOf 53 = .ok (.iconst (-1), 1) := by decide +kernel
theorem dX7_holderOf_54 : decode cX7_holderOf 54 = .ok (.ireturn, 1) := by decide +kernel
set_option maxRecDepth 20000 in
theorem ggX7_countFree_X7_takenOn : GoodIn wsX7_countFree wsX7_takenOn := goodIn_r _ [5, 6, 7, 8, 9, 10, 11, 4, 12, 16, 17, 18, 19, 20, 21] (by decide +kernel) (by decide +kernel)
set_option maxRecDepth 20000 in
theorem gX7_countFree_X7_takenOn : GoodIn wsX7_countFree (wsV RX7 48 RX7 yX7_takenOn wsX7_takenOn) := goodIn_app (goodIn_of _ (by decide +kernel)) ggX7_countFree_X7_takenOn
set_option maxRecDepth 20000 in
theorem ggX7_countFree_X7_fits : GoodIn wsX7_countFree wsX7_fits := goodIn_r _ [15] (by decide +kernel) (by decide +kernel)
set_option maxRecDepth 20000 in
theorem gX7_countFree_X7_fits : GoodIn wsX7_countFree (va_wsS RX7 41 yX7_fits wsX7_fits) := goodIn_app (goodIn_of _ (by decide +kernel)) ggX7_countFree_X7_fits
theorem dX7_countFree_0 : decode cX7_countFree 0 = .ok (.aload_n 0, 1) := by decide +kernel
theorem dX7_countFree_1 : decode cX7_countFree 1 = .ok (.iload_n 1, 1) := by decide +kernel
theorem dX7_countFree_2 : decode cX7_countFree 2 = .ok (.invokevirtual 48, 3) := by decide +kernel
theorem dX7_countFree_5 : decode cX7_countFree 5 = .ok (.istore_n 2, 1) := by decide +kernel
theorem dX7_countFree_6 : decode cX7_countFree 6 = .ok (.iconst 0, 1) := by decide +kernel
theorem dX7_countFree_7 : decode cX7_countFree 7 = .ok (.istore_n 3, 1) := by decide +kernel
theorem dX7_countFree_8 : decode cX7_countFree 8 = .ok (.iconst 0, 1) := by decide +kernel
theorem dX7_countFree_9 : decode cX7_countFree 9 = .ok (.istore 4, 2) := by decide +kernel
theorem dX7_countFree_11 : decode cX7_countFree 11 = .ok (.iload 4, 2) := by decide +kernel
theorem dX7_countFree_13 : decode cX7_countFree 13 = .ok (.bipush 20, 2) := by decide +kernel
theorem dX7_countFree_15 : decode cX7_countFree 15 = .ok (.if_icmp .ge 22, 3) := by decide +kernel
theorem dX7_countFree_18 : decode cX7_countFree 18 = .ok (.iload_n 2, 1) := by decide +kernel
theorem dX7_countFree_19 : decode cX7_countFree 19 = .ok (.iload 4, 2) := by decide +kernel
theorem dX7_countFree_21 : decode cX7_countFree 21 = .ok (.iconst 1, 1) := by decide +kernel
theorem dX7_countFree_22 : decode cX7_countFree 22 = .ok (.invokestatic 41, 3) := by decide +kernel
theorem dX7_countFree_25 : decode cX7_countFree 25 = .ok (.ifCond .eq 6, 3) := by decide +kernel
theorem dX7_countFree_28 : decode cX7_countFree 28 = .ok (.iinc 3 1, 3) := by decide +kernel
theorem dX7_countFree_31 : decode cX7_countFree 31 = .ok (.iinc 4 1, 3) := by decide +kernel
theorem dX7_countFree_34 : decode cX7_countFree 34 = .ok (.goto (-23), 3) := by decide +kernel
theorem dX7_countFree_37 : decode cX7_countFree 37 = .ok (.iload_n 3, 1) := by decide +kernel
theorem dX7_countFree_38 : decode cX7_countFree 38 = .ok (.ireturn, 1) := by decide +kernel
set_option maxRecDepth 20000 in
theorem ggX7_longestFree_X7_takenOn : GoodIn wsX7_longestFree wsX7_takenOn := goodIn_r _ [9, 10, 11, 12, 13, 14, 15, 8, 16, 20, 21, 22, 23, 24, 25] (by decide +kernel) (by decide +kernel)
set_option maxRecDepth 20000 in
theorem gX7_longestFree_X7_takenOn : GoodIn wsX7_longestFree (wsV RX7 48 RX7 yX7_takenOn wsX7_takenOn) := goodIn_app (goodIn_of _ (by decide +kernel)) ggX7_longestFree_X7_takenOn
set_option maxRecDepth 20000 in
theorem ggX7_longestFree_X7_fits : GoodIn wsX7_longestFree wsX7_fits := goodIn_r _ [19] (by decide +kernel) (by decide +kernel)
set_option maxRecDepth 20000 in
theorem gX7_longestFree_X7_fits : GoodIn wsX7_longestFree (va_wsS RX7 41 yX7_fits wsX7_fits) := goodIn_app (goodIn_of _ (by decide +kernel)) ggX7_longestFree_X7_fits
theorem dX7_longestFree_0 : decode cX7_longestFree 0 = .ok (.aload_n 0, 1) := by decide +kernel
theorem dX7_longestFree_1 : decode cX7_longestFree 1 = .ok (.iload_n 1, 1) := by decide +kernel
theorem dX7_longestFree_2 : decode cX7_longestFree 2 = .ok (.invokevirtual 48, 3) := by decide +kernel
theorem dX7_longestFree_5 : decode cX7_longestFree 5 = .ok (.istore_n 2, 1) := by decide +kernel
theorem dX7_longestFree_6 : decode cX7_longestFree 6 = .ok (.iconst 0, 1) := by decide +kernel
theorem dX7_longestFree_7 : decode cX7_longestFree 7 = .ok (.istore_n 3, 1) := by decide +kernel
theorem dX7_longestFree_8 : decode cX7_longestFree 8 = .ok (.iconst 0, 1) := by decide +kernel
theorem dX7_longestFree_9 : decode cX7_longestFree 9 = .ok (.istore 4, 2) := by decide +kernel
theorem dX7_longestFree_11 : decode cX7_longestFree 11 = .ok (.iconst 0, 1) := by decide +kernel
theorem dX7_longestFree_12 : decode cX7_longestFree 12 = .ok (.istore 5, 2) := by decide +kernel
theorem dX7_longestFree_14 : decode cX7_longestFree 14 = .ok (.iload 5, 2) := by decide +kernel
theorem dX7_longestFree_16 : decode cX7_longestFree 16 = .ok (.bipush 20, 2) := by decide +kernel
theorem dX7_longestFree_18 : decode cX7_longestFree 18 = .ok (.if_icmp .ge 36, 3) := by decide +kernel
theorem dX7_longestFree_21 : decode cX7_longestFree 21 = .ok (.iload_n 2, 1) := by decide +kernel
theorem dX7_longestFree_22 : decode cX7_longestFree 22 = .ok (.iload 5, 2) := by decide +kernel
theorem dX7_longestFree_24 : decode cX7_longestFree 24 = .ok (.iconst 1, 1) := by decide +kernel
theorem dX7_longestFree_25 : decode cX7_longestFree 25 = .ok (.invokestatic 41, 3) := by decide +kernel
theorem dX7_longestFree_28 : decode cX7_longestFree 28 = .ok (.ifCond .eq 10, 3) := by decide +kernel
theorem dX7_longestFree_31 : decode cX7_longestFree 31 = .ok (.iload 4, 2) := by decide +kernel
theorem dX7_longestFree_33 : decode cX7_longestFree 33 = .ok (.iconst 1, 1) := by decide +kernel
theorem dX7_longestFree_34 : decode cX7_longestFree 34 = .ok (.iadd, 1) := by decide +kernel
theorem dX7_longestFree_35 : decode cX7_longestFree 35 = .ok (.goto 4, 3) := by decide +kernel
theorem dX7_longestFree_38 : decode cX7_longestFree 38 = .ok (.iconst 0, 1) := by decide +kernel
theorem dX7_longestFree_39 : decode cX7_longestFree 39 = .ok (.istore 4, 2) := by decide +kernel
theorem dX7_longestFree_41 : decode cX7_longestFree 41 = .ok (.iload_n 3, 1) := by decide +kernel
theorem dX7_longestFree_42 : decode cX7_longestFree 42 = .ok (.iload 4, 2) := by decide +kernel
theorem dX7_longestFree_44 : decode cX7_longestFree 44 = .ok (.invokestatic 56, 3) := by decide +kernel
theorem dX7_longestFree_47 : decode cX7_longestFree 47 = .ok (.istore_n 3, 1) := by decide +kernel
theorem dX7_longestFree_48 : decode cX7_longestFree 48 = .ok (.iinc 5 1, 3) := by decide +kernel
theorem dX7_longestFree_51 : decode cX7_longestFree 51 = .ok (.goto (-37), 3) := by decide +kernel
theorem dX7_longestFree_54 : decode cX7_longestFree 54 = .ok (.iload_n 3, 1) := by decide +kernel
theorem dX7_longestFree_55 : decode cX7_longestFree 55 = .ok (.ireturn, 1) := by decide +kernel
theorem dX7_sumOfHeights_0 : decode cX7_sumOfHeights 0 = .ok (.iconst 0, 1) := by decide +kernel
theorem dX7_sumOfHeights_1 : decode cX7_sumOfHeights 1 = .ok (.istore_n 1, 1) := by decide +kernel
theorem dX7_sumOfHeights_2 : decode cX7_sumOfHeights 2 = .ok (.iconst 0, 1) := by decide +kernel
theorem dX7_sumOfHeights_3 : decode cX7_sumOfHeights 3 = .ok (.istore_n 2, 1) := by decide +kernel
theorem dX7_sumOfHeights_4 : decode cX7_sumOfHeights 4 = .ok (.iload_n 2, 1) := by decide +kernel
theorem dX7_sumOfHeights_5 : decode cX7_sumOfHeights 5 = .ok (.aload_n 0, 1) := by decide +kernel
theorem dX7_sumOfHeights_6 : decode cX7_sumOfHeights 6 = .ok (.getfield 9, 3) := by decide +kernel
theorem dX7_sumOfHeights_9 : decode cX7_sumOfHeights 9 = .ok (.if_icmp .ge 26, 3) := by decide +kernel
theorem dX7_sumOfHeights_12 : decode cX7_sumOfHeights 12 = .ok (.iload_n 2, 1) := by decide +kernel
theorem dX7_sumOfHeights_13 : decode cX7_sumOfHeights 13 = .ok (.aload_n 0, 1) := by decide +kernel
theorem dX7_sumOfHeights_14 : decode cX7_sumOfHeights 14 = .ok (.getfield 15, 3) := by decide +kernel
theorem dX7_sumOfHeights_17 : decode cX7_sumOfHeights 17 = .ok (.if_icmp .eq 12, 3) := by decide +kernel
theorem dX7_sumOfHeights_20 : decode cX7_sumOfHeights 20 = .ok (.iload_n 1, 1) := by decide +kernel
theorem dX7_sumOfHeights_21 : decode cX7_sumOfHeights 21 = .ok (.aload_n 0, 1) := by decide +kernel
theorem dX7_sumOfHeights_22 : decode cX7_sumOfHeights 22 = .ok (.getfield 18, 3) := by decide +kernel
theorem dX7_sumOfHeights_25 : decode cX7_sumOfHeights 25 = .ok (.iload_n 2, 1) := by decide +kernel
theorem dX7_sumOfHeights_26 : decode cX7_sumOfHeights 26 = .ok (.iaload, 1) := by decide +kernel
theorem dX7_sumOfHeights_27 : decode cX7_sumOfHeights 27 = .ok (.iadd, 1) := by decide +kernel
theorem dX7_sumOfHeights_28 : decode cX7_sumOfHeights 28 = .ok (.istore_n 1, 1) := by decide +kernel
theorem dX7_sumOfHeights_29 : decode cX7_sumOfHeights 29 = .ok (.iinc 2 1, 3) := by decide +kernel
theorem dX7_sumOfHeights_32 : decode cX7_sumOfHeights 32 = .ok (.goto (-28), 3) := by decide +kernel
theorem dX7_sumOfHeights_35 : decode cX7_sumOfHeights 35 = .ok (.iload_n 1, 1) := by decide +kernel
theorem dX7_sumOfHeights_36 : decode cX7_sumOfHeights 36 = .ok (.ireturn, 1) := by decide +kernel
theorem dX7_sumOfUses_0 : decode cX7_sumOfUses 0 = .ok (.iconst 0, 1) := by decide +kernel
theorem dX7_sumOfUses_1 : decode cX7_sumOfUses 1 = .ok (.istore_n 1, 1) := by decide +kernel
theorem dX7_sumOfUses_2 : decode cX7_sumOfUses 2 = .ok (.iconst 0, 1) := by decide +kernel
theorem dX7_sumOfUses_3 : decode cX7_sumOfUses 3 = .ok (.istore_n 2, 1) := by decide +kernel
theorem dX7_sumOfUses_4 : decode cX7_sumOfUses 4 = .ok (.iload_n 2, 1) := by decide +kernel
theorem dX7_sumOfUses_5 : decode cX7_sumOfUses 5 = .ok (.aload_n 0, 1) := by decide +kernel
theorem dX7_sumOfUses_6 : decode cX7_sumOfUses 6 = .ok (.getfield 9, 3) := by decide +kernel
theorem dX7_sumOfUses_9 : decode cX7_sumOfUses 9 = .ok (.if_icmp .ge 18, 3) := by decide +kernel
theorem dX7_sumOfUses_12 : decode cX7_sumOfUses 12 = .ok (.iload_n 1, 1) := by decide +kernel
theorem dX7_sumOfUses_13 : decode cX7_sumOfUses 13 = .ok (.aload_n 0, 1) := by decide +kernel
theorem dX7_sumOfUses_14 : decode cX7_sumOfUses 14 = .ok (.getfield 25, 3) := by decide +kernel
theorem dX7_sumOfUses_17 : decode cX7_sumOfUses 17 = .ok (.iload_n 2, 1) := by decide +kernel
theorem dX7_sumOfUses_18 : decode cX7_sumOfUses 18 = .ok (.iaload, 1) := by decide +kernel
theorem dX7_sumOfUses_19 : decode cX7_sumOfUses 19 = .ok (.iadd, 1) := by decide +kernel
theorem dX7_sumOfUses_20 : decode cX7_sumOfUses 20 = .ok (.istore_n 1, 1) := by decide +kernel
theorem dX7_sumOfUses_21 : decode cX7_sumOfUses 21 = .ok (.iinc 2 1, 3) := by decide +kernel
theorem dX7_sumOfUses_24 : decode cX7_sumOfUses 24 = .ok (.goto (-20), 3) := by decide +kernel
theorem dX7_sumOfUses_27 : decode cX7_sumOfUses 27 = .ok (.iload_n 1, 1) := by decide +kernel
theorem dX7_sumOfUses_28 : decode cX7_sumOfUses 28 = .ok (.ireturn, 1) := by decide +kernel
set_option maxRecDepth 20000 in
theorem ggX7_sumOfUsedWays_X7_wayOf : GoodIn wsX7_sumOfUsedWays wsX7_wayOf := goodIn_r _ [7] (by decide +kernel) (by decide +kernel)
set_option maxRecDepth 20000 in
theorem gX7_sumOfUsedWays_X7_wayOf : GoodIn wsX7_sumOfUsedWays (va_wsS RX7 61 yX7_wayOf wsX7_wayOf) := goodIn_app (goodIn_of _ (by decide +kernel)) ggX7_sumOfUsedWays_X7_wayOf
theorem dX7_sumOfUsedWays_0 : decode cX7_sumOfUsedWays 0 = .ok (.iconst 0, 1) := by decide +kernel
theorem dX7_sumOfUsedWays_1 : decode cX7_sumOfUsedWays 1 = .ok (.istore_n 1, 1) := by decide +kernel
theorem dX7_sumOfUsedWays_2 : decode cX7_sumOfUsedWays 2 = .ok (.iconst 0, 1) := by decide +kernel
theorem dX7_sumOfUsedWays_3 : decode cX7_sumOfUsedWays 3 = .ok (.istore_n 2, 1) := by decide +kernel
theorem dX7_sumOfUsedWays_4 : decode cX7_sumOfUsedWays 4 = .ok (.iload_n 2, 1) := by decide +kernel
theorem dX7_sumOfUsedWays_5 : decode cX7_sumOfUsedWays 5 = .ok (.aload_n 0, 1) := by decide +kernel
theorem dX7_sumOfUsedWays_6 : decode cX7_sumOfUsedWays 6 = .ok (.getfield 9, 3) := by decide +kernel
theorem dX7_sumOfUsedWays_9 : decode cX7_sumOfUsedWays 9 = .ok (.if_icmp .ge 28, 3) := by decide +kernel
theorem dX7_sumOfUsedWays_12 : decode cX7_sumOfUsedWays 12 = .ok (.iload_n 1, 1) := by decide +kernel
theorem dX7_sumOfUsedWays_13 : decode cX7_sumOfUsedWays 13 = .ok (.aload_n 0, 1) := by decide +kernel
theorem dX7_sumOfUsedWays_14 : decode cX7_sumOfUsedWays 14 = .ok (.getfield 22, 3) := by decide +kernel
theorem dX7_sumOfUsedWays_17 : decode cX7_sumOfUsedWays 17 = .ok (.iload_n 2, 1) := by decide +kernel
theorem dX7_sumOfUsedWays_18 : decode cX7_sumOfUsedWays 18 = .ok (.iaload, 1) := by decide +kernel
theorem dX7_sumOfUsedWays_19 : decode cX7_sumOfUsedWays 19 = .ok (.invokestatic 61, 3) := by decide +kernel
theorem dX7_sumOfUsedWays_22 : decode cX7_sumOfUsedWays 22 = .ok (.aload_n 0, 1) := by decide +kernel
theorem dX7_sumOfUsedWays_23 : decode cX7_sumOfUsedWays 23 = .ok (.getfield 25, 3) := by decide +kernel
theorem dX7_sumOfUsedWays_26 : decode cX7_sumOfUsedWays 26 = .ok (.iload_n 2, 1) := by decide +kernel
theorem dX7_sumOfUsedWays_27 : decode cX7_sumOfUsedWays 27 = .ok (.iaload, 1) := by decide +kernel
theorem dX7_sumOfUsedWays_28 : decode cX7_sumOfUsedWays 28 = .ok (.imul, 1) := by decide +kernel
theorem dX7_sumOfUsedWays_29 : decode cX7_sumOfUsedWays 29 = .ok (.iadd, 1) := by decide +kernel
theorem dX7_sumOfUsedWays_30 : decode cX7_sumOfUsedWays 30 = .ok (.istore_n 1, 1) := by decide +kernel
theorem dX7_sumOfUsedWays_31 : decode cX7_sumOfUsedWays 31 = .ok (.iinc 2 1, 3) := by decide +kernel
theorem dX7_sumOfUsedWays_34 : decode cX7_sumOfUsedWays 34 = .ok (.goto (-30), 3) := by decide +kernel
theorem dX7_sumOfUsedWays_37 : decode cX7_sumOfUsedWays 37 = .ok (.iload_n 1, 1) := by decide +kernel
theorem dX7_sumOfUsedWays_38 : decode cX7_sumOfUsedWays 38 = .ok (.ireturn, 1) := by decide +kernel
theorem dX7_mostUsed_0 : decode cX7_mostUsed 0 = .ok (.iconst (-1), 1) := by decide +kernel
theorem dX7_mostUsed_1 : decode cX7_mostUsed 1 = .ok (.istore_n 2, 1) := by decide +kernel
theorem dX7_mostUsed_2 : decode cX7_mostUsed 2 = .ok (.iconst 0, 1) := by decide +kernel
theorem dX7_mostUsed_3 : decode cX7_mostUsed 3 = .ok (.istore_n 3, 1) := by decide +kernel
theorem dX7_mostUsed_4 : decode cX7_mostUsed 4 = .ok (.iload_n 3, 1) := by decide +kernel
theorem dX7_mostUsed_5 : decode cX7_mostUsed 5 = .ok (.aload_n 0, 1) := by decide +kernel
theorem dX7_mostUsed_6 : decode cX7_mostUsed 6 = .ok (.getfield 9, 3) := by decide +kernel
theorem dX7_mostUsed_9 : decode cX7_mostUsed 9 = .ok (.if_icmp .ge 51, 3) := by decide +kernel
theorem dX7_mostUsed_12 : decode cX7_mostUsed 12 = .ok (.iload_n 1, 1) := by decide +kernel
theorem dX7_mostUsed_13 : decode cX7_mostUsed 13 = .ok (.iload_n 3, 1) := by decide +kernel
theorem dX7_mostUsed_14 : decode cX7_mostUsed 14 = .ok (.ishr, 1) := by decide +kernel
theorem dX7_mostUsed_15 : decode cX7_mostUsed 15 = .ok (.iconst 1, 1) := by decide +kernel
theorem dX7_mostUsed_16 : decode cX7_mostUsed 16 = .ok (.iand, 1) := by decide +kernel
theorem dX7_mostUsed_17 : decode cX7_mostUsed 17 = .ok (.ifCond .ne 7, 3) := by decide +kernel
theorem dX7_mostUsed_20 : decode cX7_mostUsed 20 = .ok (.iconst 1, 1) := by decide +kernel
theorem dX7_mostUsed_21 : decode cX7_mostUsed 21 = .ok (.goto 4, 3) := by decide +kernel
theorem dX7_mostUsed_24 : decode cX7_mostUsed 24 = .ok (.iconst 0, 1) := by decide +kernel
theorem dX7_mostUsed_25 : decode cX7_mostUsed 25 = .ok (.istore 4, 2) := by decide +kernel
theorem dX7_mostUsed_27 : decode cX7_mostUsed 27 = .ok (.iload 4, 2) := by decide +kernel
theorem dX7_mostUsed_29 : decode cX7_mostUsed 29 = .ok (.ifCond .eq 25, 3) := by decide +kernel
theorem dX7_mostUsed_32 : decode cX7_mostUsed 32 = .ok (.iload_n 2, 1) := by decide +kernel
theorem dX7_mostUsed_33 : decode cX7_mostUsed 33 = .ok (.iconst (-1), 1) := by decide +kernel
theorem dX7_mostUsed_34 : decode cX7_mostUsed 34 = .ok (.if_icmp .eq 18, 3) := by decide +kernel
theorem dX7_mostUsed_37 : decode cX7_mostUsed 37 = .ok (.aload_n 0, 1) := by decide +kernel
theorem dX7_mostUsed_38 : decode cX7_mostUsed 38 = .ok (.getfield 25, 3) := by decide +kernel
theorem dX7_mostUsed_41 : decode cX7_mostUsed 41 = .ok (.iload_n 3, 1) := by decide +kernel
theorem dX7_mostUsed_42 : decode cX7_mostUsed 42 = .ok (.iaload, 1) := by decide +kernel
theorem dX7_mostUsed_43 : decode cX7_mostUsed 43 = .ok (.aload_n 0, 1) := by decide +kernel
theorem dX7_mostUsed_44 : decode cX7_mostUsed 44 = .ok (.getfield 25, 3) := by decide +kernel
theorem dX7_mostUsed_47 : decode cX7_mostUsed 47 = .ok (.iload_n 2, 1) := by decide +kernel
theorem dX7_mostUsed_48 : decode cX7_mostUsed 48 = .ok (.iaload, 1) := by decide +kernel
theorem dX7_mostUsed_49 : decode cX7_mostUsed 49 = .ok (.if_icmp .le 5, 3) := by decide +kernel
theorem dX7_mostUsed_52 : decode cX7_mostUsed 52 = .ok (.iload_n 3, 1) := by decide +kernel
theorem dX7_mostUsed_53 : decode cX7_mostUsed 53 = .ok (.istore_n 2, 1) := by decide +kernel
theorem dX7_mostUsed_54 : decode cX7_mostUsed 54 = .ok (.iinc 3 1, 3) := by decide +kernel
theorem dX7_mostUsed_57 : decode cX7_mostUsed 57 = .ok (.goto (-53), 3) := by decide +kernel
theorem dX7_mostUsed_60 : decode cX7_mostUsed 60 = .ok (.iload_n 2, 1) := by decide +kernel
theorem dX7_mostUsed_61 : decode cX7_mostUsed 61 = .ok (.ireturn, 1) := by decide +kernel
set_option maxRecDepth 20000 in
theorem ggX7_findPacked_X7_mostUsed : GoodIn wsX7_findPacked wsX7_mostUsed := goodIn_r _ [7, 1, 8, 18, 19, 20, 21, 22, 23] (by decide +kernel) (by decide +kernel)
set_option maxRecDepth 20000 in
theorem gX7_findPacked_X7_mostUsed : GoodIn wsX7_findPacked (wsV RX7 64 RX7 yX7_mostUsed wsX7_mostUsed) := goodIn_app (goodIn_of _ (by decide +kernel)) ggX7_findPacked_X7_mostUsed
set_option maxRecDepth 20000 in
theorem ggX7_findPacked_X7_firstFit : GoodIn wsX7_findPacked wsX7_firstFit := goodIn_r _ [11, 12, 13, 6, 14] (by decide +kernel) (by decide +kernel)
set_option maxRecDepth 20000 in
theorem gX7_findPacked_X7_firstFit : GoodIn wsX7_findPacked (va_wsS RX7 52 yX7_firstFit wsX7_firstFit) := goodIn_app (goodIn_of _ (by decide +kernel)) ggX7_findPacked_X7_firstFit
set_option maxRecDepth 20000 in
theorem ggX7_findPacked_X7_rowOf : GoodIn wsX7_findPacked wsX7_rowOf := goodIn_r _ [17] (by decide +kernel) (by decide +kernel)
set_option maxRecDepth 20000 in
theorem gX7_findPacked_X7_rowOf : GoodIn wsX7_findPacked (va_wsS RX7 45 yX7_rowOf wsX7_rowOf) := goodIn_app (goodIn_of _ (by decide +kernel)) ggX7_findPacked_X7_rowOf
theorem dX7_findPacked_0 : decode cX7_findPacked 0 = .ok (.iconst 0, 1) := by decide +kernel
theorem dX7_findPacked_1 : decode cX7_findPacked 1 = .ok (.istore_n 2, 1) := by decide +kernel
theorem dX7_findPacked_2 : decode cX7_findPacked 2 = .ok (.iconst 0, 1) := by decide +kernel
theorem dX7_findPacked_3 : decode cX7_findPacked 3 = .ok (.istore_n 3, 1) := by decide +kernel
theorem dX7_findPacked_4 : decode cX7_findPacked 4 = .ok (.iconst 0, 1) := by decide +kernel
theorem dX7_findPacked_5 : decode cX7_findPacked 5 = .ok (.istore 4, 2) := by decide +kernel
theorem dX7_findPacked_7 : decode cX7_findPacked 7 = .ok (.iconst 0, 1) := by decide +kernel
theorem dX7_findPacked_8 : decode cX7_findPacked 8 = .ok (.istore 5, 2) := by decide +kernel
theorem dX7_findPacked_10 : decode cX7_findPacked 10 = .ok (.iload 5, 2) := by decide +kernel
theorem dX7_findPacked_12 : decode cX7_findPacked 12 = .ok (.aload_n 0, 1) := by decide +kernel
theorem dX7_findPacked_13 : decode cX7_findPacked 13 = .ok (.getfield 9, 3) := by decide +kernel
theorem dX7_findPacked_16 : decode cX7_findPacked 16 = .ok (.if_icmp .ge 112, 3) := by decide +kernel
theorem dX7_findPacked_19 : decode cX7_findPacked 19 = .ok (.aload_n 0, 1) := by decide +kernel
theorem dX7_findPacked_20 : decode cX7_findPacked 20 = .ok (.iload 4, 2) := by decide +kernel
theorem dX7_findPacked_22 : decode cX7_findPacked 22 = .ok (.invokevirtual 64, 3) := by decide +kernel
theorem dX7_findPacked_25 : decode cX7_findPacked 25 = .ok (.istore 6, 2) := by decide +kernel
theorem dX7_findPacked_27 : decode cX7_findPacked 27 = .ok (.iload 6, 2) := by decide +kernel
theorem dX7_findPacked_29 : decode cX7_findPacked 29 = .ok (.iconst (-1), 1) := by decide +kernel
theorem dX7_findPacked_30 : decode cX7_findPacked 30 = .ok (.if_icmp .eq 10, 3) := by decide +kernel
theorem dX7_findPacked_33 : decode cX7_findPacked 33 = .ok (.iload 6, 2) := by decide +kernel
theorem dX7_findPacked_35 : decode cX7_findPacked 35 = .ok (.aload_n 1, 1) := by decide +kernel
theorem dX7_findPacked_36 : decode cX7_findPacked 36 = .ok (.arraylength, 1) := by decide +kernel
theorem dX7_findPacked_37 : decode cX7_findPacked 37 = .ok (.if_icmp .lt 5, 3) := by decide +kernel
theorem dX7_findPacked_40 : decode cX7_findPacked 40 = .ok (.iconst 0, 1) := by decide +kernel
theorem dX7_findPacked_41 : decode cX7_findPacked 41 = .ok (.ireturn, 1) := by decide +kernel
theorem dX7_findPacked_42 : decode cX7_findPacked 42 = .ok (.iload_n 2, 1) := by decide +kernel
theorem dX7_findPacked_43 : decode cX7_findPacked 43 = .ok (.iload_n 3, 1) := by decide +kernel
theorem dX7_findPacked_44 : decode cX7_findPacked 44 = .ok (.aload_n 0, 1) := by decide +kernel
theorem dX7_findPacked_45 : decode cX7_findPacked 45 = .ok (.getfield 18, 3) := by decide +kernel
theorem dX7_findPacked_48 : decode cX7_findPacked 48 = .ok (.iload 6, 2) := by decide +kernel
theorem dX7_findPacked_50 : decode cX7_findPacked 50 = .ok (.iaload, 1) := by decide +kernel
theorem dX7_findPacked_51 : decode cX7_findPacked 51 = .ok (.invokestatic 52, 3) := by decide +kernel
theorem dX7_findPacked_54 : decode cX7_findPacked 54 = .ok (.istore 7, 2) := by decide +kernel
theorem dX7_findPacked_56 : decode cX7_findPacked 56 = .ok (.iload 7, 2) := by decide +kernel
theorem dX7_findPacked_58 : decode cX7_findPacked 58 = .ok (.iconst (-1), 1) := by decide +kernel
theorem dX7_findPacked_59 : decode cX7_findPacked 59 = .ok (.if_icmp .ne 5, 3) := by decide +kernel
theorem dX7_findPacked_62 : decode cX7_findPacked 62 = .ok (.iconst 0, 1) := by decide +kernel
theorem dX7_findPacked_63 : decode cX7_findPacked 63 = .ok (.ireturn, 1) := by decide +kernel
theorem dX7_findPacked_64 : decode cX7_findPacked 64 = .ok (.aload_n 1, 1) := by decide +kernel
theorem dX7_findPacked_65 : decode cX7_findPacked 65 = .ok (.iload 6, 2) := by decide +kernel
theorem dX7_findPacked_67 : decode cX7_findPacked 67 = .ok (.iload 7, 2) := by decide +kernel
theorem dX7_findPacked_69 : decode cX7_findPacked 69 = .ok (.iastore, 1) := by decide +kernel
theorem dX7_findPacked_70 : decode cX7_findPacked 70 = .ok (.iload 4, 2) := by decide +kernel
theorem dX7_findPacked_72 : decode cX7_findPacked 72 = .ok (.iconst 1, 1) := by decide +kernel
theorem dX7_findPacked_73 : decode cX7_findPacked 73 = .ok (.iload 6, 2) := by decide +kernel
theorem dX7_findPacked_75 : decode cX7_findPacked 75 = .ok (.ishl, 1) := by decide +kernel
theorem dX7_findPacked_76 : decode cX7_findPacked 76 = .ok (.ior, 1) := by decide +kernel
theorem dX7_findPacked_77 : decode cX7_findPacked 77 = .ok (.istore 4, 2) := by decide +kernel
theorem dX7_findPacked_79 : decode cX7_findPacked 79 = .ok (.iload 7, 2) := by decide +kernel
theorem dX7_findPacked_81 : decode cX7_findPacked 81 = .ok (.bipush 20, 2) := by decide +kernel
theorem dX7_findPacked_83 : decode cX7_findPacked 83 = .ok (.if_icmp .ge 21, 3) := by decide +kernel
theorem dX7_findPacked_86 : decode cX7_findPacked 86 = .ok (.iload_n 2, 1) := by decide +kernel
theorem dX7_findPacked_87 : decode cX7_findPacked 87 = .ok (.iload 7, 2) := by decide +kernel
theorem dX7_findPacked_89 : decode cX7_findPacked 89 = .ok (.aload_n 0, 1) := by decide +kernel
theorem dX7_findPacked_90 : decode cX7_findPacked 90 = .ok (.getfield 18, 3) := by decide +kernel
theorem dX7_findPacked_93 : decode cX7_findPacked 93 = .ok (.iload 6, 2) := by decide +kernel
theorem dX7_findPacked_95 : decode cX7_findPacked 95 = .ok (.iaload, 1) := by decide +kernel
theorem dX7_findPacked_96 : decode cX7_findPacked 96 = .ok (.invokestatic 45, 3) := by decide +kernel
theorem dX7_findPacked_99 : decode cX7_findPacked 99 = .ok (.ior, 1) := by decide +kernel
theorem dX7_findPacked_100 : decode cX7_findPacked 100 = .ok (.istore_n 2, 1) := by decide +kernel
theorem dX7_findPacked_101 : decode cX7_findPacked 101 = .ok (.goto 21, 3) := by decide +kernel
theorem dX7_findPacked_104 : decode cX7_findPacked 104 = .ok (.iload_n 3, 1) := by decide +kernel
theorem dX7_findPacked_105 : decode cX7_findPacked 105 = .ok (.iload 7, 2) := by decide +kernel
theorem dX7_findPacked_107 : decode cX7_findPacked 107 = .ok (.bipush 20, 2) := by decide +kernel
theorem dX7_findPacked_109 : decode cX7_findPacked 109 = .ok (.isub, 1) := by decide +kernel
theorem dX7_findPacked_110 : decode cX7_findPacked 110 = .ok (.aload_n 0, 1) := by decide +kernel
theorem dX7_findPacked_111 : decode cX7_findPacked 111 = .ok (.getfield 18, 3) := by decide +kernel
theorem dX7_findPacked_114 : decode cX7_findPacked 114 = .ok (.iload 6, 2) := by decide +kernel
theorem dX7_findPacked_116 : decode cX7_findPacked 116 = .ok (.iaload, 1) := by decide +kernel
theorem dX7_findPacked_117 : decode cX7_findPacked 117 = .ok (.invokestatic 45, 3) := by decide +kernel
theorem dX7_findPacked_120 : decode cX7_findPacked 120 = .ok (.ior, 1) := by decide +kernel
theorem dX7_findPacked_121 : decode cX7_findPacked 121 = .ok (.istore_n 3, 1) := by decide +kernel
theorem dX7_findPacked_122 : decode cX7_findPacked 122 = .ok (.iinc 5 1, 3) := by decide +kernel
theorem dX7_findPacked_125 : decode cX7_findPacked 125 = .ok (.goto (-115), 3) := by decide +kernel
theorem dX7_findPacked_128 : decode cX7_findPacked 128 = .ok (.iconst 1, 1) := by decide +kernel
theorem dX7_findPacked_129 : decode cX7_findPacked 129 = .ok (.ireturn, 1) := by decide +kernel
theorem dX7_countMoved_0 : decode cX7_countMoved 0 = .ok (.iconst 0, 1) := by decide +kernel
theorem dX7_countMoved_1 : decode cX7_countMoved 1 = .ok (.istore_n 2, 1) := by decide +kernel
theorem dX7_countMoved_2 : decode cX7_countMoved 2 = .ok (.iconst 0, 1) := by decide +kernel
theorem dX7_countMoved_3 : decode cX7_countMoved 3 = .ok (.istore_n 3, 1) := by decide +kernel
theorem dX7_countMoved_4 : decode cX7_countMoved 4 = .ok (.iload_n 3, 1) := by decide +kernel
theorem dX7_countMoved_5 : decode cX7_countMoved 5 = .ok (.aload_n 0, 1) := by decide +kernel
theorem dX7_countMoved_6 : decode cX7_countMoved 6 = .ok (.getfield 9, 3) := by decide +kernel
theorem dX7_countMoved_9 : decode cX7_countMoved 9 = .ok (.if_icmp .ge 30, 3) := by decide +kernel
theorem dX7_countMoved_12 : decode cX7_countMoved 12 = .ok (.iload_n 3, 1) := by decide +kernel
theorem dX7_countMoved_13 : decode cX7_countMoved 13 = .ok (.aload_n 1, 1) := by decide +kernel
theorem dX7_countMoved_14 : decode cX7_countMoved 14 = .ok (.arraylength, 1) := by decide +kernel
theorem dX7_countMoved_15 : decode cX7_countMoved 15 = .ok (.if_icmp .ge 24, 3) := by decide +kernel
theorem dX7_countMoved_18 : decode cX7_countMoved 18 = .ok (.aload_n 1, 1) := by decide +kernel
theorem dX7_countMoved_19 : decode cX7_countMoved 19 = .ok (.iload_n 3, 1) := by decide +kernel
theorem dX7_countMoved_20 : decode cX7_countMoved 20 = .ok (.iaload, 1) := by decide +kernel
theorem dX7_countMoved_21 : decode cX7_countMoved 21 = .ok (.aload_n 0, 1) := by decide +kernel
theorem dX7_countMoved_22 : decode cX7_countMoved 22 = .ok (.getfield 22, 3) := by decide +kernel
theorem dX7_countMoved_25 : decode cX7_countMoved 25 = .ok (.iload_n 3, 1) := by decide +kernel
theorem dX7_countMoved_26 : decode cX7_countMoved 26 = .ok (.iaload, 1) := by decide +kernel
theorem dX7_countMoved_27 : decode cX7_countMoved 27 = .ok (.if_icmp .eq 6, 3) := by decide +kernel
theorem dX7_countMoved_30 : decode cX7_countMoved 30 = .ok (.iinc 2 1, 3) := by decide +kernel
theorem dX7_countMoved_33 : decode cX7_countMoved 33 = .ok (.iinc 3 1, 3) := by decide +kernel
theorem dX7_countMoved_36 : decode cX7_countMoved 36 = .ok (.goto (-32), 3) := by decide +kernel
theorem dX7_countMoved_39 : decode cX7_countMoved 39 = .ok (.iload_n 2, 1) := by decide +kernel
theorem dX7_countMoved_40 : decode cX7_countMoved 40 = .ok (.ireturn, 1) := by decide +kernel
theorem dX7_moveTo_0 : decode cX7_moveTo 0 = .ok (.iconst 0, 1) := by decide +kernel
theorem dX7_moveTo_1 : decode cX7_moveTo 1 = .ok (.istore_n 2, 1) := by decide +kernel
theorem dX7_moveTo_2 : decode cX7_moveTo 2 = .ok (.iload_n 2, 1) := by decide +kernel
theorem dX7_moveTo_3 : decode cX7_moveTo 3 = .ok (.aload_n 0, 1) := by decide +kernel
theorem dX7_moveTo_4 : decode cX7_moveTo 4 = .ok (.getfield 9, 3) := by decide +kernel
theorem dX7_moveTo_7 : decode cX7_moveTo 7 = .ok (.if_icmp .ge 24, 3) := by decide +kernel
theorem dX7_moveTo_10 : decode cX7_moveTo 10 = .ok (.iload_n 2, 1) := by decide +kernel
theorem dX7_moveTo_11 : decode cX7_moveTo 11 = .ok (.aload_n 1, 1) := by decide +kernel
theorem dX7_moveTo_12 : decode cX7_moveTo 12 = .ok (.arraylength, 1) := by decide +kernel
theorem dX7_moveTo_13 : decode cX7_moveTo 13 = .ok (.if_icmp .ge 18, 3) := by decide +kernel
theorem dX7_moveTo_16 : decode cX7_moveTo 16 = .ok (.aload_n 0, 1) := by decide +kernel
theorem dX7_moveTo_17 : decode cX7_moveTo 17 = .ok (.getfield 22, 3) := by decide +kernel
theorem dX7_moveTo_20 : decode cX7_moveTo 20 = .ok (.iload_n 2, 1) := by decide +kernel
theorem dX7_moveTo_21 : decode cX7_moveTo 21 = .ok (.aload_n 1, 1) := by decide +kernel
theorem dX7_moveTo_22 : decode cX7_moveTo 22 = .ok (.iload_n 2, 1) := by decide +kernel
theorem dX7_moveTo_23 : decode cX7_moveTo 23 = .ok (.iaload, 1) := by decide +kernel
theorem dX7_moveTo_24 : decode cX7_moveTo 24 = .ok (.iastore, 1) := by decide +kernel
theorem dX7_moveTo_25 : decode cX7_moveTo 25 = .ok (.iinc 2 1, 3) := by decide +kernel
theorem dX7_moveTo_28 : decode cX7_moveTo 28 = .ok (.goto (-26), 3) := by decide +kernel
theorem dX7_moveTo_31 : decode cX7_moveTo 31 = .ok (.return_, 1) := by decide +kernel
set_option maxRecDepth 20000 in
theorem ggX8_init_X6_init : GoodIn wsX8_init wsX6_init := goodIn_r _ [21, 22, 2, 3, 23, 24, 25, 26, 27, 28, 29, 30, 31, 32, 33, 34, 35, 36, 37, 38, 39, 40, 41, 42, 43, 44, 17, 45, 46, 47, 48, 49, 50, 51, 52, 53, 54, 55, 56, 57, 58, 59, 60, 61, 62, 63, 64, 65, 66, 67, 68, 69, 70, 71, 111, 112, 113, 114, 115, 116, 94, 95, 96, 97, 98, 117, 118, 119, 120, 121, 122, 123, 124, 125, 126, 127, 128, 129] (by decide +kernel) (by decide +kernel)
set_option maxRecDepth 20000 in
theorem gX8_init_X6_init_n11 : GoodIn wsX8_init (wsX6_init) := ggX8_init_X6_init
set_option maxRecDepth 20000 in
theorem ggX8_init_X1_init : GoodIn wsX8_init wsX1_init := goodIn_r _ [73, 74, 2, 3, 75, 76, 77, 78, 105, 106, 107] (by decide +kernel) (by decide +kernel)
set_option maxRecDepth 20000 in
theorem gX8_init_X1_init_n21 : GoodIn wsX8_init (wsX1_init) := ggX8_init_X1_init
set_option maxRecDepth 20000 in
theorem ggX8_init_X5_init : GoodIn wsX8_init wsX5_init := goodIn_r _ [80, 81, 2, 3, 82, 17, 83, 84, 85, 86, 87, 88, 89, 90, 91, 92, 93, 108, 109, 110, 130, 131, 132] (by decide +kernel) (by decide +kernel)
set_option maxRecDepth 20000 in
theorem gX8_init_X5_init_n28 : GoodIn wsX8_init (wsX5_init) := ggX8_init_X5_init
theorem dX8_init_0 : decode cX8_init 0 = .ok (.aload_n 0, 1) := by decide +kernel
theorem dX8_init_1 : decode cX8_init 1 = .ok (.invokespecial 3, 3) := by decide +kernel
theorem dX8_init_4 : decode cX8_init 4 = .ok (.aload_n 0, 1) := by decide +kernel
theorem dX8_init_5 : decode cX8_init 5 = .ok (.new 9, 3) := by decide +kernel
theorem dX8_init_8 : decode cX8_init 8 = .ok (.dup, 1) := by decide +kernel
theorem dX8_init_9 : decode cX8_init 9 = .ok (.invokespecial 11, 3) := by decide +kernel
theorem dX8_init_12 : decode cX8_init 12 = .ok (.putfield 12, 3) := by decide +kernel
theorem dX8_init_15 : decode cX8_init 15 = .ok (.aload_n 0, 1) := by decide +kernel
theorem dX8_init_16 : decode cX8_init 16 = .ok (.new 9, 3) := by decide +kernel
theorem dX8_init_19 : decode cX8_init 19 = .ok (.dup, 1) := by decide +kernel
theorem dX8_init_20 : decode cX8_init 20 = .ok (.invokespecial 11, 3) := by decide +kernel
theorem dX8_init_23 : decode cX8_init 23 = .ok (.putfield 16, 3) := by decide +kernel
theorem dX8_init_26 : decode cX8_init 26 = .ok (.aload_n 0, 1) := by decide +kernel
theorem dX8_init_27 : decode cX8_init 27 = .ok (.new 19, 3) := by decide +kernel
theorem dX8_init_30 : decode cX8_init 30 = .ok (.dup, 1) := by decide +kernel
theorem dX8_init_31 : decode cX8_init 31 = .ok (.invokespecial 21, 3) := by decide +kernel
theorem dX8_init_34 : decode cX8_init 34 = .ok (.putfield 22, 3) := by decide +kernel
theorem dX8_init_37 : decode cX8_init 37 = .ok (.aload_n 0, 1) := by decide +kernel
theorem dX8_init_38 : decode cX8_init 38 = .ok (.new 26, 3) := by decide +kernel
theorem dX8_init_41 : decode cX8_init 41 = .ok (.dup, 1) := by decide +kernel
theorem dX8_init_42 : decode cX8_init 42 = .ok (.invokespecial 28, 3) := by decide +kernel
theorem dX8_init_45 : decode cX8_init 45 = .ok (.putfield 29, 3) := by decide +kernel
theorem dX8_init_48 : decode cX8_init 48 = .ok (.aload_n 0, 1) := by decide +kernel
theorem dX8_init_49 : decode cX8_init 49 = .ok (.bipush 12, 2) := by decide +kernel
theorem dX8_init_51 : decode cX8_init 51 = .ok (.newarray .int, 2) := by decide +kernel
theorem dX8_init_53 : decode cX8_init 53 = .ok (.putfield 33, 3) := by decide +kernel
theorem dX8_init_56 : decode cX8_init 56 = .ok (.aload_n 0, 1) := by decide +kernel
theorem dX8_init_57 : decode cX8_init 57 = .ok (.bipush 10, 2) := by decide +kernel
theorem dX8_init_59 : decode cX8_init 59 = .ok (.newarray .int, 2) := by decide +kernel
theorem dX8_init_61 : decode cX8_init 61 = .ok (.putfield 37, 3) := by decide +kernel
theorem dX8_init_64 : decode cX8_init 64 = .ok (.return_, 1) := by decide +kernel
set_option maxRecDepth 20000 in
theorem ggX8_addShelf_X8_requireHeight : GoodIn wsX8_addShelf wsX8_requireHeight := goodIn_ca (goodIn_r _ [9, 10, 11] (by decide +kernel) (by decide +kernel)) (goodIn_sub (fun _ h => List.mem_cons_of_mem _ (List.mem_append_right _ h)) (by decide +kernel))
set_option maxRecDepth 20000 in
theorem gX8_addShelf_X8_requireHeight : GoodIn wsX8_addShelf (wsV RX8 40 RX8 yX8_requireHeight wsX8_requireHeight) := goodIn_app (goodIn_of _ (by decide +kernel)) ggX8_addShelf_X8_requireHeight
set_option maxRecDepth 20000 in
theorem ggX8_addShelf_X8_requireEmptyWindow : GoodIn wsX8_addShelf wsX8_requireEmptyWindow := goodIn_ca (goodIn_r _ [15, 1, 2, 3, 124, 125, 126, 127, 128, 129, 130, 131, 132, 133, 134, 135, 136, 137, 138, 139, 140] (by decide +kernel) (by decide +kernel)) (goodIn_sub (fun _ h => List.mem_cons_of_mem _ (List.mem_append_left _ (List.mem_append_right _ h))) (by decide +kernel))
set_option maxRecDepth 20000 in
theorem gX8_addShelf_X8_requireEmptyWindow : GoodIn wsX8_addShelf (wsV RX8 61 RX8 yX8_requireEmptyWindow wsX8_requireEmptyWindow) := goodIn_app (goodIn_of _ (by decide +kernel)) ggX8_addShelf_X8_requireEmptyWindow
set_option maxRecDepth 20000 in
theorem ggX8_addShelf_X7_firstFree : GoodIn wsX8_addShelf wsX7_firstFree := goodIn_r _ [19, 20, 21, 22, 17, 23, 24, 25, 26, 27, 28, 29, 30, 31, 32, 33, 34, 35, 36, 135, 136, 137, 138, 139, 140] (by decide +kernel) (by decide +kernel)
set_option maxRecDepth 20000 in
theorem gX8_addShelf_X7_firstFree_n64 : GoodIn wsX8_addShelf (wsX7_firstFree) := ggX8_addShelf_X7_firstFree
set_option maxRecDepth 20000 in
theorem ggX8_addShelf_X1_save : GoodIn wsX8_addShelf wsX1_save := goodIn_r _ [40, 41, 42, 43, 44, 45, 46, 47, 48, 38, 49, 50, 51, 52, 53, 54, 55, 56, 17, 57, 58, 59, 60, 61, 62, 63, 64, 65, 66, 67, 68, 69, 70, 71, 72, 73, 24, 25, 74, 27, 26, 75, 76, 77, 78, 79, 80, 81, 82, 83, 84, 85, 86, 87, 88, 89, 90, 91, 92, 93, 94, 95, 96, 97, 98, 99, 100, 101, 102, 103, 104, 105, 106, 107, 108, 109, 110, 111, 112, 113, 114, 115, 116, 117, 118, 119, 120, 141, 142, 143, 130, 131, 132, 133, 134, 135, 136, 137, 138, 139, 140, 144, 145, 146, 147, 148, 149, 150, 151, 152, 153, 154, 155, 156] (by decide +kernel) (by decide +kernel)
set_option maxRecDepth 20000 in
theorem gX8_addShelf_X1_save_n70 : GoodIn wsX8_addShelf (wsX1_save) := ggX8_addShelf_X1_save
set_option maxRecDepth 20000 in
theorem ggX8_addShelf_X7_addAt : GoodIn wsX8_addShelf wsX7_addAt := goodIn_r _ [123, 24, 27, 26, 75, 76, 135, 136, 137, 138, 139, 140] (by decide +kernel) (by decide +kernel)
set_option maxRecDepth 20000 in
theorem gX8_addShelf_X7_addAt_n74 : GoodIn wsX8_addShelf (wsX7_addAt) := ggX8_addShelf_X7_addAt
theorem dX8_addShelf_0 : decode cX8_addShelf 0 = .ok (.aload_n 0, 1) := by decide +kernel
theorem dX8_addShelf_1 : decode cX8_addShelf 1 = .ok (.iload_n 1, 1) := by decide +kernel
theorem dX8_addShelf_2 : decode cX8_addShelf 2 = .ok (.invokevirtual 40, 3) := by decide +kernel
theorem dX8_addShelf_5 : decode cX8_addShelf 5 = .ok (.aload_n 0, 1) := by decide +kernel
theorem dX8_addShelf_6 : decode cX8_addShelf 6 = .ok (.getfield 12, 3) := by decide +kernel
theorem dX8_addShelf_9 : decode cX8_addShelf 9 = .ok (.getfield 44, 3) := by decide +kernel
theorem dX8_addShelf_12 : decode cX8_addShelf 12 = .ok (.getfield 48, 3) := by decide +kernel
theorem dX8_addShelf_15 : decode cX8_addShelf 15 = .ok (.bipush 12, 2) := by decide +kernel
theorem dX8_addShelf_17 : decode cX8_addShelf 17 = .ok (.if_icmp .lt 13, 3) := by decide +kernel
theorem dX8_addShelf_20 : decode cX8_addShelf 20 = .ok (.new 54, 3) := by decide +kernel
theorem dX8_addShelf_23 : decode cX8_addShelf 23 = .ok (.dup, 1) := by decide +kernel
theorem dX8_addShelf_24 : decode cX8_addShelf 24 = .ok (.ldc 56, 2) := by decide +kernel
theorem dX8_addShelf_26 : decode cX8_addShelf 26 = .ok (.invokespecial 58, 3) := by decide +kernel
theorem dX8_addShelf_29 : decode cX8_addShelf 29 = .ok (.athrow, 1) := by decide +kernel
theorem dX8_addShelf_30 : decode cX8_addShelf 30 = .ok (.aload_n 0, 1) := by decide +kernel
theorem dX8_addShelf_31 : decode cX8_addShelf 31 = .ok (.invokevirtual 61, 3) := by decide +kernel
theorem dX8_addShelf_34 : decode cX8_addShelf 34 = .ok (.aload_n 0, 1) := by decide +kernel
theorem dX8_addShelf_35 : decode cX8_addShelf 35 = .ok (.getfield 12, 3) := by decide +kernel
theorem dX8_addShelf_38 : decode cX8_addShelf 38 = .ok (.getfield 44, 3) := by decide +kernel
theorem dX8_addShelf_41 : decode cX8_addShelf 41 = .ok (.iload_n 1, 1) := by decide +kernel
theorem dX8_addShelf_42 : decode cX8_addShelf 42 = .ok (.invokevirtual 64, 3) := by decide +kernel
theorem dX8_addShelf_45 : decode cX8_addShelf 45 = .ok (.istore_n 2, 1) := by decide +kernel
theorem dX8_addShelf_46 : decode cX8_addShelf 46 = .ok (.iload_n 2, 1) := by decide +kernel
theorem dX8_addShelf_47 : decode cX8_addShelf 47 = .ok (.iconst (-1), 1) := by decide +kernel
theorem dX8_addShelf_48 : decode cX8_addShelf 48 = .ok (.if_icmp .ne 13, 3) := by decide +kernel
theorem dX8_addShelf_51 : decode cX8_addShelf 51 = .ok (.new 54, 3) := by decide +kernel
theorem dX8_addShelf_54 : decode cX8_addShelf 54 = .ok (.dup, 1) := by decide +kernel
theorem dX8_addShelf_55 : decode cX8_addShelf 55 = .ok (.ldc 68, 2) := by decide +kernel
theorem dX8_addShelf_57 : decode cX8_addShelf 57 = .ok (.invokespecial 58, 3) := by decide +kernel
theorem dX8_addShelf_60 : decode cX8_addShelf 60 = .ok (.athrow, 1) := by decide +kernel
theorem dX8_addShelf_61 : decode cX8_addShelf 61 = .ok (.aload_n 0, 1) := by decide +kernel
theorem dX8_addShelf_62 : decode cX8_addShelf 62 = .ok (.getfield 22, 3) := by decide +kernel
theorem dX8_addShelf_65 : decode cX8_addShelf 65 = .ok (.aload_n 0, 1) := by decide +kernel
theorem dX8_addShelf_66 : decode cX8_addShelf 66 = .ok (.getfield 12, 3) := by decide +kernel
theorem dX8_addShelf_69 : decode cX8_addShelf 69 = .ok (.invokevirtual 70, 3) := by decide +kernel
theorem dX8_addShelf_72 : decode cX8_addShelf 72 = .ok (.aload_n 0, 1) := by decide +kernel
theorem dX8_addShelf_73 : decode cX8_addShelf 73 = .ok (.getfield 12, 3) := by decide +kernel
theorem dX8_addShelf_76 : decode cX8_addShelf 76 = .ok (.getfield 44, 3) := by decide +kernel
theorem dX8_addShelf_79 : decode cX8_addShelf 79 = .ok (.iload_n 2, 1) := by decide +kernel
theorem dX8_addShelf_80 : decode cX8_addShelf 80 = .ok (.iload_n 1, 1) := by decide +kernel
theorem dX8_addShelf_81 : decode cX8_addShelf 81 = .ok (.invokevirtual 74, 3) := by decide +kernel
theorem dX8_addShelf_84 : decode cX8_addShelf 84 = .ok (.ireturn, 1) := by decide +kernel
set_option maxRecDepth 20000 in
theorem ggX8_scrap_X8_requireShelf : GoodIn wsX8_scrap wsX8_requireShelf := goodIn_ca (goodIn_r _ [9, 10, 11, 3, 111, 112, 113, 114, 115, 116, 117, 118, 119, 120, 121, 122, 123, 124, 125, 126, 127] (by decide +kernel) (by decide +kernel)) (goodIn_sub (fun _ h => List.mem_cons_of_mem _ (List.mem_append_right _ h)) (by decide +kernel))
set_option maxRecDepth 20000 in
theorem gX8_scrap_X8_requireShelf : GoodIn wsX8_scrap (wsV RX8 78 RX8 yX8_requireShelf wsX8_requireShelf) := goodIn_app (goodIn_of _ (by decide +kernel)) ggX8_scrap_X8_requireShelf
set_option maxRecDepth 20000 in
theorem ggX8_scrap_X7_isEmpty : GoodIn wsX8_scrap wsX7_isEmpty := goodIn_r _ [15, 16, 17, 18, 13, 19, 20, 122, 123, 124, 125, 126, 127] (by decide +kernel) (by decide +kernel)
set_option maxRecDepth 20000 in
theorem gX8_scrap_X7_isEmpty_n86 : GoodIn wsX8_scrap (wsX7_isEmpty) := ggX8_scrap_X7_isEmpty
set_option maxRecDepth 20000 in
theorem ggX8_scrap_X1_save : GoodIn wsX8_scrap wsX1_save := goodIn_r _ [24, 25, 26, 27, 28, 29, 30, 31, 32, 22, 33, 34, 35, 36, 37, 38, 39, 40, 13, 41, 42, 43, 44, 45, 46, 47, 48, 49, 50, 51, 52, 53, 54, 55, 56, 57, 58, 59, 60, 61, 62, 63, 20, 64, 65, 66, 67, 68, 69, 70, 71, 72, 73, 74, 75, 76, 77, 78, 79, 80, 81, 82, 83, 84, 85, 86, 87, 88, 89, 90, 91, 92, 93, 94, 95, 96, 97, 98, 99, 100, 101, 102, 103, 104, 105, 106, 107, 128, 129, 130, 117, 118, 119, 120, 121, 122, 123, 124, 125, 126, 127, 131, 132, 133, 134, 135, 136, 137, 138, 139, 140, 141, 142, 143] (by decide +kernel) (by decide +kernel)
set_option maxRecDepth 20000 in
theorem gX8_scrap_X1_save_n70 : GoodIn wsX8_scrap (wsX1_save) := ggX8_scrap_X1_save
set_option maxRecDepth 20000 in
theorem ggX8_scrap_X7_remove : GoodIn wsX8_scrap wsX7_remove := goodIn_r _ [110, 58, 61, 62, 63, 20, 93, 94, 95, 96, 59, 122, 123, 124, 125, 126, 127] (by decide +kernel) (by decide +kernel)
set_option maxRecDepth 20000 in
theorem gX8_scrap_X7_remove_n95 : GoodIn wsX8_scrap (wsX7_remove) := ggX8_scrap_X7_remove
theorem dX8_scrap_0 : decode cX8_scrap 0 = .ok (.aload_n 0, 1) := by decide +kernel
theorem dX8_scrap_1 : decode cX8_scrap 1 = .ok (.iload_n 1, 1) := by decide +kernel
theorem dX8_scrap_2 : decode cX8_scrap 2 = .ok (.invokevirtual 78, 3) := by decide +kernel
theorem dX8_scrap_5 : decode cX8_scrap 5 = .ok (.iload_n 1, 1) := by decide +kernel
theorem dX8_scrap_6 : decode cX8_scrap 6 = .ok (.aload_n 0, 1) := by decide +kernel
theorem dX8_scrap_7 : decode cX8_scrap 7 = .ok (.getfield 12, 3) := by decide +kernel
theorem dX8_scrap_10 : decode cX8_scrap 10 = .ok (.getfield 44, 3) := by decide +kernel
theorem dX8_scrap_13 : decode cX8_scrap 13 = .ok (.getfield 81, 3) := by decide +kernel
theorem dX8_scrap_16 : decode cX8_scrap 16 = .ok (.if_icmp .ne 13, 3) := by decide +kernel
theorem dX8_scrap_19 : decode cX8_scrap 19 = .ok (.new 54, 3) := by decide +kernel
theorem dX8_scrap_22 : decode cX8_scrap 22 = .ok (.dup, 1) := by decide +kernel
theorem dX8_scrap_23 : decode cX8_scrap 23 = .ok (.ldc 84, 2) := by decide +kernel
theorem dX8_scrap_25 : decode cX8_scrap 25 = .ok (.invokespecial 58, 3) := by decide +kernel
theorem dX8_scrap_28 : decode cX8_scrap 28 = .ok (.athrow, 1) := by decide +kernel
theorem dX8_scrap_29 : decode cX8_scrap 29 = .ok (.aload_n 0, 1) := by decide +kernel
theorem dX8_scrap_30 : decode cX8_scrap 30 = .ok (.getfield 12, 3) := by decide +kernel
theorem dX8_scrap_33 : decode cX8_scrap 33 = .ok (.getfield 44, 3) := by decide +kernel
theorem dX8_scrap_36 : decode cX8_scrap 36 = .ok (.iload_n 1, 1) := by decide +kernel
theorem dX8_scrap_37 : decode cX8_scrap 37 = .ok (.invokevirtual 86, 3) := by decide +kernel
theorem dX8_scrap_40 : decode cX8_scrap 40 = .ok (.ifCond .ne 13, 3) := by decide +kernel
theorem dX8_scrap_43 : decode cX8_scrap 43 = .ok (.new 54, 3) := by decide +kernel
theorem dX8_scrap_46 : decode cX8_scrap 46 = .ok (.dup, 1) := by decide +kernel
theorem dX8_scrap_47 : decode cX8_scrap 47 = .ok (.ldc 90, 2) := by decide +kernel
theorem dX8_scrap_49 : decode cX8_scrap 49 = .ok (.invokespecial 58, 3) := by decide +kernel
theorem dX8_scrap_52 : decode cX8_scrap 52 = .ok (.athrow, 1) := by decide +kernel
theorem dX8_scrap_53 : decode cX8_scrap 53 = .ok (.aload_n 0, 1) := by decide +kernel
theorem dX8_scrap_54 : decode cX8_scrap 54 = .ok (.getfield 22, 3) := by decide +kernel
theorem dX8_scrap_57 : decode cX8_scrap 57 = .ok (.aload_n 0, 1) := by decide +kernel
theorem dX8_scrap_58 : decode cX8_scrap 58 = .ok (.getfield 12, 3) := by decide +kernel
theorem dX8_scrap_61 : decode cX8_scrap 61 = .ok (.invokevirtual 70, 3) := by decide +kernel
theorem dX8_scrap_64 : decode cX8_scrap 64 = .ok (.aload_n 0, 1) := by decide +kernel
theorem dX8_scrap_65 : decode cX8_scrap 65 = .ok (.getfield 12, 3) := by decide +kernel
theorem dX8_scrap_68 : decode cX8_scrap 68 = .ok (.getfield 44, 3) := by decide +kernel
theorem dX8_scrap_71 : decode cX8_scrap 71 = .ok (.getfield 92, 3) := by decide +kernel
theorem dX8_scrap_74 : decode cX8_scrap 74 = .ok (.iload_n 1, 1) := by decide +kernel
theorem dX8_scrap_75 : decode cX8_scrap 75 = .ok (.iaload, 1) := by decide +kernel
theorem dX8_scrap_76 : decode cX8_scrap 76 = .ok (.istore_n 2, 1) := by decide +kernel
theorem dX8_scrap_77 : decode cX8_scrap 77 = .ok (.aload_n 0, 1) := by decide +kernel
theorem dX8_scrap_78 : decode cX8_scrap 78 = .ok (.getfield 12, 3) := by decide +kernel
theorem dX8_scrap_81 : decode cX8_scrap 81 = .ok (.getfield 44, 3) := by decide +kernel
theorem dX8_scrap_84 : decode cX8_scrap 84 = .ok (.iload_n 1, 1) := by decide +kernel
theorem dX8_scrap_85 : decode cX8_scrap 85 = .ok (.invokevirtual 95, 3) := by decide +kernel
theorem dX8_scrap_88 : decode cX8_scrap 88 = .ok (.iload_n 2, 1) := by decide +kernel
theorem dX8_scrap_89 : decode cX8_scrap 89 = .ok (.ireturn, 1) := by decide +kernel
set_option maxRecDepth 20000 in
theorem ggX8_fetch_X8_requireShelf : GoodIn wsX8_fetch wsX8_requireShelf := goodIn_ca (goodIn_r _ [7, 8, 9, 2, 124, 125, 126, 127, 128, 129, 130, 131, 132, 133, 134, 135, 136, 137, 138, 139, 140] (by decide +kernel) (by decide +kernel)) (goodIn_sub (fun _ h => List.mem_cons_of_mem _ (List.mem_append_left _ (List.mem_append_right _ h))) (by decide +kernel))
set_option maxRecDepth 20000 in
theorem gX8_fetch_X8_requireShelf : GoodIn wsX8_fetch (wsV RX8 78 RX8 yX8_requireShelf wsX8_requireShelf) := goodIn_app (goodIn_of _ (by decide +kernel)) ggX8_fetch_X8_requireShelf
set_option maxRecDepth 20000 in
theorem ggX8_fetch_X8_requireEmptyWindow : GoodIn wsX8_fetch wsX8_requireEmptyWindow := goodIn_ca (goodIn_r _ [13, 14, 15, 2, 124, 125, 126, 127, 128, 129, 130, 131, 132, 133, 134, 135, 136, 137, 138, 139, 140] (by decide +kernel) (by decide +kernel)) (goodIn_sub (fun _ h => List.mem_cons_of_mem _ (List.mem_append_right _ h)) (by decide +kernel))
set_option maxRecDepth 20000 in
theorem gX8_fetch_X8_requireEmptyWindow : GoodIn wsX8_fetch (wsV RX8 61 RX8 yX8_requireEmptyWindow wsX8_requireEmptyWindow) := goodIn_app (goodIn_of _ (by decide +kernel)) ggX8_fetch_X8_requireEmptyWindow
set_option maxRecDepth 20000 in
theorem ggX8_fetch_X1_save : GoodIn wsX8_fetch wsX1_save := goodIn_r _ [19, 20, 21, 22, 23, 24, 25, 26, 27, 17, 28, 29, 30, 31, 32, 33, 34, 35, 36, 37, 38, 39, 40, 41, 42, 43, 44, 45, 46, 47, 48, 49, 50, 51, 52, 53, 54, 55, 56, 57, 58, 59, 60, 61, 62, 63, 64, 65, 66, 67, 68, 69, 70, 71, 72, 73, 74, 75, 76, 77, 78, 79, 80, 81, 82, 83, 84, 85, 86, 87, 88, 89, 90, 91, 92, 93, 94, 95, 96, 97, 98, 99, 100, 101, 102, 103, 104, 141, 142, 143, 130, 131, 132, 133, 134, 135, 136, 137, 138, 139, 140, 144, 145, 146, 147, 148, 149, 150, 151, 152, 153, 154, 155, 156] (by decide +kernel) (by decide +kernel)
set_option maxRecDepth 20000 in
theorem gX8_fetch_X1_save_n70 : GoodIn wsX8_fetch (wsX1_save) := ggX8_fetch_X1_save
set_option maxRecDepth 20000 in
theorem ggX8_fetch_X6_bring : GoodIn wsX8_fetch wsX6_bring := goodIn_r _ [107, 41, 37, 108, 109, 110, 24, 111, 112, 113, 114, 115, 116, 36, 117, 118, 40, 119, 120, 69, 71, 68, 121, 122, 123, 66, 67, 64, 130, 131, 132, 133, 134, 135, 136, 137, 138, 139, 140, 144, 145, 146, 147, 148, 149, 150] (by decide +kernel) (by decide +kernel)
set_option maxRecDepth 20000 in
theorem gX8_fetch_X6_bring_n98 : GoodIn wsX8_fetch (wsX6_bring) := ggX8_fetch_X6_bring
theorem dX8_fetch_0 : decode cX8_fetch 0 = .ok (.aload_n 0, 1) := by decide +kernel
theorem dX8_fetch_1 : decode cX8_fetch 1 = .ok (.iload_n 1, 1) := by decide +kernel
theorem dX8_fetch_2 : decode cX8_fetch 2 = .ok (.invokevirtual 78, 3) := by decide +kernel
theorem dX8_fetch_5 : decode cX8_fetch 5 = .ok (.aload_n 0, 1) := by decide +kernel
theorem dX8_fetch_6 : decode cX8_fetch 6 = .ok (.invokevirtual 61, 3) := by decide +kernel
theorem dX8_fetch_9 : decode cX8_fetch 9 = .ok (.aload_n 0, 1) := by decide +kernel
theorem dX8_fetch_10 : decode cX8_fetch 10 = .ok (.getfield 22, 3) := by decide +kernel
theorem dX8_fetch_13 : decode cX8_fetch 13 = .ok (.aload_n 0, 1) := by decide +kernel
theorem dX8_fetch_14 : decode cX8_fetch 14 = .ok (.getfield 12, 3) := by decide +kernel
theorem dX8_fetch_17 : decode cX8_fetch 17 = .ok (.invokevirtual 70, 3) := by decide +kernel
theorem dX8_fetch_20 : decode cX8_fetch 20 = .ok (.aload_n 0, 1) := by decide +kernel
theorem dX8_fetch_21 : decode cX8_fetch 21 = .ok (.getfield 12, 3) := by decide +kernel
theorem dX8_fetch_24 : decode cX8_fetch 24 = .ok (.iload_n 1, 1) := by decide +kernel
theorem dX8_fetch_25 : decode cX8_fetch 25 = .ok (.invokevirtual 98, 3) := by decide +kernel
theorem dX8_fetch_28 : decode cX8_fetch 28 = .ok (.ireturn, 1) := by decide +kernel
set_option maxRecDepth 20000 in
theorem ggX8_stow_X8_requireShelfAtWindow : GoodIn wsX8_stow wsX8_requireShelfAtWindow := goodIn_ca (goodIn_r _ [7, 8, 9, 2, 131, 132, 133, 134, 135, 136, 137, 138, 139, 140, 141, 142, 143, 144, 145, 146, 147] (by decide +kernel) (by decide +kernel)) (goodIn_sub (fun _ h => List.mem_cons_of_mem _ (List.mem_append_right _ h)) (by decide +kernel))
set_option maxRecDepth 20000 in
theorem gX8_stow_X8_requireShelfAtWindow : GoodIn wsX8_stow (wsV RX8 101 RX8 yX8_requireShelfAtWindow wsX8_requireShelfAtWindow) := goodIn_app (goodIn_of _ (by decide +kernel)) ggX8_stow_X8_requireShelfAtWindow
set_option maxRecDepth 20000 in
theorem ggX8_stow_X1_save : GoodIn wsX8_stow wsX1_save := goodIn_r _ [13, 14, 15, 16, 17, 18, 19, 20, 21, 11, 22, 23, 24, 25, 26, 27, 28, 29, 30, 31, 32, 33, 34, 35, 36, 37, 38, 39, 40, 41, 42, 43, 44, 45, 46, 47, 48, 49, 50, 51, 52, 53, 54, 55, 56, 57, 58, 59, 60, 61, 62, 63, 64, 65, 66, 67, 68, 69, 70, 71, 72, 73, 74, 75, 76, 77, 78, 79, 80, 81, 82, 83, 84, 85, 86, 87, 88, 89, 90, 91, 92, 93, 94, 95, 96, 97, 98, 148, 149, 150, 137, 138, 139, 140, 141, 142, 143, 144, 145, 146, 147, 151, 152, 153, 154, 155, 156, 157, 158, 159, 160, 161, 162, 163] (by decide +kernel) (by decide +kernel)
set_option maxRecDepth 20000 in
theorem gX8_stow_X1_save_n70 : GoodIn wsX8_stow (wsX1_save) := ggX8_stow_X1_save
set_option maxRecDepth 20000 in
theorem ggX8_stow_X6_putBack : GoodIn wsX8_stow wsX6_putBack := goodIn_r _ [101, 31, 35, 102, 30, 103, 104, 105, 106, 107, 108, 48, 49, 52, 51, 109, 110, 111, 112, 113, 114, 115, 116, 117, 118, 119, 120, 18, 121, 122, 123, 124, 34, 125, 126, 63, 65, 62, 127, 128, 129, 130, 60, 61, 58, 137, 138, 139, 140, 141, 142, 143, 144, 145, 146, 147, 151, 152, 153, 154, 155, 156, 157] (by decide +kernel) (by decide +kernel)
set_option maxRecDepth 20000 in
theorem gX8_stow_X6_putBack_n104 : GoodIn wsX8_stow (wsX6_putBack) := ggX8_stow_X6_putBack
theorem dX8_stow_0 : decode cX8_stow 0 = .ok (.aload_n 0, 1) := by decide +kernel
theorem dX8_stow_1 : decode cX8_stow 1 = .ok (.invokevirtual 101, 3) := by decide +kernel
theorem dX8_stow_4 : decode cX8_stow 4 = .ok (.aload_n 0, 1) := by decide +kernel
theorem dX8_stow_5 : decode cX8_stow 5 = .ok (.getfield 22, 3) := by decide +kernel
theorem dX8_stow_8 : decode cX8_stow 8 = .ok (.aload_n 0, 1) := by decide +kernel
theorem dX8_stow_9 : decode cX8_stow 9 = .ok (.getfield 12, 3) := by decide +kernel
theorem dX8_stow_12 : decode cX8_stow 12 = .ok (.invokevirtual 70, 3) := by decide +kernel
theorem dX8_stow_15 : decode cX8_stow 15 = .ok (.aload_n 0, 1) := by decide +kernel
theorem dX8_stow_16 : decode cX8_stow 16 = .ok (.getfield 12, 3) := by decide +kernel
theorem dX8_stow_19 : decode cX8_stow 19 = .ok (.invokevirtual 104, 3) := by decide +kernel
theorem dX8_stow_22 : decode cX8_stow 22 = .ok (.ireturn, 1) := by decide +kernel
set_option maxRecDepth 20000 in
theorem ggX8_stowAt_X8_requireSlot : GoodIn wsX8_stowAt wsX8_requireSlot := goodIn_ca (goodIn_r _ [9, 10, 11, 12, 13, 14, 8, 15] (by decide +kernel) (by decide +kernel)) (goodIn_sub (fun _ h => List.mem_cons_of_mem _ (List.mem_append_right _ h)) (by decide +kernel))
set_option maxRecDepth 20000 in
theorem gX8_stowAt_X8_requireSlot : GoodIn wsX8_stowAt (wsV RX8 108 RX8 yX8_requireSlot wsX8_requireSlot) := goodIn_app (goodIn_of _ (by decide +kernel)) ggX8_stowAt_X8_requireSlot
set_option maxRecDepth 20000 in
theorem ggX8_stowAt_X8_requireShelfAtWindow : GoodIn wsX8_stowAt wsX8_requireShelfAtWindow := goodIn_ca (goodIn_r _ [19, 1, 2, 3, 129, 130, 131, 132, 133, 134, 135, 136, 137, 138, 139, 140, 141, 142, 143, 144, 145] (by decide +kernel) (by decide +kernel)) (goodIn_sub (fun _ h => List.mem_cons_of_mem _ (List.mem_append_left _ (List.mem_append_right _ h))) (by decide +kernel))
set_option maxRecDepth 20000 in
theorem gX8_stowAt_X8_requireShelfAtWindow : GoodIn wsX8_stowAt (wsV RX8 101 RX8 yX8_requireShelfAtWindow wsX8_requireShelfAtWindow) := goodIn_app (goodIn_of _ (by decide +kernel)) ggX8_stowAt_X8_requireShelfAtWindow
set_option maxRecDepth 20000 in
theorem ggX8_stowAt_X7_takenOn : GoodIn wsX8_stowAt wsX7_takenOn := goodIn_r _ [23, 24, 25, 26, 27, 28, 29, 21, 30, 140, 141, 142, 143, 144, 145] (by decide +kernel) (by decide +kernel)
set_option maxRecDepth 20000 in
theorem gX8_stowAt_X7_takenOn_n112 : GoodIn wsX8_stowAt (wsX7_takenOn) := ggX8_stowAt_X7_takenOn
set_option maxRecDepth 20000 in
theorem ggX8_stowAt_X7_fits : GoodIn wsX8_stowAt wsX7_fits := goodIn_r _ [32] (by decide +kernel) (by decide +kernel)
set_option maxRecDepth 20000 in
theorem gX8_stowAt_X7_fits_n115 : GoodIn wsX8_stowAt (wsX7_fits) := ggX8_stowAt_X7_fits
set_option maxRecDepth 20000 in
theorem ggX8_stowAt_X1_save : GoodIn wsX8_stowAt wsX1_save := goodIn_r _ [36, 37, 38, 39, 40, 41, 42, 43, 44, 34, 45, 46, 47, 48, 49, 50, 51, 52, 21, 53, 54, 55, 56, 57, 58, 59, 60, 61, 62, 63, 64, 65, 66, 67, 68, 69, 24, 25, 70, 27, 26, 71, 72, 73, 74, 75, 76, 77, 78, 79, 80, 81, 82, 83, 84, 85, 86, 87, 88, 89, 90, 91, 92, 93, 94, 95, 96, 97, 98, 99, 100, 101, 102, 103, 104, 105, 106, 107, 108, 109, 110, 111, 112, 113, 114, 115, 116, 146, 147, 148, 135, 136, 137, 138, 139, 140, 141, 142, 143, 144, 145, 149, 150, 151, 152, 153, 154, 155, 156, 157, 158, 159, 160, 161] (by decide +kernel) (by decide +kernel)
set_option maxRecDepth 20000 in
theorem gX8_stowAt_X1_save_n70 : GoodIn wsX8_stowAt (wsX1_save) := ggX8_stowAt_X1_save
set_option maxRecDepth 20000 in
theorem ggX8_stowAt_X6_putAt : GoodIn wsX8_stowAt wsX6_putAt := goodIn_r _ [119, 53, 57, 120, 21, 121, 122, 56, 123, 124, 81, 83, 80, 125, 126, 127, 128, 78, 79, 76, 135, 136, 137, 138, 139, 140, 141, 142, 143, 144, 145, 149, 150, 151, 152, 153, 154, 155] (by decide +kernel) (by decide +kernel)
set_option maxRecDepth 20000 in
theorem gX8_stowAt_X6_putAt_n121 : GoodIn wsX8_stowAt (wsX6_putAt) := ggX8_stowAt_X6_putAt
theorem dX8_stowAt_0 : decode cX8_stowAt 0 = .ok (.aload_n 0, 1) := by decide +kernel
theorem dX8_stowAt_1 : decode cX8_stowAt 1 = .ok (.iload_n 1, 1) := by decide +kernel
theorem dX8_stowAt_2 : decode cX8_stowAt 2 = .ok (.iload_n 2, 1) := by decide +kernel
theorem dX8_stowAt_3 : decode cX8_stowAt 3 = .ok (.invokevirtual 108, 3) := by decide +kernel
theorem dX8_stowAt_6 : decode cX8_stowAt 6 = .ok (.aload_n 0, 1) := by decide +kernel
theorem dX8_stowAt_7 : decode cX8_stowAt 7 = .ok (.invokevirtual 101, 3) := by decide +kernel
theorem dX8_stowAt_10 : decode cX8_stowAt 10 = .ok (.aload_n 0, 1) := by decide +kernel
theorem dX8_stowAt_11 : decode cX8_stowAt 11 = .ok (.getfield 12, 3) := by decide +kernel
theorem dX8_stowAt_14 : decode cX8_stowAt 14 = .ok (.getfield 44, 3) := by decide +kernel
theorem dX8_stowAt_17 : decode cX8_stowAt 17 = .ok (.astore_n 3, 1) := by decide +kernel
theorem dX8_stowAt_18 : decode cX8_stowAt 18 = .ok (.aload_n 3, 1) := by decide +kernel
theorem dX8_stowAt_19 : decode cX8_stowAt 19 = .ok (.iload_n 1, 1) := by decide +kernel
theorem dX8_stowAt_20 : decode cX8_stowAt 20 = .ok (.invokevirtual 112, 3) := by decide +kernel
theorem dX8_stowAt_23 : decode cX8_stowAt 23 = .ok (.iload_n 2, 1) := by decide +kernel
theorem dX8_stowAt_24 : decode cX8_stowAt 24 = .ok (.aload_n 3, 1) := by decide +kernel
theorem dX8_stowAt_25 : decode cX8_stowAt 25 = .ok (.getfield 92, 3) := by decide +kernel
theorem dX8_stowAt_28 : decode cX8_stowAt 28 = .ok (.aload_n 3, 1) := by decide +kernel
theorem dX8_stowAt_29 : decode cX8_stowAt 29 = .ok (.getfield 81, 3) := by decide +kernel
theorem dX8_stowAt_32 : decode cX8_stowAt 32 = .ok (.iaload, 1) := by decide +kernel
theorem dX8_stowAt_33 : decode cX8_stowAt 33 = .ok (.invokestatic 115, 3) := by decide +kernel
theorem dX8_stowAt_36 : decode cX8_stowAt 36 = .ok (.ifCond .ne 13, 3) := by decide +kernel
theorem dX8_stowAt_39 : decode cX8_stowAt 39 = .ok (.new 54, 3) := by decide +kernel
theorem dX8_stowAt_42 : decode cX8_stowAt 42 = .ok (.dup, 1) := by decide +kernel
theorem dX8_stowAt_43 : decode cX8_stowAt 43 = .ok (.ldc 119, 2) := by decide +kernel
theorem dX8_stowAt_45 : decode cX8_stowAt 45 = .ok (.invokespecial 58, 3) := by decide +kernel
theorem dX8_stowAt_48 : decode cX8_stowAt 48 = .ok (.athrow, 1) := by decide +kernel
theorem dX8_stowAt_49 : decode cX8_stowAt 49 = .ok (.aload_n 0, 1) := by decide +kernel
theorem dX8_stowAt_50 : decode cX8_stowAt 50 = .ok (.getfield 22, 3) := by decide +kernel
theorem dX8_stowAt_53 : decode cX8_stowAt 53 = .ok (.aload_n 0, 1) := by decide +kernel
theorem dX8_stowAt_54 : decode cX8_stowAt 54 = .ok (.getfield 12, 3) := by decide +kernel
theorem dX8_stowAt_57 : decode cX8_stowAt 57 = .ok (.invokevirtual 70, 3) := by decide +kernel
theorem dX8_stowAt_60 : decode cX8_stowAt 60 = .ok (.aload_n 0, 1) := by decide +kernel
theorem dX8_stowAt_61 : decode cX8_stowAt 61 = .ok (.getfield 12, 3) := by decide +kernel
theorem dX8_stowAt_64 : decode cX8_stowAt 64 = .ok (.iload_n 1, 1) := by decide +kernel
theorem dX8_stowAt_65 : decode cX8_stowAt 65 = .ok (.bipush 20, 2) := by decide +kernel
theorem dX8_stowAt_67 : decode cX8_stowAt 67 = .ok (.imul, 1) := by decide +kernel
theorem dX8_stowAt_68 : decode cX8_stowAt 68 = .ok (.iload_n 2, 1) := by decide +kernel
theorem dX8_stowAt_69 : decode cX8_stowAt 69 = .ok (.iadd, 1) := by decide +kernel
theorem dX8_stowAt_70 : decode cX8_stowAt 70 = .ok (.invokevirtual 121, 3) := by decide +kernel
theorem dX8_stowAt_73 : decode cX8_stowAt 73 = .ok (.ireturn, 1) := by decide +kernel
set_option maxRecDepth 20000 in
theorem ggX8_pack_X8_requirePackable : GoodIn wsX8_pack wsX8_requirePackable := goodIn_ca (goodIn_r _ [8, 9, 10, 2, 3, 11, 12, 13, 7, 14, 15, 16, 17, 18, 19, 20, 21, 22, 23, 24, 25, 26, 27, 28, 29, 30, 31, 32, 33, 34, 126, 127, 128, 129, 130, 131, 132, 133, 134, 135, 136, 137, 138, 139, 140, 141, 142] (by decide +kernel) (by decide +kernel)) (goodIn_sub (fun _ h => List.mem_cons_of_mem _ (List.mem_append_right _ h)) (by decide +kernel))
set_option maxRecDepth 20000 in
theorem gX8_pack_X8_requirePackable : GoodIn wsX8_pack (wsV RX8 124 RX8 yX8_requirePackable wsX8_requirePackable) := goodIn_app (goodIn_of _ (by decide +kernel)) ggX8_pack_X8_requirePackable
set_option maxRecDepth 20000 in
theorem ggX8_pack_X1_save : GoodIn wsX8_pack wsX1_save := goodIn_r _ [38, 39, 40, 41, 42, 43, 44, 45, 46, 36, 47, 48, 49, 50, 51, 52, 53, 54, 16, 55, 56, 57, 58, 59, 60, 61, 62, 63, 64, 65, 66, 67, 68, 69, 70, 71, 19, 72, 73, 20, 74, 25, 75, 76, 77, 78, 79, 80, 81, 82, 83, 84, 85, 86, 87, 88, 89, 90, 91, 92, 93, 94, 95, 96, 97, 98, 99, 100, 101, 102, 103, 104, 105, 106, 107, 108, 109, 110, 111, 112, 113, 114, 115, 116, 117, 118, 119, 143, 144, 145, 132, 133, 134, 135, 136, 137, 138, 139, 140, 141, 142, 146, 147, 148, 149, 150, 151, 152, 153, 154, 155, 156, 157, 158] (by decide +kernel) (by decide +kernel)
set_option maxRecDepth 20000 in
theorem gX8_pack_X1_save_n70 : GoodIn wsX8_pack (wsX1_save) := ggX8_pack_X1_save
set_option maxRecDepth 20000 in
theorem ggX8_pack_X7_countMoved : GoodIn wsX8_pack wsX7_countMoved := goodIn_r _ [122, 19, 74, 137, 138, 139, 140, 141, 142] (by decide +kernel) (by decide +kernel)
set_option maxRecDepth 20000 in
theorem gX8_pack_X7_countMoved_n127 : GoodIn wsX8_pack (wsX7_countMoved) := ggX8_pack_X7_countMoved
set_option maxRecDepth 20000 in
theorem ggX8_pack_X7_moveTo : GoodIn wsX8_pack wsX7_moveTo := goodIn_r _ [125, 19, 74, 137, 138, 139, 140, 141, 142] (by decide +kernel) (by decide +kernel)
set_option maxRecDepth 20000 in
theorem gX8_pack_X7_moveTo_n131 : GoodIn wsX8_pack (wsX7_moveTo) := ggX8_pack_X7_moveTo
theorem dX8_pack_0 : decode cX8_pack 0 = .ok (.aload_n 0, 1) := by decide +kernel
theorem dX8_pack_1 : decode cX8_pack 1 = .ok (.invokevirtual 124, 3) := by decide +kernel
theorem dX8_pack_4 : decode cX8_pack 4 = .ok (.aload_n 0, 1) := by decide +kernel
theorem dX8_pack_5 : decode cX8_pack 5 = .ok (.getfield 22, 3) := by decide +kernel
theorem dX8_pack_8 : decode cX8_pack 8 = .ok (.aload_n 0, 1) := by decide +kernel
theorem dX8_pack_9 : decode cX8_pack 9 = .ok (.getfield 12, 3) := by decide +kernel
theorem dX8_pack_12 : decode cX8_pack 12 = .ok (.invokevirtual 70, 3) := by decide +kernel
theorem dX8_pack_15 : decode cX8_pack 15 = .ok (.aload_n 0, 1) := by decide +kernel
theorem dX8_pack_16 : decode cX8_pack 16 = .ok (.getfield 12, 3) := by decide +kernel
theorem dX8_pack_19 : decode cX8_pack 19 = .ok (.getfield 44, 3) := by decide +kernel
theorem dX8_pack_22 : decode cX8_pack 22 = .ok (.aload_n 0, 1) := by decide +kernel
theorem dX8_pack_23 : decode cX8_pack 23 = .ok (.getfield 33, 3) := by decide +kernel
theorem dX8_pack_26 : decode cX8_pack 26 = .ok (.invokevirtual 127, 3) := by decide +kernel
theorem dX8_pack_29 : decode cX8_pack 29 = .ok (.istore_n 1, 1) := by decide +kernel
theorem dX8_pack_30 : decode cX8_pack 30 = .ok (.aload_n 0, 1) := by decide +kernel
theorem dX8_pack_31 : decode cX8_pack 31 = .ok (.getfield 12, 3) := by decide +kernel
theorem dX8_pack_34 : decode cX8_pack 34 = .ok (.getfield 44, 3) := by decide +kernel
theorem dX8_pack_37 : decode cX8_pack 37 = .ok (.aload_n 0, 1) := by decide +kernel
theorem dX8_pack_38 : decode cX8_pack 38 = .ok (.getfield 33, 3) := by decide +kernel
theorem dX8_pack_41 : decode cX8_pack 41 = .ok (.invokevirtual 131, 3) := by decide +kernel
theorem dX8_pack_44 : decode cX8_pack 44 = .ok (.iload_n 1, 1) := by decide +kernel
theorem dX8_pack_45 : decode cX8_pack 45 = .ok (.ireturn, 1) := by decide +kernel
set_option maxRecDepth 20000 in
theorem ggX8_fill_X8_requireKind : GoodIn wsX8_fill wsX8_requireKind := goodIn_ca (goodIn_r _ [9, 10, 11] (by decide +kernel) (by decide +kernel)) (goodIn_sub (fun _ h => List.mem_cons_of_mem _ (List.mem_append_left _ (List.mem_append_right _ h))) (by decide +kernel))
set_option maxRecDepth 20000 in
theorem gX8_fill_X8_requireKind : GoodIn wsX8_fill (wsV RX8 135 RX8 yX8_requireKind wsX8_requireKind) := goodIn_app (goodIn_of _ (by decide +kernel)) ggX8_fill_X8_requireKind
set_option maxRecDepth 20000 in
theorem ggX8_fill_X8_requireMany : GoodIn wsX8_fill wsX8_requireMany := goodIn_ca (goodIn_r _ [15, 16, 17] (by decide +kernel) (by decide +kernel)) (goodIn_sub (fun _ h => List.mem_cons_of_mem _ (List.mem_append_right _ h)) (by decide +kernel))
set_option maxRecDepth 20000 in
theorem gX8_fill_X8_requireMany : GoodIn wsX8_fill (wsV RX8 138 RX8 yX8_requireMany wsX8_requireMany) := goodIn_app (goodIn_of _ (by decide +kernel)) ggX8_fill_X8_requireMany
set_option maxRecDepth 20000 in
theorem ggX8_fill_X8_requireShelfAtWindow : GoodIn wsX8_fill wsX8_requireShelfAtWindow := goodIn_ca (goodIn_r _ [21, 1, 2, 3, 120, 121, 122, 123, 124, 125, 126, 127, 128, 129, 130, 131, 132, 133, 134, 135, 136] (by decide +kernel) (by decide +kernel)) (goodIn_sub (fun _ h => List.mem_cons_of_mem _ (List.mem_append_left _ (List.mem_append_left _ (List.mem_append_right _ h)))) (by decide +kernel))
set_option maxRecDepth 20000 in
theorem gX8_fill_X8_requireShelfAtWindow : GoodIn wsX8_fill (wsV RX8 101 RX8 yX8_requireShelfAtWindow wsX8_requireShelfAtWindow) := goodIn_app (goodIn_of _ (by decide +kernel)) ggX8_fill_X8_requireShelfAtWindow
set_option maxRecDepth 20000 in
theorem ggX8_fill_X6_weighShelf : GoodIn wsX8_fill wsX6_weighShelf := goodIn_r _ [25, 26, 27, 28, 29, 30, 31, 32, 126, 127, 128, 129, 130, 137, 138, 139, 140, 131, 132, 133, 134, 135, 136] (by decide +kernel) (by decide +kernel)
set_option maxRecDepth 20000 in
theorem gX8_fill_X6_weighShelf_n141 : GoodIn wsX8_fill (wsX6_weighShelf) := ggX8_fill_X6_weighShelf
set_option maxRecDepth 20000 in
theorem ggX8_fill_X1_save : GoodIn wsX8_fill wsX1_save := goodIn_r _ [36, 37, 38, 39, 40, 23, 41, 42, 43, 34, 44, 45, 46, 47, 48, 49, 50, 51, 29, 26, 52, 53, 54, 55, 56, 57, 58, 27, 59, 60, 61, 62, 63, 64, 65, 66, 67, 68, 69, 70, 71, 72, 32, 73, 74, 75, 76, 77, 78, 79, 80, 81, 82, 83, 84, 85, 86, 87, 88, 89, 90, 91, 92, 93, 94, 95, 96, 97, 98, 99, 100, 101, 102, 103, 104, 105, 106, 107, 108, 109, 110, 111, 112, 113, 114, 115, 116, 141, 142, 143, 126, 127, 128, 129, 130, 131, 132, 133, 134, 135, 136, 144, 145, 146, 147, 148, 149, 150, 137, 138, 139, 140, 151, 152] (by decide +kernel) (by decide +kernel)
set_option maxRecDepth 20000 in
theorem gX8_fill_X1_save_n70 : GoodIn wsX8_fill (wsX1_save) := ggX8_fill_X1_save
set_option maxRecDepth 20000 in
theorem ggX8_fill_X7_change : GoodIn wsX8_fill wsX7_change := goodIn_r _ [119, 32, 131, 132, 133, 134, 135, 136] (by decide +kernel) (by decide +kernel)
set_option maxRecDepth 20000 in
theorem gX8_fill_X7_change_n158 : GoodIn wsX8_fill (wsX7_change) := ggX8_fill_X7_change
theorem dX8_fill_0 : decode cX8_fill 0 = .ok (.aload_n 0, 1) := by decide +kernel
theorem dX8_fill_1 : decode cX8_fill 1 = .ok (.iload_n 1, 1) := by decide +kernel
theorem dX8_fill_2 : decode cX8_fill 2 = .ok (.invokevirtual 135, 3) := by decide +kernel
theorem dX8_fill_5 : decode cX8_fill 5 = .ok (.aload_n 0, 1) := by decide +kernel
theorem dX8_fill_6 : decode cX8_fill 6 = .ok (.iload_n 2, 1) := by decide +kernel
theorem dX8_fill_7 : decode cX8_fill 7 = .ok (.invokevirtual 138, 3) := by decide +kernel
theorem dX8_fill_10 : decode cX8_fill 10 = .ok (.aload_n 0, 1) := by decide +kernel
theorem dX8_fill_11 : decode cX8_fill 11 = .ok (.invokevirtual 101, 3) := by decide +kernel
theorem dX8_fill_14 : decode cX8_fill 14 = .ok (.aload_n 0, 1) := by decide +kernel
theorem dX8_fill_15 : decode cX8_fill 15 = .ok (.getfield 12, 3) := by decide +kernel
theorem dX8_fill_18 : decode cX8_fill 18 = .ok (.getfield 44, 3) := by decide +kernel
theorem dX8_fill_21 : decode cX8_fill 21 = .ok (.getfield 81, 3) := by decide +kernel
theorem dX8_fill_24 : decode cX8_fill 24 = .ok (.istore_n 3, 1) := by decide +kernel
theorem dX8_fill_25 : decode cX8_fill 25 = .ok (.aload_n 0, 1) := by decide +kernel
theorem dX8_fill_26 : decode cX8_fill 26 = .ok (.getfield 12, 3) := by decide +kernel
theorem dX8_fill_29 : decode cX8_fill 29 = .ok (.iload_n 3, 1) := by decide +kernel
theorem dX8_fill_30 : decode cX8_fill 30 = .ok (.invokevirtual 141, 3) := by decide +kernel
theorem dX8_fill_33 : decode cX8_fill 33 = .ok (.iload_n 2, 1) := by decide +kernel
theorem dX8_fill_34 : decode cX8_fill 34 = .ok (.aload_n 0, 1) := by decide +kernel
theorem dX8_fill_35 : decode cX8_fill 35 = .ok (.getfield 12, 3) := by decide +kernel
theorem dX8_fill_38 : decode cX8_fill 38 = .ok (.getfield 144, 3) := by decide +kernel
theorem dX8_fill_41 : decode cX8_fill 41 = .ok (.getfield 148, 3) := by decide +kernel
theorem dX8_fill_44 : decode cX8_fill 44 = .ok (.iload_n 1, 1) := by decide +kernel
theorem dX8_fill_45 : decode cX8_fill 45 = .ok (.iaload, 1) := by decide +kernel
theorem dX8_fill_46 : decode cX8_fill 46 = .ok (.imul, 1) := by decide +kernel
theorem dX8_fill_47 : decode cX8_fill 47 = .ok (.iadd, 1) := by decide +kernel
theorem dX8_fill_48 : decode cX8_fill 48 = .ok (.sipush 150, 3) := by decide +kernel
theorem dX8_fill_51 : decode cX8_fill 51 = .ok (.if_icmp .le 13, 3) := by decide +kernel
theorem dX8_fill_54 : decode cX8_fill 54 = .ok (.new 54, 3) := by decide +kernel
theorem dX8_fill_57 : decode cX8_fill 57 = .ok (.dup, 1) := by decide +kernel
theorem dX8_fill_58 : decode cX8_fill 58 = .ok (.ldc 153, 2) := by decide +kernel
theorem dX8_fill_60 : decode cX8_fill 60 = .ok (.invokespecial 58, 3) := by decide +kernel
theorem dX8_fill_63 : decode cX8_fill 63 = .ok (.athrow, 1) := by decide +kernel
theorem dX8_fill_64 : decode cX8_fill 64 = .ok (.aload_n 0, 1) := by decide +kernel
theorem dX8_fill_65 : decode cX8_fill 65 = .ok (.getfield 22, 3) := by decide +kernel
theorem dX8_fill_68 : decode cX8_fill 68 = .ok (.aload_n 0, 1) := by decide +kernel
theorem dX8_fill_69 : decode cX8_fill 69 = .ok (.getfield 12, 3) := by decide +kernel
theorem dX8_fill_72 : decode cX8_fill 72 = .ok (.invokevirtual 70, 3) := by decide +kernel
theorem dX8_fill_75 : decode cX8_fill 75 = .ok (.aload_n 0, 1) := by decide +kernel
theorem dX8_fill_76 : decode cX8_fill 76 = .ok (.getfield 12, 3) := by decide +kernel
theorem dX8_fill_79 : decode cX8_fill 79 = .ok (.getfield 144, 3) := by decide +kernel
theorem dX8_fill_82 : decode cX8_fill 82 = .ok (.getfield 155, 3) := by decide +kernel
theorem dX8_fill_85 : decode cX8_fill 85 = .ok (.iload_n 1, 1) := by decide +kernel
theorem dX8_fill_86 : decode cX8_fill 86 = .ok (.dup2, 1) := by decide +kernel
theorem dX8_fill_87 : decode cX8_fill 87 = .ok (.iaload, 1) := by decide +kernel
theorem dX8_fill_88 : decode cX8_fill 88 = .ok (.iload_n 2, 1) := by decide +kernel
theorem dX8_fill_89 : decode cX8_fill 89 = .ok (.iadd, 1) := by decide +kernel
theorem dX8_fill_90 : decode cX8_fill 90 = .ok (.iastore, 1) := by decide +kernel
theorem dX8_fill_91 : decode cX8_fill 91 = .ok (.aload_n 0, 1) := by decide +kernel
theorem dX8_fill_92 : decode cX8_fill 92 = .ok (.getfield 12, 3) := by decide +kernel
theorem dX8_fill_95 : decode cX8_fill 95 = .ok (.getfield 44, 3) := by decide +kernel
theorem dX8_fill_98 : decode cX8_fill 98 = .ok (.iload_n 3, 1) := by decide +kernel
theorem dX8_fill_99 : decode cX8_fill 99 = .ok (.iload_n 1, 1) := by decide +kernel
theorem dX8_fill_100 : decode cX8_fill 100 = .ok (.iload_n 2, 1) := by decide +kernel
theorem dX8_fill_101 : decode cX8_fill 101 = .ok (.invokevirtual 158, 3) := by decide +kernel
theorem dX8_fill_104 : decode cX8_fill 104 = .ok (.ireturn, 1) := by decide +kernel
set_option maxRecDepth 20000 in
theorem ggX8_take_X8_requireKind : GoodIn wsX8_take wsX8_requireKind := goodIn_ca (goodIn_r _ [9, 10, 11] (by decide +kernel) (by decide +kernel)) (goodIn_sub (fun _ h => List.mem_cons_of_mem _ (List.mem_append_left _ (List.mem_append_right _ h))) (by decide +kernel))
set_option maxRecDepth 20000 in
theorem gX8_take_X8_requireKind : GoodIn wsX8_take (wsV RX8 135 RX8 yX8_requireKind wsX8_requireKind) := goodIn_app (goodIn_of _ (by decide +kernel)) ggX8_take_X8_requireKind
set_option maxRecDepth 20000 in
theorem ggX8_take_X8_requireMany : GoodIn wsX8_take wsX8_requireMany := goodIn_ca (goodIn_r _ [15, 16, 17] (by decide +kernel) (by decide +kernel)) (goodIn_sub (fun _ h => List.mem_cons_of_mem _ (List.mem_append_right _ h)) (by decide +kernel))
set_option maxRecDepth 20000 in
theorem gX8_take_X8_requireMany : GoodIn wsX8_take (wsV RX8 138 RX8 yX8_requireMany wsX8_requireMany) := goodIn_app (goodIn_of _ (by decide +kernel)) ggX8_take_X8_requireMany
set_option maxRecDepth 20000 in
theorem ggX8_take_X8_requireShelfAtWindow : GoodIn wsX8_take wsX8_requireShelfAtWindow := goodIn_ca (goodIn_r _ [21, 1, 2, 3, 117, 118, 119, 120, 121, 122, 123, 124, 125, 126, 127, 128, 129, 130, 131, 132, 133] (by decide +kernel) (by decide +kernel)) (goodIn_sub (fun _ h => List.mem_cons_of_mem _ (List.mem_append_left _ (List.mem_append_left _ (List.mem_append_right _ h)))) (by decide +kernel))
set_option maxRecDepth 20000 in
theorem gX8_take_X8_requireShelfAtWindow : GoodIn wsX8_take (wsV RX8 101 RX8 yX8_requireShelfAtWindow wsX8_requireShelfAtWindow) := goodIn_app (goodIn_of _ (by decide +kernel)) ggX8_take_X8_requireShelfAtWindow
set_option maxRecDepth 20000 in
theorem ggX8_take_X7_countIn : GoodIn wsX8_take wsX7_countIn := goodIn_r _ [25, 26, 128, 129, 130, 131, 132, 133] (by decide +kernel) (by decide +kernel)
set_option maxRecDepth 20000 in
theorem gX8_take_X7_countIn_n162 : GoodIn wsX8_take (wsX7_countIn) := ggX8_take_X7_countIn
set_option maxRecDepth 20000 in
theorem ggX8_take_X1_save : GoodIn wsX8_take wsX1_save := goodIn_r _ [30, 31, 32, 33, 34, 35, 36, 37, 38, 28, 39, 40, 41, 42, 43, 44, 45, 46, 23, 47, 48, 49, 50, 51, 52, 53, 54, 55, 56, 57, 58, 59, 60, 61, 62, 63, 64, 65, 66, 67, 68, 69, 26, 70, 71, 72, 73, 74, 75, 76, 77, 78, 79, 80, 81, 82, 83, 84, 85, 86, 87, 88, 89, 90, 91, 92, 93, 94, 95, 96, 97, 98, 99, 100, 101, 102, 103, 104, 105, 106, 107, 108, 109, 110, 111, 112, 113, 138, 139, 140, 123, 124, 125, 126, 127, 128, 129, 130, 131, 132, 133, 141, 142, 143, 144, 145, 146, 147, 134, 135, 136, 137, 148, 149] (by decide +kernel) (by decide +kernel)
set_option maxRecDepth 20000 in
theorem gX8_take_X1_save_n70 : GoodIn wsX8_take (wsX1_save) := ggX8_take_X1_save
set_option maxRecDepth 20000 in
theorem ggX8_take_X7_change : GoodIn wsX8_take wsX7_change := goodIn_r _ [116, 26, 128, 129, 130, 131, 132, 133] (by decide +kernel) (by decide +kernel)
set_option maxRecDepth 20000 in
theorem gX8_take_X7_change_n158 : GoodIn wsX8_take (wsX7_change) := ggX8_take_X7_change
theorem dX8_take_0 : decode cX8_take 0 = .ok (.aload_n 0, 1) := by decide +kernel
theorem dX8_take_1 : decode cX8_take 1 = .ok (.iload_n 1, 1) := by decide +kernel
theorem dX8_take_2 : decode cX8_take 2 = .ok (.invokevirtual 135, 3) := by decide +kernel
theorem dX8_take_5 : decode cX8_take 5 = .ok (.aload_n 0, 1) := by decide +kernel
theorem dX8_take_6 : decode cX8_take 6 = .ok (.iload_n 2, 1) := by decide +kernel
theorem dX8_take_7 : decode cX8_take 7 = .ok (.invokevirtual 138, 3) := by decide +kernel
theorem dX8_take_10 : decode cX8_take 10 = .ok (.aload_n 0, 1) := by decide +kernel
theorem dX8_take_11 : decode cX8_take 11 = .ok (.invokevirtual 101, 3) := by decide +kernel
theorem dX8_take_14 : decode cX8_take 14 = .ok (.aload_n 0, 1) := by decide +kernel
theorem dX8_take_15 : decode cX8_take 15 = .ok (.getfield 12, 3) := by decide +kernel
theorem dX8_take_18 : decode cX8_take 18 = .ok (.getfield 44, 3) := by decide +kernel
theorem dX8_take_21 : decode cX8_take 21 = .ok (.getfield 81, 3) := by decide +kernel
theorem dX8_take_24 : decode cX8_take 24 = .ok (.istore_n 3, 1) := by decide +kernel
theorem dX8_take_25 : decode cX8_take 25 = .ok (.aload_n 0, 1) := by decide +kernel
theorem dX8_take_26 : decode cX8_take 26 = .ok (.getfield 12, 3) := by decide +kernel
theorem dX8_take_29 : decode cX8_take 29 = .ok (.getfield 44, 3) := by decide +kernel
theorem dX8_take_32 : decode cX8_take 32 = .ok (.iload_n 3, 1) := by decide +kernel
theorem dX8_take_33 : decode cX8_take 33 = .ok (.iload_n 1, 1) := by decide +kernel
theorem dX8_take_34 : decode cX8_take 34 = .ok (.invokevirtual 162, 3) := by decide +kernel
theorem dX8_take_37 : decode cX8_take 37 = .ok (.iload_n 2, 1) := by decide +kernel
theorem dX8_take_38 : decode cX8_take 38 = .ok (.if_icmp .ge 13, 3) := by decide +kernel
theorem dX8_take_41 : decode cX8_take 41 = .ok (.new 54, 3) := by decide +kernel
theorem dX8_take_44 : decode cX8_take 44 = .ok (.dup, 1) := by decide +kernel
theorem dX8_take_45 : decode cX8_take 45 = .ok (.ldc 165, 2) := by decide +kernel
theorem dX8_take_47 : decode cX8_take 47 = .ok (.invokespecial 58, 3) := by decide +kernel
theorem dX8_take_50 : decode cX8_take 50 = .ok (.athrow, 1) := by decide +kernel
theorem dX8_take_51 : decode cX8_take 51 = .ok (.aload_n 0, 1) := by decide +kernel
theorem dX8_take_52 : decode cX8_take 52 = .ok (.getfield 22, 3) := by decide +kernel
theorem dX8_take_55 : decode cX8_take 55 = .ok (.aload_n 0, 1) := by decide +kernel
theorem dX8_take_56 : decode cX8_take 56 = .ok (.getfield 12, 3) := by decide +kernel
theorem dX8_take_59 : decode cX8_take 59 = .ok (.invokevirtual 70, 3) := by decide +kernel
theorem dX8_take_62 : decode cX8_take 62 = .ok (.aload_n 0, 1) := by decide +kernel
theorem dX8_take_63 : decode cX8_take 63 = .ok (.getfield 12, 3) := by decide +kernel
theorem dX8_take_66 : decode cX8_take 66 = .ok (.getfield 144, 3) := by decide +kernel
theorem dX8_take_69 : decode cX8_take 69 = .ok (.getfield 167, 3) := by decide +kernel
theorem dX8_take_72 : decode cX8_take 72 = .ok (.iload_n 1, 1) := by decide +kernel
theorem dX8_take_73 : decode cX8_take 73 = .ok (.dup2, 1) := by decide +kernel
theorem dX8_take_74 : decode cX8_take 74 = .ok (.iaload, 1) := by decide +kernel
theorem dX8_take_75 : decode cX8_take 75 = .ok (.iload_n 2, 1) := by decide +kernel
theorem dX8_take_76 : decode cX8_take 76 = .ok (.iadd, 1) := by decide +kernel
theorem dX8_take_77 : decode cX8_take 77 = .ok (.iastore, 1) := by decide +kernel
theorem dX8_take_78 : decode cX8_take 78 = .ok (.aload_n 0, 1) := by decide +kernel
theorem dX8_take_79 : decode cX8_take 79 = .ok (.getfield 12, 3) := by decide +kernel
theorem dX8_take_82 : decode cX8_take 82 = .ok (.getfield 44, 3) := by decide +kernel
theorem dX8_take_85 : decode cX8_take 85 = .ok (.iload_n 3, 1) := by decide +kernel
theorem dX8_take_86 : decode cX8_take 86 = .ok (.iload_n 1, 1) := by decide +kernel
theorem dX8_take_87 : decode cX8_take 87 = .ok (.iload_n 2, 1) := by decide +kernel
theorem dX8_take_88 : decode cX8_take 88 = .ok (.ineg, 1) := by decide +kernel
theorem dX8_take_89 : decode cX8_take 89 = .ok (.invokevirtual 158, 3) := by decide +kernel
theorem dX8_take_92 : decode cX8_take 92 = .ok (.ireturn, 1) := by decide +kernel
set_option maxRecDepth 20000 in
theorem ggX8_accept_X5_isOrder : GoodIn wsX8_accept wsX5_isOrder := goodIn_r _ [11, 12, 13, 14, 15, 16, 9, 17, 18, 19, 20, 21, 22, 23, 24, 25, 26, 27, 28, 29, 30, 31, 32, 33, 34, 35, 36, 37, 38, 39, 40, 41, 42, 43, 149, 150, 151, 152, 153, 154] (by decide +kernel) (by decide +kernel)
set_option maxRecDepth 20000 in
theorem gX8_accept_X5_isOrder_n170 : GoodIn wsX8_accept (wsX5_isOrder) := ggX8_accept_X5_isOrder
set_option maxRecDepth 20000 in
theorem ggX8_accept_X1_save : GoodIn wsX8_accept wsX1_save := goodIn_r _ [47, 48, 49, 50, 51, 52, 53, 54, 55, 45, 56, 57, 58, 59, 60, 61, 62, 63, 64, 65, 66, 67, 68, 69, 70, 71, 72, 73, 74, 75, 76, 77, 78, 79, 80, 81, 82, 83, 84, 85, 86, 87, 88, 89, 90, 91, 92, 93, 94, 95, 96, 97, 98, 99, 100, 101, 102, 103, 104, 105, 106, 107, 108, 109, 110, 111, 112, 113, 114, 115, 116, 117, 118, 119, 120, 121, 122, 123, 124, 125, 126, 127, 128, 129, 130, 131, 132, 155, 156, 157, 142, 143, 144, 145, 146, 158, 159, 160, 161, 162, 163, 164, 165, 166, 167, 168, 169, 170, 171, 172, 173, 174, 147, 148] (by decide +kernel) (by decide +kernel)
set_option maxRecDepth 20000 in
theorem gX8_accept_X1_save_n70 : GoodIn wsX8_accept (wsX1_save) := ggX8_accept_X1_save
set_option maxRecDepth 20000 in
theorem ggX8_accept_X3_add : GoodIn wsX8_accept wsX3_add := goodIn_r _ [135, 110, 111, 147, 148] (by decide +kernel) (by decide +kernel)
set_option maxRecDepth 20000 in
theorem gX8_accept_X3_add_n197 : GoodIn wsX8_accept (wsX3_add) := ggX8_accept_X3_add
theorem dX8_accept_0 : decode cX8_accept 0 = .ok (.aload_n 0, 1) := by decide +kernel
theorem dX8_accept_1 : decode cX8_accept 1 = .ok (.getfield 29, 3) := by decide +kernel
theorem dX8_accept_4 : decode cX8_accept 4 = .ok (.invokevirtual 170, 3) := by decide +kernel
theorem dX8_accept_7 : decode cX8_accept 7 = .ok (.ifCond .ne 13, 3) := by decide +kernel
theorem dX8_accept_10 : decode cX8_accept 10 = .ok (.new 174, 3) := by decide +kernel
theorem dX8_accept_13 : decode cX8_accept 13 = .ok (.dup, 1) := by decide +kernel
theorem dX8_accept_14 : decode cX8_accept 14 = .ok (.ldc 176, 2) := by decide +kernel
theorem dX8_accept_16 : decode cX8_accept 16 = .ok (.invokespecial 178, 3) := by decide +kernel
theorem dX8_accept_19 : decode cX8_accept 19 = .ok (.athrow, 1) := by decide +kernel
theorem dX8_accept_20 : decode cX8_accept 20 = .ok (.aload_n 0, 1) := by decide +kernel
theorem dX8_accept_21 : decode cX8_accept 21 = .ok (.getfield 12, 3) := by decide +kernel
theorem dX8_accept_24 : decode cX8_accept 24 = .ok (.getfield 179, 3) := by decide +kernel
theorem dX8_accept_27 : decode cX8_accept 27 = .ok (.getfield 183, 3) := by decide +kernel
theorem dX8_accept_30 : decode cX8_accept 30 = .ok (.bipush 8, 2) := by decide +kernel
theorem dX8_accept_32 : decode cX8_accept 32 = .ok (.if_icmp .lt 13, 3) := by decide +kernel
theorem dX8_accept_35 : decode cX8_accept 35 = .ok (.new 54, 3) := by decide +kernel
theorem dX8_accept_38 : decode cX8_accept 38 = .ok (.dup, 1) := by decide +kernel
theorem dX8_accept_39 : decode cX8_accept 39 = .ok (.ldc 186, 2) := by decide +kernel
theorem dX8_accept_41 : decode cX8_accept 41 = .ok (.invokespecial 58, 3) := by decide +kernel
theorem dX8_accept_44 : decode cX8_accept 44 = .ok (.athrow, 1) := by decide +kernel
theorem dX8_accept_45 : decode cX8_accept 45 = .ok (.aload_n 0, 1) := by decide +kernel
theorem dX8_accept_46 : decode cX8_accept 46 = .ok (.getfield 22, 3) := by decide +kernel
theorem dX8_accept_49 : decode cX8_accept 49 = .ok (.aload_n 0, 1) := by decide +kernel
theorem dX8_accept_50 : decode cX8_accept 50 = .ok (.getfield 12, 3) := by decide +kernel
theorem dX8_accept_53 : decode cX8_accept 53 = .ok (.invokevirtual 70, 3) := by decide +kernel
theorem dX8_accept_56 : decode cX8_accept 56 = .ok (.aload_n 0, 1) := by decide +kernel
theorem dX8_accept_57 : decode cX8_accept 57 = .ok (.getfield 12, 3) := by decide +kernel
theorem dX8_accept_60 : decode cX8_accept 60 = .ok (.getfield 179, 3) := by decide +kernel
theorem dX8_accept_63 : decode cX8_accept 63 = .ok (.aload_n 0, 1) := by decide +kernel
theorem dX8_accept_64 : decode cX8_accept 64 = .ok (.getfield 29, 3) := by decide +kernel
theorem dX8_accept_67 : decode cX8_accept 67 = .ok (.getfield 188, 3) := by decide +kernel
theorem dX8_accept_70 : decode cX8_accept 70 = .ok (.getfield 192, 3) := by decide +kernel
theorem dX8_accept_73 : decode cX8_accept 73 = .ok (.invokevirtual 197, 3) := by decide +kernel
theorem dX8_accept_76 : decode cX8_accept 76 = .ok (.istore_n 1, 1) := by decide +kernel
theorem dX8_accept_77 : decode cX8_accept 77 = .ok (.aload_n 0, 1) := by decide +kernel
theorem dX8_accept_78 : decode cX8_accept 78 = .ok (.getfield 29, 3) := by decide +kernel
theorem dX8_accept_81 : decode cX8_accept 81 = .ok (.iconst 0, 1) := by decide +kernel
theorem dX8_accept_82 : decode cX8_accept 82 = .ok (.putfield 200, 3) := by decide +kernel
theorem dX8_accept_85 : decode cX8_accept 85 = .ok (.iload_n 1, 1) := by decide +kernel
theorem dX8_accept_86 : decode cX8_accept 86 = .ok (.ireturn, 1) := by decide +kernel
set_option maxRecDepth 20000 in
theorem ggX8_cancel_X8_requireOrder : GoodIn wsX8_cancel wsX8_requireOrder := goodIn_ca (goodIn_r _ [7, 8, 9, 2, 109, 110, 111, 112, 113, 114, 115, 116, 117, 118, 119, 120, 121] (by decide +kernel) (by decide +kernel)) (goodIn_sub (fun _ h => List.mem_cons_of_mem _ (List.mem_append_right _ h)) (by decide +kernel))
set_option maxRecDepth 20000 in
theorem gX8_cancel_X8_requireOrder : GoodIn wsX8_cancel (wsV RX8 203 RX8 yX8_requireOrder wsX8_requireOrder) := goodIn_app (goodIn_of _ (by decide +kernel)) ggX8_cancel_X8_requireOrder
set_option maxRecDepth 20000 in
theorem ggX8_cancel_X1_save : GoodIn wsX8_cancel wsX1_save := goodIn_r _ [13, 14, 15, 16, 17, 18, 19, 20, 21, 11, 22, 23, 24, 25, 26, 27, 28, 29, 30, 31, 32, 33, 34, 35, 36, 37, 38, 39, 40, 41, 42, 43, 44, 45, 46, 47, 48, 49, 50, 51, 52, 53, 54, 55, 56, 57, 58, 59, 60, 61, 62, 63, 64, 65, 66, 67, 68, 69, 70, 71, 72, 73, 74, 75, 76, 77, 78, 79, 80, 81, 82, 83, 84, 85, 86, 87, 88, 89, 90, 91, 92, 93, 94, 95, 96, 97, 98, 122, 123, 124, 115, 116, 117, 118, 119, 125, 126, 127, 128, 129, 130, 131, 132, 133, 134, 135, 136, 137, 138, 139, 140, 141, 120, 121] (by decide +kernel) (by decide +kernel)
set_option maxRecDepth 20000 in
theorem gX8_cancel_X1_save_n70 : GoodIn wsX8_cancel (wsX1_save) := ggX8_cancel_X1_save
set_option maxRecDepth 20000 in
theorem ggX8_cancel_X3_sumOf : GoodIn wsX8_cancel wsX3_sumOf := goodIn_r _ [101, 102, 103, 104, 42, 105, 77, 120, 121] (by decide +kernel) (by decide +kernel)
set_option maxRecDepth 20000 in
theorem gX8_cancel_X3_sumOf_n206 : GoodIn wsX8_cancel (wsX3_sumOf) := ggX8_cancel_X3_sumOf
set_option maxRecDepth 20000 in
theorem ggX8_cancel_X3_remove : GoodIn wsX8_cancel wsX3_remove := goodIn_r _ [108, 76, 77, 98, 85, 86, 87, 120, 121] (by decide +kernel) (by decide +kernel)
set_option maxRecDepth 20000 in
theorem gX8_cancel_X3_remove_n209 : GoodIn wsX8_cancel (wsX3_remove) := ggX8_cancel_X3_remove
theorem dX8_cancel_0 : decode cX8_cancel 0 = .ok (.aload_n 0, 1) := by decide +kernel
theorem dX8_cancel_1 : decode cX8_cancel 1 = .ok (.iload_n 1, 1) := by decide +kernel
theorem dX8_cancel_2 : decode cX8_cancel 2 = .ok (.invokevirtual 203, 3) := by decide +kernel
theorem dX8_cancel_5 : decode cX8_cancel 5 = .ok (.aload_n 0, 1) := by decide +kernel
theorem dX8_cancel_6 : decode cX8_cancel 6 = .ok (.getfield 22, 3) := by decide +kernel
theorem dX8_cancel_9 : decode cX8_cancel 9 = .ok (.aload_n 0, 1) := by decide +kernel
theorem dX8_cancel_10 : decode cX8_cancel 10 = .ok (.getfield 12, 3) := by decide +kernel
theorem dX8_cancel_13 : decode cX8_cancel 13 = .ok (.invokevirtual 70, 3) := by decide +kernel
theorem dX8_cancel_16 : decode cX8_cancel 16 = .ok (.aload_n 0, 1) := by decide +kernel
theorem dX8_cancel_17 : decode cX8_cancel 17 = .ok (.getfield 12, 3) := by decide +kernel
theorem dX8_cancel_20 : decode cX8_cancel 20 = .ok (.getfield 179, 3) := by decide +kernel
theorem dX8_cancel_23 : decode cX8_cancel 23 = .ok (.iload_n 1, 1) := by decide +kernel
theorem dX8_cancel_24 : decode cX8_cancel 24 = .ok (.invokevirtual 206, 3) := by decide +kernel
theorem dX8_cancel_27 : decode cX8_cancel 27 = .ok (.istore_n 2, 1) := by decide +kernel
theorem dX8_cancel_28 : decode cX8_cancel 28 = .ok (.aload_n 0, 1) := by decide +kernel
theorem dX8_cancel_29 : decode cX8_cancel 29 = .ok (.getfield 12, 3) := by decide +kernel
theorem dX8_cancel_32 : decode cX8_cancel 32 = .ok (.getfield 179, 3) := by decide +kernel
theorem dX8_cancel_35 : decode cX8_cancel 35 = .ok (.iload_n 1, 1) := by decide +kernel
theorem dX8_cancel_36 : decode cX8_cancel 36 = .ok (.invokevirtual 209, 3) := by decide +kernel
theorem dX8_cancel_39 : decode cX8_cancel 39 = .ok (.iload_n 2, 1) := by decide +kernel
theorem dX8_cancel_40 : decode cX8_cancel 40 = .ok (.ireturn, 1) := by decide +kernel
set_option maxRecDepth 20000 in
theorem ggX8_serve_X8_requireOrder : GoodIn wsX8_serve wsX8_requireOrder := goodIn_ca (goodIn_r _ [7, 8, 9, 2, 195, 196, 197, 198, 199, 200, 201, 202, 203, 204, 205, 206, 207] (by decide +kernel) (by decide +kernel)) (goodIn_sub (fun _ h => List.mem_cons_of_mem _ (List.mem_append_left _ (List.mem_append_right _ h))) (by decide +kernel))
set_option maxRecDepth 20000 in
theorem gX8_serve_X8_requireOrder : GoodIn wsX8_serve (wsV RX8 203 RX8 yX8_requireOrder wsX8_requireOrder) := goodIn_app (goodIn_of _ (by decide +kernel)) ggX8_serve_X8_requireOrder
set_option maxRecDepth 20000 in
theorem ggX8_serve_X8_requireEmptyWindow : GoodIn wsX8_serve wsX8_requireEmptyWindow := goodIn_ca (goodIn_r _ [13, 14, 15, 2, 195, 196, 197, 198, 199, 200, 201, 202, 203, 204, 205, 208, 209, 210, 211, 212, 213] (by decide +kernel) (by decide +kernel)) (goodIn_sub (fun _ h => List.mem_cons_of_mem _ (List.mem_append_right _ h)) (by decide +kernel))
set_option maxRecDepth 20000 in
theorem gX8_serve_X8_requireEmptyWindow : GoodIn wsX8_serve (wsV RX8 61 RX8 yX8_requireEmptyWindow wsX8_requireEmptyWindow) := goodIn_app (goodIn_of _ (by decide +kernel)) ggX8_serve_X8_requireEmptyWindow
set_option maxRecDepth 20000 in
theorem ggX8_serve_X8_requireServable : GoodIn wsX8_serve wsX8_requireServable := goodIn_ca (goodIn_r _ [19, 14, 15, 2, 20, 21, 22, 23, 24, 25, 26, 27, 28, 29, 30, 31, 32, 33, 34, 35, 36, 37, 38, 39, 195, 196, 197, 198, 199, 200, 201, 202, 203, 204, 205, 208, 209, 210, 211, 212, 213, 206, 207] (by decide +kernel) (by decide +kernel)) (goodIn_sub (fun _ h => List.mem_cons_of_mem _ (List.mem_append_right _ h)) (by decide +kernel))
set_option maxRecDepth 20000 in
theorem gX8_serve_X8_requireServable : GoodIn wsX8_serve (wsV RX8 210 RX8 yX8_requireServable wsX8_requireServable) := goodIn_app (goodIn_of _ (by decide +kernel)) ggX8_serve_X8_requireServable
set_option maxRecDepth 20000 in
theorem ggX8_serve_X1_save : GoodIn wsX8_serve wsX1_save := goodIn_r _ [43, 44, 45, 46, 47, 21, 48, 49, 50, 41, 51, 52, 53, 54, 55, 56, 57, 58, 36, 24, 59, 60, 61, 62, 63, 64, 65, 66, 67, 68, 31, 29, 69, 70, 71, 72, 73, 74, 75, 76, 77, 78, 39, 79, 80, 81, 82, 83, 84, 85, 86, 87, 88, 89, 90, 91, 92, 93, 94, 95, 96, 97, 98, 99, 100, 34, 101, 102, 103, 104, 105, 106, 107, 108, 109, 110, 111, 112, 113, 114, 115, 116, 117, 118, 119, 120, 121, 214, 215, 216, 201, 202, 203, 204, 205, 208, 209, 210, 211, 212, 213, 217, 218, 219, 220, 221, 222, 223, 224, 225, 226, 227, 206, 207] (by decide +kernel) (by decide +kernel)
set_option maxRecDepth 20000 in
theorem gX8_serve_X1_save_n70 : GoodIn wsX8_serve (wsX1_save) := ggX8_serve_X1_save
set_option maxRecDepth 20000 in
theorem ggX8_serve_X6_serveOne : GoodIn wsX8_serve wsX6_serveOne := goodIn_r _ [124, 62, 24, 29, 69, 125, 126, 127, 21, 128, 129, 130, 131, 132, 30, 31, 32, 33, 34, 35, 36, 37, 38, 39, 133, 134, 135, 136, 137, 138, 139, 25, 26, 27, 28, 140, 141, 142, 143, 144, 145, 146, 147, 148, 149, 150, 151, 152, 153, 154, 61, 155, 156, 87, 89, 86, 157, 158, 159, 84, 85, 82, 160, 161, 162, 163, 164, 66, 165, 166, 167, 168, 169, 170, 171, 172, 173, 174, 175, 176, 177, 178, 73, 74, 77, 76, 179, 180, 181, 182, 183, 184, 185, 186, 187, 188, 189, 190, 191, 192, 193, 194, 100, 121, 108, 109, 110, 201, 202, 203, 204, 205, 217, 218, 219, 220, 221, 222, 223, 208, 209, 210, 211, 212, 213, 206, 207, 224, 225, 226, 227] (by decide +kernel) (by decide +kernel)
set_option maxRecDepth 20000 in
theorem gX8_serve_X6_serveOne_n213 : GoodIn wsX8_serve (wsX6_serveOne) := ggX8_serve_X6_serveOne
theorem dX8_serve_0 : decode cX8_serve 0 = .ok (.aload_n 0, 1) := by decide +kernel
theorem dX8_serve_1 : decode cX8_serve 1 = .ok (.iload_n 1, 1) := by decide +kernel
theorem dX8_serve_2 : decode cX8_serve 2 = .ok (.invokevirtual 203, 3) := by decide +kernel
theorem dX8_serve_5 : decode cX8_serve 5 = .ok (.aload_n 0, 1) := by decide +kernel
theorem dX8_serve_6 : decode cX8_serve 6 = .ok (.invokevirtual 61, 3) := by decide +kernel
theorem dX8_serve_9 : decode cX8_serve 9 = .ok (.aload_n 0, 1) := by decide +kernel
theorem dX8_serve_10 : decode cX8_serve 10 = .ok (.iload_n 1, 1) := by decide +kernel
theorem dX8_serve_11 : decode cX8_serve 11 = .ok (.invokevirtual 210, 3) := by decide +kernel
theorem dX8_serve_14 : decode cX8_serve 14 = .ok (.aload_n 0, 1) := by decide +kernel
theorem dX8_serve_15 : decode cX8_serve 15 = .ok (.getfield 22, 3) := by decide +kernel
theorem dX8_serve_18 : decode cX8_serve 18 = .ok (.aload_n 0, 1) := by decide +kernel
theorem dX8_serve_19 : decode cX8_serve 19 = .ok (.getfield 12, 3) := by decide +kernel
theorem dX8_serve_22 : decode cX8_serve 22 = .ok (.invokevirtual 70, 3) := by decide +kernel
theorem dX8_serve_25 : decode cX8_serve 25 = .ok (.aload_n 0, 1) := by decide +kernel
theorem dX8_serve_26 : decode cX8_serve 26 = .ok (.getfield 12, 3) := by decide +kernel
theorem dX8_serve_29 : decode cX8_serve 29 = .ok (.iload_n 1, 1) := by decide +kernel
theorem dX8_serve_30 : decode cX8_serve 30 = .ok (.invokevirtual 213, 3) := by decide +kernel
theorem dX8_serve_33 : decode cX8_serve 33 = .ok (.ireturn, 1) := by decide +kernel
set_option maxRecDepth 20000 in
theorem ggX8_serveAll_X8_requireEmptyWindow : GoodIn wsX8_serveAll wsX8_requireEmptyWindow := goodIn_ca (goodIn_r _ [7, 8, 9, 2, 194, 195, 196, 197, 198, 199, 200, 201, 202, 203, 204, 205, 206, 207, 208, 209, 210] (by decide +kernel) (by decide +kernel)) (goodIn_sub (fun _ h => List.mem_cons_of_mem _ (List.mem_append_right _ h)) (by decide +kernel))
set_option maxRecDepth 20000 in
theorem gX8_serveAll_X8_requireEmptyWindow : GoodIn wsX8_serveAll (wsV RX8 61 RX8 yX8_requireEmptyWindow wsX8_requireEmptyWindow) := goodIn_app (goodIn_of _ (by decide +kernel)) ggX8_serveAll_X8_requireEmptyWindow
set_option maxRecDepth 20000 in
theorem ggX8_serveAll_X1_save : GoodIn wsX8_serveAll wsX1_save := goodIn_r _ [13, 14, 15, 16, 17, 18, 19, 20, 21, 11, 22, 23, 24, 25, 26, 27, 28, 29, 30, 31, 32, 33, 34, 35, 36, 37, 38, 39, 40, 41, 42, 43, 44, 45, 46, 47, 48, 49, 50, 51, 52, 53, 54, 55, 56, 57, 58, 59, 60, 61, 62, 63, 64, 65, 66, 67, 68, 69, 70, 71, 72, 73, 74, 75, 76, 77, 78, 79, 80, 81, 82, 83, 84, 85, 86, 87, 88, 89, 90, 91, 92, 93, 94, 95, 96, 97, 98, 211, 212, 213, 200, 201, 202, 203, 204, 205, 206, 207, 208, 209, 210, 214, 215, 216, 217, 218, 219, 220, 221, 222, 223, 224, 225, 226] (by decide +kernel) (by decide +kernel)
set_option maxRecDepth 20000 in
theorem gX8_serveAll_X1_save_n70 : GoodIn wsX8_serveAll (wsX1_save) := ggX8_serveAll_X1_save
set_option maxRecDepth 20000 in
theorem ggX8_serveAll_X6_serveEach : GoodIn wsX8_serveAll wsX6_serveEach := goodIn_r _ [101, 102, 103, 104, 18, 105, 43, 106, 107, 108, 109, 31, 110, 111, 112, 113, 114, 42, 115, 116, 77, 117, 30, 118, 119, 54, 120, 121, 122, 123, 35, 44, 124, 125, 126, 127, 128, 129, 130, 131, 132, 133, 134, 135, 136, 137, 138, 139, 140, 141, 142, 143, 144, 145, 146, 147, 148, 149, 150, 151, 152, 153, 34, 154, 155, 63, 65, 62, 156, 157, 158, 60, 61, 58, 159, 160, 161, 162, 163, 39, 164, 165, 166, 167, 168, 169, 170, 171, 172, 173, 174, 175, 176, 177, 48, 49, 52, 51, 178, 179, 180, 181, 182, 183, 184, 185, 186, 187, 188, 189, 190, 191, 192, 193, 76, 98, 85, 86, 87, 200, 201, 202, 203, 204, 225, 226, 205, 206, 207, 208, 209, 210, 214, 215, 216, 217, 218, 219, 220, 221, 222, 223, 224] (by decide +kernel) (by decide +kernel)
set_option maxRecDepth 20000 in
theorem gX8_serveAll_X6_serveEach_n216 : GoodIn wsX8_serveAll (wsX6_serveEach) := ggX8_serveAll_X6_serveEach
theorem dX8_serveAll_0 : decode cX8_serveAll 0 = .ok (.aload_n 0, 1) := by decide +kernel
theorem dX8_serveAll_1 : decode cX8_serveAll 1 = .ok (.invokevirtual 61, 3) := by decide +kernel
theorem dX8_serveAll_4 : decode cX8_serveAll 4 = .ok (.aload_n 0, 1) := by decide +kernel
theorem dX8_serveAll_5 : decode cX8_serveAll 5 = .ok (.getfield 22, 3) := by decide +kernel
theorem dX8_serveAll_8 : decode cX8_serveAll 8 = .ok (.aload_n 0, 1) := by decide +kernel
theorem dX8_serveAll_9 : decode cX8_serveAll 9 = .ok (.getfield 12, 3) := by decide +kernel
theorem dX8_serveAll_12 : decode cX8_serveAll 12 = .ok (.invokevirtual 70, 3) := by decide +kernel
theorem dX8_serveAll_15 : decode cX8_serveAll 15 = .ok (.aload_n 0, 1) := by decide +kernel
theorem dX8_serveAll_16 : decode cX8_serveAll 16 = .ok (.getfield 12, 3) := by decide +kernel
theorem dX8_serveAll_19 : decode cX8_serveAll 19 = .ok (.invokevirtual 216, 3) := by decide +kernel
theorem dX8_serveAll_22 : decode cX8_serveAll 22 = .ok (.ireturn, 1) := by decide +kernel
set_option maxRecDepth 20000 in
theorem ggX8_changeLeast_X8_requireKind : GoodIn wsX8_changeLeast wsX8_requireKind := goodIn_ca (goodIn_r _ [9, 10, 11] (by decide +kernel) (by decide +kernel)) (goodIn_sub (fun _ h => List.mem_cons_of_mem _ (List.mem_append_right _ h)) (by decide +kernel))
set_option maxRecDepth 20000 in
theorem gX8_changeLeast_X8_requireKind : GoodIn wsX8_changeLeast (wsV RX8 135 RX8 yX8_requireKind wsX8_requireKind) := goodIn_app (goodIn_of _ (by decide +kernel)) ggX8_changeLeast_X8_requireKind
set_option maxRecDepth 20000 in
theorem ggX8_changeLeast_X1_save : GoodIn wsX8_changeLeast wsX1_save := goodIn_r _ [15, 16, 17, 18, 19, 20, 21, 22, 23, 13, 24, 25, 26, 27, 28, 29, 30, 31, 32, 33, 34, 35, 36, 37, 38, 39, 40, 41, 42, 43, 44, 45, 46, 47, 48, 49, 50, 51, 52, 53, 54, 55, 56, 57, 58, 59, 60, 61, 62, 63, 64, 65, 66, 67, 68, 69, 70, 71, 72, 73, 74, 75, 76, 77, 78, 79, 80, 81, 82, 83, 84, 85, 86, 87, 88, 89, 90, 91, 92, 93, 94, 95, 96, 97, 98, 99, 100, 116, 117, 118, 107, 108, 109, 110, 111, 119, 120, 121, 122, 123, 124, 125, 126, 127, 128, 129, 130, 131, 112, 113, 114, 115, 132, 133] (by decide +kernel) (by decide +kernel)
set_option maxRecDepth 20000 in
theorem gX8_changeLeast_X1_save_n70 : GoodIn wsX8_changeLeast (wsX1_save) := ggX8_changeLeast_X1_save
theorem dX8_changeLeast_0 : decode cX8_changeLeast 0 = .ok (.aload_n 0, 1) := by decide +kernel
theorem dX8_changeLeast_1 : decode cX8_changeLeast 1 = .ok (.iload_n 1, 1) := by decide +kernel
theorem dX8_changeLeast_2 : decode cX8_changeLeast 2 = .ok (.invokevirtual 135, 3) := by decide +kernel
theorem dX8_changeLeast_5 : decode cX8_changeLeast 5 = .ok (.iload_n 2, 1) := by decide +kernel
theorem dX8_changeLeast_6 : decode cX8_changeLeast 6 = .ok (.ifCond .lt 9, 3) := by decide +kernel
theorem dX8_changeLeast_9 : decode cX8_changeLeast 9 = .ok (.iload_n 2, 1) := by decide +kernel
theorem dX8_changeLeast_10 : decode cX8_changeLeast 10 = .ok (.bipush 99, 2) := by decide +kernel
theorem dX8_changeLeast_12 : decode cX8_changeLeast 12 = .ok (.if_icmp .le 13, 3) := by decide +kernel
theorem dX8_changeLeast_15 : decode cX8_changeLeast 15 = .ok (.new 174, 3) := by decide +kernel
theorem dX8_changeLeast_18 : decode cX8_changeLeast 18 = .ok (.dup, 1) := by decide +kernel
theorem dX8_changeLeast_19 : decode cX8_changeLeast 19 = .ok (.ldc 219, 2) := by decide +kernel
theorem dX8_changeLeast_21 : decode cX8_changeLeast 21 = .ok (.invokespecial 178, 3) := by decide +kernel
theorem dX8_changeLeast_24 : decode cX8_changeLeast 24 = .ok (.athrow, 1) := by decide +kernel
theorem dX8_changeLeast_25 : decode cX8_changeLeast 25 = .ok (.aload_n 0, 1) := by decide +kernel
theorem dX8_changeLeast_26 : decode cX8_changeLeast 26 = .ok (.getfield 22, 3) := by decide +kernel
theorem dX8_changeLeast_29 : decode cX8_changeLeast 29 = .ok (.aload_n 0, 1) := by decide +kernel
theorem dX8_changeLeast_30 : decode cX8_changeLeast 30 = .ok (.getfield 12, 3) := by decide +kernel
theorem dX8_changeLeast_33 : decode cX8_changeLeast 33 = .ok (.invokevirtual 70, 3) := by decide +kernel
theorem dX8_changeLeast_36 : decode cX8_changeLeast 36 = .ok (.aload_n 0, 1) := by decide +kernel
theorem dX8_changeLeast_37 : decode cX8_changeLeast 37 = .ok (.getfield 12, 3) := by decide +kernel
theorem dX8_changeLeast_40 : decode cX8_changeLeast 40 = .ok (.getfield 144, 3) := by decide +kernel
theorem dX8_changeLeast_43 : decode cX8_changeLeast 43 = .ok (.getfield 221, 3) := by decide +kernel
theorem dX8_changeLeast_46 : decode cX8_changeLeast 46 = .ok (.iload_n 1, 1) := by decide +kernel
theorem dX8_changeLeast_47 : decode cX8_changeLeast 47 = .ok (.iaload, 1) := by decide +kernel
theorem dX8_changeLeast_48 : decode cX8_changeLeast 48 = .ok (.istore_n 3, 1) := by decide +kernel
theorem dX8_changeLeast_49 : decode cX8_changeLeast 49 = .ok (.aload_n 0, 1) := by decide +kernel
theorem dX8_changeLeast_50 : decode cX8_changeLeast 50 = .ok (.getfield 12, 3) := by decide +kernel
theorem dX8_changeLeast_53 : decode cX8_changeLeast 53 = .ok (.getfield 144, 3) := by decide +kernel
theorem dX8_changeLeast_56 : decode cX8_changeLeast 56 = .ok (.getfield 221, 3) := by decide +kernel
theorem dX8_changeLeast_59 : decode cX8_changeLeast 59 = .ok (.iload_n 1, 1) := by decide +kernel
theorem dX8_changeLeast_60 : decode cX8_changeLeast 60 = .ok (.iload_n 2, 1) := by decide +kernel
theorem dX8_changeLeast_61 : decode cX8_changeLeast 61 = .ok (.iastore, 1) := by decide +kernel
theorem dX8_changeLeast_62 : decode cX8_changeLeast 62 = .ok (.iload_n 3, 1) := by decide +kernel
theorem dX8_changeLeast_63 : decode cX8_changeLeast 63 = .ok (.ireturn, 1) := by decide +kernel
set_option maxRecDepth 20000 in
theorem ggX8_changeWeight_X8_requireKind : GoodIn wsX8_changeWeight wsX8_requireKind := goodIn_ca (goodIn_r _ [11, 12, 13] (by decide +kernel) (by decide +kernel)) (goodIn_sub (fun _ h => List.mem_cons_of_mem _ (List.mem_append_right _ h)) (by decide +kernel))
set_option maxRecDepth 20000 in
theorem gX8_changeWeight_X8_requireKind : GoodIn wsX8_changeWeight (wsV RX8 135 RX8 yX8_requireKind wsX8_requireKind) := goodIn_app (goodIn_of _ (by decide +kernel)) ggX8_changeWeight_X8_requireKind
set_option maxRecDepth 20000 in
theorem ggX8_changeWeight_X6_wouldBeTooHeavy : GoodIn wsX8_changeWeight wsX6_wouldBeTooHeavy := goodIn_r _ [17, 18, 19, 20, 21, 22, 15, 23, 24, 25, 26, 27, 28, 119, 120, 121, 122, 123, 124, 125, 126, 127, 128, 129, 130, 131, 132, 133] (by decide +kernel) (by decide +kernel)
set_option maxRecDepth 20000 in
theorem gX8_changeWeight_X6_wouldBeTooHeavy_n226 : GoodIn wsX8_changeWeight (wsX6_wouldBeTooHeavy) := ggX8_changeWeight_X6_wouldBeTooHeavy
set_option maxRecDepth 20000 in
theorem ggX8_changeWeight_X1_save : GoodIn wsX8_changeWeight wsX1_save := goodIn_r _ [32, 33, 34, 35, 36, 15, 37, 38, 39, 30, 40, 41, 42, 43, 44, 45, 46, 47, 25, 19, 48, 49, 50, 51, 52, 53, 54, 18, 55, 56, 57, 58, 59, 60, 61, 62, 63, 64, 65, 66, 67, 68, 28, 69, 70, 71, 72, 73, 74, 75, 76, 77, 78, 79, 80, 81, 82, 83, 84, 85, 86, 87, 88, 89, 90, 91, 92, 93, 94, 95, 96, 97, 98, 99, 100, 101, 102, 103, 104, 105, 106, 107, 108, 109, 110, 111, 112, 134, 135, 136, 119, 120, 121, 122, 123, 128, 129, 130, 131, 132, 133, 137, 138, 139, 140, 141, 142, 143, 124, 125, 126, 127, 144, 145] (by decide +kernel) (by decide +kernel)
set_option maxRecDepth 20000 in
theorem gX8_changeWeight_X1_save_n70 : GoodIn wsX8_changeWeight (wsX1_save) := ggX8_changeWeight_X1_save
theorem dX8_changeWeight_0 : decode cX8_changeWeight 0 = .ok (.aload_n 0, 1) := by decide +kernel
theorem dX8_changeWeight_1 : decode cX8_changeWeight 1 = .ok (.iload_n 1, 1) := by decide +kernel
theorem dX8_changeWeight_2 : decode cX8_changeWeight 2 = .ok (.invokevirtual 135, 3) := by decide +kernel
theorem dX8_changeWeight_5 : decode cX8_changeWeight 5 = .ok (.iload_n 2, 1) := by decide +kernel
theorem dX8_changeWeight_6 : decode cX8_changeWeight 6 = .ok (.iconst 1, 1) := by decide +kernel
theorem dX8_changeWeight_7 : decode cX8_changeWeight 7 = .ok (.if_icmp .lt 9, 3) := by decide +kernel
theorem dX8_changeWeight_10 : decode cX8_changeWeight 10 = .ok (.iload_n 2, 1) := by decide +kernel
theorem dX8_changeWeight_11 : decode cX8_changeWeight 11 = .ok (.bipush 9, 2) := by decide +kernel
theorem dX8_changeWeight_13 : decode cX8_changeWeight 13 = .ok (.if_icmp .le 13, 3) := by decide +kernel
theorem dX8_changeWeight_16 : decode cX8_changeWeight 16 = .ok (.new 174, 3) := by decide +kernel
theorem dX8_changeWeight_19 : decode cX8_changeWeight 19 = .ok (.dup, 1) := by decide +kernel
theorem dX8_changeWeight_20 : decode cX8_changeWeight 20 = .ok (.ldc 224, 2) := by decide +kernel
theorem dX8_changeWeight_22 : decode cX8_changeWeight 22 = .ok (.invokespecial 178, 3) := by decide +kernel
theorem dX8_changeWeight_25 : decode cX8_changeWeight 25 = .ok (.athrow, 1) := by decide +kernel
theorem dX8_changeWeight_26 : decode cX8_changeWeight 26 = .ok (.aload_n 0, 1) := by decide +kernel
theorem dX8_changeWeight_27 : decode cX8_changeWeight 27 = .ok (.getfield 12, 3) := by decide +kernel
theorem dX8_changeWeight_30 : decode cX8_changeWeight 30 = .ok (.iload_n 1, 1) := by decide +kernel
theorem dX8_changeWeight_31 : decode cX8_changeWeight 31 = .ok (.iload_n 2, 1) := by decide +kernel
theorem dX8_changeWeight_32 : decode cX8_changeWeight 32 = .ok (.invokevirtual 226, 3) := by decide +kernel
theorem dX8_changeWeight_35 : decode cX8_changeWeight 35 = .ok (.ifCond .eq 13, 3) := by decide +kernel
theorem dX8_changeWeight_38 : decode cX8_changeWeight 38 = .ok (.new 54, 3) := by decide +kernel
theorem dX8_changeWeight_41 : decode cX8_changeWeight 41 = .ok (.dup, 1) := by decide +kernel
theorem dX8_changeWeight_42 : decode cX8_changeWeight 42 = .ok (.ldc 230, 2) := by decide +kernel
theorem dX8_changeWeight_44 : decode cX8_changeWeight 44 = .ok (.invokespecial 58, 3) := by decide +kernel
theorem dX8_changeWeight_47 : decode cX8_changeWeight 47 = .ok (.athrow, 1) := by decide +kernel
theorem dX8_changeWeight_48 : decode cX8_changeWeight 48 = .ok (.aload_n 0, 1) := by decide +kernel
theorem dX8_changeWeight_49 : decode cX8_changeWeight 49 = .ok (.getfield 22, 3) := by decide +kernel
theorem dX8_changeWeight_52 : decode cX8_changeWeight 52 = .ok (.aload_n 0, 1) := by decide +kernel
theorem dX8_changeWeight_53 : decode cX8_changeWeight 53 = .ok (.getfield 12, 3) := by decide +kernel
theorem dX8_changeWeight_56 : decode cX8_changeWeight 56 = .ok (.invokevirtual 70, 3) := by decide +kernel
theorem dX8_changeWeight_59 : decode cX8_changeWeight 59 = .ok (.aload_n 0, 1) := by decide +kernel
theorem dX8_changeWeight_60 : decode cX8_changeWeight 60 = .ok (.getfield 12, 3) := by decide +kernel
theorem dX8_changeWeight_63 : decode cX8_changeWeight 63 = .ok (.getfield 144, 3) := by decide +kernel
theorem dX8_changeWeight_66 : decode cX8_changeWeight 66 = .ok (.getfield 148, 3) := by decide +kernel
theorem dX8_changeWeight_69 : decode cX8_changeWeight 69 = .ok (.iload_n 1, 1) := by decide +kernel
theorem dX8_changeWeight_70 : decode cX8_changeWeight 70 = .ok (.iaload, 1) := by decide +kernel
theorem dX8_changeWeight_71 : decode cX8_changeWeight 71 = .ok (.istore_n 3, 1) := by decide +kernel
theorem dX8_changeWeight_72 : decode cX8_changeWeight 72 = .ok (.aload_n 0, 1) := by decide +kernel
theorem dX8_changeWeight_73 : decode cX8_changeWeight 73 = .ok (.getfield 12, 3) := by decide +kernel
theorem dX8_changeWeight_76 : decode cX8_changeWeight 76 = .ok (.getfield 144, 3) := by decide +kernel
theorem dX8_changeWeight_79 : decode cX8_changeWeight 79 = .ok (.getfield 148, 3) := by decide +kernel
theorem dX8_changeWeight_82 : decode cX8_changeWeight 82 = .ok (.iload_n 1, 1) := by decide +kernel
theorem dX8_changeWeight_83 : decode cX8_changeWeight 83 = .ok (.iload_n 2, 1) := by decide +kernel
theorem dX8_changeWeight_84 : decode cX8_changeWeight 84 = .ok (.iastore, 1) := by decide +kernel
theorem dX8_changeWeight_85 : decode cX8_changeWeight 85 = .ok (.iload_n 3, 1) := by decide +kernel
theorem dX8_changeWeight_86 : decode cX8_changeWeight 86 = .ok (.ireturn, 1) := by decide +kernel
set_option maxRecDepth 20000 in
theorem ggX8_turnRule_X1_save : GoodIn wsX8_turnRule wsX1_save := goodIn_r _ [6, 7, 8, 9, 10, 11, 12, 13, 14, 4, 15, 16, 17, 18, 19, 20, 21, 22, 23, 24, 25, 26, 27, 28, 29, 30, 31, 32, 33, 34, 35, 36, 37, 38, 39, 40, 41, 42, 43, 44, 45, 46, 47, 48, 49, 50, 51, 52, 53, 54, 55, 56, 57, 58, 59, 60, 61, 62, 63, 64, 65, 66, 67, 68, 69, 70, 71, 72, 73, 74, 75, 76, 77, 78, 79, 80, 81, 82, 83, 84, 85, 86, 87, 88, 89, 90, 91, 110, 111, 112, 98, 99, 100, 101, 102, 113, 114, 115, 116, 117, 118, 103, 104, 105, 106, 107, 108, 109, 119, 120, 121, 122, 123, 124] (by decide +kernel) (by decide +kernel)
set_option maxRecDepth 20000 in
theorem gX8_turnRule_X1_save_n70 : GoodIn wsX8_turnRule (wsX1_save) := ggX8_turnRule_X1_save
theorem dX8_turnRule_0 : decode cX8_turnRule 0 = .ok (.aload_n 0, 1) := by decide +kernel
theorem dX8_turnRule_1 : decode cX8_turnRule 1 = .ok (.getfield 22, 3) := by decide +kernel
theorem dX8_turnRule_4 : decode cX8_turnRule 4 = .ok (.aload_n 0, 1) := by decide +kernel
theorem dX8_turnRule_5 : decode cX8_turnRule 5 = .ok (.getfield 12, 3) := by decide +kernel
theorem dX8_turnRule_8 : decode cX8_turnRule 8 = .ok (.invokevirtual 70, 3) := by decide +kernel
theorem dX8_turnRule_11 : decode cX8_turnRule 11 = .ok (.aload_n 0, 1) := by decide +kernel
theorem dX8_turnRule_12 : decode cX8_turnRule 12 = .ok (.getfield 12, 3) := by decide +kernel
theorem dX8_turnRule_15 : decode cX8_turnRule 15 = .ok (.getfield 232, 3) := by decide +kernel
theorem dX8_turnRule_18 : decode cX8_turnRule 18 = .ok (.aload_n 0, 1) := by decide +kernel
theorem dX8_turnRule_19 : decode cX8_turnRule 19 = .ok (.getfield 12, 3) := by decide +kernel
theorem dX8_turnRule_22 : decode cX8_turnRule 22 = .ok (.getfield 232, 3) := by decide +kernel
theorem dX8_turnRule_25 : decode cX8_turnRule 25 = .ok (.getfield 236, 3) := by decide +kernel
theorem dX8_turnRule_28 : decode cX8_turnRule 28 = .ok (.ifCond .ne 7, 3) := by decide +kernel
theorem dX8_turnRule_31 : decode cX8_turnRule 31 = .ok (.iconst 1, 1) := by decide +kernel
theorem dX8_turnRule_32 : decode cX8_turnRule 32 = .ok (.goto 4, 3) := by decide +kernel
theorem dX8_turnRule_35 : decode cX8_turnRule 35 = .ok (.iconst 0, 1) := by decide +kernel
theorem dX8_turnRule_36 : decode cX8_turnRule 36 = .ok (.putfield 236, 3) := by decide +kernel
theorem dX8_turnRule_39 : decode cX8_turnRule 39 = .ok (.aload_n 0, 1) := by decide +kernel
theorem dX8_turnRule_40 : decode cX8_turnRule 40 = .ok (.getfield 12, 3) := by decide +kernel
theorem dX8_turnRule_43 : decode cX8_turnRule 43 = .ok (.getfield 232, 3) := by decide +kernel
theorem dX8_turnRule_46 : decode cX8_turnRule 46 = .ok (.getfield 236, 3) := by decide +kernel
theorem dX8_turnRule_49 : decode cX8_turnRule 49 = .ok (.ireturn, 1) := by decide +kernel
theorem dX8_append_0 : decode cX8_append 0 = .ok (.iload_n 1, 1) := by decide +kernel
theorem dX8_append_1 : decode cX8_append 1 = .ok (.bipush 33, 2) := by decide +kernel
theorem dX8_append_3 : decode cX8_append 3 = .ok (.if_icmp .lt 9, 3) := by decide +kernel
theorem dX8_append_6 : decode cX8_append 6 = .ok (.iload_n 1, 1) := by decide +kernel
theorem dX8_append_7 : decode cX8_append 7 = .ok (.bipush 126, 2) := by decide +kernel
theorem dX8_append_9 : decode cX8_append 9 = .ok (.if_icmp .le 13, 3) := by decide +kernel
theorem dX8_append_12 : decode cX8_append 12 = .ok (.new 174, 3) := by decide +kernel
theorem dX8_append_15 : decode cX8_append 15 = .ok (.dup, 1) := by decide +kernel
theorem dX8_append_16 : decode cX8_append 16 = .ok (.ldc 242, 2) := by decide +kernel
theorem dX8_append_18 : decode cX8_append 18 = .ok (.invokespecial 178, 3) := by decide +kernel
theorem dX8_append_21 : decode cX8_append 21 = .ok (.athrow, 1) := by decide +kernel
theorem dX8_append_22 : decode cX8_append 22 = .ok (.aload_n 0, 1) := by decide +kernel
theorem dX8_append_23 : decode cX8_append 23 = .ok (.getfield 29, 3) := by decide +kernel
theorem dX8_append_26 : decode cX8_append 26 = .ok (.getfield 200, 3) := by decide +kernel
theorem dX8_append_29 : decode cX8_append 29 = .ok (.bipush 60, 2) := by decide +kernel
theorem dX8_append_31 : decode cX8_append 31 = .ok (.if_icmp .lt 13, 3) := by decide +kernel
theorem dX8_append_34 : decode cX8_append 34 = .ok (.new 54, 3) := by decide +kernel
theorem dX8_append_37 : decode cX8_append 37 = .ok (.dup, 1) := by decide +kernel
theorem dX8_append_38 : decode cX8_append 38 = .ok (.ldc 244, 2) := by decide +kernel
theorem dX8_append_40 : decode cX8_append 40 = .ok (.invokespecial 58, 3) := by decide +kernel
theorem dX8_append_43 : decode cX8_append 43 = .ok (.athrow, 1) := by decide +kernel
theorem dX8_append_44 : decode cX8_append 44 = .ok (.aload_n 0, 1) := by decide +kernel
theorem dX8_append_45 : decode cX8_append 45 = .ok (.getfield 29, 3) := by decide +kernel
theorem dX8_append_48 : decode cX8_append 48 = .ok (.getfield 246, 3) := by decide +kernel
theorem dX8_append_51 : decode cX8_append 51 = .ok (.aload_n 0, 1) := by decide +kernel
theorem dX8_append_52 : decode cX8_append 52 = .ok (.getfield 29, 3) := by decide +kernel
theorem dX8_append_55 : decode cX8_append 55 = .ok (.getfield 200, 3) := by decide +kernel
theorem dX8_append_58 : decode cX8_append 58 = .ok (.iload_n 1, 1) := by decide +kernel
theorem dX8_append_59 : decode cX8_append 59 = .ok (.iastore, 1) := by decide +kernel
theorem dX8_append_60 : decode cX8_append 60 = .ok (.aload_n 0, 1) := by decide +kernel
theorem dX8_append_61 : decode cX8_append 61 = .ok (.getfield 29, 3) := by decide +kernel
theorem dX8_append_64 : decode cX8_append 64 = .ok (.dup, 1) := by decide +kernel
theorem dX8_append_65 : decode cX8_append 65 = .ok (.getfield 200, 3) := by decide +kernel
theorem dX8_append_68 : decode cX8_append 68 = .ok (.iconst 1, 1) := by decide +kernel
theorem dX8_append_69 : decode cX8_append 69 = .ok (.iadd, 1) := by decide +kernel
theorem dX8_append_70 : decode cX8_append 70 = .ok (.putfield 200, 3) := by decide +kernel
theorem dX8_append_73 : decode cX8_append 73 = .ok (.aload_n 0, 1) := by decide +kernel
theorem dX8_append_74 : decode cX8_append 74 = .ok (.getfield 29, 3) := by decide +kernel
theorem dX8_append_77 : decode cX8_append 77 = .ok (.getfield 200, 3) := by decide +kernel
theorem dX8_append_80 : decode cX8_append 80 = .ok (.ireturn, 1) := by decide +kernel
theorem dX8_clearBuffer_0 : decode cX8_clearBuffer 0 = .ok (.aload_n 0, 1) := by decide +kernel
theorem dX8_clearBuffer_1 : decode cX8_clearBuffer 1 = .ok (.getfield 29, 3) := by decide +kernel
theorem dX8_clearBuffer_4 : decode cX8_clearBuffer 4 = .ok (.getfield 200, 3) := by decide +kernel
theorem dX8_clearBuffer_7 : decode cX8_clearBuffer 7 = .ok (.istore_n 1, 1) := by decide +kernel
theorem dX8_clearBuffer_8 : decode cX8_clearBuffer 8 = .ok (.aload_n 0, 1) := by decide +kernel
theorem dX8_clearBuffer_9 : decode cX8_clearBuffer 9 = .ok (.getfield 29, 3) := by decide +kernel
theorem dX8_clearBuffer_12 : decode cX8_clearBuffer 12 = .ok (.iconst 0, 1) := by decide +kernel
theorem dX8_clearBuffer_13 : decode cX8_clearBuffer 13 = .ok (.putfield 200, 3) := by decide +kernel
theorem dX8_clearBuffer_16 : decode cX8_clearBuffer 16 = .ok (.iload_n 1, 1) := by decide +kernel
theorem dX8_clearBuffer_17 : decode cX8_clearBuffer 17 = .ok (.ireturn, 1) := by decide +kernel
set_option maxRecDepth 20000 in
theorem ggX8_firstError_X5_readAll : GoodIn wsX8_firstError wsX5_readAll := goodIn_r _ [5, 6, 7, 8, 9, 10, 11, 12, 13, 14, 15, 16, 17, 18, 19, 20, 21, 22, 23, 24, 25, 26, 27, 28, 29, 30, 37, 38, 39, 40, 41, 42] (by decide +kernel) (by decide +kernel)
set_option maxRecDepth 20000 in
theorem gX8_firstError_X5_readAll_n249 : GoodIn wsX8_firstError (wsX5_readAll) := ggX8_firstError_X5_readAll
theorem dX8_firstError_0 : decode cX8_firstError 0 = .ok (.aload_n 0, 1) := by decide +kernel
theorem dX8_firstError_1 : decode cX8_firstError 1 = .ok (.getfield 29, 3) := by decide +kernel
theorem dX8_firstError_4 : decode cX8_firstError 4 = .ok (.invokevirtual 249, 3) := by decide +kernel
theorem dX8_firstError_7 : decode cX8_firstError 7 = .ok (.ireturn, 1) := by decide +kernel
set_option maxRecDepth 20000 in
theorem ggX8_keep_X8_requireSnapshotSlot : GoodIn wsX8_keep wsX8_requireSnapshotSlot := goodIn_ca (goodIn_r _ [7, 8, 9] (by decide +kernel) (by decide +kernel)) (goodIn_sub (fun _ h => List.mem_cons_of_mem _ (List.mem_append_right _ h)) (by decide +kernel))
set_option maxRecDepth 20000 in
theorem gX8_keep_X8_requireSnapshotSlot : GoodIn wsX8_keep (wsV RX8 252 RX8 yX8_requireSnapshotSlot wsX8_requireSnapshotSlot) := goodIn_app (goodIn_of _ (by decide +kernel)) ggX8_keep_X8_requireSnapshotSlot
set_option maxRecDepth 20000 in
theorem ggX8_keep_X1_takeSnapshot : GoodIn wsX8_keep wsX1_takeSnapshot := goodIn_r _ [13, 14, 15, 16, 17, 18, 19, 20, 21, 22, 23, 24, 25, 26, 27, 28, 29, 30, 31, 32, 33, 34, 35, 36, 37, 38, 39, 40, 41, 42, 43, 44, 45, 46, 47, 48, 49, 50, 51, 52, 53, 54, 55, 56, 57, 58, 59, 60, 61, 62, 63, 64, 65, 66, 67, 68, 69, 70, 71, 72, 73, 74, 75, 76, 77, 78, 79, 80, 81, 82, 83, 84, 85, 86, 87, 88, 89, 90, 91, 92, 93, 100, 101, 102, 103, 104, 105, 106, 107, 108, 109, 110, 111, 112, 113, 114, 115, 116, 117, 118, 119, 120, 121, 122, 123, 124, 125, 126] (by decide +kernel) (by decide +kernel)
set_option maxRecDepth 20000 in
theorem gX8_keep_X1_takeSnapshot_n255 : GoodIn wsX8_keep (wsX1_takeSnapshot) := ggX8_keep_X1_takeSnapshot
theorem dX8_keep_0 : decode cX8_keep 0 = .ok (.aload_n 0, 1) := by decide +kernel
theorem dX8_keep_1 : decode cX8_keep 1 = .ok (.iload_n 1, 1) := by decide +kernel
theorem dX8_keep_2 : decode cX8_keep 2 = .ok (.invokevirtual 252, 3) := by decide +kernel
theorem dX8_keep_5 : decode cX8_keep 5 = .ok (.aload_n 0, 1) := by decide +kernel
theorem dX8_keep_6 : decode cX8_keep 6 = .ok (.getfield 22, 3) := by decide +kernel
theorem dX8_keep_9 : decode cX8_keep 9 = .ok (.iload_n 1, 1) := by decide +kernel
theorem dX8_keep_10 : decode cX8_keep 10 = .ok (.aload_n 0, 1) := by decide +kernel
theorem dX8_keep_11 : decode cX8_keep 11 = .ok (.getfield 12, 3) := by decide +kernel
theorem dX8_keep_14 : decode cX8_keep 14 = .ok (.invokevirtual 255, 3) := by decide +kernel
theorem dX8_keep_17 : decode cX8_keep 17 = .ok (.return_, 1) := by decide +kernel
set_option maxRecDepth 20000 in
theorem ggX8_goBack_X8_requireSnapshotSlot : GoodIn wsX8_goBack wsX8_requireSnapshotSlot := goodIn_ca (goodIn_r _ [9, 10, 11] (by decide +kernel) (by decide +kernel)) (goodIn_sub (fun _ h => List.mem_cons_of_mem _ (List.mem_append_right _ h)) (by decide +kernel))
set_option maxRecDepth 20000 in
theorem gX8_goBack_X8_requireSnapshotSlot : GoodIn wsX8_goBack (wsV RX8 252 RX8 yX8_requireSnapshotSlot wsX8_requireSnapshotSlot) := goodIn_app (goodIn_of _ (by decide +kernel)) ggX8_goBack_X8_requireSnapshotSlot
set_option maxRecDepth 20000 in
theorem ggX8_goBack_X1_save : GoodIn wsX8_goBack wsX1_save := goodIn_r _ [15, 16, 17, 18, 19, 20, 21, 22, 23, 13, 24, 25, 26, 27, 28, 29, 30, 31, 32, 33, 34, 35, 36, 37, 38, 39, 40, 41, 42, 43, 44, 45, 46, 47, 48, 49, 50, 51, 52, 53, 54, 55, 56, 57, 58, 59, 60, 61, 62, 63, 64, 65, 66, 67, 68, 69, 70, 71, 72, 73, 74, 75, 76, 77, 78, 79, 80, 81, 82, 83, 84, 85, 86, 87, 88, 89, 90, 91, 92, 93, 94, 95, 96, 97, 98, 99, 100, 107, 108, 109, 110, 111, 112, 113, 114, 115, 116, 117, 118, 119, 120, 121, 122, 123, 124, 125, 126, 127, 128, 129, 130, 131, 132, 133] (by decide +kernel) (by decide +kernel)
set_option maxRecDepth 20000 in
theorem gX8_goBack_X1_save_n70 : GoodIn wsX8_goBack (wsX1_save) := ggX8_goBack_X1_save
set_option maxRecDepth 20000 in
theorem ggX8_goBack_X6_copyFrom : GoodIn wsX8_goBack wsX6_copyFrom := goodIn_r _ [82, 33, 37, 41, 45, 46, 83, 32, 84, 85, 50, 51, 53, 86, 87, 88, 89, 54, 55, 56, 90, 36, 91, 92, 60, 61, 62, 63, 64, 65, 67, 93, 40, 94, 95, 71, 96, 72, 73, 74, 97, 44, 98, 99, 78, 79, 100, 110, 111, 112, 113, 114, 115, 116, 117, 118, 119, 120, 121, 122, 123, 124, 125, 126, 127, 128, 129, 130, 131, 132, 133] (by decide +kernel) (by decide +kernel)
set_option maxRecDepth 20000 in
theorem gX8_goBack_X6_copyFrom_n265 : GoodIn wsX8_goBack (wsX6_copyFrom) := ggX8_goBack_X6_copyFrom
theorem dX8_goBack_0 : decode cX8_goBack 0 = .ok (.aload_n 0, 1) := by decide +kernel
theorem dX8_goBack_1 : decode cX8_goBack 1 = .ok (.iload_n 1, 1) := by decide +kernel
theorem dX8_goBack_2 : decode cX8_goBack 2 = .ok (.invokevirtual 252, 3) := by decide +kernel
theorem dX8_goBack_5 : decode cX8_goBack 5 = .ok (.aload_n 0, 1) := by decide +kernel
theorem dX8_goBack_6 : decode cX8_goBack 6 = .ok (.getfield 22, 3) := by decide +kernel
theorem dX8_goBack_9 : decode cX8_goBack 9 = .ok (.getfield 259, 3) := by decide +kernel
theorem dX8_goBack_12 : decode cX8_goBack 12 = .ok (.iload_n 1, 1) := by decide +kernel
theorem dX8_goBack_13 : decode cX8_goBack 13 = .ok (.aaload, 1) := by decide +kernel
theorem dX8_goBack_14 : decode cX8_goBack 14 = .ok (.astore_n 2, 1) := by decide +kernel
theorem dX8_goBack_15 : decode cX8_goBack 15 = .ok (.aload_n 2, 1) := by decide +kernel
theorem dX8_goBack_16 : decode cX8_goBack 16 = .ok (.ifnonnull 14, 3) := by decide +kernel
theorem dX8_goBack_19 : decode cX8_goBack 19 = .ok (.new 54, 3) := by decide +kernel
theorem dX8_goBack_22 : decode cX8_goBack 22 = .ok (.dup, 1) := by decide +kernel
theorem dX8_goBack_23 : decode cX8_goBack 23 = .ok (.ldc_w 263, 3) := by decide +kernel
theorem dX8_goBack_26 : decode cX8_goBack 26 = .ok (.invokespecial 58, 3) := by decide +kernel
theorem dX8_goBack_29 : decode cX8_goBack 29 = .ok (.athrow, 1) := by decide +kernel
theorem dX8_goBack_30 : decode cX8_goBack 30 = .ok (.aload_n 0, 1) := by decide +kernel
theorem dX8_goBack_31 : decode cX8_goBack 31 = .ok (.getfield 22, 3) := by decide +kernel
theorem dX8_goBack_34 : decode cX8_goBack 34 = .ok (.aload_n 0, 1) := by decide +kernel
theorem dX8_goBack_35 : decode cX8_goBack 35 = .ok (.getfield 12, 3) := by decide +kernel
theorem dX8_goBack_38 : decode cX8_goBack 38 = .ok (.invokevirtual 70, 3) := by decide +kernel
theorem dX8_goBack_41 : decode cX8_goBack 41 = .ok (.aload_n 0, 1) := by decide +kernel
theorem dX8_goBack_42 : decode cX8_goBack 42 = .ok (.getfield 12, 3) := by decide +kernel
theorem dX8_goBack_45 : decode cX8_goBack 45 = .ok (.aload_n 2, 1) := by decide +kernel
theorem dX8_goBack_46 : decode cX8_goBack 46 = .ok (.invokevirtual 265, 3) := by decide +kernel
theorem dX8_goBack_49 : decode cX8_goBack 49 = .ok (.return_, 1) := by decide +kernel
set_option maxRecDepth 20000 in
theorem ggX8_undo_X1_restoreLatest : GoodIn wsX8_undo wsX1_restoreLatest := goodIn_r _ [8, 9, 10, 11, 12, 13, 14, 15, 16, 17, 18, 19, 20, 21, 22, 23, 24, 25, 26, 27, 28, 29, 30, 31, 32, 33, 34, 35, 36, 37, 38, 39, 40, 41, 42, 43, 44, 45, 46, 47, 48, 49, 50, 51, 52, 53, 54, 55, 56, 57, 58, 59, 60, 67, 68, 69, 70, 71, 72, 73, 74, 75, 76, 77, 78, 79, 80, 81, 82, 83, 84, 85, 86, 87, 88, 89, 90, 91, 92, 93] (by decide +kernel) (by decide +kernel)
set_option maxRecDepth 20000 in
theorem gX8_undo_X1_restoreLatest_n268 : GoodIn wsX8_undo (wsX1_restoreLatest) := ggX8_undo_X1_restoreLatest
theorem dX8_undo_0 : decode cX8_undo 0 = .ok (.aload_n 0, 1) := by decide +kernel
theorem dX8_undo_1 : decode cX8_undo 1 = .ok (.getfield 22, 3) := by decide +kernel
theorem dX8_undo_4 : decode cX8_undo 4 = .ok (.aload_n 0, 1) := by decide +kernel
theorem dX8_undo_5 : decode cX8_undo 5 = .ok (.getfield 12, 3) := by decide +kernel
theorem dX8_undo_8 : decode cX8_undo 8 = .ok (.invokevirtual 268, 3) := by decide +kernel
theorem dX8_undo_11 : decode cX8_undo 11 = .ok (.ifCond .ne 14, 3) := by decide +kernel
theorem dX8_undo_14 : decode cX8_undo 14 = .ok (.new 54, 3) := by decide +kernel
theorem dX8_undo_17 : decode cX8_undo 17 = .ok (.dup, 1) := by decide +kernel
theorem dX8_undo_18 : decode cX8_undo 18 = .ok (.ldc_w 272, 3) := by decide +kernel
theorem dX8_undo_21 : decode cX8_undo 21 = .ok (.invokespecial 58, 3) := by decide +kernel
theorem dX8_undo_24 : decode cX8_undo 24 = .ok (.athrow, 1) := by decide +kernel
theorem dX8_undo_25 : decode cX8_undo 25 = .ok (.return_, 1) := by decide +kernel
theorem dX8_savedStates_0 : decode cX8_savedStates 0 = .ok (.aload_n 0, 1) := by decide +kernel
theorem dX8_savedStates_1 : decode cX8_savedStates 1 = .ok (.getfield 22, 3) := by decide +kernel
theorem dX8_savedStates_4 : decode cX8_savedStates 4 = .ok (.getfield 274, 3) := by decide +kernel
theorem dX8_savedStates_7 : decode cX8_savedStates 7 = .ok (.ireturn, 1) := by decide +kernel
theorem dX8_shelves_0 : decode cX8_shelves 0 = .ok (.aload_n 0, 1) := by decide +kernel
theorem dX8_shelves_1 : decode cX8_shelves 1 = .ok (.getfield 12, 3) := by decide +kernel
theorem dX8_shelves_4 : decode cX8_shelves 4 = .ok (.getfield 44, 3) := by decide +kernel
theorem dX8_shelves_7 : decode cX8_shelves 7 = .ok (.getfield 48, 3) := by decide +kernel
theorem dX8_shelves_10 : decode cX8_shelves 10 = .ok (.ireturn, 1) := by decide +kernel
set_option maxRecDepth 20000 in
theorem ggX8_heightOf_X8_requireShelf : GoodIn wsX8_heightOf wsX8_requireShelf := goodIn_ca (goodIn_r _ [6, 7, 8, 1, 9, 10, 11, 12, 13, 14, 15, 16, 17, 18, 19, 20, 21, 22, 23, 24, 25] (by decide +kernel) (by decide +kernel)) (goodIn_sub (fun _ h => List.mem_cons_of_mem _ (List.mem_append_right _ h)) (by decide +kernel))
set_option maxRecDepth 20000 in
theorem gX8_heightOf_X8_requireShelf : GoodIn wsX8_heightOf (wsV RX8 78 RX8 yX8_requireShelf wsX8_requireShelf) := goodIn_app (goodIn_of _ (by decide +kernel)) ggX8_heightOf_X8_requireShelf
theorem dX8_heightOf_0 : decode cX8_heightOf 0 = .ok (.aload_n 0, 1) := by decide +kernel
theorem dX8_heightOf_1 : decode cX8_heightOf 1 = .ok (.iload_n 1, 1) := by decide +kernel
theorem dX8_heightOf_2 : decode cX8_heightOf 2 = .ok (.invokevirtual 78, 3) := by decide +kernel
theorem dX8_heightOf_5 : decode cX8_heightOf 5 = .ok (.aload_n 0, 1) := by decide +kernel
theorem dX8_heightOf_6 : decode cX8_heightOf 6 = .ok (.getfield 12, 3) := by decide +kernel
theorem dX8_heightOf_9 : decode cX8_heightOf 9 = .ok (.getfield 44, 3) := by decide +kernel
theorem dX8_heightOf_12 : decode cX8_heightOf 12 = .ok (.getfield 92, 3) := by decide +kernel
theorem dX8_heightOf_15 : decode cX8_heightOf 15 = .ok (.iload_n 1, 1) := by decide +kernel
theorem dX8_heightOf_16 : decode cX8_heightOf 16 = .ok (.iaload, 1) := by decide +kernel
theorem dX8_heightOf_17 : decode cX8_heightOf 17 = .ok (.ireturn, 1) := by decide +kernel
set_option maxRecDepth 20000 in
theorem ggX8_sideOf_X8_requireShelf : GoodIn wsX8_sideOf wsX8_requireShelf := goodIn_ca (goodIn_r _ [6, 7, 8, 1, 9, 10, 11, 12, 13, 14, 15, 16, 17, 18, 19, 20, 21, 22, 23, 24, 25] (by decide +kernel) (by decide +kernel)) (goodIn_sub (fun _ h => List.mem_cons_of_mem _ (List.mem_append_right _ h)) (by decide +kernel))
set_option maxRecDepth 20000 in
theorem gX8_sideOf_X8_requireShelf : GoodIn wsX8_sideOf (wsV RX8 78 RX8 yX8_requireShelf wsX8_requireShelf) := goodIn_app (goodIn_of _ (by decide +kernel)) ggX8_sideOf_X8_requireShelf
theorem dX8_sideOf_0 : decode cX8_sideOf 0 = .ok (.aload_n 0, 1) := by decide +kernel
theorem dX8_sideOf_1 : decode cX8_sideOf 1 = .ok (.iload_n 1, 1) := by decide +kernel
theorem dX8_sideOf_2 : decode cX8_sideOf 2 = .ok (.invokevirtual 78, 3) := by decide +kernel
theorem dX8_sideOf_5 : decode cX8_sideOf 5 = .ok (.aload_n 0, 1) := by decide +kernel
theorem dX8_sideOf_6 : decode cX8_sideOf 6 = .ok (.getfield 12, 3) := by decide +kernel
theorem dX8_sideOf_9 : decode cX8_sideOf 9 = .ok (.getfield 44, 3) := by decide +kernel
theorem dX8_sideOf_12 : decode cX8_sideOf 12 = .ok (.getfield 275, 3) := by decide +kernel
theorem dX8_sideOf_15 : decode cX8_sideOf 15 = .ok (.iload_n 1, 1) := by decide +kernel
theorem dX8_sideOf_16 : decode cX8_sideOf 16 = .ok (.iaload, 1) := by decide +kernel
theorem dX8_sideOf_17 : decode cX8_sideOf 17 = .ok (.bipush 20, 2) := by decide +kernel
theorem dX8_sideOf_19 : decode cX8_sideOf 19 = .ok (.idiv, 1) := by decide +kernel
theorem dX8_sideOf_20 : decode cX8_sideOf 20 = .ok (.ireturn, 1) := by decide +kernel
set_option maxRecDepth 20000 in
theorem ggX8_slotOf_X8_requireShelf : GoodIn wsX8_slotOf wsX8_requireShelf := goodIn_ca (goodIn_r _ [6, 7, 8, 1, 9, 10, 11, 12, 13, 14, 15, 16, 17, 18, 19, 20, 21, 22, 23, 24, 25] (by decide +kernel) (by decide +kernel)) (goodIn_sub (fun _ h => List.mem_cons_of_mem _ (List.mem_append_right _ h)) (by decide +kernel))
set_option maxRecDepth 20000 in
theorem gX8_slotOf_X8_requireShelf : GoodIn wsX8_slotOf (wsV RX8 78 RX8 yX8_requireShelf wsX8_requireShelf) := goodIn_app (goodIn_of _ (by decide +kernel)) ggX8_slotOf_X8_requireShelf
theorem dX8_slotOf_0 : decode cX8_slotOf 0 = .ok (.aload_n 0, 1) := by decide +kernel
theorem dX8_slotOf_1 : decode cX8_slotOf 1 = .ok (.iload_n 1, 1) := by decide +kernel
theorem dX8_slotOf_2 : decode cX8_slotOf 2 = .ok (.invokevirtual 78, 3) := by decide +kernel
theorem dX8_slotOf_5 : decode cX8_slotOf 5 = .ok (.aload_n 0, 1) := by decide +kernel
theorem dX8_slotOf_6 : decode cX8_slotOf 6 = .ok (.getfield 12, 3) := by decide +kernel
theorem dX8_slotOf_9 : decode cX8_slotOf 9 = .ok (.getfield 44, 3) := by decide +kernel
theorem dX8_slotOf_12 : decode cX8_slotOf 12 = .ok (.getfield 275, 3) := by decide +kernel
theorem dX8_slotOf_15 : decode cX8_slotOf 15 = .ok (.iload_n 1, 1) := by decide +kernel
theorem dX8_slotOf_16 : decode cX8_slotOf 16 = .ok (.iaload, 1) := by decide +kernel
theorem dX8_slotOf_17 : decode cX8_slotOf 17 = .ok (.bipush 20, 2) := by decide +kernel
theorem dX8_slotOf_19 : decode cX8_slotOf 19 = .ok (.irem, 1) := by decide +kernel
theorem dX8_slotOf_20 : decode cX8_slotOf 20 = .ok (.ireturn, 1) := by decide +kernel
set_option maxRecDepth 20000 in
theorem ggX8_isAtWindow_X8_requireShelf : GoodIn wsX8_isAtWindow wsX8_requireShelf := goodIn_ca (goodIn_r _ [6, 7, 8, 1, 9, 10, 11, 12, 13, 14, 15, 16, 17, 18, 19, 20, 21, 22, 23, 24, 25] (by decide +kernel) (by decide +kernel)) (goodIn_sub (fun _ h => List.mem_cons_of_mem _ (List.mem_append_right _ h)) (by decide +kernel))
set_option maxRecDepth 20000 in
theorem gX8_isAtWindow_X8_requireShelf : GoodIn wsX8_isAtWindow (wsV RX8 78 RX8 yX8_requireShelf wsX8_requireShelf) := goodIn_app (goodIn_of _ (by decide +kernel)) ggX8_isAtWindow_X8_requireShelf
theorem dX8_isAtWindow_0 : decode cX8_isAtWindow 0 = .ok (.aload_n 0, 1) := by decide +kernel
theorem dX8_isAtWindow_1 : decode cX8_isAtWindow 1 = .ok (.iload_n 1, 1) := by decide +kernel
theorem dX8_isAtWindow_2 : decode cX8_isAtWindow 2 = .ok (.invokevirtual 78, 3) := by decide +kernel
theorem dX8_isAtWindow_5 : decode cX8_isAtWindow 5 = .ok (.iload_n 1, 1) := by decide +kernel
theorem dX8_isAtWindow_6 : decode cX8_isAtWindow 6 = .ok (.aload_n 0, 1) := by decide +kernel
theorem dX8_isAtWindow_7 : decode cX8_isAtWindow 7 = .ok (.getfield 12, 3) := by decide +kernel
theorem dX8_isAtWindow_10 : decode cX8_isAtWindow 10 = .ok (.getfield 44, 3) := by decide +kernel
theorem dX8_isAtWindow_13 : decode cX8_isAtWindow 13 = .ok (.getfield 81, 3) := by decide +kernel
theorem dX8_isAtWindow_16 : decode cX8_isAtWindow 16 = .ok (.if_icmp .ne 7, 3) := by decide +kernel
theorem dX8_isAtWindow_19 : decode cX8_isAtWindow 19 = .ok (.iconst 1, 1) := by decide +kernel
theorem dX8_isAtWindow_20 : decode cX8_isAtWindow 20 = .ok (.goto 4, 3) := by decide +kernel
theorem dX8_isAtWindow_23 : decode cX8_isAtWindow 23 = .ok (.iconst 0, 1) := by decide +kernel
theorem dX8_isAtWindow_24 : decode cX8_isAtWindow 24 = .ok (.ireturn, 1) := by decide +kernel
set_option maxRecDepth 20000 in
theorem ggX8_thingsIn_X8_requireShelf : GoodIn wsX8_thingsIn wsX8_requireShelf := goodIn_ca (goodIn_r _ [6, 7, 8, 1, 18, 19, 20, 21, 22, 23, 24, 25, 26, 27, 28, 29, 30, 31, 32, 33, 34] (by decide +kernel) (by decide +kernel)) (goodIn_sub (fun _ h => List.mem_cons_of_mem _ (List.mem_append_right _ h)) (by decide +kernel))
set_option maxRecDepth 20000 in
theorem gX8_thingsIn_X8_requireShelf : GoodIn wsX8_thingsIn (wsV RX8 78 RX8 yX8_requireShelf wsX8_requireShelf) := goodIn_app (goodIn_of _ (by decide +kernel)) ggX8_thingsIn_X8_requireShelf
set_option maxRecDepth 20000 in
theorem ggX8_thingsIn_X8_requireKind : GoodIn wsX8_thingsIn wsX8_requireKind := goodIn_ca (goodIn_r _ [12, 7, 8] (by decide +kernel) (by decide +kernel)) (goodIn_sub (fun _ h => List.mem_cons_of_mem _ (List.mem_append_right _ h)) (by decide +kernel))
set_option maxRecDepth 20000 in
theorem gX8_thingsIn_X8_requireKind : GoodIn wsX8_thingsIn (wsV RX8 135 RX8 yX8_requireKind wsX8_requireKind) := goodIn_app (goodIn_of _ (by decide +kernel)) ggX8_thingsIn_X8_requireKind
set_option maxRecDepth 20000 in
theorem ggX8_thingsIn_X7_countIn : GoodIn wsX8_thingsIn wsX7_countIn := goodIn_r _ [16, 17, 29, 30, 31, 32, 33, 34] (by decide +kernel) (by decide +kernel)
set_option maxRecDepth 20000 in
theorem gX8_thingsIn_X7_countIn_n162 : GoodIn wsX8_thingsIn (wsX7_countIn) := ggX8_thingsIn_X7_countIn
theorem dX8_thingsIn_0 : decode cX8_thingsIn 0 = .ok (.aload_n 0, 1) := by decide +kernel
theorem dX8_thingsIn_1 : decode cX8_thingsIn 1 = .ok (.iload_n 1, 1) := by decide +kernel
theorem dX8_thingsIn_2 : decode cX8_thingsIn 2 = .ok (.invokevirtual 78, 3) := by decide +kernel
theorem dX8_thingsIn_5 : decode cX8_thingsIn 5 = .ok (.aload_n 0, 1) := by decide +kernel
theorem dX8_thingsIn_6 : decode cX8_thingsIn 6 = .ok (.iload_n 2, 1) := by decide +kernel
theorem dX8_thingsIn_7 : decode cX8_thingsIn 7 = .ok (.invokevirtual 135, 3) := by decide +kernel
theorem dX8_thingsIn_10 : decode cX8_thingsIn 10 = .ok (.aload_n 0, 1) := by decide +kernel
theorem dX8_thingsIn_11 : decode cX8_thingsIn 11 = .ok (.getfield 12, 3) := by decide +kernel
theorem dX8_thingsIn_14 : decode cX8_thingsIn 14 = .ok (.getfield 44, 3) := by decide +kernel
theorem dX8_thingsIn_17 : decode cX8_thingsIn 17 = .ok (.iload_n 1, 1) := by decide +kernel
theorem dX8_thingsIn_18 : decode cX8_thingsIn 18 = .ok (.iload_n 2, 1) := by decide +kernel
theorem dX8_thingsIn_19 : decode cX8_thingsIn 19 = .ok (.invokevirtual 162, 3) := by decide +kernel
theorem dX8_thingsIn_22 : decode cX8_thingsIn 22 = .ok (.ireturn, 1) := by decide +kernel
set_option maxRecDepth 20000 in
theorem ggX8_weightOf_X8_requireShelf : GoodIn wsX8_weightOf wsX8_requireShelf := goodIn_ca (goodIn_r _ [6, 7, 8, 1, 20, 21, 22, 23, 24, 25, 26, 27, 28, 29, 30, 31, 32, 33, 34, 35, 36] (by decide +kernel) (by decide +kernel)) (goodIn_sub (fun _ h => List.mem_cons_of_mem _ (List.mem_append_right _ h)) (by decide +kernel))
set_option maxRecDepth 20000 in
theorem gX8_weightOf_X8_requireShelf : GoodIn wsX8_weightOf (wsV RX8 78 RX8 yX8_requireShelf wsX8_requireShelf) := goodIn_app (goodIn_of _ (by decide +kernel)) ggX8_weightOf_X8_requireShelf
set_option maxRecDepth 20000 in
theorem ggX8_weightOf_X6_weighShelf : GoodIn wsX8_weightOf wsX6_weighShelf := goodIn_r _ [12, 13, 14, 15, 16, 17, 18, 19, 26, 27, 28, 29, 30, 37, 38, 39, 40, 31, 32, 33, 34, 35, 36] (by decide +kernel) (by decide +kernel)
set_option maxRecDepth 20000 in
theorem gX8_weightOf_X6_weighShelf_n141 : GoodIn wsX8_weightOf (wsX6_weighShelf) := ggX8_weightOf_X6_weighShelf
theorem dX8_weightOf_0 : decode cX8_weightOf 0 = .ok (.aload_n 0, 1) := by decide +kernel
theorem dX8_weightOf_1 : decode cX8_weightOf 1 = .ok (.iload_n 1, 1) := by decide +kernel
theorem dX8_weightOf_2 : decode cX8_weightOf 2 = .ok (.invokevirtual 78, 3) := by decide +kernel
theorem dX8_weightOf_5 : decode cX8_weightOf 5 = .ok (.aload_n 0, 1) := by decide +kernel
theorem dX8_weightOf_6 : decode cX8_weightOf 6 = .ok (.getfield 12, 3) := by decide +kernel
theorem dX8_weightOf_9 : decode cX8_weightOf 9 = .ok (.iload_n 1, 1) := by decide +kernel
theorem dX8_weightOf_10 : decode cX8_weightOf 10 = .ok (.invokevirtual 141, 3) := by decide +kernel
theorem dX8_weightOf_13 : decode cX8_weightOf 13 = .ok (.ireturn, 1) := by decide +kernel
set_option maxRecDepth 20000 in
theorem ggX8_fetchesOf_X8_requireShelf : GoodIn wsX8_fetchesOf wsX8_requireShelf := goodIn_ca (goodIn_r _ [6, 7, 8, 1, 9, 10, 11, 12, 13, 14, 15, 16, 17, 18, 19, 20, 21, 22, 23, 24, 25] (by decide +kernel) (by decide +kernel)) (goodIn_sub (fun _ h => List.mem_cons_of_mem _ (List.mem_append_right _ h)) (by decide +kernel))
set_option maxRecDepth 20000 in
theorem gX8_fetchesOf_X8_requireShelf : GoodIn wsX8_fetchesOf (wsV RX8 78 RX8 yX8_requireShelf wsX8_requireShelf) := goodIn_app (goodIn_of _ (by decide +kernel)) ggX8_fetchesOf_X8_requireShelf
theorem dX8_fetchesOf_0 : decode cX8_fetchesOf 0 = .ok (.aload_n 0, 1) := by decide +kernel
theorem dX8_fetchesOf_1 : decode cX8_fetchesOf 1 = .ok (.iload_n 1, 1) := by decide +kernel
theorem dX8_fetchesOf_2 : decode cX8_fetchesOf 2 = .ok (.invokevirtual 78, 3) := by decide +kernel
theorem dX8_fetchesOf_5 : decode cX8_fetchesOf 5 = .ok (.aload_n 0, 1) := by decide +kernel
theorem dX8_fetchesOf_6 : decode cX8_fetchesOf 6 = .ok (.getfield 12, 3) := by decide +kernel
theorem dX8_fetchesOf_9 : decode cX8_fetchesOf 9 = .ok (.getfield 44, 3) := by decide +kernel
theorem dX8_fetchesOf_12 : decode cX8_fetchesOf 12 = .ok (.getfield 278, 3) := by decide +kernel
theorem dX8_fetchesOf_15 : decode cX8_fetchesOf 15 = .ok (.iload_n 1, 1) := by decide +kernel
theorem dX8_fetchesOf_16 : decode cX8_fetchesOf 16 = .ok (.iaload, 1) := by decide +kernel
theorem dX8_fetchesOf_17 : decode cX8_fetchesOf 17 = .ok (.ireturn, 1) := by decide +kernel
set_option maxRecDepth 20000 in
theorem ggX8_atWindow_X8_requireShelfAtWindow : GoodIn wsX8_atWindow wsX8_requireShelfAtWindow := goodIn_ca (goodIn_r _ [6, 7, 8, 1, 9, 10, 11, 12, 13, 14, 15, 16, 17, 18, 19, 20, 21, 22, 23, 24, 25] (by decide +kernel) (by decide +kernel)) (goodIn_sub (fun _ h => List.mem_cons_of_mem _ (List.mem_append_right _ h)) (by decide +kernel))
set_option maxRecDepth 20000 in
theorem gX8_atWindow_X8_requireShelfAtWindow : GoodIn wsX8_atWindow (wsV RX8 101 RX8 yX8_requireShelfAtWindow wsX8_requireShelfAtWindow) := goodIn_app (goodIn_of _ (by decide +kernel)) ggX8_atWindow_X8_requireShelfAtWindow
theorem dX8_atWindow_0 : decode cX8_atWindow 0 = .ok (.aload_n 0, 1) := by decide +kernel
theorem dX8_atWindow_1 : decode cX8_atWindow 1 = .ok (.invokevirtual 101, 3) := by decide +kernel
theorem dX8_atWindow_4 : decode cX8_atWindow 4 = .ok (.aload_n 0, 1) := by decide +kernel
theorem dX8_atWindow_5 : decode cX8_atWindow 5 = .ok (.getfield 12, 3) := by decide +kernel
theorem dX8_atWindow_8 : decode cX8_atWindow 8 = .ok (.getfield 44, 3) := by decide +kernel
theorem dX8_atWindow_11 : decode cX8_atWindow 11 = .ok (.getfield 81, 3) := by decide +kernel
theorem dX8_atWindow_14 : decode cX8_atWindow 14 = .ok (.ireturn, 1) := by decide +kernel
set_option maxRecDepth 20000 in
theorem ggX8_isFree_X8_requireSlot : GoodIn wsX8_isFree wsX8_requireSlot := goodIn_ca (goodIn_r _ [6, 7, 8, 9, 10, 11, 5, 12] (by decide +kernel) (by decide +kernel)) (goodIn_sub (fun _ h => List.mem_cons_of_mem _ (List.mem_append_right _ h)) (by decide +kernel))
set_option maxRecDepth 20000 in
theorem gX8_isFree_X8_requireSlot : GoodIn wsX8_isFree (wsV RX8 108 RX8 yX8_requireSlot wsX8_requireSlot) := goodIn_app (goodIn_of _ (by decide +kernel)) ggX8_isFree_X8_requireSlot
set_option maxRecDepth 20000 in
theorem ggX8_isFree_X7_holderOf : GoodIn wsX8_isFree wsX7_holderOf := goodIn_r _ [16, 17, 18, 19, 20, 32, 33, 34, 35, 36, 37] (by decide +kernel) (by decide +kernel)
set_option maxRecDepth 20000 in
theorem gX8_isFree_X7_holderOf_n281 : GoodIn wsX8_isFree (wsX7_holderOf) := ggX8_isFree_X7_holderOf
theorem dX8_isFree_0 : decode cX8_isFree 0 = .ok (.aload_n 0, 1) := by decide +kernel
theorem dX8_isFree_1 : decode cX8_isFree 1 = .ok (.iload_n 1, 1) := by decide +kernel
theorem dX8_isFree_2 : decode cX8_isFree 2 = .ok (.iload_n 2, 1) := by decide +kernel
theorem dX8_isFree_3 : decode cX8_isFree 3 = .ok (.invokevirtual 108, 3) := by decide +kernel
theorem dX8_isFree_6 : decode cX8_isFree 6 = .ok (.aload_n 0, 1) := by decide +kernel
theorem dX8_isFree_7 : decode cX8_isFree 7 = .ok (.getfield 12, 3) := by decide +kernel
theorem dX8_isFree_10 : decode cX8_isFree 10 = .ok (.getfield 44, 3) := by decide +kernel
theorem dX8_isFree_13 : decode cX8_isFree 13 = .ok (.iload_n 1, 1) := by decide +kernel
theorem dX8_isFree_14 : decode cX8_isFree 14 = .ok (.bipush 20, 2) := by decide +kernel
theorem dX8_isFree_16 : decode cX8_isFree 16 = .ok (.imul, 1) := by decide +kernel
theorem dX8_isFree_17 : decode cX8_isFree 17 = .ok (.iload_n 2, 1) := by decide +kernel
theorem dX8_isFree_18 : decode cX8_isFree 18 = .ok (.iadd, 1) := by decide +kernel
theorem dX8_isFree_19 : decode cX8_isFree 19 = .ok (.invokevirtual 281, 3) := by decide +kernel
theorem dX8_isFree_22 : decode cX8_isFree 22 = .ok (.iconst (-1), 1) := by decide +kernel
theorem dX8_isFree_23 : decode cX8_isFree 23 = .ok (.if_icmp .ne 7, 3) := by decide +kernel
theorem dX8_isFree_26 : decode cX8_isFree 26 = .ok (.iconst 1, 1) := by decide +kernel
theorem dX8_isFree_27 : decode cX8_isFree 27 = .ok (.goto 4, 3) := by decide +kernel
theorem dX8_isFree_30 : decode cX8_isFree 30 = .ok (.iconst 0, 1) := by decide +kernel
theorem dX8_isFree_31 : decode cX8_isFree 31 = .ok (.ireturn, 1) := by decide +kernel
set_option maxRecDepth 20000 in
theorem ggX8_shelfAt_X8_requireSlot : GoodIn wsX8_shelfAt wsX8_requireSlot := goodIn_ca (goodIn_r _ [8, 9, 10, 11, 12, 13, 7, 14] (by decide +kernel) (by decide +kernel)) (goodIn_sub (fun _ h => List.mem_cons_of_mem _ (List.mem_append_right _ h)) (by decide +kernel))
set_option maxRecDepth 20000 in
theorem gX8_shelfAt_X8_requireSlot : GoodIn wsX8_shelfAt (wsV RX8 108 RX8 yX8_requireSlot wsX8_requireSlot) := goodIn_app (goodIn_of _ (by decide +kernel)) ggX8_shelfAt_X8_requireSlot
set_option maxRecDepth 20000 in
theorem ggX8_shelfAt_X7_holderOf : GoodIn wsX8_shelfAt wsX7_holderOf := goodIn_r _ [18, 19, 20, 21, 22, 34, 35, 36, 37, 38, 39] (by decide +kernel) (by decide +kernel)
set_option maxRecDepth 20000 in
theorem gX8_shelfAt_X7_holderOf_n281 : GoodIn wsX8_shelfAt (wsX7_holderOf) := ggX8_shelfAt_X7_holderOf
theorem dX8_shelfAt_0 : decode cX8_shelfAt 0 = .ok (.aload_n 0, 1) := by decide +kernel
theorem dX8_shelfAt_1 : decode cX8_shelfAt 1 = .ok (.iload_n 1, 1) := by decide +kernel
theorem dX8_shelfAt_2 : decode cX8_shelfAt 2 = .ok (.iload_n 2, 1) := by decide +kernel
theorem dX8_shelfAt_3 : decode cX8_shelfAt 3 = .ok (.invokevirtual 108, 3) := by decide +kernel
theorem dX8_shelfAt_6 : decode cX8_shelfAt 6 = .ok (.aload_n 0, 1) := by decide +kernel
theorem dX8_shelfAt_7 : decode cX8_shelfAt 7 = .ok (.getfield 12, 3) := by decide +kernel
theorem dX8_shelfAt_10 : decode cX8_shelfAt 10 = .ok (.getfield 44, 3) := by decide +kernel
theorem dX8_shelfAt_13 : decode cX8_shelfAt 13 = .ok (.iload_n 1, 1) := by decide +kernel
theorem dX8_shelfAt_14 : decode cX8_shelfAt 14 = .ok (.bipush 20, 2) := by decide +kernel
theorem dX8_shelfAt_16 : decode cX8_shelfAt 16 = .ok (.imul, 1) := by decide +kernel
theorem dX8_shelfAt_17 : decode cX8_shelfAt 17 = .ok (.iload_n 2, 1) := by decide +kernel
theorem dX8_shelfAt_18 : decode cX8_shelfAt 18 = .ok (.iadd, 1) := by decide +kernel
theorem dX8_shelfAt_19 : decode cX8_shelfAt 19 = .ok (.invokevirtual 281, 3) := by decide +kernel
theorem dX8_shelfAt_22 : decode cX8_shelfAt 22 = .ok (.istore_n 3, 1) := by decide +kernel
theorem dX8_shelfAt_23 : decode cX8_shelfAt 23 = .ok (.iload_n 3, 1) := by decide +kernel
theorem dX8_shelfAt_24 : decode cX8_shelfAt 24 = .ok (.iconst (-1), 1) := by decide +kernel
theorem dX8_shelfAt_25 : decode cX8_shelfAt 25 = .ok (.if_icmp .ne 14, 3) := by decide +kernel
theorem dX8_shelfAt_28 : decode cX8_shelfAt 28 = .ok (.new 54, 3) := by decide +kernel
theorem dX8_shelfAt_31 : decode cX8_shelfAt 31 = .ok (.dup, 1) := by decide +kernel
theorem dX8_shelfAt_32 : decode cX8_shelfAt 32 = .ok (.ldc_w 284, 3) := by decide +kernel
theorem dX8_shelfAt_35 : decode cX8_shelfAt 35 = .ok (.invokespecial 58, 3) := by decide +kernel
theorem dX8_shelfAt_38 : decode cX8_shelfAt 38 = .ok (.athrow, 1) := by decide +kernel
theorem dX8_shelfAt_39 : decode cX8_shelfAt 39 = .ok (.iload_n 3, 1) := by decide +kernel
theorem dX8_shelfAt_40 : decode cX8_shelfAt 40 = .ok (.ireturn, 1) := by decide +kernel
set_option maxRecDepth 20000 in
theorem ggX8_freeBySlots_X7_countFree : GoodIn wsX8_freeBySlots wsX7_countFree := goodIn_r _ [5, 6, 7, 8, 3, 9, 10, 11, 12, 13, 14, 15, 16, 17, 18, 19, 31, 32, 33, 34, 35, 36] (by decide +kernel) (by decide +kernel)
set_option maxRecDepth 20000 in
theorem gX8_freeBySlots_X7_countFree_n286 : GoodIn wsX8_freeBySlots (wsX7_countFree) := ggX8_freeBySlots_X7_countFree
theorem dX8_freeBySlots_0 : decode cX8_freeBySlots 0 = .ok (.aload_n 0, 1) := by decide +kernel
theorem dX8_freeBySlots_1 : decode cX8_freeBySlots 1 = .ok (.getfield 12, 3) := by decide +kernel
theorem dX8_freeBySlots_4 : decode cX8_freeBySlots 4 = .ok (.getfield 44, 3) := by decide +kernel
theorem dX8_freeBySlots_7 : decode cX8_freeBySlots 7 = .ok (.iconst 0, 1) := by decide +kernel
theorem dX8_freeBySlots_8 : decode cX8_freeBySlots 8 = .ok (.invokevirtual 286, 3) := by decide +kernel
theorem dX8_freeBySlots_11 : decode cX8_freeBySlots 11 = .ok (.aload_n 0, 1) := by decide +kernel
theorem dX8_freeBySlots_12 : decode cX8_freeBySlots 12 = .ok (.getfield 12, 3) := by decide +kernel
theorem dX8_freeBySlots_15 : decode cX8_freeBySlots 15 = .ok (.getfield 44, 3) := by decide +kernel
theorem dX8_freeBySlots_18 : decode cX8_freeBySlots 18 = .ok (.iconst 1, 1) := by decide +kernel
theorem dX8_freeBySlots_19 : decode cX8_freeBySlots 19 = .ok (.invokevirtual 286, 3) := by decide +kernel
theorem dX8_freeBySlots_22 : decode cX8_freeBySlots 22 = .ok (.iadd, 1) := by decide +kernel
theorem dX8_freeBySlots_23 : decode cX8_freeBySlots 23 = .ok (.ireturn, 1) := by decide +kernel
set_option maxRecDepth 20000 in
theorem ggX8_freeByHeights_X7_sumOfHeights : GoodIn wsX8_freeByHeights wsX7_sumOfHeights := goodIn_r _ [5, 6, 7, 8, 20, 21, 22, 23, 24, 25] (by decide +kernel) (by decide +kernel)
set_option maxRecDepth 20000 in
theorem gX8_freeByHeights_X7_sumOfHeights_n289 : GoodIn wsX8_freeByHeights (wsX7_sumOfHeights) := ggX8_freeByHeights_X7_sumOfHeights
theorem dX8_freeByHeights_0 : decode cX8_freeByHeights 0 = .ok (.bipush 40, 2) := by decide +kernel
theorem dX8_freeByHeights_2 : decode cX8_freeByHeights 2 = .ok (.aload_n 0, 1) := by decide +kernel
theorem dX8_freeByHeights_3 : decode cX8_freeByHeights 3 = .ok (.getfield 12, 3) := by decide +kernel
theorem dX8_freeByHeights_6 : decode cX8_freeByHeights 6 = .ok (.getfield 44, 3) := by decide +kernel
theorem dX8_freeByHeights_9 : decode cX8_freeByHeights 9 = .ok (.invokevirtual 289, 3) := by decide +kernel
theorem dX8_freeByHeights_12 : decode cX8_freeByHeights 12 = .ok (.isub, 1) := by decide +kernel
theorem dX8_freeByHeights_13 : decode cX8_freeByHeights 13 = .ok (.ireturn, 1) := by decide +kernel
set_option maxRecDepth 20000 in
theorem ggX8_firstPlace_X8_requireHeight : GoodIn wsX8_firstPlace wsX8_requireHeight := goodIn_ca (goodIn_r _ [8, 9, 10] (by decide +kernel) (by decide +kernel)) (goodIn_sub (fun _ h => List.mem_cons_of_mem _ (List.mem_append_right _ h)) (by decide +kernel))
set_option maxRecDepth 20000 in
theorem gX8_firstPlace_X8_requireHeight : GoodIn wsX8_firstPlace (wsV RX8 40 RX8 yX8_requireHeight wsX8_requireHeight) := goodIn_app (goodIn_of _ (by decide +kernel)) ggX8_firstPlace_X8_requireHeight
set_option maxRecDepth 20000 in
theorem ggX8_firstPlace_X7_firstFree : GoodIn wsX8_firstPlace wsX7_firstFree := goodIn_r _ [14, 15, 16, 17, 12, 18, 19, 20, 21, 22, 23, 24, 25, 26, 27, 28, 29, 30, 31, 43, 44, 45, 46, 47, 48] (by decide +kernel) (by decide +kernel)
set_option maxRecDepth 20000 in
theorem gX8_firstPlace_X7_firstFree_n64 : GoodIn wsX8_firstPlace (wsX7_firstFree) := ggX8_firstPlace_X7_firstFree
theorem dX8_firstPlace_0 : decode cX8_firstPlace 0 = .ok (.aload_n 0, 1) := by decide +kernel
theorem dX8_firstPlace_1 : decode cX8_firstPlace 1 = .ok (.iload_n 1, 1) := by decide +kernel
theorem dX8_firstPlace_2 : decode cX8_firstPlace 2 = .ok (.invokevirtual 40, 3) := by decide +kernel
theorem dX8_firstPlace_5 : decode cX8_firstPlace 5 = .ok (.aload_n 0, 1) := by decide +kernel
theorem dX8_firstPlace_6 : decode cX8_firstPlace 6 = .ok (.getfield 12, 3) := by decide +kernel
theorem dX8_firstPlace_9 : decode cX8_firstPlace 9 = .ok (.getfield 44, 3) := by decide +kernel
theorem dX8_firstPlace_12 : decode cX8_firstPlace 12 = .ok (.iload_n 1, 1) := by decide +kernel
theorem dX8_firstPlace_13 : decode cX8_firstPlace 13 = .ok (.invokevirtual 64, 3) := by decide +kernel
theorem dX8_firstPlace_16 : decode cX8_firstPlace 16 = .ok (.istore_n 2, 1) := by decide +kernel
theorem dX8_firstPlace_17 : decode cX8_firstPlace 17 = .ok (.iload_n 2, 1) := by decide +kernel
theorem dX8_firstPlace_18 : decode cX8_firstPlace 18 = .ok (.iconst (-1), 1) := by decide +kernel
theorem dX8_firstPlace_19 : decode cX8_firstPlace 19 = .ok (.if_icmp .ne 13, 3) := by decide +kernel
theorem dX8_firstPlace_22 : decode cX8_firstPlace 22 = .ok (.new 54, 3) := by decide +kernel
theorem dX8_firstPlace_25 : decode cX8_firstPlace 25 = .ok (.dup, 1) := by decide +kernel
theorem dX8_firstPlace_26 : decode cX8_firstPlace 26 = .ok (.ldc 68, 2) := by decide +kernel
theorem dX8_firstPlace_28 : decode cX8_firstPlace 28 = .ok (.invokespecial 58, 3) := by decide +kernel
theorem dX8_firstPlace_31 : decode cX8_firstPlace 31 = .ok (.athrow, 1) := by decide +kernel
theorem dX8_firstPlace_32 : decode cX8_firstPlace 32 = .ok (.iload_n 2, 1) := by decide +kernel
theorem dX8_firstPlace_33 : decode cX8_firstPlace 33 = .ok (.ireturn, 1) := by decide +kernel
set_option maxRecDepth 20000 in
theorem ggX8_longestGap_X8_requireSide : GoodIn wsX8_longestGap wsX8_requireSide := goodIn_ca (goodIn_r _ [6, 7, 8] (by decide +kernel) (by decide +kernel)) (goodIn_sub (fun _ h => List.mem_cons_of_mem _ (List.mem_append_right _ h)) (by decide +kernel))
set_option maxRecDepth 20000 in
theorem gX8_longestGap_X8_requireSide : GoodIn wsX8_longestGap (wsV RX8 292 RX8 yX8_requireSide wsX8_requireSide) := goodIn_app (goodIn_of _ (by decide +kernel)) ggX8_longestGap_X8_requireSide
set_option maxRecDepth 20000 in
theorem ggX8_longestGap_X7_longestFree : GoodIn wsX8_longestGap wsX7_longestFree := goodIn_r _ [12, 13, 14, 15, 16, 17, 18, 19, 10, 20, 21, 22, 23, 24, 25, 26, 27, 28, 29, 30, 42, 43, 44, 45, 46, 47] (by decide +kernel) (by decide +kernel)
set_option maxRecDepth 20000 in
theorem gX8_longestGap_X7_longestFree_n295 : GoodIn wsX8_longestGap (wsX7_longestFree) := ggX8_longestGap_X7_longestFree
theorem dX8_longestGap_0 : decode cX8_longestGap 0 = .ok (.aload_n 0, 1) := by decide +kernel
theorem dX8_longestGap_1 : decode cX8_longestGap 1 = .ok (.iload_n 1, 1) := by decide +kernel
theorem dX8_longestGap_2 : decode cX8_longestGap 2 = .ok (.invokevirtual 292, 3) := by decide +kernel
theorem dX8_longestGap_5 : decode cX8_longestGap 5 = .ok (.aload_n 0, 1) := by decide +kernel
theorem dX8_longestGap_6 : decode cX8_longestGap 6 = .ok (.getfield 12, 3) := by decide +kernel
theorem dX8_longestGap_9 : decode cX8_longestGap 9 = .ok (.getfield 44, 3) := by decide +kernel
theorem dX8_longestGap_12 : decode cX8_longestGap 12 = .ok (.iload_n 1, 1) := by decide +kernel
theorem dX8_longestGap_13 : decode cX8_longestGap 13 = .ok (.invokevirtual 295, 3) := by decide +kernel
theorem dX8_longestGap_16 : decode cX8_longestGap 16 = .ok (.ireturn, 1) := by decide +kernel
theorem dX8_lift_0 : decode cX8_lift 0 = .ok (.aload_n 0, 1) := by decide +kernel
theorem dX8_lift_1 : decode cX8_lift 1 = .ok (.getfield 12, 3) := by decide +kernel
theorem dX8_lift_4 : decode cX8_lift 4 = .ok (.getfield 232, 3) := by decide +kernel
theorem dX8_lift_7 : decode cX8_lift 7 = .ok (.getfield 298, 3) := by decide +kernel
theorem dX8_lift_10 : decode cX8_lift 10 = .ok (.ireturn, 1) := by decide +kernel
theorem dX8_isKeptPlace_0 : decode cX8_isKeptPlace 0 = .ok (.aload_n 0, 1) := by decide +kernel
theorem dX8_isKeptPlace_1 : decode cX8_isKeptPlace 1 = .ok (.getfield 12, 3) := by decide +kernel
theorem dX8_isKeptPlace_4 : decode cX8_isKeptPlace 4 = .ok (.getfield 232, 3) := by decide +kernel
theorem dX8_isKeptPlace_7 : decode cX8_isKeptPlace 7 = .ok (.getfield 236, 3) := by decide +kernel
theorem dX8_isKeptPlace_10 : decode cX8_isKeptPlace 10 = .ok (.ireturn, 1) := by decide +kernel
set_option maxRecDepth 20000 in
theorem ggX8_wouldPack_X8_requirePackable : GoodIn wsX8_wouldPack wsX8_requirePackable := goodIn_ca (goodIn_r _ [7, 8, 9, 1, 2, 10, 11, 12, 6, 13, 14, 15, 16, 17, 18, 19, 20, 21, 22, 23, 24, 25, 26, 27, 28, 29, 30, 31, 32, 33, 38, 39, 40, 41, 42, 43, 44, 45, 46, 47, 48, 49, 50, 51, 52, 53, 54] (by decide +kernel) (by decide +kernel)) (goodIn_sub (fun _ h => List.mem_cons_of_mem _ (List.mem_append_right _ h)) (by decide +kernel))
set_option maxRecDepth 20000 in
theorem gX8_wouldPack_X8_requirePackable : GoodIn wsX8_wouldPack (wsV RX8 124 RX8 yX8_requirePackable wsX8_requirePackable) := goodIn_app (goodIn_of _ (by decide +kernel)) ggX8_wouldPack_X8_requirePackable
set_option maxRecDepth 20000 in
theorem ggX8_wouldPack_X7_countMoved : GoodIn wsX8_wouldPack wsX7_countMoved := goodIn_r _ [36, 18, 37, 49, 50, 51, 52, 53, 54] (by decide +kernel) (by decide +kernel)
set_option maxRecDepth 20000 in
theorem gX8_wouldPack_X7_countMoved_n127 : GoodIn wsX8_wouldPack (wsX7_countMoved) := ggX8_wouldPack_X7_countMoved
theorem dX8_wouldPack_0 : decode cX8_wouldPack 0 = .ok (.aload_n 0, 1) := by decide +kernel
theorem dX8_wouldPack_1 : decode cX8_wouldPack 1 = .ok (.invokevirtual 124, 3) := by decide +kernel
theorem dX8_wouldPack_4 : decode cX8_wouldPack 4 = .ok (.aload_n 0, 1) := by decide +kernel
theorem dX8_wouldPack_5 : decode cX8_wouldPack 5 = .ok (.getfield 12, 3) := by decide +kernel
theorem dX8_wouldPack_8 : decode cX8_wouldPack 8 = .ok (.getfield 44, 3) := by decide +kernel
theorem dX8_wouldPack_11 : decode cX8_wouldPack 11 = .ok (.aload_n 0, 1) := by decide +kernel
theorem dX8_wouldPack_12 : decode cX8_wouldPack 12 = .ok (.getfield 33, 3) := by decide +kernel
theorem dX8_wouldPack_15 : decode cX8_wouldPack 15 = .ok (.invokevirtual 127, 3) := by decide +kernel
theorem dX8_wouldPack_18 : decode cX8_wouldPack 18 = .ok (.ireturn, 1) := by decide +kernel
set_option maxRecDepth 20000 in
theorem ggX8_sideWeight_X8_requireSide : GoodIn wsX8_sideWeight wsX8_requireSide := goodIn_ca (goodIn_r _ [6, 7, 8] (by decide +kernel) (by decide +kernel)) (goodIn_sub (fun _ h => List.mem_cons_of_mem _ (List.mem_append_right _ h)) (by decide +kernel))
set_option maxRecDepth 20000 in
theorem gX8_sideWeight_X8_requireSide : GoodIn wsX8_sideWeight (wsV RX8 292 RX8 yX8_requireSide wsX8_requireSide) := goodIn_app (goodIn_of _ (by decide +kernel)) ggX8_sideWeight_X8_requireSide
set_option maxRecDepth 20000 in
theorem ggX8_sideWeight_X6_weighSide : GoodIn wsX8_sideWeight wsX6_weighSide := goodIn_r _ [12, 13, 14, 15, 16, 10, 17, 18, 19, 20, 21, 22, 23, 30, 31, 32, 33, 34, 35, 36, 37, 38, 39, 40, 41, 42, 43, 44] (by decide +kernel) (by decide +kernel)
set_option maxRecDepth 20000 in
theorem gX8_sideWeight_X6_weighSide_n301 : GoodIn wsX8_sideWeight (wsX6_weighSide) := ggX8_sideWeight_X6_weighSide
theorem dX8_sideWeight_0 : decode cX8_sideWeight 0 = .ok (.aload_n 0, 1) := by decide +kernel
theorem dX8_sideWeight_1 : decode cX8_sideWeight 1 = .ok (.iload_n 1, 1) := by decide +kernel
theorem dX8_sideWeight_2 : decode cX8_sideWeight 2 = .ok (.invokevirtual 292, 3) := by decide +kernel
theorem dX8_sideWeight_5 : decode cX8_sideWeight 5 = .ok (.aload_n 0, 1) := by decide +kernel
theorem dX8_sideWeight_6 : decode cX8_sideWeight 6 = .ok (.getfield 12, 3) := by decide +kernel
theorem dX8_sideWeight_9 : decode cX8_sideWeight 9 = .ok (.iload_n 1, 1) := by decide +kernel
theorem dX8_sideWeight_10 : decode cX8_sideWeight 10 = .ok (.invokevirtual 301, 3) := by decide +kernel
theorem dX8_sideWeight_13 : decode cX8_sideWeight 13 = .ok (.ireturn, 1) := by decide +kernel
theorem dX8_trips_0 : decode cX8_trips 0 = .ok (.aload_n 0, 1) := by decide +kernel
theorem dX8_trips_1 : decode cX8_trips 1 = .ok (.getfield 12, 3) := by decide +kernel
theorem dX8_trips_4 : decode cX8_trips 4 = .ok (.getfield 232, 3) := by decide +kernel
theorem dX8_trips_7 : decode cX8_trips 7 = .ok (.getfield 304, 3) := by decide +kernel
theorem dX8_trips_10 : decode cX8_trips 10 = .ok (.ireturn, 1) := by decide +kernel
set_option maxRecDepth 20000 in
theorem ggX8_tripTicks_X8_requireTrip : GoodIn wsX8_tripTicks wsX8_requireTrip := goodIn_ca (goodIn_r _ [6, 7, 8, 1, 9, 10, 11, 12, 13, 14, 15, 16, 17, 18, 19, 20, 21, 22, 23, 24, 25, 26] (by decide +kernel) (by decide +kernel)) (goodIn_sub (fun _ h => List.mem_cons_of_mem _ (List.mem_append_right _ h)) (by decide +kernel))
set_option maxRecDepth 20000 in
theorem gX8_tripTicks_X8_requireTrip : GoodIn wsX8_tripTicks (wsV RX8 307 RX8 yX8_requireTrip wsX8_requireTrip) := goodIn_app (goodIn_of _ (by decide +kernel)) ggX8_tripTicks_X8_requireTrip
theorem dX8_tripTicks_0 : decode cX8_tripTicks 0 = .ok (.aload_n 0, 1) := by decide +kernel
theorem dX8_tripTicks_1 : decode cX8_tripTicks 1 = .ok (.iload_n 1, 1) := by decide +kernel
theorem dX8_tripTicks_2 : decode cX8_tripTicks 2 = .ok (.invokevirtual 307, 3) := by decide +kernel
theorem dX8_tripTicks_5 : decode cX8_tripTicks 5 = .ok (.aload_n 0, 1) := by decide +kernel
theorem dX8_tripTicks_6 : decode cX8_tripTicks 6 = .ok (.getfield 12, 3) := by decide +kernel
theorem dX8_tripTicks_9 : decode cX8_tripTicks 9 = .ok (.getfield 232, 3) := by decide +kernel
theorem dX8_tripTicks_12 : decode cX8_tripTicks 12 = .ok (.getfield 310, 3) := by decide +kernel
theorem dX8_tripTicks_15 : decode cX8_tripTicks 15 = .ok (.iload_n 1, 1) := by decide +kernel
theorem dX8_tripTicks_16 : decode cX8_tripTicks 16 = .ok (.iaload, 1) := by decide +kernel
theorem dX8_tripTicks_17 : decode cX8_tripTicks 17 = .ok (.ireturn, 1) := by decide +kernel
set_option maxRecDepth 20000 in
theorem ggX8_wasFetch_X8_requireTrip : GoodIn wsX8_wasFetch wsX8_requireTrip := goodIn_ca (goodIn_r _ [6, 7, 8, 1, 9, 10, 11, 12, 13, 14, 15, 16, 17, 18, 19, 20, 21, 22, 23, 24, 25, 26] (by decide +kernel) (by decide +kernel)) (goodIn_sub (fun _ h => List.mem_cons_of_mem _ (List.mem_append_right _ h)) (by decide +kernel))
set_option maxRecDepth 20000 in
theorem gX8_wasFetch_X8_requireTrip : GoodIn wsX8_wasFetch (wsV RX8 307 RX8 yX8_requireTrip wsX8_requireTrip) := goodIn_app (goodIn_of _ (by decide +kernel)) ggX8_wasFetch_X8_requireTrip
theorem dX8_wasFetch_0 : decode cX8_wasFetch 0 = .ok (.aload_n 0, 1) := by decide +kernel
theorem dX8_wasFetch_1 : decode cX8_wasFetch 1 = .ok (.iload_n 1, 1) := by decide +kernel
theorem dX8_wasFetch_2 : decode cX8_wasFetch 2 = .ok (.invokevirtual 307, 3) := by decide +kernel
theorem dX8_wasFetch_5 : decode cX8_wasFetch 5 = .ok (.aload_n 0, 1) := by decide +kernel
theorem dX8_wasFetch_6 : decode cX8_wasFetch 6 = .ok (.getfield 12, 3) := by decide +kernel
theorem dX8_wasFetch_9 : decode cX8_wasFetch 9 = .ok (.getfield 232, 3) := by decide +kernel
theorem dX8_wasFetch_12 : decode cX8_wasFetch 12 = .ok (.getfield 313, 3) := by decide +kernel
theorem dX8_wasFetch_15 : decode cX8_wasFetch 15 = .ok (.iload_n 1, 1) := by decide +kernel
theorem dX8_wasFetch_16 : decode cX8_wasFetch 16 = .ok (.baload, 1) := by decide +kernel
theorem dX8_wasFetch_17 : decode cX8_wasFetch 17 = .ok (.ireturn, 1) := by decide +kernel
set_option maxRecDepth 20000 in
theorem ggX8_weightOfKind_X8_requireKind : GoodIn wsX8_weightOfKind wsX8_requireKind := goodIn_ca (goodIn_r _ [6, 7, 8] (by decide +kernel) (by decide +kernel)) (goodIn_sub (fun _ h => List.mem_cons_of_mem _ (List.mem_append_right _ h)) (by decide +kernel))
set_option maxRecDepth 20000 in
theorem gX8_weightOfKind_X8_requireKind : GoodIn wsX8_weightOfKind (wsV RX8 135 RX8 yX8_requireKind wsX8_requireKind) := goodIn_app (goodIn_of _ (by decide +kernel)) ggX8_weightOfKind_X8_requireKind
theorem dX8_weightOfKind_0 : decode cX8_weightOfKind 0 = .ok (.aload_n 0, 1) := by decide +kernel
theorem dX8_weightOfKind_1 : decode cX8_weightOfKind 1 = .ok (.iload_n 1, 1) := by decide +kernel
theorem dX8_weightOfKind_2 : decode cX8_weightOfKind 2 = .ok (.invokevirtual 135, 3) := by decide +kernel
theorem dX8_weightOfKind_5 : decode cX8_weightOfKind 5 = .ok (.aload_n 0, 1) := by decide +kernel
theorem dX8_weightOfKind_6 : decode cX8_weightOfKind 6 = .ok (.getfield 12, 3) := by decide +kernel
theorem dX8_weightOfKind_9 : decode cX8_weightOfKind 9 = .ok (.getfield 144, 3) := by decide +kernel
theorem dX8_weightOfKind_12 : decode cX8_weightOfKind 12 = .ok (.getfield 148, 3) := by decide +kernel
theorem dX8_weightOfKind_15 : decode cX8_weightOfKind 15 = .ok (.iload_n 1, 1) := by decide +kernel
theorem dX8_weightOfKind_16 : decode cX8_weightOfKind 16 = .ok (.iaload, 1) := by decide +kernel
theorem dX8_weightOfKind_17 : decode cX8_weightOfKind 17 = .ok (.ireturn, 1) := by decide +kernel
set_option maxRecDepth 20000 in
theorem ggX8_stockByShelves_X8_requireKind : GoodIn wsX8_stockByShelves wsX8_requireKind := goodIn_ca (goodIn_r _ [6, 7, 8] (by decide +kernel) (by decide +kernel)) (goodIn_sub (fun _ h => List.mem_cons_of_mem _ (List.mem_append_right _ h)) (by decide +kernel))
set_option maxRecDepth 20000 in
theorem gX8_stockByShelves_X8_requireKind : GoodIn wsX8_stockByShelves (wsV RX8 135 RX8 yX8_requireKind wsX8_requireKind) := goodIn_app (goodIn_of _ (by decide +kernel)) ggX8_stockByShelves_X8_requireKind
set_option maxRecDepth 20000 in
theorem ggX8_stockByShelves_X7_stockOf : GoodIn wsX8_stockByShelves wsX7_stockOf := goodIn_r _ [12, 13, 14, 15, 16, 10, 17, 18, 30, 31, 32, 33, 34, 35] (by decide +kernel) (by decide +kernel)
set_option maxRecDepth 20000 in
theorem gX8_stockByShelves_X7_stockOf_n317 : GoodIn wsX8_stockByShelves (wsX7_stockOf) := ggX8_stockByShelves_X7_stockOf
theorem dX8_stockByShelves_0 : decode cX8_stockByShelves 0 = .ok (.aload_n 0, 1) := by decide +kernel
theorem dX8_stockByShelves_1 : decode cX8_stockByShelves 1 = .ok (.iload_n 1, 1) := by decide +kernel
theorem dX8_stockByShelves_2 : decode cX8_stockByShelves 2 = .ok (.invokevirtual 135, 3) := by decide +kernel
theorem dX8_stockByShelves_5 : decode cX8_stockByShelves 5 = .ok (.aload_n 0, 1) := by decide +kernel
theorem dX8_stockByShelves_6 : decode cX8_stockByShelves 6 = .ok (.getfield 12, 3) := by decide +kernel
theorem dX8_stockByShelves_9 : decode cX8_stockByShelves 9 = .ok (.getfield 44, 3) := by decide +kernel
theorem dX8_stockByShelves_12 : decode cX8_stockByShelves 12 = .ok (.iload_n 1, 1) := by decide +kernel
theorem dX8_stockByShelves_13 : decode cX8_stockByShelves 13 = .ok (.invokevirtual 317, 3) := by decide +kernel
theorem dX8_stockByShelves_16 : decode cX8_stockByShelves 16 = .ok (.ireturn, 1) := by decide +kernel
set_option maxRecDepth 20000 in
theorem ggX8_stockByAccount_X8_requireKind : GoodIn wsX8_stockByAccount wsX8_requireKind := goodIn_ca (goodIn_r _ [6, 7, 8] (by decide +kernel) (by decide +kernel)) (goodIn_sub (fun _ h => List.mem_cons_of_mem _ (List.mem_append_right _ h)) (by decide +kernel))
set_option maxRecDepth 20000 in
theorem gX8_stockByAccount_X8_requireKind : GoodIn wsX8_stockByAccount (wsV RX8 135 RX8 yX8_requireKind wsX8_requireKind) := goodIn_app (goodIn_of _ (by decide +kernel)) ggX8_stockByAccount_X8_requireKind
theorem dX8_stockByAccount_0 : decode cX8_stockByAccount 0 = .ok (.aload_n 0, 1) := by decide +kernel
theorem dX8_stockByAccount_1 : decode cX8_stockByAccount 1 = .ok (.iload_n 1, 1) := by decide +kernel
theorem dX8_stockByAccount_2 : decode cX8_stockByAccount 2 = .ok (.invokevirtual 135, 3) := by decide +kernel
theorem dX8_stockByAccount_5 : decode cX8_stockByAccount 5 = .ok (.aload_n 0, 1) := by decide +kernel
theorem dX8_stockByAccount_6 : decode cX8_stockByAccount 6 = .ok (.getfield 12, 3) := by decide +kernel
theorem dX8_stockByAccount_9 : decode cX8_stockByAccount 9 = .ok (.getfield 144, 3) := by decide +kernel
theorem dX8_stockByAccount_12 : decode cX8_stockByAccount 12 = .ok (.getfield 155, 3) := by decide +kernel
theorem dX8_stockByAccount_15 : decode cX8_stockByAccount 15 = .ok (.iload_n 1, 1) := by decide +kernel
theorem dX8_stockByAccount_16 : decode cX8_stockByAccount 16 = .ok (.iaload, 1) := by decide +kernel
theorem dX8_stockByAccount_17 : decode cX8_stockByAccount 17 = .ok (.aload_n 0, 1) := by decide +kernel
theorem dX8_stockByAccount_18 : decode cX8_stockByAccount 18 = .ok (.getfield 12, 3) := by decide +kernel
theorem dX8_stockByAccount_21 : decode cX8_stockByAccount 21 = .ok (.getfield 144, 3) := by decide +kernel
theorem dX8_stockByAccount_24 : decode cX8_stockByAccount 24 = .ok (.getfield 167, 3) := by decide +kernel
theorem dX8_stockByAccount_27 : decode cX8_stockByAccount 27 = .ok (.iload_n 1, 1) := by decide +kernel
theorem dX8_stockByAccount_28 : decode cX8_stockByAccount 28 = .ok (.iaload, 1) := by decide +kernel
theorem dX8_stockByAccount_29 : decode cX8_stockByAccount 29 = .ok (.isub, 1) := by decide +kernel
theorem dX8_stockByAccount_30 : decode cX8_stockByAccount 30 = .ok (.ireturn, 1) := by decide +kernel
set_option maxRecDepth 20000 in
theorem ggX8_shelvesWith_X8_requireKind : GoodIn wsX8_shelvesWith wsX8_requireKind := goodIn_ca (goodIn_r _ [6, 7, 8] (by decide +kernel) (by decide +kernel)) (goodIn_sub (fun _ h => List.mem_cons_of_mem _ (List.mem_append_right _ h)) (by decide +kernel))
set_option maxRecDepth 20000 in
theorem gX8_shelvesWith_X8_requireKind : GoodIn wsX8_shelvesWith (wsV RX8 135 RX8 yX8_requireKind wsX8_requireKind) := goodIn_app (goodIn_of _ (by decide +kernel)) ggX8_shelvesWith_X8_requireKind
set_option maxRecDepth 20000 in
theorem ggX8_shelvesWith_X7_countHolding : GoodIn wsX8_shelvesWith wsX7_countHolding := goodIn_r _ [12, 13, 14, 15, 16, 10, 17, 18, 30, 31, 32, 33, 34, 35] (by decide +kernel) (by decide +kernel)
set_option maxRecDepth 20000 in
theorem gX8_shelvesWith_X7_countHolding_n320 : GoodIn wsX8_shelvesWith (wsX7_countHolding) := ggX8_shelvesWith_X7_countHolding
theorem dX8_shelvesWith_0 : decode cX8_shelvesWith 0 = .ok (.aload_n 0, 1) := by decide +kernel
theorem dX8_shelvesWith_1 : decode cX8_shelvesWith 1 = .ok (.iload_n 1, 1) := by decide +kernel
theorem dX8_shelvesWith_2 : decode cX8_shelvesWith 2 = .ok (.invokevirtual 135, 3) := by decide +kernel
theorem dX8_shelvesWith_5 : decode cX8_shelvesWith 5 = .ok (.aload_n 0, 1) := by decide +kernel
theorem dX8_shelvesWith_6 : decode cX8_shelvesWith 6 = .ok (.getfield 12, 3) := by decide +kernel
theorem dX8_shelvesWith_9 : decode cX8_shelvesWith 9 = .ok (.getfield 44, 3) := by decide +kernel
theorem dX8_shelvesWith_12 : decode cX8_shelvesWith 12 = .ok (.iload_n 1, 1) := by decide +kernel
theorem dX8_shelvesWith_13 : decode cX8_shelvesWith 13 = .ok (.invokevirtual 320, 3) := by decide +kernel
theorem dX8_shelvesWith_16 : decode cX8_shelvesWith 16 = .ok (.ireturn, 1) := by decide +kernel
set_option maxRecDepth 20000 in
theorem ggX8_leastOf_X8_requireKind : GoodIn wsX8_leastOf wsX8_requireKind := goodIn_ca (goodIn_r _ [6, 7, 8] (by decide +kernel) (by decide +kernel)) (goodIn_sub (fun _ h => List.mem_cons_of_mem _ (List.mem_append_right _ h)) (by decide +kernel))
set_option maxRecDepth 20000 in
theorem gX8_leastOf_X8_requireKind : GoodIn wsX8_leastOf (wsV RX8 135 RX8 yX8_requireKind wsX8_requireKind) := goodIn_app (goodIn_of _ (by decide +kernel)) ggX8_leastOf_X8_requireKind
theorem dX8_leastOf_0 : decode cX8_leastOf 0 = .ok (.aload_n 0, 1) := by decide +kernel
