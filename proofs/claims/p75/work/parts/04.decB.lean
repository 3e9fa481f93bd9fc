set_option maxRecDepth 20000 in
theorem ggX8_init_X6_init : GoodIn wsX8_init wsX6_init := goodIn_r _ [21, 22, 2, 3, 23, 24, 25, 26, 27, 28, 29, 30, 31, 32, 33, 34, 35, 36, 37, 38, 39, 40, 41, 42, 43, 44, 17, 45, 46, 47, 48, 49, 50, 51, 52, 53, 54, 55, 56, 57, 58, 59, 60, 61, 62, 63, 64, 65, 66, 67, 68, 69, 70, 71, 111, 112, 113, 114, 115, 116, 94, 95, 96, 97, 98, 117, 118, 119, 120, 121, 122, 123, 124, 125, 126, 127, 128, 129] rfl (by decide +kernel)
set_option maxRecDepth 20000 in
theorem gX8_init_X6_init_n11 : GoodIn wsX8_init (wsX6_init) := ggX8_init_X6_init
set_option maxRecDepth 20000 in
theorem ggX8_init_X1_init : GoodIn wsX8_init wsX1_init := goodIn_r _ [73, 74, 2, 3, 75, 76, 77, 78, 105, 106, 107] rfl (by decide +kernel)
set_option maxRecDepth 20000 in
theorem gX8_init_X1_init_n21 : GoodIn wsX8_init (wsX1_init) := ggX8_init_X1_init
set_option maxRecDepth 20000 in
theorem ggX8_init_X5_init : GoodIn wsX8_init wsX5_init := goodIn_r _ [80, 81, 2, 3, 82, 17, 83, 84, 85, 86, 87, 88, 89, 90, 91, 92, 93, 108, 109, 110, 130, 131, 132] rfl (by decide +kernel)
set_option maxRecDepth 20000 in
theorem gX8_init_X5_init_n28 : GoodIn wsX8_init (wsX5_init) := ggX8_init_X5_init
theorem dX8_init_0 : decode cX8_init 0 = .ok (.aload_n 0, 1) := by decide +kernel
theorem dX8_init_1 : decode cX8_init 1 = .ok (.invokespecial 3, 3) := by decide +kernel
theorem dX8_init_4 : decode cX8_init 4 = .ok (.aload_n 0, 1) := by decide +kernel
theorem dX8_init_5 : decode cX8_init 5 = .ok (.new 9, 3) := by decide +kernel
theorem dX8_init_8 : decode cX8_init 8 = .ok (.dup, 1) := by decide +kernel
theorem dX8_init_9 : decode cX8_init 9 = .ok (.invokespecial 11, 3) := by decide +kernel
theorem dX8_init_12 : decode cX8_init 12 = .ok (.putfield 12, 3) := by decide +kernel
theorem dX8_init_15 : decode cX8_init 15 = .ok (.aload_n 0, 1) := by decide +kernel
theorem dX8_init_16 : decode cX8_init 16 = .ok (.new 9, 3) := by decide +kernel
theorem dX8_init_19 : decode cX8_init 19 = .ok (.dup, 1) := by decide +kernel
theorem dX8_init_20 : decode cX8_init 20 = .ok (.invokespecial 11, 3) := by decide +kernel
theorem dX8_init_23 : decode cX8_init 23 = .ok (.putfield 16, 3) := by decide +kernel
theorem dX8_init_26 : decode cX8_init 26 = .ok (.aload_n 0, 1) := by decide +kernel
theorem dX8_init_27 : decode cX8_init 27 = .ok (.new 19, 3) := by decide +kernel
theorem dX8_init_30 : decode cX8_init 30 = .ok (.dup, 1) := by decide +kernel
theorem dX8_init_31 : decode cX8_init 31 = .ok (.invokespecial 21, 3) := by decide +kernel
theorem dX8_init_34 : decode cX8_init 34 = .ok (.putfield 22, 3) := by decide +kernel
theorem dX8_init_37 : decode cX8_init 37 = .ok (.aload_n 0, 1) := by decide +kernel
theorem dX8_init_38 : decode cX8_init 38 = .ok (.new 26, 3) := by decide +kernel
theorem dX8_init_41 : decode cX8_init 41 = .ok (.dup, 1) := by decide +kernel
theorem dX8_init_42 : decode cX8_init 42 = .ok (.invokespecial 28, 3) := by decide +kernel
theorem dX8_init_45 : decode cX8_init 45 = .ok (.putfield 29, 3) := by decide +kernel
theorem dX8_init_48 : decode cX8_init 48 = .ok (.aload_n 0, 1) := by decide +kernel
theorem dX8_init_49 : decode cX8_init 49 = .ok (.bipush 12, 2) := by decide +kernel
theorem dX8_init_51 : decode cX8_init 51 = .ok (.newarray .int, 2) := by decide +kernel
theorem dX8_init_53 : decode cX8_init 53 = .ok (.putfield 33, 3) := by decide +kernel
theorem dX8_init_56 : decode cX8_init 56 = .ok (.aload_n 0, 1) := by decide +kernel
theorem dX8_init_57 : decode cX8_init 57 = .ok (.bipush 10, 2) := by decide +kernel
theorem dX8_init_59 : decode cX8_init 59 = .ok (.newarray .int, 2) := by decide +kernel
theorem dX8_init_61 : decode cX8_init 61 = .ok (.putfield 37, 3) := by decide +kernel
theorem dX8_init_64 : decode cX8_init 64 = .ok (.return_, 1) := by decide +kernel
set_option maxRecDepth 20000 in
theorem ggX8_addShelf_X8_requireHeight : GoodIn wsX8_addShelf wsX8_requireHeight := goodIn_ca (goodIn_r _ [9, 10, 11] rfl (by decide +kernel)) (goodIn_sub (fun _ h => List.mem_cons_of_mem _ (List.mem_append_right _ h)) (by decide +kernel))
set_option maxRecDepth 20000 in
theorem gX8_addShelf_X8_requireHeight : GoodIn wsX8_addShelf (wsV RX8 40 RX8 yX8_requireHeight wsX8_requireHeight) := goodIn_app (goodIn_r _ [5, 6, 7, 8] rfl (by decide +kernel)) ggX8_addShelf_X8_requireHeight
set_option maxRecDepth 20000 in
theorem ggX8_addShelf_X8_requireEmptyWindow : GoodIn wsX8_addShelf wsX8_requireEmptyWindow := goodIn_ca (goodIn_r _ [15, 1, 2, 3, 124, 125, 126, 127, 128, 129, 130, 131, 132, 133, 134, 135, 136, 137, 138, 139, 140] rfl (by decide +kernel)) (goodIn_sub (fun _ h => List.mem_cons_of_mem _ (List.mem_append_left _ (List.mem_append_right _ h))) (by decide +kernel))
set_option maxRecDepth 20000 in
theorem gX8_addShelf_X8_requireEmptyWindow : GoodIn wsX8_addShelf (wsV RX8 61 RX8 yX8_requireEmptyWindow wsX8_requireEmptyWindow) := goodIn_app (goodIn_r _ [12, 13, 14, 8] rfl (by decide +kernel)) ggX8_addShelf_X8_requireEmptyWindow
set_option maxRecDepth 20000 in
theorem ggX8_addShelf_X7_firstFree : GoodIn wsX8_addShelf wsX7_firstFree := goodIn_r _ [19, 20, 21, 22, 17, 23, 24, 25, 26, 27, 28, 29, 30, 31, 32, 33, 34, 35, 36, 135, 136, 137, 138, 139, 140] rfl (by decide +kernel)
set_option maxRecDepth 20000 in
theorem gX8_addShelf_X7_firstFree_n64 : GoodIn wsX8_addShelf (wsX7_firstFree) := ggX8_addShelf_X7_firstFree
set_option maxRecDepth 20000 in
theorem ggX8_addShelf_X1_save : GoodIn wsX8_addShelf wsX1_save := goodIn_r _ [40, 41, 42, 43, 44, 45, 46, 47, 48, 38, 49, 50, 51, 52, 53, 54, 55, 56, 17, 57, 58, 59, 60, 61, 62, 63, 64, 65, 66, 67, 68, 69, 70, 71, 72, 73, 24, 25, 74, 27, 26, 75, 76, 77, 78, 79, 80, 81, 82, 83, 84, 85, 86, 87, 88, 89, 90, 91, 92, 93, 94, 95, 96, 97, 98, 99, 100, 101, 102, 103, 104, 105, 106, 107, 108, 109, 110, 111, 112, 113, 114, 115, 116, 117, 118, 119, 120, 141, 142, 143, 130, 131, 132, 133, 134, 135, 136, 137, 138, 139, 140, 144, 145, 146, 147, 148, 149, 150, 151, 152, 153, 154, 155, 156] rfl (by decide +kernel)
set_option maxRecDepth 20000 in
theorem gX8_addShelf_X1_save_n70 : GoodIn wsX8_addShelf (wsX1_save) := ggX8_addShelf_X1_save
set_option maxRecDepth 20000 in
theorem ggX8_addShelf_X7_addAt : GoodIn wsX8_addShelf wsX7_addAt := goodIn_r _ [123, 24, 27, 26, 75, 76, 135, 136, 137, 138, 139, 140] rfl (by decide +kernel)
set_option maxRecDepth 20000 in
theorem gX8_addShelf_X7_addAt_n74 : GoodIn wsX8_addShelf (wsX7_addAt) := ggX8_addShelf_X7_addAt
theorem dX8_addShelf_0 : decode cX8_addShelf 0 = .ok (.aload_n 0, 1) := by decide +kernel
theorem dX8_addShelf_1 : decode cX8_addShelf 1 = .ok (.iload_n 1, 1) := by decide +kernel
theorem dX8_addShelf_2 : decode cX8_addShelf 2 = .ok (.invokevirtual 40, 3) := by decide +kernel
theorem dX8_addShelf_5 : decode cX8_addShelf 5 = .ok (.aload_n 0, 1) := by decide +kernel
theorem dX8_addShelf_6 : decode cX8_addShelf 6 = .ok (.getfield 12, 3) := by decide +kernel
theorem dX8_addShelf_9 : decode cX8_addShelf 9 = .ok (.getfield 44, 3) := by decide +kernel
theorem dX8_addShelf_12 : decode cX8_addShelf 12 = .ok (.getfield 48, 3) := by decide +kernel
theorem dX8_addShelf_15 : decode cX8_addShelf 15 = .ok (.bipush 12, 2) := by decide +kernel
theorem dX8_addShelf_17 : decode cX8_addShelf 17 = .ok (.if_icmp .lt 13, 3) := by decide +kernel
theorem dX8_addShelf_20 : decode cX8_addShelf 20 = .ok (.new 54, 3) := by decide +kernel
theorem dX8_addShelf_23 : decode cX8_addShelf 23 = .ok (.dup, 1) := by decide +kernel
theorem dX8_addShelf_24 : decode cX8_addShelf 24 = .ok (.ldc 56, 2) := by decide +kernel
theorem dX8_addShelf_26 : decode cX8_addShelf 26 = .ok (.invokespecial 58, 3) := by decide +kernel
theorem dX8_addShelf_29 : decode cX8_addShelf 29 = .ok (.athrow, 1) := by decide +kernel
theorem dX8_addShelf_30 : decode cX8_addShelf 30 = .ok (.aload_n 0, 1) := by decide +kernel
theorem dX8_addShelf_31 : decode cX8_addShelf 31 = .ok (.invokevirtual 61, 3) := by decide +kernel
theorem dX8_addShelf_34 : decode cX8_addShelf 34 = .ok (.aload_n 0, 1) := by decide +kernel
theorem dX8_addShelf_35 : decode cX8_addShelf 35 = .ok (.getfield 12, 3) := by decide +kernel
theorem dX8_addShelf_38 : decode cX8_addShelf 38 = .ok (.getfield 44, 3) := by decide +kernel
theorem dX8_addShelf_41 : decode cX8_addShelf 41 = .ok (.iload_n 1, 1) := by decide +kernel
theorem dX8_addShelf_42 : decode cX8_addShelf 42 = .ok (.invokevirtual 64, 3) := by decide +kernel
theorem dX8_addShelf_45 : decode cX8_addShelf 45 = .ok (.istore_n 2, 1) := by decide +kernel
theorem dX8_addShelf_46 : decode cX8_addShelf 46 = .ok (.iload_n 2, 1) := by decide +kernel
theorem dX8_addShelf_47 : decode cX8_addShelf 47 = .ok (.iconst (-1), 1) := by decide +kernel
theorem dX8_addShelf_48 : decode cX8_addShelf 48 = .ok (.if_icmp .ne 13, 3) := by decide +kernel
theorem dX8_addShelf_51 : decode cX8_addShelf 51 = .ok (.new 54, 3) := by decide +kernel
theorem dX8_addShelf_54 : decode cX8_addShelf 54 = .ok (.dup, 1) := by decide +kernel
theorem dX8_addShelf_55 : decode cX8_addShelf 55 = .ok (.ldc 68, 2) := by decide +kernel
theorem dX8_addShelf_57 : decode cX8_addShelf 57 = .ok (.invokespecial 58, 3) := by decide +kernel
theorem dX8_addShelf_60 : decode cX8_addShelf 60 = .ok (.athrow, 1) := by decide +kernel
theorem dX8_addShelf_61 : decode cX8_addShelf 61 = .ok (.aload_n 0, 1) := by decide +kernel
theorem dX8_addShelf_62 : decode cX8_addShelf 62 = .ok (.getfield 22, 3) := by decide +kernel
theorem dX8_addShelf_65 : decode cX8_addShelf 65 = .ok (.aload_n 0, 1) := by decide +kernel
theorem dX8_addShelf_66 : decode cX8_addShelf 66 = .ok (.getfield 12, 3) := by decide +kernel
theorem dX8_addShelf_69 : decode cX8_addShelf 69 = .ok (.invokevirtual 70, 3) := by decide +kernel
theorem dX8_addShelf_72 : decode cX8_addShelf 72 = .ok (.aload_n 0, 1) := by decide +kernel
theorem dX8_addShelf_73 : decode cX8_addShelf 73 = .ok (.getfield 12, 3) := by decide +kernel
theorem dX8_addShelf_76 : decode cX8_addShelf 76 = .ok (.getfield 44, 3) := by decide +kernel
theorem dX8_addShelf_79 : decode cX8_addShelf 79 = .ok (.iload_n 2, 1) := by decide +kernel
theorem dX8_addShelf_80 : decode cX8_addShelf 80 = .ok (.iload_n 1, 1) := by decide +kernel
theorem dX8_addShelf_81 : decode cX8_addShelf 81 = .ok (.invokevirtual 74, 3) := by decide +kernel
theorem dX8_addShelf_84 : decode cX8_addShelf 84 = .ok (.ireturn, 1) := by decide +kernel
set_option maxRecDepth 20000 in
theorem ggX8_scrap_X8_requireShelf : GoodIn wsX8_scrap wsX8_requireShelf := goodIn_ca (goodIn_r _ [9, 10, 11, 3, 111, 112, 113, 114, 115, 116, 117, 118, 119, 120, 121, 122, 123, 124, 125, 126, 127] rfl (by decide +kernel)) (goodIn_sub (fun _ h => List.mem_cons_of_mem _ (List.mem_append_right _ h)) (by decide +kernel))
set_option maxRecDepth 20000 in
theorem gX8_scrap_X8_requireShelf : GoodIn wsX8_scrap (wsV RX8 78 RX8 yX8_requireShelf wsX8_requireShelf) := goodIn_app (goodIn_r _ [5, 6, 7, 8] rfl (by decide +kernel)) ggX8_scrap_X8_requireShelf
set_option maxRecDepth 20000 in
theorem ggX8_scrap_X7_isEmpty : GoodIn wsX8_scrap wsX7_isEmpty := goodIn_r _ [15, 16, 17, 18, 13, 19, 20, 122, 123, 124, 125, 126, 127] rfl (by decide +kernel)
set_option maxRecDepth 20000 in
theorem gX8_scrap_X7_isEmpty_n86 : GoodIn wsX8_scrap (wsX7_isEmpty) := ggX8_scrap_X7_isEmpty
set_option maxRecDepth 20000 in
theorem ggX8_scrap_X1_save : GoodIn wsX8_scrap wsX1_save := goodIn_r _ [24, 25, 26, 27, 28, 29, 30, 31, 32, 22, 33, 34, 35, 36, 37, 38, 39, 40, 13, 41, 42, 43, 44, 45, 46, 47, 48, 49, 50, 51, 52, 53, 54, 55, 56, 57, 58, 59, 60, 61, 62, 63, 20, 64, 65, 66, 67, 68, 69, 70, 71, 72, 73, 74, 75, 76, 77, 78, 79, 80, 81, 82, 83, 84, 85, 86, 87, 88, 89, 90, 91, 92, 93, 94, 95, 96, 97, 98, 99, 100, 101, 102, 103, 104, 105, 106, 107, 128, 129, 130, 117, 118, 119, 120, 121, 122, 123, 124, 125, 126, 127, 131, 132, 133, 134, 135, 136, 137, 138, 139, 140, 141, 142, 143] rfl (by decide +kernel)
set_option maxRecDepth 20000 in
theorem gX8_scrap_X1_save_n70 : GoodIn wsX8_scrap (wsX1_save) := ggX8_scrap_X1_save
set_option maxRecDepth 20000 in
theorem ggX8_scrap_X7_remove : GoodIn wsX8_scrap wsX7_remove := goodIn_r _ [110, 58, 61, 62, 63, 20, 93, 94, 95, 96, 59, 122, 123, 124, 125, 126, 127] rfl (by decide +kernel)
set_option maxRecDepth 20000 in
theorem gX8_scrap_X7_remove_n95 : GoodIn wsX8_scrap (wsX7_remove) := ggX8_scrap_X7_remove
theorem dX8_scrap_0 : decode cX8_scrap 0 = .ok (.aload_n 0, 1) := by decide +kernel
theorem dX8_scrap_1 : decode cX8_scrap 1 = .ok (.iload_n 1, 1) := by decide +kernel
theorem dX8_scrap_2 : decode cX8_scrap 2 = .ok (.invokevirtual 78, 3) := by decide +kernel
theorem dX8_scrap_5 : decode cX8_scrap 5 = .ok (.iload_n 1, 1) := by decide +kernel
theorem dX8_scrap_6 : decode cX8_scrap 6 = .ok (.aload_n 0, 1) := by decide +kernel
theorem dX8_scrap_7 : decode cX8_scrap 7 = .ok (.getfield 12, 3) := by decide +kernel
theorem dX8_scrap_10 : decode cX8_scrap 10 = .ok (.getfield 44, 3) := by decide +kernel
theorem dX8_scrap_13 : decode cX8_scrap 13 = .ok (.getfield 81, 3) := by decide +kernel
theorem dX8_scrap_16 : decode cX8_scrap 16 = .ok (.if_icmp .ne 13, 3) := by decide +kernel
theorem dX8_scrap_19 : decode cX8_scrap 19 = .ok (.new 54, 3) := by decide +kernel
theorem dX8_scrap_22 : decode cX8_scrap 22 = .ok (.dup, 1) := by decide +kernel
theorem dX8_scrap_23 : decode cX8_scrap 23 = .ok (.ldc 84, 2) := by decide +kernel
theorem dX8_scrap_25 : decode cX8_scrap 25 = .ok (.invokespecial 58, 3) := by decide +kernel
theorem dX8_scrap_28 : decode cX8_scrap 28 = .ok (.athrow, 1) := by decide +kernel
theorem dX8_scrap_29 : decode cX8_scrap 29 = .ok (.aload_n 0, 1) := by decide +kernel
theorem dX8_scrap_30 : decode cX8_scrap 30 = .ok (.getfield 12, 3) := by decide +kernel
theorem dX8_scrap_33 : decode cX8_scrap 33 = .ok (.getfield 44, 3) := by decide +kernel
theorem dX8_scrap_36 : decode cX8_scrap 36 = .ok (.iload_n 1, 1) := by decide +kernel
theorem dX8_scrap_37 : decode cX8_scrap 37 = .ok (.invokevirtual 86, 3) := by decide +kernel
theorem dX8_scrap_40 : decode cX8_scrap 40 = .ok (.ifCond .ne 13, 3) := by decide +kernel
theorem dX8_scrap_43 : decode cX8_scrap 43 = .ok (.new 54, 3) := by decide +kernel
theorem dX8_scrap_46 : decode cX8_scrap 46 = .ok (.dup, 1) := by decide +kernel
theorem dX8_scrap_47 : decode cX8_scrap 47 = .ok (.ldc 90, 2) := by decide +kernel
theorem dX8_scrap_49 : decode cX8_scrap 49 = .ok (.invokespecial 58, 3) := by decide +kernel
theorem dX8_scrap_52 : decode cX8_scrap 52 = .ok (.athrow, 1) := by decide +kernel
theorem dX8_scrap_53 : decode cX8_scrap 53 = .ok (.aload_n 0, 1) := by decide +kernel
theorem dX8_scrap_54 : decode cX8_scrap 54 = .ok (.getfield 22, 3) := by decide +kernel
theorem dX8_scrap_57 : decode cX8_scrap 57 = .ok (.aload_n 0, 1) := by decide +kernel
theorem dX8_scrap_58 : decode cX8_scrap 58 = .ok (.getfield 12, 3) := by decide +kernel
theorem dX8_scrap_61 : decode cX8_scrap 61 = .ok (.invokevirtual 70, 3) := by decide +kernel
theorem dX8_scrap_64 : decode cX8_scrap 64 = .ok (.aload_n 0, 1) := by decide +kernel
theorem dX8_scrap_65 : decode cX8_scrap 65 = .ok (.getfield 12, 3) := by decide +kernel
theorem dX8_scrap_68 : decode cX8_scrap 68 = .ok (.getfield 44, 3) := by decide +kernel
theorem dX8_scrap_71 : decode cX8_scrap 71 = .ok (.getfield 92, 3) := by decide +kernel
theorem dX8_scrap_74 : decode cX8_scrap 74 = .ok (.iload_n 1, 1) := by decide +kernel
theorem dX8_scrap_75 : decode cX8_scrap 75 = .ok (.iaload, 1) := by decide +kernel
theorem dX8_scrap_76 : decode cX8_scrap 76 = .ok (.istore_n 2, 1) := by decide +kernel
theorem dX8_scrap_77 : decode cX8_scrap 77 = .ok (.aload_n 0, 1) := by decide +kernel
theorem dX8_scrap_78 : decode cX8_scrap 78 = .ok (.getfield 12, 3) := by decide +kernel
theorem dX8_scrap_81 : decode cX8_scrap 81 = .ok (.getfield 44, 3) := by decide +kernel
theorem dX8_scrap_84 : decode cX8_scrap 84 = .ok (.iload_n 1, 1) := by decide +kernel
theorem dX8_scrap_85 : decode cX8_scrap 85 = .ok (.invokevirtual 95, 3) := by decide +kernel
theorem dX8_scrap_88 : decode cX8_scrap 88 = .ok (.iload_n 2, 1) := by decide +kernel
theorem dX8_scrap_89 : decode cX8_scrap 89 = .ok (.ireturn, 1) := by decide +kernel
set_option maxRecDepth 20000 in
theorem ggX8_fetch_X8_requireShelf : GoodIn wsX8_fetch wsX8_requireShelf := goodIn_ca (goodIn_r _ [7, 8, 9, 2, 124, 125, 126, 127, 128, 129, 130, 131, 132, 133, 134, 135, 136, 137, 138, 139, 140] rfl (by decide +kernel)) (goodIn_sub (fun _ h => List.mem_cons_of_mem _ (List.mem_append_left _ (List.mem_append_right _ h))) (by decide +kernel))
set_option maxRecDepth 20000 in
theorem gX8_fetch_X8_requireShelf : GoodIn wsX8_fetch (wsV RX8 78 RX8 yX8_requireShelf wsX8_requireShelf) := goodIn_app (goodIn_r _ [3, 4, 5, 6] rfl (by decide +kernel)) ggX8_fetch_X8_requireShelf
set_option maxRecDepth 20000 in
theorem ggX8_fetch_X8_requireEmptyWindow : GoodIn wsX8_fetch wsX8_requireEmptyWindow := goodIn_ca (goodIn_r _ [13, 14, 15, 2, 124, 125, 126, 127, 128, 129, 130, 131, 132, 133, 134, 135, 136, 137, 138, 139, 140] rfl (by decide +kernel)) (goodIn_sub (fun _ h => List.mem_cons_of_mem _ (List.mem_append_right _ h)) (by decide +kernel))
set_option maxRecDepth 20000 in
theorem gX8_fetch_X8_requireEmptyWindow : GoodIn wsX8_fetch (wsV RX8 61 RX8 yX8_requireEmptyWindow wsX8_requireEmptyWindow) := goodIn_app (goodIn_r _ [10, 11, 12, 6] rfl (by decide +kernel)) ggX8_fetch_X8_requireEmptyWindow
set_option maxRecDepth 20000 in
theorem ggX8_fetch_X1_save : GoodIn wsX8_fetch wsX1_save := goodIn_r _ [19, 20, 21, 22, 23, 24, 25, 26, 27, 17, 28, 29, 30, 31, 32, 33, 34, 35, 36, 37, 38, 39, 40, 41, 42, 43, 44, 45, 46, 47, 48, 49, 50, 51, 52, 53, 54, 55, 56, 57, 58, 59, 60, 61, 62, 63, 64, 65, 66, 67, 68, 69, 70, 71, 72, 73, 74, 75, 76, 77, 78, 79, 80, 81, 82, 83, 84, 85, 86, 87, 88, 89, 90, 91, 92, 93, 94, 95, 96, 97, 98, 99, 100, 101, 102, 103, 104, 141, 142, 143, 130, 131, 132, 133, 134, 135, 136, 137, 138, 139, 140, 144, 145, 146, 147, 148, 149, 150, 151, 152, 153, 154, 155, 156] rfl (by decide +kernel)
set_option maxRecDepth 20000 in
theorem gX8_fetch_X1_save_n70 : GoodIn wsX8_fetch (wsX1_save) := ggX8_fetch_X1_save
set_option maxRecDepth 20000 in
theorem ggX8_fetch_X6_bring : GoodIn wsX8_fetch wsX6_bring := goodIn_r _ [107, 41, 37, 108, 109, 110, 24, 111, 112, 113, 114, 115, 116, 36, 117, 118, 40, 119, 120, 69, 71, 68, 121, 122, 123, 66, 67, 64, 130, 131, 132, 133, 134, 135, 136, 137, 138, 139, 140, 144, 145, 146, 147, 148, 149, 150] rfl (by decide +kernel)
set_option maxRecDepth 20000 in
theorem gX8_fetch_X6_bring_n98 : GoodIn wsX8_fetch (wsX6_bring) := ggX8_fetch_X6_bring
theorem dX8_fetch_0 : decode cX8_fetch 0 = .ok (.aload_n 0, 1) := by decide +kernel
theorem dX8_fetch_1 : decode cX8_fetch 1 = .ok (.iload_n 1, 1) := by decide +kernel
theorem dX8_fetch_2 : decode cX8_fetch 2 = .ok (.invokevirtual 78, 3) := by decide +kernel
theorem dX8_fetch_5 : decode cX8_fetch 5 = .ok (.aload_n 0, 1) := by decide +kernel
theorem dX8_fetch_6 : decode cX8_fetch 6 = .ok (.invokevirtual 61, 3) := by decide +kernel
theorem dX8_fetch_9 : decode cX8_fetch 9 = .ok (.aload_n 0, 1) := by decide +kernel
theorem dX8_fetch_10 : decode cX8_fetch 10 = .ok (.getfield 22, 3) := by decide +kernel
theorem dX8_fetch_13 : decode cX8_fetch 13 = .ok (.aload_n 0, 1) := by decide +kernel
theorem dX8_fetch_14 : decode cX8_fetch 14 = .ok (.getfield 12, 3) := by decide +kernel
theorem dX8_fetch_17 : decode cX8_fetch 17 = .ok (.invokevirtual 70, 3) := by decide +kernel
theorem dX8_fetch_20 : decode cX8_fetch 20 = .ok (.aload_n 0, 1) := by decide +kernel
theorem dX8_fetch_21 : decode cX8_fetch 21 = .ok (.getfield 12, 3) := by decide +kernel
theorem dX8_fetch_24 : decode cX8_fetch 24 = .ok (.iload_n 1, 1) := by decide +kernel
theorem dX8_fetch_25 : decode cX8_fetch 25 = .ok (.invokevirtual 98, 3) := by decide +kernel
theorem dX8_fetch_28 : decode cX8_fetch 28 = .ok (.ireturn, 1) := by decide +kernel
set_option maxRecDepth 20000 in
theorem ggX8_stow_X8_requireShelfAtWindow : GoodIn wsX8_stow wsX8_requireShelfAtWindow := goodIn_ca (goodIn_r _ [7, 8, 9, 2, 131, 132, 133, 134, 135, 136, 137, 138, 139, 140, 141, 142, 143, 144, 145, 146, 147] rfl (by decide +kernel)) (goodIn_sub (fun _ h => List.mem_cons_of_mem _ (List.mem_append_right _ h)) (by decide +kernel))
set_option maxRecDepth 20000 in
theorem gX8_stow_X8_requireShelfAtWindow : GoodIn wsX8_stow (wsV RX8 101 RX8 yX8_requireShelfAtWindow wsX8_requireShelfAtWindow) := goodIn_app (goodIn_r _ [3, 4, 5, 6] rfl (by decide +kernel)) ggX8_stow_X8_requireShelfAtWindow
set_option maxRecDepth 20000 in
theorem ggX8_stow_X1_save : GoodIn wsX8_stow wsX1_save := goodIn_r _ [13, 14, 15, 16, 17, 18, 19, 20, 21, 11, 22, 23, 24, 25, 26, 27, 28, 29, 30, 31, 32, 33, 34, 35, 36, 37, 38, 39, 40, 41, 42, 43, 44, 45, 46, 47, 48, 49, 50, 51, 52, 53, 54, 55, 56, 57, 58, 59, 60, 61, 62, 63, 64, 65, 66, 67, 68, 69, 70, 71, 72, 73, 74, 75, 76, 77, 78, 79, 80, 81, 82, 83, 84, 85, 86, 87, 88, 89, 90, 91, 92, 93, 94, 95, 96, 97, 98, 148, 149, 150, 137, 138, 139, 140, 141, 142, 143, 144, 145, 146, 147, 151, 152, 153, 154, 155, 156, 157, 158, 159, 160, 161, 162, 163] rfl (by decide +kernel)
set_option maxRecDepth 20000 in
theorem gX8_stow_X1_save_n70 : GoodIn wsX8_stow (wsX1_save) := ggX8_stow_X1_save
set_option maxRecDepth 20000 in
theorem ggX8_stow_X6_putBack : GoodIn wsX8_stow wsX6_putBack := goodIn_r _ [101, 31, 35, 102, 30, 103, 104, 105, 106, 107, 108, 48, 49, 52, 51, 109, 110, 111, 112, 113, 114, 115, 116, 117, 118, 119, 120, 18, 121, 122, 123, 124, 34, 125, 126, 63, 65, 62, 127, 128, 129, 130, 60, 61, 58, 137, 138, 139, 140, 141, 142, 143, 144, 145, 146, 147, 151, 152, 153, 154, 155, 156, 157] rfl (by decide +kernel)
set_option maxRecDepth 20000 in
theorem gX8_stow_X6_putBack_n104 : GoodIn wsX8_stow (wsX6_putBack) := ggX8_stow_X6_putBack
theorem dX8_stow_0 : decode cX8_stow 0 = .ok (.aload_n 0, 1) := by decide +kernel
theorem dX8_stow_1 : decode cX8_stow 1 = .ok (.invokevirtual 101, 3) := by decide +kernel
theorem dX8_stow_4 : decode cX8_stow 4 = .ok (.aload_n 0, 1) := by decide +kernel
theorem dX8_stow_5 : decode cX8_stow 5 = .ok (.getfield 22, 3) := by decide +kernel
theorem dX8_stow_8 : decode cX8_stow 8 = .ok (.aload_n 0, 1) := by decide +kernel
theorem dX8_stow_9 : decode cX8_stow 9 = .ok (.getfield 12, 3) := by decide +kernel
theorem dX8_stow_12 : decode cX8_stow 12 = .ok (.invokevirtual 70, 3) := by decide +kernel
theorem dX8_stow_15 : decode cX8_stow 15 = .ok (.aload_n 0, 1) := by decide +kernel
theorem dX8_stow_16 : decode cX8_stow 16 = .ok (.getfield 12, 3) := by decide +kernel
theorem dX8_stow_19 : decode cX8_stow 19 = .ok (.invokevirtual 104, 3) := by decide +kernel
theorem dX8_stow_22 : decode cX8_stow 22 = .ok (.ireturn, 1) := by decide +kernel
set_option maxRecDepth 20000 in
theorem ggX8_fill_X8_requireKind : GoodIn wsX8_fill wsX8_requireKind := goodIn_ca (goodIn_r _ [9, 10, 11] rfl (by decide +kernel)) (goodIn_sub (fun _ h => List.mem_cons_of_mem _ (List.mem_append_left _ (List.mem_append_right _ h))) (by decide +kernel))
set_option maxRecDepth 20000 in
theorem gX8_fill_X8_requireKind : GoodIn wsX8_fill (wsV RX8 135 RX8 yX8_requireKind wsX8_requireKind) := goodIn_app (goodIn_r _ [5, 6, 7, 8] rfl (by decide +kernel)) ggX8_fill_X8_requireKind
set_option maxRecDepth 20000 in
theorem ggX8_fill_X8_requireMany : GoodIn wsX8_fill wsX8_requireMany := goodIn_ca (goodIn_r _ [15, 16, 17] rfl (by decide +kernel)) (goodIn_sub (fun _ h => List.mem_cons_of_mem _ (List.mem_append_right _ h)) (by decide +kernel))
set_option maxRecDepth 20000 in
theorem gX8_fill_X8_requireMany : GoodIn wsX8_fill (wsV RX8 138 RX8 yX8_requireMany wsX8_requireMany) := goodIn_app (goodIn_r _ [12, 13, 14, 8] rfl (by decide +kernel)) ggX8_fill_X8_requireMany
set_option maxRecDepth 20000 in
theorem ggX8_fill_X8_requireShelfAtWindow : GoodIn wsX8_fill wsX8_requireShelfAtWindow := goodIn_ca (goodIn_r _ [21, 1, 2, 3, 120, 121, 122, 123, 124, 125, 126, 127, 128, 129, 130, 131, 132, 133, 134, 135, 136] rfl (by decide +kernel)) (goodIn_sub (fun _ h => List.mem_cons_of_mem _ (List.mem_append_left _ (List.mem_append_left _ (List.mem_append_right _ h)))) (by decide +kernel))
set_option maxRecDepth 20000 in
theorem gX8_fill_X8_requireShelfAtWindow : GoodIn wsX8_fill (wsV RX8 101 RX8 yX8_requireShelfAtWindow wsX8_requireShelfAtWindow) := goodIn_app (goodIn_r _ [18, 19, 20, 8] rfl (by decide +kernel)) ggX8_fill_X8_requireShelfAtWindow
set_option maxRecDepth 20000 in
theorem ggX8_fill_X6_weighShelf : GoodIn wsX8_fill wsX6_weighShelf := goodIn_r _ [25, 26, 27, 28, 29, 30, 31, 32, 126, 127, 128, 129, 130, 137, 138, 139, 140, 131, 132, 133, 134, 135, 136] rfl (by decide +kernel)
set_option maxRecDepth 20000 in
theorem gX8_fill_X6_weighShelf_n141 : GoodIn wsX8_fill (wsX6_weighShelf) := ggX8_fill_X6_weighShelf
set_option maxRecDepth 20000 in
theorem ggX8_fill_X1_save : GoodIn wsX8_fill wsX1_save := goodIn_r _ [36, 37, 38, 39, 40, 23, 41, 42, 43, 34, 44, 45, 46, 47, 48, 49, 50, 51, 29, 26, 52, 53, 54, 55, 56, 57, 58, 27, 59, 60, 61, 62, 63, 64, 65, 66, 67, 68, 69, 70, 71, 72, 32, 73, 74, 75, 76, 77, 78, 79, 80, 81, 82, 83, 84, 85, 86, 87, 88, 89, 90, 91, 92, 93, 94, 95, 96, 97, 98, 99, 100, 101, 102, 103, 104, 105, 106, 107, 108, 109, 110, 111, 112, 113, 114, 115, 116, 141, 142, 143, 126, 127, 128, 129, 130, 131, 132, 133, 134, 135, 136, 144, 145, 146, 147, 148, 149, 150, 137, 138, 139, 140, 151, 152] rfl (by decide +kernel)
set_option maxRecDepth 20000 in
theorem gX8_fill_X1_save_n70 : GoodIn wsX8_fill (wsX1_save) := ggX8_fill_X1_save
set_option maxRecDepth 20000 in
theorem ggX8_fill_X7_change : GoodIn wsX8_fill wsX7_change := goodIn_r _ [119, 32, 131, 132, 133, 134, 135, 136] rfl (by decide +kernel)
set_option maxRecDepth 20000 in
theorem gX8_fill_X7_change_n158 : GoodIn wsX8_fill (wsX7_change) := ggX8_fill_X7_change
theorem dX8_fill_0 : decode cX8_fill 0 = .ok (.aload_n 0, 1) := by decide +kernel
theorem dX8_fill_1 : decode cX8_fill 1 = .ok (.iload_n 1, 1) := by decide +kernel
theorem dX8_fill_2 : decode cX8_fill 2 = .ok (.invokevirtual 135, 3) := by decide +kernel
theorem dX8_fill_5 : decode cX8_fill 5 = .ok (.aload_n 0, 1) := by decide +kernel
theorem dX8_fill_6 : decode cX8_fill 6 = .ok (.iload_n 2, 1) := by decide +kernel
theorem dX8_fill_7 : decode cX8_fill 7 = .ok (.invokevirtual 138, 3) := by decide +kernel
theorem dX8_fill_10 : decode cX8_fill 10 = .ok (.aload_n 0, 1) := by decide +kernel
theorem dX8_fill_11 : decode cX8_fill 11 = .ok (.invokevirtual 101, 3) := by decide +kernel
theorem dX8_fill_14 : decode cX8_fill 14 = .ok (.aload_n 0, 1) := by decide +kernel
theorem dX8_fill_15 : decode cX8_fill 15 = .ok (.getfield 12, 3) := by decide +kernel
theorem dX8_fill_18 : decode cX8_fill 18 = .ok (.getfield 44, 3) := by decide +kernel
theorem dX8_fill_21 : decode cX8_fill 21 = .ok (.getfield 81, 3) := by decide +kernel
theorem dX8_fill_24 : decode cX8_fill 24 = .ok (.istore_n 3, 1) := by decide +kernel
theorem dX8_fill_25 : decode cX8_fill 25 = .ok (.aload_n 0, 1) := by decide +kernel
theorem dX8_fill_26 : decode cX8_fill 26 = .ok (.getfield 12, 3) := by decide +kernel
theorem dX8_fill_29 : decode cX8_fill 29 = .ok (.iload_n 3, 1) := by decide +kernel
theorem dX8_fill_30 : decode cX8_fill 30 = .ok (.invokevirtual 141, 3) := by decide +kernel
theorem dX8_fill_33 : decode cX8_fill 33 = .ok (.iload_n 2, 1) := by decide +kernel
theorem dX8_fill_34 : decode cX8_fill 34 = .ok (.aload_n 0, 1) := by decide +kernel
theorem dX8_fill_35 : decode cX8_fill 35 = .ok (.getfield 12, 3) := by decide +kernel
theorem dX8_fill_38 : decode cX8_fill 38 = .ok (.getfield 144, 3) := by decide +kernel
theorem dX8_fill_41 : decode cX8_fill 41 = .ok (.getfield 148, 3) := by decide +kernel
theorem dX8_fill_44 : decode cX8_fill 44 = .ok (.iload_n 1, 1) := by decide +kernel
theorem dX8_fill_45 : decode cX8_fill 45 = .ok (.iaload, 1) := by decide +kernel
theorem dX8_fill_46 : decode cX8_fill 46 = .ok (.imul, 1) := by decide +kernel
theorem dX8_fill_47 : decode cX8_fill 47 = .ok (.iadd, 1) := by decide +kernel
theorem dX8_fill_48 : decode cX8_fill 48 = .ok (.sipush 150, 3) := by decide +kernel
theorem dX8_fill_51 : decode cX8_fill 51 = .ok (.if_icmp .le 13, 3) := by decide +kernel
theorem dX8_fill_54 : decode cX8_fill 54 = .ok (.new 54, 3) := by decide +kernel
theorem dX8_fill_57 : decode cX8_fill 57 = .ok (.dup, 1) := by decide +kernel
theorem dX8_fill_58 : decode cX8_fill 58 = .ok (.ldc 153, 2) := by decide +kernel
theorem dX8_fill_60 : decode cX8_fill 60 = .ok (.invokespecial 58, 3) := by decide +kernel
theorem dX8_fill_63 : decode cX8_fill 63 = .ok (.athrow, 1) := by decide +kernel
theorem dX8_fill_64 : decode cX8_fill 64 = .ok (.aload_n 0, 1) := by decide +kernel
theorem dX8_fill_65 : decode cX8_fill 65 = .ok (.getfield 22, 3) := by decide +kernel
theorem dX8_fill_68 : decode cX8_fill 68 = .ok (.aload_n 0, 1) := by decide +kernel
theorem dX8_fill_69 : decode cX8_fill 69 = .ok (.getfield 12, 3) := by decide +kernel
theorem dX8_fill_72 : decode cX8_fill 72 = .ok (.invokevirtual 70, 3) := by decide +kernel
theorem dX8_fill_75 : decode cX8_fill 75 = .ok (.aload_n 0, 1) := by decide +kernel
theorem dX8_fill_76 : decode cX8_fill 76 = .ok (.getfield 12, 3) := by decide +kernel
theorem dX8_fill_79 : decode cX8_fill 79 = .ok (.getfield 144, 3) := by decide +kernel
theorem dX8_fill_82 : decode cX8_fill 82 = .ok (.getfield 155, 3) := by decide +kernel
theorem dX8_fill_85 : decode cX8_fill 85 = .ok (.iload_n 1, 1) := by decide +kernel
theorem dX8_fill_86 : decode cX8_fill 86 = .ok (.dup2, 1) := by decide +kernel
theorem dX8_fill_87 : decode cX8_fill 87 = .ok (.iaload, 1) := by decide +kernel
theorem dX8_fill_88 : decode cX8_fill 88 = .ok (.iload_n 2, 1) := by decide +kernel
theorem dX8_fill_89 : decode cX8_fill 89 = .ok (.iadd, 1) := by decide +kernel
theorem dX8_fill_90 : decode cX8_fill 90 = .ok (.iastore, 1) := by decide +kernel
theorem dX8_fill_91 : decode cX8_fill 91 = .ok (.aload_n 0, 1) := by decide +kernel
theorem dX8_fill_92 : decode cX8_fill 92 = .ok (.getfield 12, 3) := by decide +kernel
theorem dX8_fill_95 : decode cX8_fill 95 = .ok (.getfield 44, 3) := by decide +kernel
theorem dX8_fill_98 : decode cX8_fill 98 = .ok (.iload_n 3, 1) := by decide +kernel
theorem dX8_fill_99 : decode cX8_fill 99 = .ok (.iload_n 1, 1) := by decide +kernel
theorem dX8_fill_100 : decode cX8_fill 100 = .ok (.iload_n 2, 1) := by decide +kernel
theorem dX8_fill_101 : decode cX8_fill 101 = .ok (.invokevirtual 158, 3) := by decide +kernel
theorem dX8_fill_104 : decode cX8_fill 104 = .ok (.ireturn, 1) := by decide +kernel
set_option maxRecDepth 20000 in
theorem ggX8_take_X8_requireKind : GoodIn wsX8_take wsX8_requireKind := goodIn_ca (goodIn_r _ [9, 10, 11] rfl (by decide +kernel)) (goodIn_sub (fun _ h => List.mem_cons_of_mem _ (List.mem_append_left _ (List.mem_append_right _ h))) (by decide +kernel))
set_option maxRecDepth 20000 in
theorem gX8_take_X8_requireKind : GoodIn wsX8_take (wsV RX8 135 RX8 yX8_requireKind wsX8_requireKind) := goodIn_app (goodIn_r _ [5, 6, 7, 8] rfl (by decide +kernel)) ggX8_take_X8_requireKind
set_option maxRecDepth 20000 in
theorem ggX8_take_X8_requireMany : GoodIn wsX8_take wsX8_requireMany := goodIn_ca (goodIn_r _ [15, 16, 17] rfl (by decide +kernel)) (goodIn_sub (fun _ h => List.mem_cons_of_mem _ (List.mem_append_right _ h)) (by decide +kernel))
set_option maxRecDepth 20000 in
theorem gX8_take_X8_requireMany : GoodIn wsX8_take (wsV RX8 138 RX8 yX8_requireMany wsX8_requireMany) := goodIn_app (goodIn_r _ [12, 13, 14, 8] rfl (by decide +kernel)) ggX8_take_X8_requireMany
set_option maxRecDepth 20000 in
theorem ggX8_take_X8_requireShelfAtWindow : GoodIn wsX8_take wsX8_requireShelfAtWindow := goodIn_ca (goodIn_r _ [21, 1, 2, 3, 117, 118, 119, 120, 121, 122, 123, 124, 125, 126, 127, 128, 129, 130, 131, 132, 133] rfl (by decide +kernel)) (goodIn_sub (fun _ h => List.mem_cons_of_mem _ (List.mem_append_left _ (List.mem_append_left _ (List.mem_append_right _ h)))) (by decide +kernel))
set_option maxRecDepth 20000 in
theorem gX8_take_X8_requireShelfAtWindow : GoodIn wsX8_take (wsV RX8 101 RX8 yX8_requireShelfAtWindow wsX8_requireShelfAtWindow) := goodIn_app (goodIn_r _ [18, 19, 20, 8] rfl (by decide +kernel)) ggX8_take_X8_requireShelfAtWindow
set_option maxRecDepth 20000 in
theorem ggX8_take_X7_countIn : GoodIn wsX8_take wsX7_countIn := goodIn_r _ [25, 26, 128, 129, 130, 131, 132, 133] rfl (by decide +kernel)
set_option maxRecDepth 20000 in
theorem gX8_take_X7_countIn_n162 : GoodIn wsX8_take (wsX7_countIn) := ggX8_take_X7_countIn
set_option maxRecDepth 20000 in
theorem ggX8_take_X1_save : GoodIn wsX8_take wsX1_save := goodIn_r _ [30, 31, 32, 33, 34, 35, 36, 37, 38, 28, 39, 40, 41, 42, 43, 44, 45, 46, 23, 47, 48, 49, 50, 51, 52, 53, 54, 55, 56, 57, 58, 59, 60, 61, 62, 63, 64, 65, 66, 67, 68, 69, 26, 70, 71, 72, 73, 74, 75, 76, 77, 78, 79, 80, 81, 82, 83, 84, 85, 86, 87, 88, 89, 90, 91, 92, 93, 94, 95, 96, 97, 98, 99, 100, 101, 102, 103, 104, 105, 106, 107, 108, 109, 110, 111, 112, 113, 138, 139, 140, 123, 124, 125, 126, 127, 128, 129, 130, 131, 132, 133, 141, 142, 143, 144, 145, 146, 147, 134, 135, 136, 137, 148, 149] rfl (by decide +kernel)
set_option maxRecDepth 20000 in
theorem gX8_take_X1_save_n70 : GoodIn wsX8_take (wsX1_save) := ggX8_take_X1_save
set_option maxRecDepth 20000 in
theorem ggX8_take_X7_change : GoodIn wsX8_take wsX7_change := goodIn_r _ [116, 26, 128, 129, 130, 131, 132, 133] rfl (by decide +kernel)
set_option maxRecDepth 20000 in
theorem gX8_take_X7_change_n158 : GoodIn wsX8_take (wsX7_change) := ggX8_take_X7_change
theorem dX8_take_0 : decode cX8_take 0 = .ok (.aload_n 0, 1) := by decide +kernel
theorem dX8_take_1 : decode cX8_take 1 = .ok (.iload_n 1, 1) := by decide +kernel
theorem dX8_take_2 : decode cX8_take 2 = .ok (.invokevirtual 135, 3) := by decide +kernel
theorem dX8_take_5 : decode cX8_take 5 = .ok (.aload_n 0, 1) := by decide +kernel
theorem dX8_take_6 : decode cX8_take 6 = .ok (.iload_n 2, 1) := by decide +kernel
theorem dX8_take_7 : decode cX8_take 7 = .ok (.invokevirtual 138, 3) := by decide +kernel
theorem dX8_take_10 : decode cX8_take 10 = .ok (.aload_n 0, 1) := by decide +kernel
theorem dX8_take_11 : decode cX8_take 11 = .ok (.invokevirtual 101, 3) := by decide +kernel
theorem dX8_take_14 : decode cX8_take 14 = .ok (.aload_n 0, 1) := by decide +kernel
theorem dX8_take_15 : decode cX8_take 15 = .ok (.getfield 12, 3) := by decide +kernel
theorem dX8_take_18 : decode cX8_take 18 = .ok (.getfield 44, 3) := by decide +kernel
theorem dX8_take_21 : decode cX8_take 21 = .ok (.getfield 81, 3) := by decide +kernel
theorem dX8_take_24 : decode cX8_take 24 = .ok (.istore_n 3, 1) := by decide +kernel
theorem dX8_take_25 : decode cX8_take 25 = .ok (.aload_n 0, 1) := by decide +kernel
theorem dX8_take_26 : decode cX8_take 26 = .ok (.getfield 12, 3) := by decide +kernel
theorem dX8_take_29 : decode cX8_take 29 = .ok (.getfield 44, 3) := by decide +kernel
theorem dX8_take_32 : decode cX8_take 32 = .ok (.iload_n 3, 1) := by decide +kernel
theorem dX8_take_33 : decode cX8_take 33 = .ok (.iload_n 1, 1) := by decide +kernel
theorem dX8_take_34 : decode cX8_take 34 = .ok (.invokevirtual 162, 3) := by decide +kernel
theorem dX8_take_37 : decode cX8_take 37 = .ok (.iload_n 2, 1) := by decide +kernel
theorem dX8_take_38 : decode cX8_take 38 = .ok (.if_icmp .ge 13, 3) := by decide +kernel
theorem dX8_take_41 : decode cX8_take 41 = .ok (.new 54, 3) := by decide +kernel
theorem dX8_take_44 : decode cX8_take 44 = .ok (.dup, 1) := by decide +kernel
theorem dX8_take_45 : decode cX8_take 45 = .ok (.ldc 165, 2) := by decide +kernel
theorem dX8_take_47 : decode cX8_take 47 = .ok (.invokespecial 58, 3) := by decide +kernel
theorem dX8_take_50 : decode cX8_take 50 = .ok (.athrow, 1) := by decide +kernel
theorem dX8_take_51 : decode cX8_take 51 = .ok (.aload_n 0, 1) := by decide +kernel
theorem dX8_take_52 : decode cX8_take 52 = .ok (.getfield 22, 3) := by decide +kernel
theorem dX8_take_55 : decode cX8_take 55 = .ok (.aload_n 0, 1) := by decide +kernel
theorem dX8_take_56 : decode cX8_take 56 = .ok (.getfield 12, 3) := by decide +kernel
theorem dX8_take_59 : decode cX8_take 59 = .ok (.invokevirtual 70, 3) := by decide +kernel
theorem dX8_take_62 : decode cX8_take 62 = .ok (.aload_n 0, 1) := by decide +kernel
theorem dX8_take_63 : decode cX8_take 63 = .ok (.getfield 12, 3) := by decide +kernel
theorem dX8_take_66 : decode cX8_take 66 = .ok (.getfield 144, 3) := by decide +kernel
theorem dX8_take_69 : decode cX8_take 69 = .ok (.getfield 167, 3) := by decide +kernel
theorem dX8_take_72 : decode cX8_take 72 = .ok (.iload_n 1, 1) := by decide +kernel
theorem dX8_take_73 : decode cX8_take 73 = .ok (.dup2, 1) := by decide +kernel
theorem dX8_take_74 : decode cX8_take 74 = .ok (.iaload, 1) := by decide +kernel
theorem dX8_take_75 : decode cX8_take 75 = .ok (.iload_n 2, 1) := by decide +kernel
theorem dX8_take_76 : decode cX8_take 76 = .ok (.iadd, 1) := by decide +kernel
theorem dX8_take_77 : decode cX8_take 77 = .ok (.iastore, 1) := by decide +kernel
theorem dX8_take_78 : decode cX8_take 78 = .ok (.aload_n 0, 1) := by decide +kernel
theorem dX8_take_79 : decode cX8_take 79 = .ok (.getfield 12, 3) := by decide +kernel
theorem dX8_take_82 : decode cX8_take 82 = .ok (.getfield 44, 3) := by decide +kernel
theorem dX8_take_85 : decode cX8_take 85 = .ok (.iload_n 3, 1) := by decide +kernel
theorem dX8_take_86 : decode cX8_take 86 = .ok (.iload_n 1, 1) := by decide +kernel
theorem dX8_take_87 : decode cX8_take 87 = .ok (.iload_n 2, 1) := by decide +kernel
theorem dX8_take_88 : decode cX8_take 88 = .ok (.ineg, 1) := by decide +kernel
theorem dX8_take_89 : decode cX8_take 89 = .ok (.invokevirtual 158, 3) := by decide +kernel
theorem dX8_take_92 : decode cX8_take 92 = .ok (.ireturn, 1) := by decide +kernel
set_option maxRecDepth 20000 in
theorem ggX8_accept_X5_isOrder : GoodIn wsX8_accept wsX5_isOrder := goodIn_r _ [11, 12, 13, 14, 15, 16, 9, 17, 18, 19, 20, 21, 22, 23, 24, 25, 26, 27, 28, 29, 30, 31, 32, 33, 34, 35, 36, 37, 38, 39, 40, 41, 42, 43, 149, 150, 151, 152, 153, 154] rfl (by decide +kernel)
set_option maxRecDepth 20000 in
theorem gX8_accept_X5_isOrder_n170 : GoodIn wsX8_accept (wsX5_isOrder) := ggX8_accept_X5_isOrder
set_option maxRecDepth 20000 in
theorem ggX8_accept_X1_save : GoodIn wsX8_accept wsX1_save := goodIn_r _ [47, 48, 49, 50, 51, 52, 53, 54, 55, 45, 56, 57, 58, 59, 60, 61, 62, 63, 64, 65, 66, 67, 68, 69, 70, 71, 72, 73, 74, 75, 76, 77, 78, 79, 80, 81, 82, 83, 84, 85, 86, 87, 88, 89, 90, 91, 92, 93, 94, 95, 96, 97, 98, 99, 100, 101, 102, 103, 104, 105, 106, 107, 108, 109, 110, 111, 112, 113, 114, 115, 116, 117, 118, 119, 120, 121, 122, 123, 124, 125, 126, 127, 128, 129, 130, 131, 132, 155, 156, 157, 142, 143, 144, 145, 146, 158, 159, 160, 161, 162, 163, 164, 165, 166, 167, 168, 169, 170, 171, 172, 173, 174, 147, 148] rfl (by decide +kernel)
set_option maxRecDepth 20000 in
theorem gX8_accept_X1_save_n70 : GoodIn wsX8_accept (wsX1_save) := ggX8_accept_X1_save
set_option maxRecDepth 20000 in
theorem ggX8_accept_X3_add : GoodIn wsX8_accept wsX3_add := goodIn_r _ [135, 110, 111, 147, 148] rfl (by decide +kernel)
set_option maxRecDepth 20000 in
theorem gX8_accept_X3_add_n197 : GoodIn wsX8_accept (wsX3_add) := ggX8_accept_X3_add
theorem dX8_accept_0 : decode cX8_accept 0 = .ok (.aload_n 0, 1) := by decide +kernel
theorem dX8_accept_1 : decode cX8_accept 1 = .ok (.getfield 29, 3) := by decide +kernel
theorem dX8_accept_4 : decode cX8_accept 4 = .ok (.invokevirtual 170, 3) := by decide +kernel
theorem dX8_accept_7 : decode cX8_accept 7 = .ok (.ifCond .ne 13, 3) := by decide +kernel
theorem dX8_accept_10 : decode cX8_accept 10 = .ok (.new 174, 3) := by decide +kernel
theorem dX8_accept_13 : decode cX8_accept 13 = .ok (.dup, 1) := by decide +kernel
theorem dX8_accept_14 : decode cX8_accept 14 = .ok (.ldc 176, 2) := by decide +kernel
theorem dX8_accept_16 : decode cX8_accept 16 = .ok (.invokespecial 178, 3) := by decide +kernel
theorem dX8_accept_19 : decode cX8_accept 19 = .ok (.athrow, 1) := by decide +kernel
theorem dX8_accept_20 : decode cX8_accept 20 = .ok (.aload_n 0, 1) := by decide +kernel
theorem dX8_accept_21 : decode cX8_accept 21 = .ok (.getfield 12, 3) := by decide +kernel
theorem dX8_accept_24 : decode cX8_accept 24 = .ok (.getfield 179, 3) := by decide +kernel
theorem dX8_accept_27 : decode cX8_accept 27 = .ok (.getfield 183, 3) := by decide +kernel
theorem dX8_accept_30 : decode cX8_accept 30 = .ok (.bipush 8, 2) := by decide +kernel
theorem dX8_accept_32 : decode cX8_accept 32 = .ok (.if_icmp .lt 13, 3) := by decide +kernel
theorem dX8_accept_35 : decode cX8_accept 35 = .ok (.new 54, 3) := by decide +kernel
theorem dX8_accept_38 : decode cX8_accept 38 = .ok (.dup, 1) := by decide +kernel
theorem dX8_accept_39 : decode cX8_accept 39 = .ok (.ldc 186, 2) := by decide +kernel
theorem dX8_accept_41 : decode cX8_accept 41 = .ok (.invokespecial 58, 3) := by decide +kernel
theorem dX8_accept_44 : decode cX8_accept 44 = .ok (.athrow, 1) := by decide +kernel
theorem dX8_accept_45 : decode cX8_accept 45 = .ok (.aload_n 0, 1) := by decide +kernel
theorem dX8_accept_46 : decode cX8_accept 46 = .ok (.getfield 22, 3) := by decide +kernel
theorem dX8_accept_49 : decode cX8_accept 49 = .ok (.aload_n 0, 1) := by decide +kernel
theorem dX8_accept_50 : decode cX8_accept 50 = .ok (.getfield 12, 3) := by decide +kernel
theorem dX8_accept_53 : decode cX8_accept 53 = .ok (.invokevirtual 70, 3) := by decide +kernel
theorem dX8_accept_56 : decode cX8_accept 56 = .ok (.aload_n 0, 1) := by decide +kernel
theorem dX8_accept_57 : decode cX8_accept 57 = .ok (.getfield 12, 3) := by decide +kernel
theorem dX8_accept_60 : decode cX8_accept 60 = .ok (.getfield 179, 3) := by decide +kernel
theorem dX8_accept_63 : decode cX8_accept 63 = .ok (.aload_n 0, 1) := by decide +kernel
theorem dX8_accept_64 : decode cX8_accept 64 = .ok (.getfield 29, 3) := by decide +kernel
theorem dX8_accept_67 : decode cX8_accept 67 = .ok (.getfield 188, 3) := by decide +kernel
theorem dX8_accept_70 : decode cX8_accept 70 = .ok (.getfield 192, 3) := by decide +kernel
theorem dX8_accept_73 : decode cX8_accept 73 = .ok (.invokevirtual 197, 3) := by decide +kernel
theorem dX8_accept_76 : decode cX8_accept 76 = .ok (.istore_n 1, 1) := by decide +kernel
theorem dX8_accept_77 : decode cX8_accept 77 = .ok (.aload_n 0, 1) := by decide +kernel
theorem dX8_accept_78 : decode cX8_accept 78 = .ok (.getfield 29, 3) := by decide +kernel
theorem dX8_accept_81 : decode cX8_accept 81 = .ok (.iconst 0, 1) := by decide +kernel
theorem dX8_accept_82 : decode cX8_accept 82 = .ok (.putfield 200, 3) := by decide +kernel
theorem dX8_accept_85 : decode cX8_accept 85 = .ok (.iload_n 1, 1) := by decide +kernel
theorem dX8_accept_86 : decode cX8_accept 86 = .ok (.ireturn, 1) := by decide +kernel
set_option maxRecDepth 20000 in
theorem ggX8_serveAll_X8_requireEmptyWindow : GoodIn wsX8_serveAll wsX8_requireEmptyWindow := goodIn_ca (goodIn_r _ [7, 8, 9, 2, 194, 195, 196, 197, 198, 199, 200, 201, 202, 203, 204, 205, 206, 207, 208, 209, 210] rfl (by decide +kernel)) (goodIn_sub (fun _ h => List.mem_cons_of_mem _ (List.mem_append_right _ h)) (by decide +kernel))
set_option maxRecDepth 20000 in
theorem gX8_serveAll_X8_requireEmptyWindow : GoodIn wsX8_serveAll (wsV RX8 61 RX8 yX8_requireEmptyWindow wsX8_requireEmptyWindow) := goodIn_app (goodIn_r _ [3, 4, 5, 6] rfl (by decide +kernel)) ggX8_serveAll_X8_requireEmptyWindow
set_option maxRecDepth 20000 in
theorem ggX8_serveAll_X1_save : GoodIn wsX8_serveAll wsX1_save := goodIn_r _ [13, 14, 15, 16, 17, 18, 19, 20, 21, 11, 22, 23, 24, 25, 26, 27, 28, 29, 30, 31, 32, 33, 34, 35, 36, 37, 38, 39, 40, 41, 42, 43, 44, 45, 46, 47, 48, 49, 50, 51, 52, 53, 54, 55, 56, 57, 58, 59, 60, 61, 62, 63, 64, 65, 66, 67, 68, 69, 70, 71, 72, 73, 74, 75, 76, 77, 78, 79, 80, 81, 82, 83, 84, 85, 86, 87, 88, 89, 90, 91, 92, 93, 94, 95, 96, 97, 98, 211, 212, 213, 200, 201, 202, 203, 204, 205, 206, 207, 208, 209, 210, 214, 215, 216, 217, 218, 219, 220, 221, 222, 223, 224, 225, 226] rfl (by decide +kernel)
set_option maxRecDepth 20000 in
theorem gX8_serveAll_X1_save_n70 : GoodIn wsX8_serveAll (wsX1_save) := ggX8_serveAll_X1_save
set_option maxRecDepth 20000 in
theorem ggX8_serveAll_X6_serveEach : GoodIn wsX8_serveAll wsX6_serveEach := goodIn_r _ [101, 102, 103, 104, 18, 105, 43, 106, 107, 108, 109, 31, 110, 111, 112, 113, 114, 42, 115, 116, 77, 117, 30, 118, 119, 54, 120, 121, 122, 123, 35, 44, 124, 125, 126, 127, 128, 129, 130, 131, 132, 133, 134, 135, 136, 137, 138, 139, 140, 141, 142, 143, 144, 145, 146, 147, 148, 149, 150, 151, 152, 153, 34, 154, 155, 63, 65, 62, 156, 157, 158, 60, 61, 58, 159, 160, 161, 162, 163, 39, 164, 165, 166, 167, 168, 169, 170, 171, 172, 173, 174, 175, 176, 177, 48, 49, 52, 51, 178, 179, 180, 181, 182, 183, 184, 185, 186, 187, 188, 189, 190, 191, 192, 193, 76, 98, 85, 86, 87, 200, 201, 202, 203, 204, 225, 226, 205, 206, 207, 208, 209, 210, 214, 215, 216, 217, 218, 219, 220, 221, 222, 223, 224] rfl (by decide +kernel)
set_option maxRecDepth 20000 in
theorem gX8_serveAll_X6_serveEach_n216 : GoodIn wsX8_serveAll (wsX6_serveEach) := ggX8_serveAll_X6_serveEach
theorem dX8_serveAll_0 : decode cX8_serveAll 0 = .ok (.aload_n 0, 1) := by decide +kernel
theorem dX8_serveAll_1 : decode cX8_serveAll 1 = .ok (.invokevirtual 61, 3) := by decide +kernel
theorem dX8_serveAll_4 : decode cX8_serveAll 4 = .ok (.aload_n 0, 1) := by decide +kernel
theorem dX8_serveAll_5 : decode cX8_serveAll 5 = .ok (.getfield 22, 3) := by decide +kernel
theorem dX8_serveAll_8 : decode cX8_serveAll 8 = .ok (.aload_n 0, 1) := by decide +kernel
theorem dX8_serveAll_9 : decode cX8_serveAll 9 = .ok (.getfield 12, 3) := by decide +kernel
theorem dX8_serveAll_12 : decode cX8_serveAll 12 = .ok (.invokevirtual 70, 3) := by decide +kernel
theorem dX8_serveAll_15 : decode cX8_serveAll 15 = .ok (.aload_n 0, 1) := by decide +kernel
theorem dX8_serveAll_16 : decode cX8_serveAll 16 = .ok (.getfield 12, 3) := by decide +kernel
theorem dX8_serveAll_19 : decode cX8_serveAll 19 = .ok (.invokevirtual 216, 3) := by decide +kernel
theorem dX8_serveAll_22 : decode cX8_serveAll 22 = .ok (.ireturn, 1) := by decide +kernel
set_option maxRecDepth 20000 in
theorem ggX8_changeLeast_X8_requireKind : GoodIn wsX8_changeLeast wsX8_requireKind := goodIn_ca (goodIn_r _ [9, 10, 11] rfl (by decide +kernel)) (goodIn_sub (fun _ h => List.mem_cons_of_mem _ (List.mem_append_right _ h)) (by decide +kernel))
set_option maxRecDepth 20000 in
theorem gX8_changeLeast_X8_requireKind : GoodIn wsX8_changeLeast (wsV RX8 135 RX8 yX8_requireKind wsX8_requireKind) := goodIn_app (goodIn_r _ [5, 6, 7, 8] rfl (by decide +kernel)) ggX8_changeLeast_X8_requireKind
set_option maxRecDepth 20000 in
theorem ggX8_changeLeast_X1_save : GoodIn wsX8_changeLeast wsX1_save := goodIn_r _ [15, 16, 17, 18, 19, 20, 21, 22, 23, 13, 24, 25, 26, 27, 28, 29, 30, 31, 32, 33, 34, 35, 36, 37, 38, 39, 40, 41, 42, 43, 44, 45, 46, 47, 48, 49, 50, 51, 52, 53, 54, 55, 56, 57, 58, 59, 60, 61, 62, 63, 64, 65, 66, 67, 68, 69, 70, 71, 72, 73, 74, 75, 76, 77, 78, 79, 80, 81, 82, 83, 84, 85, 86, 87, 88, 89, 90, 91, 92, 93, 94, 95, 96, 97, 98, 99, 100, 116, 117, 118, 107, 108, 109, 110, 111, 119, 120, 121, 122, 123, 124, 125, 126, 127, 128, 129, 130, 131, 112, 113, 114, 115, 132, 133] rfl (by decide +kernel)
set_option maxRecDepth 20000 in
theorem gX8_changeLeast_X1_save_n70 : GoodIn wsX8_changeLeast (wsX1_save) := ggX8_changeLeast_X1_save
theorem dX8_changeLeast_0 : decode cX8_changeLeast 0 = .ok (.aload_n 0, 1) := by decide +kernel
theorem dX8_changeLeast_1 : decode cX8_changeLeast 1 = .ok (.iload_n 1, 1) := by decide +kernel
theorem dX8_changeLeast_2 : decode cX8_changeLeast 2 = .ok (.invokevirtual 135, 3) := by decide +kernel
theorem dX8_changeLeast_5 : decode cX8_changeLeast 5 = .ok (.iload_n 2, 1) := by decide +kernel
theorem dX8_changeLeast_6 : decode cX8_changeLeast 6 = .ok (.ifCond .lt 9, 3) := by decide +kernel
theorem dX8_changeLeast_9 : decode cX8_changeLeast 9 = .ok (.iload_n 2, 1) := by decide +kernel
theorem dX8_changeLeast_10 : decode cX8_changeLeast 10 = .ok (.bipush 99, 2) := by decide +kernel
theorem dX8_changeLeast_12 : decode cX8_changeLeast 12 = .ok (.if_icmp .le 13, 3) := by decide +kernel
theorem dX8_changeLeast_15 : decode cX8_changeLeast 15 = .ok (.new 174, 3) := by decide +kernel
theorem dX8_changeLeast_18 : decode cX8_changeLeast 18 = .ok (.dup, 1) := by decide +kernel
theorem dX8_changeLeast_19 : decode cX8_changeLeast 19 = .ok (.ldc 219, 2) := by decide +kernel
theorem dX8_changeLeast_21 : decode cX8_changeLeast 21 = .ok (.invokespecial 178, 3) := by decide +kernel
theorem dX8_changeLeast_24 : decode cX8_changeLeast 24 = .ok (.athrow, 1) := by decide +kernel
theorem dX8_changeLeast_25 : decode cX8_changeLeast 25 = .ok (.aload_n 0, 1) := by decide +kernel
theorem dX8_changeLeast_26 : decode cX8_changeLeast 26 = .ok (.getfield 22, 3) := by decide +kernel
theorem dX8_changeLeast_29 : decode cX8_changeLeast 29 = .ok (.aload_n 0, 1) := by decide +kernel
theorem dX8_changeLeast_30 : decode cX8_changeLeast 30 = .ok (.getfield 12, 3) := by decide +kernel
theorem dX8_changeLeast_33 : decode cX8_changeLeast 33 = .ok (.invokevirtual 70, 3) := by decide +kernel
theorem dX8_changeLeast_36 : decode cX8_changeLeast 36 = .ok (.aload_n 0, 1) := by decide +kernel
theorem dX8_changeLeast_37 : decode cX8_changeLeast 37 = .ok (.getfield 12, 3) := by decide +kernel
theorem dX8_changeLeast_40 : decode cX8_changeLeast 40 = .ok (.getfield 144, 3) := by decide +kernel
theorem dX8_changeLeast_43 : decode cX8_changeLeast 43 = .ok (.getfield 221, 3) := by decide +kernel
theorem dX8_changeLeast_46 : decode cX8_changeLeast 46 = .ok (.iload_n 1, 1) := by decide +kernel
theorem dX8_changeLeast_47 : decode cX8_changeLeast 47 = .ok (.iaload, 1) := by decide +kernel
theorem dX8_changeLeast_48 : decode cX8_changeLeast 48 = .ok (.istore_n 3, 1) := by decide +kernel
theorem dX8_changeLeast_49 : decode cX8_changeLeast 49 = .ok (.aload_n 0, 1) := by decide +kernel
theorem dX8_changeLeast_50 : decode cX8_changeLeast 50 = .ok (.getfield 12, 3) := by decide +kernel
theorem dX8_changeLeast_53 : decode cX8_changeLeast 53 = .ok (.getfield 144, 3) := by decide +kernel
theorem dX8_changeLeast_56 : decode cX8_changeLeast 56 = .ok (.getfield 221, 3) := by decide +kernel
theorem dX8_changeLeast_59 : decode cX8_changeLeast 59 = .ok (.iload_n 1, 1) := by decide +kernel
theorem dX8_changeLeast_60 : decode cX8_changeLeast 60 = .ok (.iload_n 2, 1) := by decide +kernel
theorem dX8_changeLeast_61 : decode cX8_changeLeast 61 = .ok (.iastore, 1) := by decide +kernel
theorem dX8_changeLeast_62 : decode cX8_changeLeast 62 = .ok (.iload_n 3, 1) := by decide +kernel
theorem dX8_changeLeast_63 : decode cX8_changeLeast 63 = .ok (.ireturn, 1) := by decide +kernel
set_option maxRecDepth 20000 in
theorem ggX8_turnRule_X1_save : GoodIn wsX8_turnRule wsX1_save := goodIn_r _ [6, 7, 8, 9, 10, 11, 12, 13, 14, 4, 15, 16, 17, 18, 19, 20, 21, 22, 23, 24, 25, 26, 27, 28, 29, 30, 31, 32, 33, 34, 35, 36, 37, 38, 39, 40, 41, 42, 43, 44, 45, 46, 47, 48, 49, 50, 51, 52, 53, 54, 55, 56, 57, 58, 59, 60, 61, 62, 63, 64, 65, 66, 67, 68, 69, 70, 71, 72, 73, 74, 75, 76, 77, 78, 79, 80, 81, 82, 83, 84, 85, 86, 87, 88, 89, 90, 91, 110, 111, 112, 98, 99, 100, 101, 102, 113, 114, 115, 116, 117, 118, 103, 104, 105, 106, 107, 108, 109, 119, 120, 121, 122, 123, 124] rfl (by decide +kernel)
set_option maxRecDepth 20000 in
theorem gX8_turnRule_X1_save_n70 : GoodIn wsX8_turnRule (wsX1_save) := ggX8_turnRule_X1_save
theorem dX8_turnRule_0 : decode cX8_turnRule 0 = .ok (.aload_n 0, 1) := by decide +kernel
theorem dX8_turnRule_1 : decode cX8_turnRule 1 = .ok (.getfield 22, 3) := by decide +kernel
theorem dX8_turnRule_4 : decode cX8_turnRule 4 = .ok (.aload_n 0, 1) := by decide +kernel
theorem dX8_turnRule_5 : decode cX8_turnRule 5 = .ok (.getfield 12, 3) := by decide +kernel
theorem dX8_turnRule_8 : decode cX8_turnRule 8 = .ok (.invokevirtual 70, 3) := by decide +kernel
theorem dX8_turnRule_11 : decode cX8_turnRule 11 = .ok (.aload_n 0, 1) := by decide +kernel
theorem dX8_turnRule_12 : decode cX8_turnRule 12 = .ok (.getfield 12, 3) := by decide +kernel
theorem dX8_turnRule_15 : decode cX8_turnRule 15 = .ok (.getfield 232, 3) := by decide +kernel
theorem dX8_turnRule_18 : decode cX8_turnRule 18 = .ok (.aload_n 0, 1) := by decide +kernel
theorem dX8_turnRule_19 : decode cX8_turnRule 19 = .ok (.getfield 12, 3) := by decide +kernel
theorem dX8_turnRule_22 : decode cX8_turnRule 22 = .ok (.getfield 232, 3) := by decide +kernel
theorem dX8_turnRule_25 : decode cX8_turnRule 25 = .ok (.getfield 236, 3) := by decide +kernel
theorem dX8_turnRule_28 : decode cX8_turnRule 28 = .ok (.ifCond .ne 7, 3) := by decide +kernel
theorem dX8_turnRule_31 : decode cX8_turnRule 31 = .ok (.iconst 1, 1) := by decide +kernel
theorem dX8_turnRule_32 : decode cX8_turnRule 32 = .ok (.goto 4, 3) := by decide +kernel
theorem dX8_turnRule_35 : decode cX8_turnRule 35 = .ok (.iconst 0, 1) := by decide +kernel
theorem dX8_turnRule_36 : decode cX8_turnRule 36 = .ok (.putfield 236, 3) := by decide +kernel
theorem dX8_turnRule_39 : decode cX8_turnRule 39 = .ok (.aload_n 0, 1) := by decide +kernel
theorem dX8_turnRule_40 : decode cX8_turnRule 40 = .ok (.getfield 12, 3) := by decide +kernel
theorem dX8_turnRule_43 : decode cX8_turnRule 43 = .ok (.getfield 232, 3) := by decide +kernel
theorem dX8_turnRule_46 : decode cX8_turnRule 46 = .ok (.getfield 236, 3) := by decide +kernel
theorem dX8_turnRule_49 : decode cX8_turnRule 49 = .ok (.ireturn, 1) := by decide +kernel
theorem dX8_append_0 : decode cX8_append 0 = .ok (.iload_n 1, 1) := by decide +kernel
theorem dX8_append_1 : decode cX8_append 1 = .ok (.bipush 33, 2) := by decide +kernel
theorem dX8_append_3 : decode cX8_append 3 = .ok (.if_icmp .lt 9, 3) := by decide +kernel
theorem dX8_append_6 : decode cX8_append 6 = .ok (.iload_n 1, 1) := by decide +kernel
theorem dX8_append_7 : decode cX8_append 7 = .ok (.bipush 126, 2) := by decide +kernel
theorem dX8_append_9 : decode cX8_append 9 = .ok (.if_icmp .le 13, 3) := by decide +kernel
theorem dX8_append_12 : decode cX8_append 12 = .ok (.new 174, 3) := by decide +kernel
theorem dX8_append_15 : decode cX8_append 15 = .ok (.dup, 1) := by decide +kernel
theorem dX8_append_16 : decode cX8_append 16 = .ok (.ldc 242, 2) := by decide +kernel
theorem dX8_append_18 : decode cX8_append 18 = .ok (.invokespecial 178, 3) := by decide +kernel
theorem dX8_append_21 : decode cX8_append 21 = .ok (.athrow, 1) := by decide +kernel
theorem dX8_append_22 : decode cX8_append 22 = .ok (.aload_n 0, 1) := by decide +kernel
theorem dX8_append_23 : decode cX8_append 23 = .ok (.getfield 29, 3) := by decide +kernel
theorem dX8_append_26 : decode cX8_append 26 = .ok (.getfield 200, 3) := by decide +kernel
theorem dX8_append_29 : decode cX8_append 29 = .ok (.bipush 60, 2) := by decide +kernel
theorem dX8_append_31 : decode cX8_append 31 = .ok (.if_icmp .lt 13, 3) := by decide +kernel
theorem dX8_append_34 : decode cX8_append 34 = .ok (.new 54, 3) := by decide +kernel
theorem dX8_append_37 : decode cX8_append 37 = .ok (.dup, 1) := by decide +kernel
theorem dX8_append_38 : decode cX8_append 38 = .ok (.ldc 244, 2) := by decide +kernel
theorem dX8_append_40 : decode cX8_append 40 = .ok (.invokespecial 58, 3) := by decide +kernel
theorem dX8_append_43 : decode cX8_append 43 = .ok (.athrow, 1) := by decide +kernel
theorem dX8_append_44 : decode cX8_append 44 = .ok (.aload_n 0, 1) := by decide +kernel
theorem dX8_append_45 : decode cX8_append 45 = .ok (.getfield 29, 3) := by decide +kernel
theorem dX8_append_48 : decode cX8_append 48 = .ok (.getfield 246, 3) := by decide +kernel
theorem dX8_append_51 : decode cX8_append 51 = .ok (.aload_n 0, 1) := by decide +kernel
theorem dX8_append_52 : decode cX8_append 52 = .ok (.getfield 29, 3) := by decide +kernel
theorem dX8_append_55 : decode cX8_append 55 = .ok (.getfield 200, 3) := by decide +kernel
theorem dX8_append_58 : decode cX8_append 58 = .ok (.iload_n 1, 1) := by decide +kernel
theorem dX8_append_59 : decode cX8_append 59 = .ok (.iastore, 1) := by decide +kernel
theorem dX8_append_60 : decode cX8_append 60 = .ok (.aload_n 0, 1) := by decide +kernel
theorem dX8_append_61 : decode cX8_append 61 = .ok (.getfield 29, 3) := by decide +kernel
theorem dX8_append_64 : decode cX8_append 64 = .ok (.dup, 1) := by decide +kernel
theorem dX8_append_65 : decode cX8_append 65 = .ok (.getfield 200, 3) := by decide +kernel
theorem dX8_append_68 : decode cX8_append 68 = .ok (.iconst 1, 1) := by decide +kernel
theorem dX8_append_69 : decode cX8_append 69 = .ok (.iadd, 1) := by decide +kernel
theorem dX8_append_70 : decode cX8_append 70 = .ok (.putfield 200, 3) := by decide +kernel
theorem dX8_append_73 : decode cX8_append 73 = .ok (.aload_n 0, 1) := by decide +kernel
theorem dX8_append_74 : decode cX8_append 74 = .ok (.getfield 29, 3) := by decide +kernel
theorem dX8_append_77 : decode cX8_append 77 = .ok (.getfield 200, 3) := by decide +kernel
theorem dX8_append_80 : decode cX8_append 80 = .ok (.ireturn, 1) := by decide +kernel
theorem dX8_clearBuffer_0 : decode cX8_clearBuffer 0 = .ok (.aload_n 0, 1) := by decide +kernel
theorem dX8_clearBuffer_1 : decode cX8_clearBuffer 1 = .ok (.getfield 29, 3) := by decide +kernel
theorem dX8_clearBuffer_4 : decode cX8_clearBuffer 4 = .ok (.getfield 200, 3) := by decide +kernel
theorem dX8_clearBuffer_7 : decode cX8_clearBuffer 7 = .ok (.istore_n 1, 1) := by decide +kernel
theorem dX8_clearBuffer_8 : decode cX8_clearBuffer 8 = .ok (.aload_n 0, 1) := by decide +kernel
theorem dX8_clearBuffer_9 : decode cX8_clearBuffer 9 = .ok (.getfield 29, 3) := by decide +kernel
theorem dX8_clearBuffer_12 : decode cX8_clearBuffer 12 = .ok (.iconst 0, 1) := by decide +kernel
theorem dX8_clearBuffer_13 : decode cX8_clearBuffer 13 = .ok (.putfield 200, 3) := by decide +kernel
theorem dX8_clearBuffer_16 : decode cX8_clearBuffer 16 = .ok (.iload_n 1, 1) := by decide +kernel
theorem dX8_clearBuffer_17 : decode cX8_clearBuffer 17 = .ok (.ireturn, 1) := by decide +kernel
set_option maxRecDepth 20000 in
theorem ggX8_undo_X1_restoreLatest : GoodIn wsX8_undo wsX1_restoreLatest := goodIn_r _ [8, 9, 10, 11, 12, 13, 14, 15, 16, 17, 18, 19, 20, 21, 22, 23, 24, 25, 26, 27, 28, 29, 30, 31, 32, 33, 34, 35, 36, 37, 38, 39, 40, 41, 42, 43, 44, 45, 46, 47, 48, 49, 50, 51, 52, 53, 54, 55, 56, 57, 58, 59, 60, 67, 68, 69, 70, 71, 72, 73, 74, 75, 76, 77, 78, 79, 80, 81, 82, 83, 84, 85, 86, 87, 88, 89, 90, 91, 92, 93] rfl (by decide +kernel)
set_option maxRecDepth 20000 in
theorem gX8_undo_X1_restoreLatest_n268 : GoodIn wsX8_undo (wsX1_restoreLatest) := ggX8_undo_X1_restoreLatest
theorem dX8_undo_0 : decode cX8_undo 0 = .ok (.aload_n 0, 1) := by decide +kernel
theorem dX8_undo_1 : decode cX8_undo 1 = .ok (.getfield 22, 3) := by decide +kernel
theorem dX8_undo_4 : decode cX8_undo 4 = .ok (.aload_n 0, 1) := by decide +kernel
theorem dX8_undo_5 : decode cX8_undo 5 = .ok (.getfield 12, 3) := by decide +kernel
theorem dX8_undo_8 : decode cX8_undo 8 = .ok (.invokevirtual 268, 3) := by decide +kernel
theorem dX8_undo_11 : decode cX8_undo 11 = .ok (.ifCond .ne 14, 3) := by decide +kernel
theorem dX8_undo_14 : decode cX8_undo 14 = .ok (.new 54, 3) := by decide +kernel
theorem dX8_undo_17 : decode cX8_undo 17 = .ok (.dup, 1) := by decide +kernel
theorem dX8_undo_18 : decode cX8_undo 18 = .ok (.ldc_w 272, 3) := by decide +kernel
theorem dX8_undo_21 : decode cX8_undo 21 = .ok (.invokespecial 58, 3) := by decide +kernel
theorem dX8_undo_24 : decode cX8_undo 24 = .ok (.athrow, 1) := by decide +kernel
theorem dX8_undo_25 : decode cX8_undo 25 = .ok (.return_, 1) := by decide +kernel
theorem dX8_savedStates_0 : decode cX8_savedStates 0 = .ok (.aload_n 0, 1) := by decide +kernel
theorem dX8_savedStates_1 : decode cX8_savedStates 1 = .ok (.getfield 22, 3) := by decide +kernel
theorem dX8_savedStates_4 : decode cX8_savedStates 4 = .ok (.getfield 274, 3) := by decide +kernel
theorem dX8_savedStates_7 : decode cX8_savedStates 7 = .ok (.ireturn, 1) := by decide +kernel
theorem dX8_shelves_0 : decode cX8_shelves 0 = .ok (.aload_n 0, 1) := by decide +kernel
theorem dX8_shelves_1 : decode cX8_shelves 1 = .ok (.getfield 12, 3) := by decide +kernel
theorem dX8_shelves_4 : decode cX8_shelves 4 = .ok (.getfield 44, 3) := by decide +kernel
theorem dX8_shelves_7 : decode cX8_shelves 7 = .ok (.getfield 48, 3) := by decide +kernel
theorem dX8_shelves_10 : decode cX8_shelves 10 = .ok (.ireturn, 1) := by decide +kernel
set_option maxRecDepth 20000 in
theorem ggX8_heightOf_X8_requireShelf : GoodIn wsX8_heightOf wsX8_requireShelf := goodIn_ca (goodIn_r _ [6, 7, 8, 1, 9, 10, 11, 12, 13, 14, 15, 16, 17, 18, 19, 20, 21, 22, 23, 24, 25] rfl (by decide +kernel)) (goodIn_sub (fun _ h => List.mem_cons_of_mem _ (List.mem_append_right _ h)) (by decide +kernel))
set_option maxRecDepth 20000 in
theorem gX8_heightOf_X8_requireShelf : GoodIn wsX8_heightOf (wsV RX8 78 RX8 yX8_requireShelf wsX8_requireShelf) := goodIn_app (goodIn_r _ [2, 3, 4, 5] rfl (by decide +kernel)) ggX8_heightOf_X8_requireShelf
theorem dX8_heightOf_0 : decode cX8_heightOf 0 = .ok (.aload_n 0, 1) := by decide +kernel
theorem dX8_heightOf_1 : decode cX8_heightOf 1 = .ok (.iload_n 1, 1) := by decide +kernel
theorem dX8_heightOf_2 : decode cX8_heightOf 2 = .ok (.invokevirtual 78, 3) := by decide +kernel
theorem dX8_heightOf_5 : decode cX8_heightOf 5 = .ok (.aload_n 0, 1) := by decide +kernel
theorem dX8_heightOf_6 : decode cX8_heightOf 6 = .ok (.getfield 12, 3) := by decide +kernel
theorem dX8_heightOf_9 : decode cX8_heightOf 9 = .ok (.getfield 44, 3) := by decide +kernel
theorem dX8_heightOf_12 : decode cX8_heightOf 12 = .ok (.getfield 92, 3) := by decide +kernel
theorem dX8_heightOf_15 : decode cX8_heightOf 15 = .ok (.iload_n 1, 1) := by decide +kernel
theorem dX8_heightOf_16 : decode cX8_heightOf 16 = .ok (.iaload, 1) := by decide +kernel
theorem dX8_heightOf_17 : decode cX8_heightOf 17 = .ok (.ireturn, 1) := by decide +kernel
set_option maxRecDepth 20000 in
theorem ggX8_sideOf_X8_requireShelf : GoodIn wsX8_sideOf wsX8_requireShelf := goodIn_ca (goodIn_r _ [6, 7, 8, 1, 9, 10, 11, 12, 13, 14, 15, 16, 17, 18, 19, 20, 21, 22, 23, 24, 25] rfl (by decide +kernel)) (goodIn_sub (fun _ h => List.mem_cons_of_mem _ (List.mem_append_right _ h)) (by decide +kernel))
set_option maxRecDepth 20000 in
theorem gX8_sideOf_X8_requireShelf : GoodIn wsX8_sideOf (wsV RX8 78 RX8 yX8_requireShelf wsX8_requireShelf) := goodIn_app (goodIn_r _ [2, 3, 4, 5] rfl (by decide +kernel)) ggX8_sideOf_X8_requireShelf
theorem dX8_sideOf_0 : decode cX8_sideOf 0 = .ok (.aload_n 0, 1) := by decide +kernel
theorem dX8_sideOf_1 : decode cX8_sideOf 1 = .ok (.iload_n 1, 1) := by decide +kernel
theorem dX8_sideOf_2 : decode cX8_sideOf 2 = .ok (.invokevirtual 78, 3) := by decide +kernel
theorem dX8_sideOf_5 : decode cX8_sideOf 5 = .ok (.aload_n 0, 1) := by decide +kernel
theorem dX8_sideOf_6 : decode cX8_sideOf 6 = .ok (.getfield 12, 3) := by decide +kernel
theorem dX8_sideOf_9 : decode cX8_sideOf 9 = .ok (.getfield 44, 3) := by decide +kernel
theorem dX8_sideOf_12 : decode cX8_sideOf 12 = .ok (.getfield 275, 3) := by decide +kernel
theorem dX8_sideOf_15 : decode cX8_sideOf 15 = .ok (.iload_n 1, 1) := by decide +kernel
theorem dX8_sideOf_16 : decode cX8_sideOf 16 = .ok (.iaload, 1) := by decide +kernel
theorem dX8_sideOf_17 : decode cX8_sideOf 17 = .ok (.bipush 20, 2) := by decide +kernel
theorem dX8_sideOf_19 : decode cX8_sideOf 19 = .ok (.idiv, 1) := by decide +kernel
theorem dX8_sideOf_20 : decode cX8_sideOf 20 = .ok (.ireturn, 1) := by decide +kernel
set_option maxRecDepth 20000 in
theorem ggX8_slotOf_X8_requireShelf : GoodIn wsX8_slotOf wsX8_requireShelf := goodIn_ca (goodIn_r _ [6, 7, 8, 1, 9, 10, 11, 12, 13, 14, 15, 16, 17, 18, 19, 20, 21, 22, 23, 24, 25] rfl (by decide +kernel)) (goodIn_sub (fun _ h => List.mem_cons_of_mem _ (List.mem_append_right _ h)) (by decide +kernel))
set_option maxRecDepth 20000 in
theorem gX8_slotOf_X8_requireShelf : GoodIn wsX8_slotOf (wsV RX8 78 RX8 yX8_requireShelf wsX8_requireShelf) := goodIn_app (goodIn_r _ [2, 3, 4, 5] rfl (by decide +kernel)) ggX8_slotOf_X8_requireShelf
theorem dX8_slotOf_0 : decode cX8_slotOf 0 = .ok (.aload_n 0, 1) := by decide +kernel
theorem dX8_slotOf_1 : decode cX8_slotOf 1 = .ok (.iload_n 1, 1) := by decide +kernel
theorem dX8_slotOf_2 : decode cX8_slotOf 2 = .ok (.invokevirtual 78, 3) := by decide +kernel
theorem dX8_slotOf_5 : decode cX8_slotOf 5 = .ok (.aload_n 0, 1) := by decide +kernel
theorem dX8_slotOf_6 : decode cX8_slotOf 6 = .ok (.getfield 12, 3) := by decide +kernel
theorem dX8_slotOf_9 : decode cX8_slotOf 9 = .ok (.getfield 44, 3) := by decide +kernel
theorem dX8_slotOf_12 : decode cX8_slotOf 12 = .ok (.getfield 275, 3) := by decide +kernel
theorem dX8_slotOf_15 : decode cX8_slotOf 15 = .ok (.iload_n 1, 1) := by decide +kernel
theorem dX8_slotOf_16 : decode cX8_slotOf 16 = .ok (.iaload, 1) := by decide +kernel
theorem dX8_slotOf_17 : decode cX8_slotOf 17 = .ok (.bipush 20, 2) := by decide +kernel
theorem dX8_slotOf_19 : decode cX8_slotOf 19 = .ok (.irem, 1) := by decide +kernel
theorem dX8_slotOf_20 : decode cX8_slotOf 20 = .ok (.ireturn, 1) := by decide +kernel
set_option maxRecDepth 20000 in
theorem ggX8_isAtWindow_X8_requireShelf : GoodIn wsX8_isAtWindow wsX8_requireShelf := goodIn_ca (goodIn_r _ [6, 7, 8, 1, 9, 10, 11, 12, 13, 14, 15, 16, 17, 18, 19, 20, 21, 22, 23, 24, 25] rfl (by decide +kernel)) (goodIn_sub (fun _ h => List.mem_cons_of_mem _ (List.mem_append_right _ h)) (by decide +kernel))
set_option maxRecDepth 20000 in
theorem gX8_isAtWindow_X8_requireShelf : GoodIn wsX8_isAtWindow (wsV RX8 78 RX8 yX8_requireShelf wsX8_requireShelf) := goodIn_app (goodIn_r _ [2, 3, 4, 5] rfl (by decide +kernel)) ggX8_isAtWindow_X8_requireShelf
theorem dX8_isAtWindow_0 : decode cX8_isAtWindow 0 = .ok (.aload_n 0, 1) := by decide +kernel
theorem dX8_isAtWindow_1 : decode cX8_isAtWindow 1 = .ok (.iload_n 1, 1) := by decide +kernel
theorem dX8_isAtWindow_2 : decode cX8_isAtWindow 2 = .ok (.invokevirtual 78, 3) := by decide +kernel
theorem dX8_isAtWindow_5 : decode cX8_isAtWindow 5 = .ok (.iload_n 1, 1) := by decide +kernel
theorem dX8_isAtWindow_6 : decode cX8_isAtWindow 6 = .ok (.aload_n 0, 1) := by decide +kernel
theorem dX8_isAtWindow_7 : decode cX8_isAtWindow 7 = .ok (.getfield 12, 3) := by decide +kernel
theorem dX8_isAtWindow_10 : decode cX8_isAtWindow 10 = .ok (.getfield 44, 3) := by decide +kernel
theorem dX8_isAtWindow_13 : decode cX8_isAtWindow 13 = .ok (.getfield 81, 3) := by decide +kernel
theorem dX8_isAtWindow_16 : decode cX8_isAtWindow 16 = .ok (.if_icmp .ne 7, 3) := by decide +kernel
theorem dX8_isAtWindow_19 : decode cX8_isAtWindow 19 = .ok (.iconst 1, 1) := by decide +kernel
theorem dX8_isAtWindow_20 : decode cX8_isAtWindow 20 = .ok (.goto 4, 3) := by decide +kernel
theorem dX8_isAtWindow_23 : decode cX8_isAtWindow 23 = .ok (.iconst 0, 1) := by decide +kernel
theorem dX8_isAtWindow_24 : decode cX8_isAtWindow 24 = .ok (.ireturn, 1) := by decide +kernel
set_option maxRecDepth 20000 in
theorem ggX8_thingsIn_X8_requireShelf : GoodIn wsX8_thingsIn wsX8_requireShelf := goodIn_ca (goodIn_r _ [6, 7, 8, 1, 18, 19, 20, 21, 22, 23, 24, 25, 26, 27, 28, 29, 30, 31, 32, 33, 34] rfl (by decide +kernel)) (goodIn_sub (fun _ h => List.mem_cons_of_mem _ (List.mem_append_right _ h)) (by decide +kernel))
set_option maxRecDepth 20000 in
theorem gX8_thingsIn_X8_requireShelf : GoodIn wsX8_thingsIn (wsV RX8 78 RX8 yX8_requireShelf wsX8_requireShelf) := goodIn_app (goodIn_r _ [2, 3, 4, 5] rfl (by decide +kernel)) ggX8_thingsIn_X8_requireShelf
set_option maxRecDepth 20000 in
theorem ggX8_thingsIn_X8_requireKind : GoodIn wsX8_thingsIn wsX8_requireKind := goodIn_ca (goodIn_r _ [12, 7, 8] rfl (by decide +kernel)) (goodIn_sub (fun _ h => List.mem_cons_of_mem _ (List.mem_append_right _ h)) (by decide +kernel))
set_option maxRecDepth 20000 in
theorem gX8_thingsIn_X8_requireKind : GoodIn wsX8_thingsIn (wsV RX8 135 RX8 yX8_requireKind wsX8_requireKind) := goodIn_app (goodIn_r _ [9, 10, 11, 5] rfl (by decide +kernel)) ggX8_thingsIn_X8_requireKind
set_option maxRecDepth 20000 in
theorem ggX8_thingsIn_X7_countIn : GoodIn wsX8_thingsIn wsX7_countIn := goodIn_r _ [16, 17, 29, 30, 31, 32, 33, 34] rfl (by decide +kernel)
set_option maxRecDepth 20000 in
theorem gX8_thingsIn_X7_countIn_n162 : GoodIn wsX8_thingsIn (wsX7_countIn) := ggX8_thingsIn_X7_countIn
theorem dX8_thingsIn_0 : decode cX8_thingsIn 0 = .ok (.aload_n 0, 1) := by decide +kernel
theorem dX8_thingsIn_1 : decode cX8_thingsIn 1 = .ok (.iload_n 1, 1) := by decide +kernel
theorem dX8_thingsIn_2 : decode cX8_thingsIn 2 = .ok (.invokevirtual 78, 3) := by decide +kernel
theorem dX8_thingsIn_5 : decode cX8_thingsIn 5 = .ok (.aload_n 0, 1) := by decide +kernel
theorem dX8_thingsIn_6 : decode cX8_thingsIn 6 = .ok (.iload_n 2, 1) := by decide +kernel
theorem dX8_thingsIn_7 : decode cX8_thingsIn 7 = .ok (.invokevirtual 135, 3) := by decide +kernel
theorem dX8_thingsIn_10 : decode cX8_thingsIn 10 = .ok (.aload_n 0, 1) := by decide +kernel
theorem dX8_thingsIn_11 : decode cX8_thingsIn 11 = .ok (.getfield 12, 3) := by decide +kernel
theorem dX8_thingsIn_14 : decode cX8_thingsIn 14 = .ok (.getfield 44, 3) := by decide +kernel
theorem dX8_thingsIn_17 : decode cX8_thingsIn 17 = .ok (.iload_n 1, 1) := by decide +kernel
theorem dX8_thingsIn_18 : decode cX8_thingsIn 18 = .ok (.iload_n 2, 1) := by decide +kernel
theorem dX8_thingsIn_19 : decode cX8_thingsIn 19 = .ok (.invokevirtual 162, 3) := by decide +kernel
theorem dX8_thingsIn_22 : decode cX8_thingsIn 22 = .ok (.ireturn, 1) := by decide +kernel
set_option maxRecDepth 20000 in
theorem ggX8_weightOf_X8_requireShelf : GoodIn wsX8_weightOf wsX8_requireShelf := goodIn_ca (goodIn_r _ [6, 7, 8, 1, 20, 21, 22, 23, 24, 25, 26, 27, 28, 29, 30, 31, 32, 33, 34, 35, 36] rfl (by decide +kernel)) (goodIn_sub (fun _ h => List.mem_cons_of_mem _ (List.mem_append_right _ h)) (by decide +kernel))
set_option maxRecDepth 20000 in
theorem gX8_weightOf_X8_requireShelf : GoodIn wsX8_weightOf (wsV RX8 78 RX8 yX8_requireShelf wsX8_requireShelf) := goodIn_app (goodIn_r _ [2, 3, 4, 5] rfl (by decide +kernel)) ggX8_weightOf_X8_requireShelf
set_option maxRecDepth 20000 in
theorem ggX8_weightOf_X6_weighShelf : GoodIn wsX8_weightOf wsX6_weighShelf := goodIn_r _ [12, 13, 14, 15, 16, 17, 18, 19, 26, 27, 28, 29, 30, 37, 38, 39, 40, 31, 32, 33, 34, 35, 36] rfl (by decide +kernel)
set_option maxRecDepth 20000 in
theorem gX8_weightOf_X6_weighShelf_n141 : GoodIn wsX8_weightOf (wsX6_weighShelf) := ggX8_weightOf_X6_weighShelf
theorem dX8_weightOf_0 : decode cX8_weightOf 0 = .ok (.aload_n 0, 1) := by decide +kernel
theorem dX8_weightOf_1 : decode cX8_weightOf 1 = .ok (.iload_n 1, 1) := by decide +kernel
theorem dX8_weightOf_2 : decode cX8_weightOf 2 = .ok (.invokevirtual 78, 3) := by decide +kernel
theorem dX8_weightOf_5 : decode cX8_weightOf 5 = .ok (.aload_n 0, 1) := by decide +kernel
theorem dX8_weightOf_6 : decode cX8_weightOf 6 = .ok (.getfield 12, 3) := by decide +kernel
theorem dX8_weightOf_9 : decode cX8_weightOf 9 = .ok (.iload_n 1, 1) := by decide +kernel
theorem dX8_weightOf_10 : decode cX8_weightOf 10 = .ok (.invokevirtual 141, 3) := by decide +kernel
theorem dX8_weightOf_13 : decode cX8_weightOf 13 = .ok (.ireturn, 1) := by decide +kernel
set_option maxRecDepth 20000 in
theorem ggX8_fetchesOf_X8_requireShelf : GoodIn wsX8_fetchesOf wsX8_requireShelf := goodIn_ca (goodIn_r _ [6, 7, 8, 1, 9, 10, 11, 12, 13, 14, 15, 16, 17, 18, 19, 20, 21, 22, 23, 24, 25] rfl (by decide +kernel)) (goodIn_sub (fun _ h => List.mem_cons_of_mem _ (List.mem_append_right _ h)) (by decide +kernel))
set_option maxRecDepth 20000 in
theorem gX8_fetchesOf_X8_requireShelf : GoodIn wsX8_fetchesOf (wsV RX8 78 RX8 yX8_requireShelf wsX8_requireShelf) := goodIn_app (goodIn_r _ [2, 3, 4, 5] rfl (by decide +kernel)) ggX8_fetchesOf_X8_requireShelf
theorem dX8_fetchesOf_0 : decode cX8_fetchesOf 0 = .ok (.aload_n 0, 1) := by decide +kernel
theorem dX8_fetchesOf_1 : decode cX8_fetchesOf 1 = .ok (.iload_n 1, 1) := by decide +kernel
theorem dX8_fetchesOf_2 : decode cX8_fetchesOf 2 = .ok (.invokevirtual 78, 3) := by decide +kernel
theorem dX8_fetchesOf_5 : decode cX8_fetchesOf 5 = .ok (.aload_n 0, 1) := by decide +kernel
theorem dX8_fetchesOf_6 : decode cX8_fetchesOf 6 = .ok (.getfield 12, 3) := by decide +kernel
theorem dX8_fetchesOf_9 : decode cX8_fetchesOf 9 = .ok (.getfield 44, 3) := by decide +kernel
theorem dX8_fetchesOf_12 : decode cX8_fetchesOf 12 = .ok (.getfield 278, 3) := by decide +kernel
theorem dX8_fetchesOf_15 : decode cX8_fetchesOf 15 = .ok (.iload_n 1, 1) := by decide +kernel
theorem dX8_fetchesOf_16 : decode cX8_fetchesOf 16 = .ok (.iaload, 1) := by decide +kernel
theorem dX8_fetchesOf_17 : decode cX8_fetchesOf 17 = .ok (.ireturn, 1) := by decide +kernel
set_option maxRecDepth 20000 in
theorem ggX8_isFree_X8_requireSlot : GoodIn wsX8_isFree wsX8_requireSlot := goodIn_ca (goodIn_r _ [6, 7, 8, 9, 10, 11, 5, 12] rfl (by decide +kernel)) (goodIn_sub (fun _ h => List.mem_cons_of_mem _ (List.mem_append_right _ h)) (by decide +kernel))
set_option maxRecDepth 20000 in
theorem gX8_isFree_X8_requireSlot : GoodIn wsX8_isFree (wsV RX8 108 RX8 yX8_requireSlot wsX8_requireSlot) := goodIn_app (goodIn_r _ [2, 3, 4, 5] rfl (by decide +kernel)) ggX8_isFree_X8_requireSlot
set_option maxRecDepth 20000 in
theorem ggX8_isFree_X7_holderOf : GoodIn wsX8_isFree wsX7_holderOf := goodIn_r _ [16, 17, 18, 19, 20, 32, 33, 34, 35, 36, 37] rfl (by decide +kernel)
set_option maxRecDepth 20000 in
theorem gX8_isFree_X7_holderOf_n281 : GoodIn wsX8_isFree (wsX7_holderOf) := ggX8_isFree_X7_holderOf
theorem dX8_isFree_0 : decode cX8_isFree 0 = .ok (.aload_n 0, 1) := by decide +kernel
theorem dX8_isFree_1 : decode cX8_isFree 1 = .ok (.iload_n 1, 1) := by decide +kernel
theorem dX8_isFree_2 : decode cX8_isFree 2 = .ok (.iload_n 2, 1) := by decide +kernel
theorem dX8_isFree_3 : decode cX8_isFree 3 = .ok (.invokevirtual 108, 3) := by decide +kernel
theorem dX8_isFree_6 : decode cX8_isFree 6 = .ok (.aload_n 0, 1) := by decide +kernel
theorem dX8_isFree_7 : decode cX8_isFree 7 = .ok (.getfield 12, 3) := by decide +kernel
theorem dX8_isFree_10 : decode cX8_isFree 10 = .ok (.getfield 44, 3) := by decide +kernel
theorem dX8_isFree_13 : decode cX8_isFree 13 = .ok (.iload_n 1, 1) := by decide +kernel
theorem dX8_isFree_14 : decode cX8_isFree 14 = .ok (.bipush 20, 2) := by decide +kernel
theorem dX8_isFree_16 : decode cX8_isFree 16 = .ok (.imul, 1) := by decide +kernel
theorem dX8_isFree_17 : decode cX8_isFree 17 = .ok (.iload_n 2, 1) := by decide +kernel
theorem dX8_isFree_18 : decode cX8_isFree 18 = .ok (.iadd, 1) := by decide +kernel
theorem dX8_isFree_19 : decode cX8_isFree 19 = .ok (.invokevirtual 281, 3) := by decide +kernel
theorem dX8_isFree_22 : decode cX8_isFree 22 = .ok (.iconst (-1), 1) := by decide +kernel
theorem dX8_isFree_23 : decode cX8_isFree 23 = .ok (.if_icmp .ne 7, 3) := by decide +kernel
theorem dX8_isFree_26 : decode cX8_isFree 26 = .ok (.iconst 1, 1) := by decide +kernel
theorem dX8_isFree_27 : decode cX8_isFree 27 = .ok (.goto 4, 3) := by decide +kernel
theorem dX8_isFree_30 : decode cX8_isFree 30 = .ok (.iconst 0, 1) := by decide +kernel
theorem dX8_isFree_31 : decode cX8_isFree 31 = .ok (.ireturn, 1) := by decide +kernel
set_option maxRecDepth 20000 in
theorem ggX8_shelfAt_X8_requireSlot : GoodIn wsX8_shelfAt wsX8_requireSlot := goodIn_ca (goodIn_r _ [8, 9, 10, 11, 12, 13, 7, 14] rfl (by decide +kernel)) (goodIn_sub (fun _ h => List.mem_cons_of_mem _ (List.mem_append_right _ h)) (by decide +kernel))
set_option maxRecDepth 20000 in
theorem gX8_shelfAt_X8_requireSlot : GoodIn wsX8_shelfAt (wsV RX8 108 RX8 yX8_requireSlot wsX8_requireSlot) := goodIn_app (goodIn_r _ [4, 5, 6, 7] rfl (by decide +kernel)) ggX8_shelfAt_X8_requireSlot
set_option maxRecDepth 20000 in
theorem ggX8_shelfAt_X7_holderOf : GoodIn wsX8_shelfAt wsX7_holderOf := goodIn_r _ [18, 19, 20, 21, 22, 34, 35, 36, 37, 38, 39] rfl (by decide +kernel)
set_option maxRecDepth 20000 in
theorem gX8_shelfAt_X7_holderOf_n281 : GoodIn wsX8_shelfAt (wsX7_holderOf) := ggX8_shelfAt_X7_holderOf
theorem dX8_shelfAt_0 : decode cX8_shelfAt 0 = .ok (.aload_n 0, 1) := by decide +kernel
theorem dX8_shelfAt_1 : decode cX8_shelfAt 1 = .ok (.iload_n 1, 1) := by decide +kernel
theorem dX8_shelfAt_2 : decode cX8_shelfAt 2 = .ok (.iload_n 2, 1) := by decide +kernel
theorem dX8_shelfAt_3 : decode cX8_shelfAt 3 = .ok (.invokevirtual 108, 3) := by decide +kernel
theorem dX8_shelfAt_6 : decode cX8_shelfAt 6 = .ok (.aload_n 0, 1) := by decide +kernel
theorem dX8_shelfAt_7 : decode cX8_shelfAt 7 = .ok (.getfield 12, 3) := by decide +kernel
theorem dX8_shelfAt_10 : decode cX8_shelfAt 10 = .ok (.getfield 44, 3) := by decide +kernel
theorem dX8_shelfAt_13 : decode cX8_shelfAt 13 = .ok (.iload_n 1, 1) := by decide +kernel
theorem dX8_shelfAt_14 : decode cX8_shelfAt 14 = .ok (.bipush 20, 2) := by decide +kernel
theorem dX8_shelfAt_16 : decode cX8_shelfAt 16 = .ok (.imul, 1) := by decide +kernel
theorem dX8_shelfAt_17 : decode cX8_shelfAt 17 = .ok (.iload_n 2, 1) := by decide +kernel
theorem dX8_shelfAt_18 : decode cX8_shelfAt 18 = .ok (.iadd, 1) := by decide +kernel
theorem dX8_shelfAt_19 : decode cX8_shelfAt 19 = .ok (.invokevirtual 281, 3) := by decide +kernel
theorem dX8_shelfAt_22 : decode cX8_shelfAt 22 = .ok (.istore_n 3, 1) := by decide +kernel
theorem dX8_shelfAt_23 : decode cX8_shelfAt 23 = .ok (.iload_n 3, 1) := by decide +kernel
theorem dX8_shelfAt_24 : decode cX8_shelfAt 24 = .ok (.iconst (-1), 1) := by decide +kernel
theorem dX8_shelfAt_25 : decode cX8_shelfAt 25 = .ok (.if_icmp .ne 14, 3) := by decide +kernel
theorem dX8_shelfAt_28 : decode cX8_shelfAt 28 = .ok (.new 54, 3) := by decide +kernel
theorem dX8_shelfAt_31 : decode cX8_shelfAt 31 = .ok (.dup, 1) := by decide +kernel
theorem dX8_shelfAt_32 : decode cX8_shelfAt 32 = .ok (.ldc_w 284, 3) := by decide +kernel
theorem dX8_shelfAt_35 : decode cX8_shelfAt 35 = .ok (.invokespecial 58, 3) := by decide +kernel
theorem dX8_shelfAt_38 : decode cX8_shelfAt 38 = .ok (.athrow, 1) := by decide +kernel
theorem dX8_shelfAt_39 : decode cX8_shelfAt 39 = .ok (.iload_n 3, 1) := by decide +kernel
theorem dX8_shelfAt_40 : decode cX8_shelfAt 40 = .ok (.ireturn, 1) := by decide +kernel
set_option maxRecDepth 20000 in
theorem ggX8_freeBySlots_X7_countFree : GoodIn wsX8_freeBySlots wsX7_countFree := goodIn_r _ [5, 6, 7, 8, 3, 9, 10, 11, 12, 13, 14, 15, 16, 17, 18, 19, 31, 32, 33, 34, 35, 36] rfl (by decide +kernel)
set_option maxRecDepth 20000 in
theorem gX8_freeBySlots_X7_countFree_n286 : GoodIn wsX8_freeBySlots (wsX7_countFree) := ggX8_freeBySlots_X7_countFree
theorem dX8_freeBySlots_0 : decode cX8_freeBySlots 0 = .ok (.aload_n 0, 1) := by decide +kernel
theorem dX8_freeBySlots_1 : decode cX8_freeBySlots 1 = .ok (.getfield 12, 3) := by decide +kernel
theorem dX8_freeBySlots_4 : decode cX8_freeBySlots 4 = .ok (.getfield 44, 3) := by decide +kernel
theorem dX8_freeBySlots_7 : decode cX8_freeBySlots 7 = .ok (.iconst 0, 1) := by decide +kernel
theorem dX8_freeBySlots_8 : decode cX8_freeBySlots 8 = .ok (.invokevirtual 286, 3) := by decide +kernel
theorem dX8_freeBySlots_11 : decode cX8_freeBySlots 11 = .ok (.aload_n 0, 1) := by decide +kernel
theorem dX8_freeBySlots_12 : decode cX8_freeBySlots 12 = .ok (.getfield 12, 3) := by decide +kernel
theorem dX8_freeBySlots_15 : decode cX8_freeBySlots 15 = .ok (.getfield 44, 3) := by decide +kernel
theorem dX8_freeBySlots_18 : decode cX8_freeBySlots 18 = .ok (.iconst 1, 1) := by decide +kernel
theorem dX8_freeBySlots_19 : decode cX8_freeBySlots 19 = .ok (.invokevirtual 286, 3) := by decide +kernel
theorem dX8_freeBySlots_22 : decode cX8_freeBySlots 22 = .ok (.iadd, 1) := by decide +kernel
theorem dX8_freeBySlots_23 : decode cX8_freeBySlots 23 = .ok (.ireturn, 1) := by decide +kernel
set_option maxRecDepth 20000 in
theorem ggX8_freeByHeights_X7_sumOfHeights : GoodIn wsX8_freeByHeights wsX7_sumOfHeights := goodIn_r _ [5, 6, 7, 8, 20, 21, 22, 23, 24, 25] rfl (by decide +kernel)
set_option maxRecDepth 20000 in
theorem gX8_freeByHeights_X7_sumOfHeights_n289 : GoodIn wsX8_freeByHeights (wsX7_sumOfHeights) := ggX8_freeByHeights_X7_sumOfHeights
theorem dX8_freeByHeights_0 : decode cX8_freeByHeights 0 = .ok (.bipush 40, 2) := by decide +kernel
theorem dX8_freeByHeights_2 : decode cX8_freeByHeights 2 = .ok (.aload_n 0, 1) := by decide +kernel
theorem dX8_freeByHeights_3 : decode cX8_freeByHeights 3 = .ok (.getfield 12, 3) := by decide +kernel
theorem dX8_freeByHeights_6 : decode cX8_freeByHeights 6 = .ok (.getfield 44, 3) := by decide +kernel
theorem dX8_freeByHeights_9 : decode cX8_freeByHeights 9 = .ok (.invokevirtual 289, 3) := by decide +kernel
theorem dX8_freeByHeights_12 : decode cX8_freeByHeights 12 = .ok (.isub, 1) := by decide +kernel
theorem dX8_freeByHeights_13 : decode cX8_freeByHeights 13 = .ok (.ireturn, 1) := by decide +kernel
set_option maxRecDepth 20000 in
theorem ggX8_firstPlace_X8_requireHeight : GoodIn wsX8_firstPlace wsX8_requireHeight := goodIn_ca (goodIn_r _ [8, 9, 10] rfl (by decide +kernel)) (goodIn_sub (fun _ h => List.mem_cons_of_mem _ (List.mem_append_right _ h)) (by decide +kernel))
set_option maxRecDepth 20000 in
theorem gX8_firstPlace_X8_requireHeight : GoodIn wsX8_firstPlace (wsV RX8 40 RX8 yX8_requireHeight wsX8_requireHeight) := goodIn_app (goodIn_r _ [4, 5, 6, 7] rfl (by decide +kernel)) ggX8_firstPlace_X8_requireHeight
set_option maxRecDepth 20000 in
theorem ggX8_firstPlace_X7_firstFree : GoodIn wsX8_firstPlace wsX7_firstFree := goodIn_r _ [14, 15, 16, 17, 12, 18, 19, 20, 21, 22, 23, 24, 25, 26, 27, 28, 29, 30, 31, 43, 44, 45, 46, 47, 48] rfl (by decide +kernel)
set_option maxRecDepth 20000 in
theorem gX8_firstPlace_X7_firstFree_n64 : GoodIn wsX8_firstPlace (wsX7_firstFree) := ggX8_firstPlace_X7_firstFree
theorem dX8_firstPlace_0 : decode cX8_firstPlace 0 = .ok (.aload_n 0, 1) := by decide +kernel
theorem dX8_firstPlace_1 : decode cX8_firstPlace 1 = .ok (.iload_n 1, 1) := by decide +kernel
theorem dX8_firstPlace_2 : decode cX8_firstPlace 2 = .ok (.invokevirtual 40, 3) := by decide +kernel
theorem dX8_firstPlace_5 : decode cX8_firstPlace 5 = .ok (.aload_n 0, 1) := by decide +kernel
theorem dX8_firstPlace_6 : decode cX8_firstPlace 6 = .ok (.getfield 12, 3) := by decide +kernel
theorem dX8_firstPlace_9 : decode cX8_firstPlace 9 = .ok (.getfield 44, 3) := by decide +kernel
theorem dX8_firstPlace_12 : decode cX8_firstPlace 12 = .ok (.iload_n 1, 1) := by decide +kernel
theorem dX8_firstPlace_13 : decode cX8_firstPlace 13 = .ok (.invokevirtual 64, 3) := by decide +kernel
theorem dX8_firstPlace_16 : decode cX8_firstPlace 16 = .ok (.istore_n 2, 1) := by decide +kernel
theorem dX8_firstPlace_17 : decode cX8_firstPlace 17 = .ok (.iload_n 2, 1) := by decide +kernel
theorem dX8_firstPlace_18 : decode cX8_firstPlace 18 = .ok (.iconst (-1), 1) := by decide +kernel
theorem dX8_firstPlace_19 : decode cX8_firstPlace 19 = .ok (.if_icmp .ne 13, 3) := by decide +kernel
theorem dX8_firstPlace_22 : decode cX8_firstPlace 22 = .ok (.new 54, 3) := by decide +kernel
theorem dX8_firstPlace_25 : decode cX8_firstPlace 25 = .ok (.dup, 1) := by decide +kernel
theorem dX8_firstPlace_26 : decode cX8_firstPlace 26 = .ok (.ldc 68, 2) := by decide +kernel
theorem dX8_firstPlace_28 : decode cX8_firstPlace 28 = .ok (.invokespecial 58, 3) := by decide +kernel
theorem dX8_firstPlace_31 : decode cX8_firstPlace 31 = .ok (.athrow, 1) := by decide +kernel
theorem dX8_firstPlace_32 : decode cX8_firstPlace 32 = .ok (.iload_n 2, 1) := by decide +kernel
theorem dX8_firstPlace_33 : decode cX8_firstPlace 33 = .ok (.ireturn, 1) := by decide +kernel
set_option maxRecDepth 20000 in
theorem ggX8_longestGap_X8_requireSide : GoodIn wsX8_longestGap wsX8_requireSide := goodIn_ca (goodIn_r _ [6, 7, 8] rfl (by decide +kernel)) (goodIn_sub (fun _ h => List.mem_cons_of_mem _ (List.mem_append_right _ h)) (by decide +kernel))
set_option maxRecDepth 20000 in
theorem gX8_longestGap_X8_requireSide : GoodIn wsX8_longestGap (wsV RX8 292 RX8 yX8_requireSide wsX8_requireSide) := goodIn_app (goodIn_r _ [2, 3, 4, 5] rfl (by decide +kernel)) ggX8_longestGap_X8_requireSide
set_option maxRecDepth 20000 in
theorem ggX8_longestGap_X7_longestFree : GoodIn wsX8_longestGap wsX7_longestFree := goodIn_r _ [12, 13, 14, 15, 16, 17, 18, 19, 10, 20, 21, 22, 23, 24, 25, 26, 27, 28, 29, 30, 42, 43, 44, 45, 46, 47] rfl (by decide +kernel)
set_option maxRecDepth 20000 in
theorem gX8_longestGap_X7_longestFree_n295 : GoodIn wsX8_longestGap (wsX7_longestFree) := ggX8_longestGap_X7_longestFree
theorem dX8_longestGap_0 : decode cX8_longestGap 0 = .ok (.aload_n 0, 1) := by decide +kernel
theorem dX8_longestGap_1 : decode cX8_longestGap 1 = .ok (.iload_n 1, 1) := by decide +kernel
theorem dX8_longestGap_2 : decode cX8_longestGap 2 = .ok (.invokevirtual 292, 3) := by decide +kernel
theorem dX8_longestGap_5 : decode cX8_longestGap 5 = .ok (.aload_n 0, 1) := by decide +kernel
theorem dX8_longestGap_6 : decode cX8_longestGap 6 = .ok (.getfield 12, 3) := by decide +kernel
theorem dX8_longestGap_9 : decode cX8_longestGap 9 = .ok (.getfield 44, 3) := by decide +kernel
theorem dX8_longestGap_12 : decode cX8_longestGap 12 = .ok (.iload_n 1, 1) := by decide +kernel
theorem dX8_longestGap_13 : decode cX8_longestGap 13 = .ok (.invokevirtual 295, 3) := by decide +kernel
theorem dX8_longestGap_16 : decode cX8_longestGap 16 = .ok (.ireturn, 1) := by decide +kernel
theorem dX8_lift_0 : decode cX8_lift 0 = .ok (.aload_n 0, 1) := by decide +kernel
theorem dX8_lift_1 : decode cX8_lift 1 = .ok (.getfield 12, 3) := by decide +kernel
theorem dX8_lift_4 : decode cX8_lift 4 = .ok (.getfield 232, 3) := by decide +kernel
theorem dX8_lift_7 : decode cX8_lift 7 = .ok (.getfield 298, 3) := by decide +kernel
theorem dX8_lift_10 : decode cX8_lift 10 = .ok (.ireturn, 1) := by decide +kernel
theorem dX8_isKeptPlace_0 : decode cX8_isKeptPlace 0 = .ok (.aload_n 0, 1) := by decide +kernel
theorem dX8_isKeptPlace_1 : decode cX8_isKeptPlace 1 = .ok (.getfield 12, 3) := by decide +kernel
theorem dX8_isKeptPlace_4 : decode cX8_isKeptPlace 4 = .ok (.getfield 232, 3) := by decide +kernel
theorem dX8_isKeptPlace_7 : decode cX8_isKeptPlace 7 = .ok (.getfield 236, 3) := by decide +kernel
theorem dX8_isKeptPlace_10 : decode cX8_isKeptPlace 10 = .ok (.ireturn, 1) := by decide +kernel
theorem dX8_trips_0 : decode cX8_trips 0 = .ok (.aload_n 0, 1) := by decide +kernel
theorem dX8_trips_1 : decode cX8_trips 1 = .ok (.getfield 12, 3) := by decide +kernel
theorem dX8_trips_4 : decode cX8_trips 4 = .ok (.getfield 232, 3) := by decide +kernel
theorem dX8_trips_7 : decode cX8_trips 7 = .ok (.getfield 304, 3) := by decide +kernel
theorem dX8_trips_10 : decode cX8_trips 10 = .ok (.ireturn, 1) := by decide +kernel
set_option maxRecDepth 20000 in
theorem ggX8_tripTicks_X8_requireTrip : GoodIn wsX8_tripTicks wsX8_requireTrip := goodIn_ca (goodIn_r _ [6, 7, 8, 1, 9, 10, 11, 12, 13, 14, 15, 16, 17, 18, 19, 20, 21, 22, 23, 24, 25, 26] rfl (by decide +kernel)) (goodIn_sub (fun _ h => List.mem_cons_of_mem _ (List.mem_append_right _ h)) (by decide +kernel))
set_option maxRecDepth 20000 in
theorem gX8_tripTicks_X8_requireTrip : GoodIn wsX8_tripTicks (wsV RX8 307 RX8 yX8_requireTrip wsX8_requireTrip) := goodIn_app (goodIn_r _ [2, 3, 4, 5] rfl (by decide +kernel)) ggX8_tripTicks_X8_requireTrip
theorem dX8_tripTicks_0 : decode cX8_tripTicks 0 = .ok (.aload_n 0, 1) := by decide +kernel
theorem dX8_tripTicks_1 : decode cX8_tripTicks 1 = .ok (.iload_n 1, 1) := by decide +kernel
theorem dX8_tripTicks_2 : decode cX8_tripTicks 2 = .ok (.invokevirtual 307, 3) := by decide +kernel
theorem dX8_tripTicks_5 : decode cX8_tripTicks 5 = .ok (.aload_n 0, 1) := by decide +kernel
theorem dX8_tripTicks_6 : decode cX8_tripTicks 6 = .ok (.getfield 12, 3) := by decide +kernel
theorem dX8_tripTicks_9 : decode cX8_tripTicks 9 = .ok (.getfield 232, 3) := by decide +kernel
theorem dX8_tripTicks_12 : decode cX8_tripTicks 12 = .ok (.getfield 310, 3) := by decide +kernel
theorem dX8_tripTicks_15 : decode cX8_tripTicks 15 = .ok (.iload_n 1, 1) := by decide +kernel
theorem dX8_tripTicks_16 : decode cX8_tripTicks 16 = .ok (.iaload, 1) := by decide +kernel
theorem dX8_tripTicks_17 : decode cX8_tripTicks 17 = .ok (.ireturn, 1) := by decide +kernel
set_option maxRecDepth 20000 in
theorem ggX8_wasFetch_X8_requireTrip : GoodIn wsX8_wasFetch wsX8_requireTrip := goodIn_ca (goodIn_r _ [6, 7, 8, 1, 9, 10, 11, 12, 13, 14, 15, 16, 17, 18, 19, 20, 21, 22, 23, 24, 25, 26] rfl (by decide +kernel)) (goodIn_sub (fun _ h => List.mem_cons_of_mem _ (List.mem_append_right _ h)) (by decide +kernel))
set_option maxRecDepth 20000 in
theorem gX8_wasFetch_X8_requireTrip : GoodIn wsX8_wasFetch (wsV RX8 307 RX8 yX8_requireTrip wsX8_requireTrip) := goodIn_app (goodIn_r _ [2, 3, 4, 5] rfl (by decide +kernel)) ggX8_wasFetch_X8_requireTrip
theorem dX8_wasFetch_0 : decode cX8_wasFetch 0 = .ok (.aload_n 0, 1) := by decide +kernel
theorem dX8_wasFetch_1 : decode cX8_wasFetch 1 = .ok (.iload_n 1, 1) := by decide +kernel
theorem dX8_wasFetch_2 : decode cX8_wasFetch 2 = .ok (.invokevirtual 307, 3) := by decide +kernel
theorem dX8_wasFetch_5 : decode cX8_wasFetch 5 = .ok (.aload_n 0, 1) := by decide +kernel
theorem dX8_wasFetch_6 : decode cX8_wasFetch 6 = .ok (.getfield 12, 3) := by decide +kernel
theorem dX8_wasFetch_9 : decode cX8_wasFetch 9 = .ok (.getfield 232, 3) := by decide +kernel
theorem dX8_wasFetch_12 : decode cX8_wasFetch 12 = .ok (.getfield 313, 3) := by decide +kernel
theorem dX8_wasFetch_15 : decode cX8_wasFetch 15 = .ok (.iload_n 1, 1) := by decide +kernel
theorem dX8_wasFetch_16 : decode cX8_wasFetch 16 = .ok (.baload, 1) := by decide +kernel
theorem dX8_wasFetch_17 : decode cX8_wasFetch 17 = .ok (.ireturn, 1) := by decide +kernel
set_option maxRecDepth 20000 in
theorem ggX8_weightOfKind_X8_requireKind : GoodIn wsX8_weightOfKind wsX8_requireKind := goodIn_ca (goodIn_r _ [6, 7, 8] rfl (by decide +kernel)) (goodIn_sub (fun _ h => List.mem_cons_of_mem _ (List.mem_append_right _ h)) (by decide +kernel))
set_option maxRecDepth 20000 in
theorem gX8_weightOfKind_X8_requireKind : GoodIn wsX8_weightOfKind (wsV RX8 135 RX8 yX8_requireKind wsX8_requireKind) := goodIn_app (goodIn_r _ [2, 3, 4, 5] rfl (by decide +kernel)) ggX8_weightOfKind_X8_requireKind
theorem dX8_weightOfKind_0 : decode cX8_weightOfKind 0 = .ok (.aload_n 0, 1) := by decide +kernel
theorem dX8_weightOfKind_1 : decode cX8_weightOfKind 1 = .ok (.iload_n 1, 1) := by decide +kernel
theorem dX8_weightOfKind_2 : decode cX8_weightOfKind 2 = .ok (.invokevirtual 135, 3) := by decide +kernel
theorem dX8_weightOfKind_5 : decode cX8_weightOfKind 5 = .ok (.aload_n 0, 1) := by decide +kernel
theorem dX8_weightOfKind_6 : decode cX8_weightOfKind 6 = .ok (.getfield 12, 3) := by decide +kernel
theorem dX8_weightOfKind_9 : decode cX8_weightOfKind 9 = .ok (.getfield 144, 3) := by decide +kernel
theorem dX8_weightOfKind_12 : decode cX8_weightOfKind 12 = .ok (.getfield 148, 3) := by decide +kernel
theorem dX8_weightOfKind_15 : decode cX8_weightOfKind 15 = .ok (.iload_n 1, 1) := by decide +kernel
theorem dX8_weightOfKind_16 : decode cX8_weightOfKind 16 = .ok (.iaload, 1) := by decide +kernel
theorem dX8_weightOfKind_17 : decode cX8_weightOfKind 17 = .ok (.ireturn, 1) := by decide +kernel
set_option maxRecDepth 20000 in
theorem ggX8_stockByShelves_X8_requireKind : GoodIn wsX8_stockByShelves wsX8_requireKind := goodIn_ca (goodIn_r _ [6, 7, 8] rfl (by decide +kernel)) (goodIn_sub (fun _ h => List.mem_cons_of_mem _ (List.mem_append_right _ h)) (by decide +kernel))
set_option maxRecDepth 20000 in
theorem gX8_stockByShelves_X8_requireKind : GoodIn wsX8_stockByShelves (wsV RX8 135 RX8 yX8_requireKind wsX8_requireKind) := goodIn_app (goodIn_r _ [2, 3, 4, 5] rfl (by decide +kernel)) ggX8_stockByShelves_X8_requireKind
set_option maxRecDepth 20000 in
theorem ggX8_stockByShelves_X7_stockOf : GoodIn wsX8_stockByShelves wsX7_stockOf := goodIn_r _ [12, 13, 14, 15, 16, 10, 17, 18, 30, 31, 32, 33, 34, 35] rfl (by decide +kernel)
set_option maxRecDepth 20000 in
theorem gX8_stockByShelves_X7_stockOf_n317 : GoodIn wsX8_stockByShelves (wsX7_stockOf) := ggX8_stockByShelves_X7_stockOf
theorem dX8_stockByShelves_0 : decode cX8_stockByShelves 0 = .ok (.aload_n 0, 1) := by decide +kernel
theorem dX8_stockByShelves_1 : decode cX8_stockByShelves 1 = .ok (.iload_n 1, 1) := by decide +kernel
theorem dX8_stockByShelves_2 : decode cX8_stockByShelves 2 = .ok (.invokevirtual 135, 3) := by decide +kernel
theorem dX8_stockByShelves_5 : decode cX8_stockByShelves 5 = .ok (.aload_n 0, 1) := by decide +kernel
theorem dX8_stockByShelves_6 : decode cX8_stockByShelves 6 = .ok (.getfield 12, 3) := by decide +kernel
theorem dX8_stockByShelves_9 : decode cX8_stockByShelves 9 = .ok (.getfield 44, 3) := by decide +kernel
theorem dX8_stockByShelves_12 : decode cX8_stockByShelves 12 = .ok (.iload_n 1, 1) := by decide +kernel
theorem dX8_stockByShelves_13 : decode cX8_stockByShelves 13 = .ok (.invokevirtual 317, 3) := by decide +kernel
theorem dX8_stockByShelves_16 : decode cX8_stockByShelves 16 = .ok (.ireturn, 1) := by decide +kernel
set_option maxRecDepth 20000 in
theorem ggX8_stockByAccount_X8_requireKind : GoodIn wsX8_stockByAccount wsX8_requireKind := goodIn_ca (goodIn_r _ [6, 7, 8] rfl (by decide +kernel)) (goodIn_sub (fun _ h => List.mem_cons_of_mem _ (List.mem_append_right _ h)) (by decide +kernel))
set_option maxRecDepth 20000 in
theorem gX8_stockByAccount_X8_requireKind : GoodIn wsX8_stockByAccount (wsV RX8 135 RX8 yX8_requireKind wsX8_requireKind) := goodIn_app (goodIn_r _ [2, 3, 4, 5] rfl (by decide +kernel)) ggX8_stockByAccount_X8_requireKind
theorem dX8_stockByAccount_0 : decode cX8_stockByAccount 0 = .ok (.aload_n 0, 1) := by decide +kernel
theorem dX8_stockByAccount_1 : decode cX8_stockByAccount 1 = .ok (.iload_n 1, 1) := by decide +kernel
theorem dX8_stockByAccount_2 : decode cX8_stockByAccount 2 = .ok (.invokevirtual 135, 3) := by decide +kernel
theorem dX8_stockByAccount_5 : decode cX8_stockByAccount 5 = .ok (.aload_n 0, 1) := by decide +kernel
theorem dX8_stockByAccount_6 : decode cX8_stockByAccount 6 = .ok (.getfield 12, 3) := by decide +kernel
theorem dX8_stockByAccount_9 : decode cX8_stockByAccount 9 = .ok (.getfield 144, 3) := by decide +kernel
theorem dX8_stockByAccount_12 : decode cX8_stockByAccount 12 = .ok (.getfield 155, 3) := by decide +kernel
theorem dX8_stockByAccount_15 : decode cX8_stockByAccount 15 = .ok (.iload_n 1, 1) := by decide +kernel
theorem dX8_stockByAccount_16 : decode cX8_stockByAccount 16 = .ok (.iaload, 1) := by decide +kernel
theorem dX8_stockByAccount_17 : decode cX8_stockByAccount 17 = .ok (.aload_n 0, 1) := by decide +kernel
theorem dX8_stockByAccount_18 : decode cX8_stockByAccount 18 = .ok (.getfield 12, 3) := by decide +kernel
theorem dX8_stockByAccount_21 : decode cX8_stockByAccount 21 = .ok (.getfield 144, 3) := by decide +kernel
theorem dX8_stockByAccount_24 : decode cX8_stockByAccount 24 = .ok (.getfield 167, 3) := by decide +kernel
theorem dX8_stockByAccount_27 : decode cX8_stockByAccount 27 = .ok (.iload_n 1, 1) := by decide +kernel
theorem dX8_stockByAccount_28 : decode cX8_stockByAccount 28 = .ok (.iaload, 1) := by decide +kernel
theorem dX8_stockByAccount_29 : decode cX8_stockByAccount 29 = .ok (.isub, 1) := by decide +kernel
theorem dX8_stockByAccount_30 : decode cX8_stockByAccount 30 = .ok (.ireturn, 1) := by decide +kernel
set_option maxRecDepth 20000 in
theorem ggX8_leastOf_X8_requireKind : GoodIn wsX8_leastOf wsX8_requireKind := goodIn_ca (goodIn_r _ [6, 7, 8] rfl (by decide +kernel)) (goodIn_sub (fun _ h => List.mem_cons_of_mem _ (List.mem_append_right _ h)) (by decide +kernel))
set_option maxRecDepth 20000 in
theorem gX8_leastOf_X8_requireKind : GoodIn wsX8_leastOf (wsV RX8 135 RX8 yX8_requireKind wsX8_requireKind) := goodIn_app (goodIn_r _ [2, 3, 4, 5] rfl (by decide +kernel)) ggX8_leastOf_X8_requireKind
theorem dX8_leastOf_0 : decode cX8_leastOf 0 = .ok (.aload_n 0, 1) := by decide +kernel
theorem dX8_leastOf_1 : decode cX8_leastOf 1 = .ok (.iload_n 1, 1) := by decide +kernel
theorem dX8_leastOf_2 : decode cX8_leastOf 2 = .ok (.invokevirtual 135, 3) := by decide +kernel
theorem dX8_leastOf_5 : decode cX8_leastOf 5 = .ok (.aload_n 0, 1) := by decide +kernel
theorem dX8_leastOf_6 : decode cX8_leastOf 6 = .ok (.getfield 12, 3) := by decide +kernel
theorem dX8_leastOf_9 : decode cX8_leastOf 9 = .ok (.getfield 144, 3) := by decide +kernel
theorem dX8_leastOf_12 : decode cX8_leastOf 12 = .ok (.getfield 221, 3) := by decide +kernel
theorem dX8_leastOf_15 : decode cX8_leastOf 15 = .ok (.iload_n 1, 1) := by decide +kernel
theorem dX8_leastOf_16 : decode cX8_leastOf 16 = .ok (.iaload, 1) := by decide +kernel
theorem dX8_leastOf_17 : decode cX8_leastOf 17 = .ok (.ireturn, 1) := by decide +kernel
set_option maxRecDepth 20000 in
theorem ggX8_missingOf_X8_requireKind : GoodIn wsX8_missingOf wsX8_requireKind := goodIn_ca (goodIn_r _ [6, 7, 8] rfl (by decide +kernel)) (goodIn_sub (fun _ h => List.mem_cons_of_mem _ (List.mem_append_right _ h)) (by decide +kernel))
set_option maxRecDepth 20000 in
theorem gX8_missingOf_X8_requireKind : GoodIn wsX8_missingOf (wsV RX8 135 RX8 yX8_requireKind wsX8_requireKind) := goodIn_app (goodIn_r _ [2, 3, 4, 5] rfl (by decide +kernel)) ggX8_missingOf_X8_requireKind
set_option maxRecDepth 20000 in
theorem ggX8_missingOf_X6_missing : GoodIn wsX8_missingOf wsX6_missing := goodIn_r _ [12, 13, 14, 15, 16, 17, 18, 19, 20, 21, 22, 23, 24, 25, 26, 27, 28, 35, 36, 37, 38, 39, 40, 41, 42, 43, 44, 45, 46, 47, 48, 49] rfl (by decide +kernel)
set_option maxRecDepth 20000 in
theorem gX8_missingOf_X6_missing_n323 : GoodIn wsX8_missingOf (wsX6_missing) := ggX8_missingOf_X6_missing
theorem dX8_missingOf_0 : decode cX8_missingOf 0 = .ok (.aload_n 0, 1) := by decide +kernel
theorem dX8_missingOf_1 : decode cX8_missingOf 1 = .ok (.iload_n 1, 1) := by decide +kernel
theorem dX8_missingOf_2 : decode cX8_missingOf 2 = .ok (.invokevirtual 135, 3) := by decide +kernel
theorem dX8_missingOf_5 : decode cX8_missingOf 5 = .ok (.aload_n 0, 1) := by decide +kernel
theorem dX8_missingOf_6 : decode cX8_missingOf 6 = .ok (.getfield 12, 3) := by decide +kernel
theorem dX8_missingOf_9 : decode cX8_missingOf 9 = .ok (.iload_n 1, 1) := by decide +kernel
theorem dX8_missingOf_10 : decode cX8_missingOf 10 = .ok (.invokevirtual 323, 3) := by decide +kernel
theorem dX8_missingOf_13 : decode cX8_missingOf 13 = .ok (.ireturn, 1) := by decide +kernel
set_option maxRecDepth 20000 in
theorem ggX8_shortKinds_X6_missing : GoodIn wsX8_shortKinds wsX6_missing := goodIn_r _ [5, 6, 7, 8, 9, 10, 11, 12, 13, 14, 15, 16, 17, 18, 19, 20, 21, 28, 29, 30, 31, 32, 33, 34, 35, 36, 37, 38, 39, 40, 41, 42] rfl (by decide +kernel)
set_option maxRecDepth 20000 in
theorem gX8_shortKinds_X6_missing_n323 : GoodIn wsX8_shortKinds (wsX6_missing) := ggX8_shortKinds_X6_missing
theorem dX8_shortKinds_0 : decode cX8_shortKinds 0 = .ok (.iconst 0, 1) := by decide +kernel
theorem dX8_shortKinds_1 : decode cX8_shortKinds 1 = .ok (.istore_n 1, 1) := by decide +kernel
theorem dX8_shortKinds_2 : decode cX8_shortKinds 2 = .ok (.iconst 0, 1) := by decide +kernel
theorem dX8_shortKinds_3 : decode cX8_shortKinds 3 = .ok (.istore_n 2, 1) := by decide +kernel
theorem dX8_shortKinds_4 : decode cX8_shortKinds 4 = .ok (.iload_n 2, 1) := by decide +kernel
theorem dX8_shortKinds_5 : decode cX8_shortKinds 5 = .ok (.bipush 10, 2) := by decide +kernel
theorem dX8_shortKinds_7 : decode cX8_shortKinds 7 = .ok (.if_icmp .ge 26, 3) := by decide +kernel
theorem dX8_shortKinds_10 : decode cX8_shortKinds 10 = .ok (.aload_n 0, 1) := by decide +kernel
theorem dX8_shortKinds_11 : decode cX8_shortKinds 11 = .ok (.getfield 12, 3) := by decide +kernel
theorem dX8_shortKinds_14 : decode cX8_shortKinds 14 = .ok (.iload_n 2, 1) := by decide +kernel
theorem dX8_shortKinds_15 : decode cX8_shortKinds 15 = .ok (.invokevirtual 323, 3) := by decide +kernel
theorem dX8_shortKinds_18 : decode cX8_shortKinds 18 = .ok (.ifCond .le 9, 3) := by decide +kernel
theorem dX8_shortKinds_21 : decode cX8_shortKinds 21 = .ok (.iload_n 1, 1) := by decide +kernel
theorem dX8_shortKinds_22 : decode cX8_shortKinds 22 = .ok (.iconst 1, 1) := by decide +kernel
theorem dX8_shortKinds_23 : decode cX8_shortKinds 23 = .ok (.iload_n 2, 1) := by decide +kernel
theorem dX8_shortKinds_24 : decode cX8_shortKinds 24 = .ok (.ishl, 1) := by decide +kernel
theorem dX8_shortKinds_25 : decode cX8_shortKinds 25 = .ok (.ior, 1) := by decide +kernel
theorem dX8_shortKinds_26 : decode cX8_shortKinds 26 = .ok (.istore_n 1, 1) := by decide +kernel
theorem dX8_shortKinds_27 : decode cX8_shortKinds 27 = .ok (.iinc 2 1, 3) := by decide +kernel
theorem dX8_shortKinds_30 : decode cX8_shortKinds 30 = .ok (.goto (-26), 3) := by decide +kernel
theorem dX8_shortKinds_33 : decode cX8_shortKinds 33 = .ok (.iload_n 1, 1) := by decide +kernel
theorem dX8_shortKinds_34 : decode cX8_shortKinds 34 = .ok (.ireturn, 1) := by decide +kernel
theorem dX8_orders_0 : decode cX8_orders 0 = .ok (.aload_n 0, 1) := by decide +kernel
theorem dX8_orders_1 : decode cX8_orders 1 = .ok (.getfield 12, 3) := by decide +kernel
theorem dX8_orders_4 : decode cX8_orders 4 = .ok (.getfield 179, 3) := by decide +kernel
theorem dX8_orders_7 : decode cX8_orders 7 = .ok (.getfield 183, 3) := by decide +kernel
theorem dX8_orders_10 : decode cX8_orders 10 = .ok (.ireturn, 1) := by decide +kernel
set_option maxRecDepth 20000 in
theorem ggX8_wanted_X8_requireOrder : GoodIn wsX8_wanted wsX8_requireOrder := goodIn_ca (goodIn_r _ [6, 7, 8, 1, 18, 19, 20, 21, 22, 23, 24, 25, 26, 27, 28, 29, 30] rfl (by decide +kernel)) (goodIn_sub (fun _ h => List.mem_cons_of_mem _ (List.mem_append_right _ h)) (by decide +kernel))
set_option maxRecDepth 20000 in
theorem gX8_wanted_X8_requireOrder : GoodIn wsX8_wanted (wsV RX8 203 RX8 yX8_requireOrder wsX8_requireOrder) := goodIn_app (goodIn_r _ [2, 3, 4, 5] rfl (by decide +kernel)) ggX8_wanted_X8_requireOrder
set_option maxRecDepth 20000 in
theorem ggX8_wanted_X8_requireKind : GoodIn wsX8_wanted wsX8_requireKind := goodIn_ca (goodIn_r _ [12, 7, 8] rfl (by decide +kernel)) (goodIn_sub (fun _ h => List.mem_cons_of_mem _ (List.mem_append_right _ h)) (by decide +kernel))
set_option maxRecDepth 20000 in
theorem gX8_wanted_X8_requireKind : GoodIn wsX8_wanted (wsV RX8 135 RX8 yX8_requireKind wsX8_requireKind) := goodIn_app (goodIn_r _ [9, 10, 11, 5] rfl (by decide +kernel)) ggX8_wanted_X8_requireKind
set_option maxRecDepth 20000 in
theorem ggX8_wanted_X3_wantedOf : GoodIn wsX8_wanted wsX3_wantedOf := goodIn_r _ [16, 17, 29, 30] rfl (by decide +kernel)
set_option maxRecDepth 20000 in
theorem gX8_wanted_X3_wantedOf_n326 : GoodIn wsX8_wanted (wsX3_wantedOf) := ggX8_wanted_X3_wantedOf
theorem dX8_wanted_0 : decode cX8_wanted 0 = .ok (.aload_n 0, 1) := by decide +kernel
theorem dX8_wanted_1 : decode cX8_wanted 1 = .ok (.iload_n 1, 1) := by decide +kernel
theorem dX8_wanted_2 : decode cX8_wanted 2 = .ok (.invokevirtual 203, 3) := by decide +kernel
theorem dX8_wanted_5 : decode cX8_wanted 5 = .ok (.aload_n 0, 1) := by decide +kernel
theorem dX8_wanted_6 : decode cX8_wanted 6 = .ok (.iload_n 2, 1) := by decide +kernel
theorem dX8_wanted_7 : decode cX8_wanted 7 = .ok (.invokevirtual 135, 3) := by decide +kernel
theorem dX8_wanted_10 : decode cX8_wanted 10 = .ok (.aload_n 0, 1) := by decide +kernel
theorem dX8_wanted_11 : decode cX8_wanted 11 = .ok (.getfield 12, 3) := by decide +kernel
theorem dX8_wanted_14 : decode cX8_wanted 14 = .ok (.getfield 179, 3) := by decide +kernel
theorem dX8_wanted_17 : decode cX8_wanted 17 = .ok (.iload_n 1, 1) := by decide +kernel
theorem dX8_wanted_18 : decode cX8_wanted 18 = .ok (.iload_n 2, 1) := by decide +kernel
theorem dX8_wanted_19 : decode cX8_wanted 19 = .ok (.invokevirtual 326, 3) := by decide +kernel
theorem dX8_wanted_22 : decode cX8_wanted 22 = .ok (.ireturn, 1) := by decide +kernel
set_option maxRecDepth 20000 in
theorem ggX8_thingsOf_X8_requireOrder : GoodIn wsX8_thingsOf wsX8_requireOrder := goodIn_ca (goodIn_r _ [6, 7, 8, 1, 18, 19, 20, 21, 22, 23, 24, 25, 26, 27, 28, 29, 30] rfl (by decide +kernel)) (goodIn_sub (fun _ h => List.mem_cons_of_mem _ (List.mem_append_right _ h)) (by decide +kernel))
set_option maxRecDepth 20000 in
theorem gX8_thingsOf_X8_requireOrder : GoodIn wsX8_thingsOf (wsV RX8 203 RX8 yX8_requireOrder wsX8_requireOrder) := goodIn_app (goodIn_r _ [2, 3, 4, 5] rfl (by decide +kernel)) ggX8_thingsOf_X8_requireOrder
set_option maxRecDepth 20000 in
theorem ggX8_thingsOf_X3_sumOf : GoodIn wsX8_thingsOf wsX3_sumOf := goodIn_r _ [12, 13, 14, 15, 10, 16, 17, 29, 30] rfl (by decide +kernel)
set_option maxRecDepth 20000 in
theorem gX8_thingsOf_X3_sumOf_n206 : GoodIn wsX8_thingsOf (wsX3_sumOf) := ggX8_thingsOf_X3_sumOf
theorem dX8_thingsOf_0 : decode cX8_thingsOf 0 = .ok (.aload_n 0, 1) := by decide +kernel
theorem dX8_thingsOf_1 : decode cX8_thingsOf 1 = .ok (.iload_n 1, 1) := by decide +kernel
theorem dX8_thingsOf_2 : decode cX8_thingsOf 2 = .ok (.invokevirtual 203, 3) := by decide +kernel
theorem dX8_thingsOf_5 : decode cX8_thingsOf 5 = .ok (.aload_n 0, 1) := by decide +kernel
theorem dX8_thingsOf_6 : decode cX8_thingsOf 6 = .ok (.getfield 12, 3) := by decide +kernel
theorem dX8_thingsOf_9 : decode cX8_thingsOf 9 = .ok (.getfield 179, 3) := by decide +kernel
theorem dX8_thingsOf_12 : decode cX8_thingsOf 12 = .ok (.iload_n 1, 1) := by decide +kernel
theorem dX8_thingsOf_13 : decode cX8_thingsOf 13 = .ok (.invokevirtual 206, 3) := by decide +kernel
theorem dX8_thingsOf_16 : decode cX8_thingsOf 16 = .ok (.ireturn, 1) := by decide +kernel
set_option maxRecDepth 20000 in
theorem ggX8_canServe_X8_requireOrder : GoodIn wsX8_canServe wsX8_requireOrder := goodIn_ca (goodIn_r _ [6, 7, 8, 1, 29, 30, 31, 32, 33, 34, 35, 36, 37, 38, 39, 40, 41] rfl (by decide +kernel)) (goodIn_sub (fun _ h => List.mem_cons_of_mem _ (List.mem_append_right _ h)) (by decide +kernel))
set_option maxRecDepth 20000 in
theorem gX8_canServe_X8_requireOrder : GoodIn wsX8_canServe (wsV RX8 203 RX8 yX8_requireOrder wsX8_requireOrder) := goodIn_app (goodIn_r _ [2, 3, 4, 5] rfl (by decide +kernel)) ggX8_canServe_X8_requireOrder
set_option maxRecDepth 20000 in
theorem ggX8_canServe_X6_isServable : GoodIn wsX8_canServe wsX6_isServable := goodIn_r _ [12, 13, 14, 15, 16, 10, 17, 18, 19, 20, 21, 22, 23, 24, 25, 26, 27, 28, 35, 36, 37, 38, 39, 42, 43, 44, 45, 46, 47, 40, 41] rfl (by decide +kernel)
set_option maxRecDepth 20000 in
theorem gX8_canServe_X6_isServable_n329 : GoodIn wsX8_canServe (wsX6_isServable) := ggX8_canServe_X6_isServable
theorem dX8_canServe_0 : decode cX8_canServe 0 = .ok (.aload_n 0, 1) := by decide +kernel
theorem dX8_canServe_1 : decode cX8_canServe 1 = .ok (.iload_n 1, 1) := by decide +kernel
theorem dX8_canServe_2 : decode cX8_canServe 2 = .ok (.invokevirtual 203, 3) := by decide +kernel
theorem dX8_canServe_5 : decode cX8_canServe 5 = .ok (.aload_n 0, 1) := by decide +kernel
theorem dX8_canServe_6 : decode cX8_canServe 6 = .ok (.getfield 12, 3) := by decide +kernel
theorem dX8_canServe_9 : decode cX8_canServe 9 = .ok (.iload_n 1, 1) := by decide +kernel
theorem dX8_canServe_10 : decode cX8_canServe 10 = .ok (.invokevirtual 329, 3) := by decide +kernel
theorem dX8_canServe_13 : decode cX8_canServe 13 = .ok (.ireturn, 1) := by decide +kernel
set_option maxRecDepth 20000 in
theorem ggX8_fewestByTrying_X8_requireOrder : GoodIn wsX8_fewestByTrying wsX8_requireOrder := goodIn_ca (goodIn_r _ [6, 7, 8, 1, 50, 51, 52, 53, 54, 55, 56, 57, 58, 59, 60, 61, 62] rfl (by decide +kernel)) (goodIn_sub (fun _ h => List.mem_cons_of_mem _ (List.mem_append_left _ (List.mem_append_right _ h))) (by decide +kernel))
set_option maxRecDepth 20000 in
theorem gX8_fewestByTrying_X8_requireOrder : GoodIn wsX8_fewestByTrying (wsV RX8 203 RX8 yX8_requireOrder wsX8_requireOrder) := goodIn_app (goodIn_r _ [2, 3, 4, 5] rfl (by decide +kernel)) ggX8_fewestByTrying_X8_requireOrder
set_option maxRecDepth 20000 in
theorem ggX8_fewestByTrying_X8_requireServable : GoodIn wsX8_fewestByTrying wsX8_requireServable := goodIn_ca (goodIn_r _ [12, 13, 14, 1, 15, 16, 17, 18, 19, 20, 21, 22, 23, 24, 25, 26, 27, 28, 29, 30, 31, 32, 33, 34, 50, 51, 52, 53, 54, 55, 56, 57, 58, 59, 60, 63, 64, 65, 66, 67, 68, 61, 62] rfl (by decide +kernel)) (goodIn_sub (fun _ h => List.mem_cons_of_mem _ (List.mem_append_right _ h)) (by decide +kernel))
set_option maxRecDepth 20000 in
theorem gX8_fewestByTrying_X8_requireServable : GoodIn wsX8_fewestByTrying (wsV RX8 210 RX8 yX8_requireServable wsX8_requireServable) := goodIn_app (goodIn_r _ [9, 10, 11, 5] rfl (by decide +kernel)) ggX8_fewestByTrying_X8_requireServable
set_option maxRecDepth 20000 in
theorem ggX8_fewestByTrying_X6_choice : GoodIn wsX8_fewestByTrying wsX6_choice := goodIn_r _ [37, 38, 39, 40, 16, 41, 19, 24, 25, 26, 27, 28, 29, 30, 31, 32, 33, 34, 42, 43, 44, 45, 46, 47, 48, 20, 21, 22, 23, 56, 57, 58, 59, 60, 63, 64, 65, 66, 67, 68, 61, 62] rfl (by decide +kernel)
set_option maxRecDepth 20000 in
theorem gX8_fewestByTrying_X6_choice_n332 : GoodIn wsX8_fewestByTrying (wsX6_choice) := ggX8_fewestByTrying_X6_choice
set_option maxRecDepth 20000 in
theorem ggX8_fewestByTrying_J6_bitCount_0f7a4 : GoodIn wsX8_fewestByTrying wsJ6_bitCount_0f7a4 := goodIn_r _ [45, 46, 47, 48] rfl (by decide +kernel)
set_option maxRecDepth 20000 in
theorem gX8_fewestByTrying_J6_bitCount_0f7a4 : GoodIn wsX8_fewestByTrying (va_wsS RX8 335 yJ6_bitCount_0f7a4 wsJ6_bitCount_0f7a4) := goodIn_app (goodIn_r _ [49, 43, 44] rfl (by decide +kernel)) ggX8_fewestByTrying_J6_bitCount_0f7a4
theorem dX8_fewestByTrying_0 : decode cX8_fewestByTrying 0 = .ok (.aload_n 0, 1) := by decide +kernel
theorem dX8_fewestByTrying_1 : decode cX8_fewestByTrying 1 = .ok (.iload_n 1, 1) := by decide +kernel
theorem dX8_fewestByTrying_2 : decode cX8_fewestByTrying 2 = .ok (.invokevirtual 203, 3) := by decide +kernel
theorem dX8_fewestByTrying_5 : decode cX8_fewestByTrying 5 = .ok (.aload_n 0, 1) := by decide +kernel
theorem dX8_fewestByTrying_6 : decode cX8_fewestByTrying 6 = .ok (.iload_n 1, 1) := by decide +kernel
theorem dX8_fewestByTrying_7 : decode cX8_fewestByTrying 7 = .ok (.invokevirtual 210, 3) := by decide +kernel
theorem dX8_fewestByTrying_10 : decode cX8_fewestByTrying 10 = .ok (.aload_n 0, 1) := by decide +kernel
theorem dX8_fewestByTrying_11 : decode cX8_fewestByTrying 11 = .ok (.getfield 12, 3) := by decide +kernel
theorem dX8_fewestByTrying_14 : decode cX8_fewestByTrying 14 = .ok (.iload_n 1, 1) := by decide +kernel
theorem dX8_fewestByTrying_15 : decode cX8_fewestByTrying 15 = .ok (.invokevirtual 332, 3) := by decide +kernel
theorem dX8_fewestByTrying_18 : decode cX8_fewestByTrying 18 = .ok (.invokestatic 335, 3) := by decide +kernel
theorem dX8_fewestByTrying_21 : decode cX8_fewestByTrying 21 = .ok (.ireturn, 1) := by decide +kernel
set_option maxRecDepth 20000 in
theorem ggX8_fewestByGoing_X8_requireOrder : GoodIn wsX8_fewestByGoing wsX8_requireOrder := goodIn_ca (goodIn_r _ [5, 6, 7, 8, 53, 54, 55, 56, 57, 58, 59, 60, 61, 62, 63, 64, 65] rfl (by decide +kernel)) (goodIn_sub (fun _ h => List.mem_cons_of_mem _ (List.mem_append_left _ (List.mem_append_right _ h))) (by decide +kernel))
set_option maxRecDepth 20000 in
theorem gX8_fewestByGoing_X8_requireOrder : GoodIn wsX8_fewestByGoing (wsV RX8 203 RX8 yX8_requireOrder wsX8_requireOrder) := goodIn_app (goodIn_r _ [1, 2, 3, 4] rfl (by decide +kernel)) ggX8_fewestByGoing_X8_requireOrder
set_option maxRecDepth 20000 in
theorem ggX8_fewestByGoing_X8_requireServable : GoodIn wsX8_fewestByGoing wsX8_requireServable := goodIn_ca (goodIn_r _ [12, 13, 14, 8, 15, 16, 17, 18, 19, 20, 21, 22, 23, 24, 25, 26, 27, 28, 29, 30, 31, 32, 33, 34, 53, 54, 55, 56, 57, 58, 59, 60, 61, 62, 63, 66, 67, 68, 69, 70, 71, 64, 65] rfl (by decide +kernel)) (goodIn_sub (fun _ h => List.mem_cons_of_mem _ (List.mem_append_right _ h)) (by decide +kernel))
set_option maxRecDepth 20000 in
theorem gX8_fewestByGoing_X8_requireServable : GoodIn wsX8_fewestByGoing (wsV RX8 210 RX8 yX8_requireServable wsX8_requireServable) := goodIn_app (goodIn_r _ [9, 10, 11, 4] rfl (by decide +kernel)) ggX8_fewestByGoing_X8_requireServable
set_option maxRecDepth 20000 in
theorem ggX8_fewestByGoing_X8_fewestFound : GoodIn wsX8_fewestByGoing wsX8_fewestFound := goodIn_r _ [38, 39, 8, 25, 26, 27, 28, 29, 40, 41, 4, 42, 43, 44, 45, 46, 31, 47, 48, 49, 30, 32, 33, 34, 50, 51, 52, 53, 54, 55, 56, 57, 58, 59, 60, 61, 62, 63, 64, 65, 66, 67, 68, 69, 70, 71] rfl (by decide +kernel)
set_option maxRecDepth 20000 in
theorem gX8_fewestByGoing_X8_fewestFound : GoodIn wsX8_fewestByGoing (wsV RX8 340 RX8 yX8_fewestFound wsX8_fewestFound) := goodIn_app (goodIn_r _ [35, 36, 37, 4] rfl (by decide +kernel)) ggX8_fewestByGoing_X8_fewestFound
theorem dX8_fewestByGoing_0 : decode cX8_fewestByGoing 0 = .ok (.aload_n 0, 1) := by decide +kernel
theorem dX8_fewestByGoing_1 : decode cX8_fewestByGoing 1 = .ok (.iload_n 1, 1) := by decide +kernel
theorem dX8_fewestByGoing_2 : decode cX8_fewestByGoing 2 = .ok (.invokevirtual 203, 3) := by decide +kernel
theorem dX8_fewestByGoing_5 : decode cX8_fewestByGoing 5 = .ok (.aload_n 0, 1) := by decide +kernel
theorem dX8_fewestByGoing_6 : decode cX8_fewestByGoing 6 = .ok (.iload_n 1, 1) := by decide +kernel
theorem dX8_fewestByGoing_7 : decode cX8_fewestByGoing 7 = .ok (.invokevirtual 210, 3) := by decide +kernel
theorem dX8_fewestByGoing_10 : decode cX8_fewestByGoing 10 = .ok (.aload_n 0, 1) := by decide +kernel
theorem dX8_fewestByGoing_11 : decode cX8_fewestByGoing 11 = .ok (.iload_n 1, 1) := by decide +kernel
theorem dX8_fewestByGoing_12 : decode cX8_fewestByGoing 12 = .ok (.invokevirtual 340, 3) := by decide +kernel
theorem dX8_fewestByGoing_15 : decode cX8_fewestByGoing 15 = .ok (.ireturn, 1) := by decide +kernel
set_option maxRecDepth 20000 in
theorem ggX8_servable_X8_requireEmptyWindow : GoodIn wsX8_servable wsX8_requireEmptyWindow := goodIn_ca (goodIn_r _ [7, 8, 9, 2, 155, 156, 157, 158, 159, 160, 161, 162, 163, 164, 165, 166, 167, 168, 169, 170, 171] rfl (by decide +kernel)) (goodIn_sub (fun _ h => List.mem_cons_of_mem _ (List.mem_append_right _ h)) (by decide +kernel))
set_option maxRecDepth 20000 in
theorem gX8_servable_X8_requireEmptyWindow : GoodIn wsX8_servable (wsV RX8 61 RX8 yX8_requireEmptyWindow wsX8_requireEmptyWindow) := goodIn_app (goodIn_r _ [3, 4, 5, 6] rfl (by decide +kernel)) ggX8_servable_X8_requireEmptyWindow
set_option maxRecDepth 20000 in
theorem ggX8_servable_X6_copyFrom : GoodIn wsX8_servable wsX6_copyFrom := goodIn_r _ [13, 14, 15, 16, 17, 18, 19, 20, 21, 22, 23, 24, 25, 26, 27, 28, 29, 30, 31, 32, 33, 34, 35, 36, 37, 38, 39, 40, 41, 42, 43, 44, 45, 46, 47, 48, 49, 50, 51, 52, 53, 54, 55, 56, 57, 58, 59, 161, 162, 163, 164, 165, 166, 167, 168, 169, 170, 171, 172, 173, 174, 175, 176, 177, 178, 179, 180, 181, 182, 183, 184] rfl (by decide +kernel)
set_option maxRecDepth 20000 in
theorem gX8_servable_X6_copyFrom_n265 : GoodIn wsX8_servable (wsX6_copyFrom) := ggX8_servable_X6_copyFrom
set_option maxRecDepth 20000 in
theorem ggX8_servable_X6_serveEach : GoodIn wsX8_servable wsX6_serveEach := goodIn_r _ [62, 63, 64, 65, 11, 66, 17, 67, 68, 69, 70, 14, 71, 72, 73, 74, 75, 54, 76, 77, 58, 78, 20, 79, 80, 32, 81, 82, 83, 84, 15, 18, 85, 86, 87, 88, 89, 90, 91, 92, 93, 94, 95, 96, 97, 98, 99, 100, 101, 102, 103, 104, 105, 106, 107, 108, 109, 110, 111, 112, 113, 114, 34, 115, 116, 42, 43, 41, 117, 118, 119, 39, 40, 37, 120, 121, 122, 123, 124, 16, 125, 126, 127, 128, 129, 130, 131, 132, 133, 134, 135, 136, 137, 138, 23, 24, 30, 25, 139, 140, 141, 142, 143, 144, 145, 146, 147, 148, 149, 150, 151, 152, 153, 154, 57, 59, 27, 28, 29, 161, 162, 163, 164, 165, 183, 184, 166, 167, 168, 169, 170, 171, 172, 173, 174, 175, 176, 177, 178, 179, 180, 181, 182] rfl (by decide +kernel)
set_option maxRecDepth 20000 in
theorem gX8_servable_X6_serveEach_n216 : GoodIn wsX8_servable (wsX6_serveEach) := ggX8_servable_X6_serveEach
theorem dX8_servable_0 : decode cX8_servable 0 = .ok (.aload_n 0, 1) := by decide +kernel
theorem dX8_servable_1 : decode cX8_servable 1 = .ok (.invokevirtual 61, 3) := by decide +kernel
theorem dX8_servable_4 : decode cX8_servable 4 = .ok (.aload_n 0, 1) := by decide +kernel
theorem dX8_servable_5 : decode cX8_servable 5 = .ok (.getfield 16, 3) := by decide +kernel
theorem dX8_servable_8 : decode cX8_servable 8 = .ok (.aload_n 0, 1) := by decide +kernel
theorem dX8_servable_9 : decode cX8_servable 9 = .ok (.getfield 12, 3) := by decide +kernel
theorem dX8_servable_12 : decode cX8_servable 12 = .ok (.invokevirtual 265, 3) := by decide +kernel
theorem dX8_servable_15 : decode cX8_servable 15 = .ok (.aload_n 0, 1) := by decide +kernel
theorem dX8_servable_16 : decode cX8_servable 16 = .ok (.getfield 16, 3) := by decide +kernel
theorem dX8_servable_19 : decode cX8_servable 19 = .ok (.invokevirtual 216, 3) := by decide +kernel
theorem dX8_servable_22 : decode cX8_servable 22 = .ok (.pop, 1) := by decide +kernel
theorem dX8_servable_23 : decode cX8_servable 23 = .ok (.aload_n 0, 1) := by decide +kernel
theorem dX8_servable_24 : decode cX8_servable 24 = .ok (.getfield 16, 3) := by decide +kernel
theorem dX8_servable_27 : decode cX8_servable 27 = .ok (.getfield 353, 3) := by decide +kernel
theorem dX8_servable_30 : decode cX8_servable 30 = .ok (.aload_n 0, 1) := by decide +kernel
theorem dX8_servable_31 : decode cX8_servable 31 = .ok (.getfield 12, 3) := by decide +kernel
theorem dX8_servable_34 : decode cX8_servable 34 = .ok (.getfield 353, 3) := by decide +kernel
theorem dX8_servable_37 : decode cX8_servable 37 = .ok (.isub, 1) := by decide +kernel
theorem dX8_servable_38 : decode cX8_servable 38 = .ok (.ireturn, 1) := by decide +kernel
theorem dX8_ticks_0 : decode cX8_ticks 0 = .ok (.aload_n 0, 1) := by decide +kernel
theorem dX8_ticks_1 : decode cX8_ticks 1 = .ok (.getfield 12, 3) := by decide +kernel
theorem dX8_ticks_4 : decode cX8_ticks 4 = .ok (.getfield 232, 3) := by decide +kernel
theorem dX8_ticks_7 : decode cX8_ticks 7 = .ok (.getfield 356, 3) := by decide +kernel
theorem dX8_ticks_10 : decode cX8_ticks 10 = .ok (.ireturn, 1) := by decide +kernel
theorem dX8_fetches_0 : decode cX8_fetches 0 = .ok (.aload_n 0, 1) := by decide +kernel
theorem dX8_fetches_1 : decode cX8_fetches 1 = .ok (.getfield 12, 3) := by decide +kernel
theorem dX8_fetches_4 : decode cX8_fetches 4 = .ok (.getfield 232, 3) := by decide +kernel
theorem dX8_fetches_7 : decode cX8_fetches 7 = .ok (.getfield 359, 3) := by decide +kernel
theorem dX8_fetches_10 : decode cX8_fetches 10 = .ok (.ireturn, 1) := by decide +kernel
theorem dX8_served_0 : decode cX8_served 0 = .ok (.aload_n 0, 1) := by decide +kernel
theorem dX8_served_1 : decode cX8_served 1 = .ok (.getfield 12, 3) := by decide +kernel
theorem dX8_served_4 : decode cX8_served 4 = .ok (.getfield 353, 3) := by decide +kernel
theorem dX8_served_7 : decode cX8_served 7 = .ok (.ireturn, 1) := by decide +kernel
set_option maxRecDepth 20000 in
theorem ggX8_heaviest_X8_requireSomeShelf : GoodIn wsX8_heaviest wsX8_requireSomeShelf := goodIn_ca (goodIn_r _ [6, 7, 8, 1, 24, 25, 26, 27, 28, 29, 30, 31, 32, 33, 34, 35, 36, 37, 38, 39, 40] rfl (by decide +kernel)) (goodIn_sub (fun _ h => List.mem_cons_of_mem _ (List.mem_append_right _ h)) (by decide +kernel))
set_option maxRecDepth 20000 in
theorem gX8_heaviest_X8_requireSomeShelf : GoodIn wsX8_heaviest (wsV RX8 365 RX8 yX8_requireSomeShelf wsX8_requireSomeShelf) := goodIn_app (goodIn_r _ [2, 3, 4, 5] rfl (by decide +kernel)) ggX8_heaviest_X8_requireSomeShelf
set_option maxRecDepth 20000 in
theorem ggX8_heaviest_X6_findHeaviest : GoodIn wsX8_heaviest wsX6_findHeaviest := goodIn_r _ [12, 13, 14, 15, 16, 10, 17, 18, 19, 20, 21, 22, 23, 30, 31, 32, 33, 34, 35, 36, 37, 38, 39, 40, 41, 42, 43, 44] rfl (by decide +kernel)
set_option maxRecDepth 20000 in
theorem gX8_heaviest_X6_findHeaviest_n368 : GoodIn wsX8_heaviest (wsX6_findHeaviest) := ggX8_heaviest_X6_findHeaviest
theorem dX8_heaviest_0 : decode cX8_heaviest 0 = .ok (.aload_n 0, 1) := by decide +kernel
theorem dX8_heaviest_1 : decode cX8_heaviest 1 = .ok (.invokevirtual 365, 3) := by decide +kernel
theorem dX8_heaviest_4 : decode cX8_heaviest 4 = .ok (.aload_n 0, 1) := by decide +kernel
theorem dX8_heaviest_5 : decode cX8_heaviest 5 = .ok (.getfield 12, 3) := by decide +kernel
theorem dX8_heaviest_8 : decode cX8_heaviest 8 = .ok (.invokevirtual 368, 3) := by decide +kernel
theorem dX8_heaviest_11 : decode cX8_heaviest 11 = .ok (.ireturn, 1) := by decide +kernel
set_option maxRecDepth 20000 in
theorem ggX8_mostFetched_X8_requireSomeShelf : GoodIn wsX8_mostFetched wsX8_requireSomeShelf := goodIn_ca (goodIn_r _ [6, 7, 8, 1, 15, 16, 17, 18, 19, 20, 21, 22, 23, 24, 25, 26, 27, 28, 29, 30, 31] rfl (by decide +kernel)) (goodIn_sub (fun _ h => List.mem_cons_of_mem _ (List.mem_append_right _ h)) (by decide +kernel))
set_option maxRecDepth 20000 in
theorem gX8_mostFetched_X8_requireSomeShelf : GoodIn wsX8_mostFetched (wsV RX8 365 RX8 yX8_requireSomeShelf wsX8_requireSomeShelf) := goodIn_app (goodIn_r _ [2, 3, 4, 5] rfl (by decide +kernel)) ggX8_mostFetched_X8_requireSomeShelf
set_option maxRecDepth 20000 in
theorem ggX8_mostFetched_X7_mostUsed : GoodIn wsX8_mostFetched wsX7_mostUsed := goodIn_r _ [12, 13, 14, 26, 27, 28, 29, 30, 31] rfl (by decide +kernel)
set_option maxRecDepth 20000 in
theorem gX8_mostFetched_X7_mostUsed_n371 : GoodIn wsX8_mostFetched (wsX7_mostUsed) := ggX8_mostFetched_X7_mostUsed
theorem dX8_mostFetched_0 : decode cX8_mostFetched 0 = .ok (.aload_n 0, 1) := by decide +kernel
theorem dX8_mostFetched_1 : decode cX8_mostFetched 1 = .ok (.invokevirtual 365, 3) := by decide +kernel
theorem dX8_mostFetched_4 : decode cX8_mostFetched 4 = .ok (.aload_n 0, 1) := by decide +kernel
theorem dX8_mostFetched_5 : decode cX8_mostFetched 5 = .ok (.getfield 12, 3) := by decide +kernel
theorem dX8_mostFetched_8 : decode cX8_mostFetched 8 = .ok (.getfield 44, 3) := by decide +kernel
theorem dX8_mostFetched_11 : decode cX8_mostFetched 11 = .ok (.iconst 0, 1) := by decide +kernel
theorem dX8_mostFetched_12 : decode cX8_mostFetched 12 = .ok (.invokevirtual 371, 3) := by decide +kernel
theorem dX8_mostFetched_15 : decode cX8_mostFetched 15 = .ok (.ireturn, 1) := by decide +kernel
set_option maxRecDepth 20000 in
theorem ggX8_meanTicks_X8_meanOf : GoodIn wsX8_meanTicks wsX8_meanOf := goodIn_r _ [5] rfl (by decide +kernel)
set_option maxRecDepth 20000 in
theorem gX8_meanTicks_X8_meanOf : GoodIn wsX8_meanTicks (va_wsS RX8 380 yX8_meanOf wsX8_meanOf) := goodIn_app (goodIn_r _ [2, 3, 4] rfl (by decide +kernel)) ggX8_meanTicks_X8_meanOf
theorem dX8_meanTicks_0 : decode cX8_meanTicks 0 = .ok (.aload_n 0, 1) := by decide +kernel
theorem dX8_meanTicks_1 : decode cX8_meanTicks 1 = .ok (.getfield 12, 3) := by decide +kernel
theorem dX8_meanTicks_4 : decode cX8_meanTicks 4 = .ok (.getfield 232, 3) := by decide +kernel
theorem dX8_meanTicks_7 : decode cX8_meanTicks 7 = .ok (.getfield 356, 3) := by decide +kernel
theorem dX8_meanTicks_10 : decode cX8_meanTicks 10 = .ok (.aload_n 0, 1) := by decide +kernel
theorem dX8_meanTicks_11 : decode cX8_meanTicks 11 = .ok (.getfield 12, 3) := by decide +kernel
theorem dX8_meanTicks_14 : decode cX8_meanTicks 14 = .ok (.getfield 232, 3) := by decide +kernel
theorem dX8_meanTicks_17 : decode cX8_meanTicks 17 = .ok (.getfield 359, 3) := by decide +kernel
theorem dX8_meanTicks_20 : decode cX8_meanTicks 20 = .ok (.invokestatic 380, 3) := by decide +kernel
theorem dX8_meanTicks_23 : decode cX8_meanTicks 23 = .ok (.dreturn, 1) := by decide +kernel
theorem dX8_requireHeight_0 : decode cX8_requireHeight 0 = .ok (.iload_n 1, 1) := by decide +kernel
theorem dX8_requireHeight_1 : decode cX8_requireHeight 1 = .ok (.iconst 1, 1) := by decide +kernel
theorem dX8_requireHeight_2 : decode cX8_requireHeight 2 = .ok (.if_icmp .lt 8, 3) := by decide +kernel
theorem dX8_requireHeight_5 : decode cX8_requireHeight 5 = .ok (.iload_n 1, 1) := by decide +kernel
theorem dX8_requireHeight_6 : decode cX8_requireHeight 6 = .ok (.iconst 4, 1) := by decide +kernel
theorem dX8_requireHeight_7 : decode cX8_requireHeight 7 = .ok (.if_icmp .le 14, 3) := by decide +kernel
theorem dX8_requireHeight_10 : decode cX8_requireHeight 10 = .ok (.new 174, 3) := by decide +kernel
theorem dX8_requireHeight_13 : decode cX8_requireHeight 13 = .ok (.dup, 1) := by decide +kernel
theorem dX8_requireHeight_14 : decode cX8_requireHeight 14 = .ok (.ldc_w 412, 3) := by decide +kernel
theorem dX8_requireHeight_17 : decode cX8_requireHeight 17 = .ok (.invokespecial 178, 3) := by decide +kernel
theorem dX8_requireHeight_20 : decode cX8_requireHeight 20 = .ok (.athrow, 1) := by decide +kernel
theorem dX8_requireHeight_21 : decode cX8_requireHeight 21 = .ok (.return_, 1) := by decide +kernel
theorem dX8_requireMany_0 : decode cX8_requireMany 0 = .ok (.iload_n 1, 1) := by decide +kernel
theorem dX8_requireMany_1 : decode cX8_requireMany 1 = .ok (.iconst 1, 1) := by decide +kernel
theorem dX8_requireMany_2 : decode cX8_requireMany 2 = .ok (.if_icmp .lt 9, 3) := by decide +kernel
theorem dX8_requireMany_5 : decode cX8_requireMany 5 = .ok (.iload_n 1, 1) := by decide +kernel
theorem dX8_requireMany_6 : decode cX8_requireMany 6 = .ok (.bipush 20, 2) := by decide +kernel
theorem dX8_requireMany_8 : decode cX8_requireMany 8 = .ok (.if_icmp .le 14, 3) := by decide +kernel
theorem dX8_requireMany_11 : decode cX8_requireMany 11 = .ok (.new 174, 3) := by decide +kernel
theorem dX8_requireMany_14 : decode cX8_requireMany 14 = .ok (.dup, 1) := by decide +kernel
theorem dX8_requireMany_15 : decode cX8_requireMany 15 = .ok (.ldc_w 414, 3) := by decide +kernel
theorem dX8_requireMany_18 : decode cX8_requireMany 18 = .ok (.invokespecial 178, 3) := by decide +kernel
theorem dX8_requireMany_21 : decode cX8_requireMany 21 = .ok (.athrow, 1) := by decide +kernel
theorem dX8_requireMany_22 : decode cX8_requireMany 22 = .ok (.return_, 1) := by decide +kernel
theorem dX8_requireShelf_0 : decode cX8_requireShelf 0 = .ok (.iload_n 1, 1) := by decide +kernel
theorem dX8_requireShelf_1 : decode cX8_requireShelf 1 = .ok (.ifCond .lt 17, 3) := by decide +kernel
theorem dX8_requireShelf_4 : decode cX8_requireShelf 4 = .ok (.iload_n 1, 1) := by decide +kernel
theorem dX8_requireShelf_5 : decode cX8_requireShelf 5 = .ok (.aload_n 0, 1) := by decide +kernel
theorem dX8_requireShelf_6 : decode cX8_requireShelf 6 = .ok (.getfield 12, 3) := by decide +kernel
theorem dX8_requireShelf_9 : decode cX8_requireShelf 9 = .ok (.getfield 44, 3) := by decide +kernel
theorem dX8_requireShelf_12 : decode cX8_requireShelf 12 = .ok (.getfield 48, 3) := by decide +kernel
theorem dX8_requireShelf_15 : decode cX8_requireShelf 15 = .ok (.if_icmp .lt 14, 3) := by decide +kernel
theorem dX8_requireShelf_18 : decode cX8_requireShelf 18 = .ok (.new 418, 3) := by decide +kernel
theorem dX8_requireShelf_21 : decode cX8_requireShelf 21 = .ok (.dup, 1) := by decide +kernel
theorem dX8_requireShelf_22 : decode cX8_requireShelf 22 = .ok (.ldc_w 420, 3) := by decide +kernel
theorem dX8_requireShelf_25 : decode cX8_requireShelf 25 = .ok (.invokespecial 422, 3) := by decide +kernel
theorem dX8_requireShelf_28 : decode cX8_requireShelf 28 = .ok (.athrow, 1) := by decide +kernel
theorem dX8_requireShelf_29 : decode cX8_requireShelf 29 = .ok (.return_, 1) := by decide +kernel
theorem dX8_requireSide_0 : decode cX8_requireSide 0 = .ok (.iload_n 1, 1) := by decide +kernel
theorem dX8_requireSide_1 : decode cX8_requireSide 1 = .ok (.ifCond .lt 8, 3) := by decide +kernel
theorem dX8_requireSide_4 : decode cX8_requireSide 4 = .ok (.iload_n 1, 1) := by decide +kernel
theorem dX8_requireSide_5 : decode cX8_requireSide 5 = .ok (.iconst 2, 1) := by decide +kernel
theorem dX8_requireSide_6 : decode cX8_requireSide 6 = .ok (.if_icmp .lt 14, 3) := by decide +kernel
theorem dX8_requireSide_9 : decode cX8_requireSide 9 = .ok (.new 418, 3) := by decide +kernel
theorem dX8_requireSide_12 : decode cX8_requireSide 12 = .ok (.dup, 1) := by decide +kernel
theorem dX8_requireSide_13 : decode cX8_requireSide 13 = .ok (.ldc_w 423, 3) := by decide +kernel
theorem dX8_requireSide_16 : decode cX8_requireSide 16 = .ok (.invokespecial 422, 3) := by decide +kernel
theorem dX8_requireSide_19 : decode cX8_requireSide 19 = .ok (.athrow, 1) := by decide +kernel
theorem dX8_requireSide_20 : decode cX8_requireSide 20 = .ok (.return_, 1) := by decide +kernel
set_option maxRecDepth 20000 in
theorem ggX8_requireSlot_X8_requireSide : GoodIn wsX8_requireSlot wsX8_requireSide := goodIn_ca (goodIn_r _ [7, 1, 2] rfl (by decide +kernel)) (goodIn_sub (fun _ h => List.mem_cons_of_mem _ (List.mem_append_right _ h)) (by decide +kernel))
set_option maxRecDepth 20000 in
theorem gX8_requireSlot_X8_requireSide : GoodIn wsX8_requireSlot (wsV RX8 292 RX8 yX8_requireSide wsX8_requireSide) := goodIn_app (goodIn_r _ [3, 4, 5, 6] rfl (by decide +kernel)) ggX8_requireSlot_X8_requireSide
theorem dX8_requireSlot_0 : decode cX8_requireSlot 0 = .ok (.aload_n 0, 1) := by decide +kernel
theorem dX8_requireSlot_1 : decode cX8_requireSlot 1 = .ok (.iload_n 1, 1) := by decide +kernel
theorem dX8_requireSlot_2 : decode cX8_requireSlot 2 = .ok (.invokevirtual 292, 3) := by decide +kernel
theorem dX8_requireSlot_5 : decode cX8_requireSlot 5 = .ok (.iload_n 2, 1) := by decide +kernel
theorem dX8_requireSlot_6 : decode cX8_requireSlot 6 = .ok (.ifCond .lt 9, 3) := by decide +kernel
theorem dX8_requireSlot_9 : decode cX8_requireSlot 9 = .ok (.iload_n 2, 1) := by decide +kernel
theorem dX8_requireSlot_10 : decode cX8_requireSlot 10 = .ok (.bipush 20, 2) := by decide +kernel
theorem dX8_requireSlot_12 : decode cX8_requireSlot 12 = .ok (.if_icmp .lt 14, 3) := by decide +kernel
theorem dX8_requireSlot_15 : decode cX8_requireSlot 15 = .ok (.new 418, 3) := by decide +kernel
theorem dX8_requireSlot_18 : decode cX8_requireSlot 18 = .ok (.dup, 1) := by decide +kernel
theorem dX8_requireSlot_19 : decode cX8_requireSlot 19 = .ok (.ldc_w 425, 3) := by decide +kernel
theorem dX8_requireSlot_22 : decode cX8_requireSlot 22 = .ok (.invokespecial 422, 3) := by decide +kernel
theorem dX8_requireSlot_25 : decode cX8_requireSlot 25 = .ok (.athrow, 1) := by decide +kernel
theorem dX8_requireSlot_26 : decode cX8_requireSlot 26 = .ok (.return_, 1) := by decide +kernel
theorem dX8_requireKind_0 : decode cX8_requireKind 0 = .ok (.iload_n 1, 1) := by decide +kernel
theorem dX8_requireKind_1 : decode cX8_requireKind 1 = .ok (.ifCond .lt 9, 3) := by decide +kernel
theorem dX8_requireKind_4 : decode cX8_requireKind 4 = .ok (.iload_n 1, 1) := by decide +kernel
theorem dX8_requireKind_5 : decode cX8_requireKind 5 = .ok (.bipush 10, 2) := by decide +kernel
theorem dX8_requireKind_7 : decode cX8_requireKind 7 = .ok (.if_icmp .lt 14, 3) := by decide +kernel
theorem dX8_requireKind_10 : decode cX8_requireKind 10 = .ok (.new 418, 3) := by decide +kernel
theorem dX8_requireKind_13 : decode cX8_requireKind 13 = .ok (.dup, 1) := by decide +kernel
theorem dX8_requireKind_14 : decode cX8_requireKind 14 = .ok (.ldc_w 427, 3) := by decide +kernel
theorem dX8_requireKind_17 : decode cX8_requireKind 17 = .ok (.invokespecial 422, 3) := by decide +kernel
theorem dX8_requireKind_20 : decode cX8_requireKind 20 = .ok (.athrow, 1) := by decide +kernel
theorem dX8_requireKind_21 : decode cX8_requireKind 21 = .ok (.return_, 1) := by decide +kernel
theorem dX8_requireOrder_0 : decode cX8_requireOrder 0 = .ok (.iload_n 1, 1) := by decide +kernel
theorem dX8_requireOrder_1 : decode cX8_requireOrder 1 = .ok (.ifCond .lt 17, 3) := by decide +kernel
theorem dX8_requireOrder_4 : decode cX8_requireOrder 4 = .ok (.iload_n 1, 1) := by decide +kernel
theorem dX8_requireOrder_5 : decode cX8_requireOrder 5 = .ok (.aload_n 0, 1) := by decide +kernel
theorem dX8_requireOrder_6 : decode cX8_requireOrder 6 = .ok (.getfield 12, 3) := by decide +kernel
theorem dX8_requireOrder_9 : decode cX8_requireOrder 9 = .ok (.getfield 179, 3) := by decide +kernel
theorem dX8_requireOrder_12 : decode cX8_requireOrder 12 = .ok (.getfield 183, 3) := by decide +kernel
theorem dX8_requireOrder_15 : decode cX8_requireOrder 15 = .ok (.if_icmp .lt 14, 3) := by decide +kernel
theorem dX8_requireOrder_18 : decode cX8_requireOrder 18 = .ok (.new 418, 3) := by decide +kernel
theorem dX8_requireOrder_21 : decode cX8_requireOrder 21 = .ok (.dup, 1) := by decide +kernel
theorem dX8_requireOrder_22 : decode cX8_requireOrder 22 = .ok (.ldc_w 429, 3) := by decide +kernel
theorem dX8_requireOrder_25 : decode cX8_requireOrder 25 = .ok (.invokespecial 422, 3) := by decide +kernel
theorem dX8_requireOrder_28 : decode cX8_requireOrder 28 = .ok (.athrow, 1) := by decide +kernel
theorem dX8_requireOrder_29 : decode cX8_requireOrder 29 = .ok (.return_, 1) := by decide +kernel
theorem dX8_requireTrip_0 : decode cX8_requireTrip 0 = .ok (.iload_n 1, 1) := by decide +kernel
theorem dX8_requireTrip_1 : decode cX8_requireTrip 1 = .ok (.ifCond .lt 17, 3) := by decide +kernel
theorem dX8_requireTrip_4 : decode cX8_requireTrip 4 = .ok (.iload_n 1, 1) := by decide +kernel
theorem dX8_requireTrip_5 : decode cX8_requireTrip 5 = .ok (.aload_n 0, 1) := by decide +kernel
theorem dX8_requireTrip_6 : decode cX8_requireTrip 6 = .ok (.getfield 12, 3) := by decide +kernel
theorem dX8_requireTrip_9 : decode cX8_requireTrip 9 = .ok (.getfield 232, 3) := by decide +kernel
theorem dX8_requireTrip_12 : decode cX8_requireTrip 12 = .ok (.getfield 304, 3) := by decide +kernel
theorem dX8_requireTrip_15 : decode cX8_requireTrip 15 = .ok (.if_icmp .lt 14, 3) := by decide +kernel
theorem dX8_requireTrip_18 : decode cX8_requireTrip 18 = .ok (.new 418, 3) := by decide +kernel
theorem dX8_requireTrip_21 : decode cX8_requireTrip 21 = .ok (.dup, 1) := by decide +kernel
theorem dX8_requireTrip_22 : decode cX8_requireTrip 22 = .ok (.ldc_w 431, 3) := by decide +kernel
theorem dX8_requireTrip_25 : decode cX8_requireTrip 25 = .ok (.invokespecial 422, 3) := by decide +kernel
theorem dX8_requireTrip_28 : decode cX8_requireTrip 28 = .ok (.athrow, 1) := by decide +kernel
theorem dX8_requireTrip_29 : decode cX8_requireTrip 29 = .ok (.return_, 1) := by decide +kernel
theorem dX8_requireEmptyWindow_0 : decode cX8_requireEmptyWindow 0 = .ok (.aload_n 0, 1) := by decide +kernel
theorem dX8_requireEmptyWindow_1 : decode cX8_requireEmptyWindow 1 = .ok (.getfield 12, 3) := by decide +kernel
theorem dX8_requireEmptyWindow_4 : decode cX8_requireEmptyWindow 4 = .ok (.getfield 44, 3) := by decide +kernel
theorem dX8_requireEmptyWindow_7 : decode cX8_requireEmptyWindow 7 = .ok (.getfield 81, 3) := by decide +kernel
theorem dX8_requireEmptyWindow_10 : decode cX8_requireEmptyWindow 10 = .ok (.iconst (-1), 1) := by decide +kernel
theorem dX8_requireEmptyWindow_11 : decode cX8_requireEmptyWindow 11 = .ok (.if_icmp .eq 14, 3) := by decide +kernel
theorem dX8_requireEmptyWindow_14 : decode cX8_requireEmptyWindow 14 = .ok (.new 54, 3) := by decide +kernel
theorem dX8_requireEmptyWindow_17 : decode cX8_requireEmptyWindow 17 = .ok (.dup, 1) := by decide +kernel
theorem dX8_requireEmptyWindow_18 : decode cX8_requireEmptyWindow 18 = .ok (.ldc_w 433, 3) := by decide +kernel
theorem dX8_requireEmptyWindow_21 : decode cX8_requireEmptyWindow 21 = .ok (.invokespecial 58, 3) := by decide +kernel
theorem dX8_requireEmptyWindow_24 : decode cX8_requireEmptyWindow 24 = .ok (.athrow, 1) := by decide +kernel
theorem dX8_requireEmptyWindow_25 : decode cX8_requireEmptyWindow 25 = .ok (.return_, 1) := by decide +kernel
theorem dX8_requireShelfAtWindow_0 : decode cX8_requireShelfAtWindow 0 = .ok (.aload_n 0, 1) := by decide +kernel
theorem dX8_requireShelfAtWindow_1 : decode cX8_requireShelfAtWindow 1 = .ok (.getfield 12, 3) := by decide +kernel
theorem dX8_requireShelfAtWindow_4 : decode cX8_requireShelfAtWindow 4 = .ok (.getfield 44, 3) := by decide +kernel
theorem dX8_requireShelfAtWindow_7 : decode cX8_requireShelfAtWindow 7 = .ok (.getfield 81, 3) := by decide +kernel
theorem dX8_requireShelfAtWindow_10 : decode cX8_requireShelfAtWindow 10 = .ok (.ifCond .lt 26, 3) := by decide +kernel
theorem dX8_requireShelfAtWindow_13 : decode cX8_requireShelfAtWindow 13 = .ok (.aload_n 0, 1) := by decide +kernel
theorem dX8_requireShelfAtWindow_14 : decode cX8_requireShelfAtWindow 14 = .ok (.getfield 12, 3) := by decide +kernel
theorem dX8_requireShelfAtWindow_17 : decode cX8_requireShelfAtWindow 17 = .ok (.getfield 44, 3) := by decide +kernel
theorem dX8_requireShelfAtWindow_20 : decode cX8_requireShelfAtWindow 20 = .ok (.getfield 81, 3) := by decide +kernel
theorem dX8_requireShelfAtWindow_23 : decode cX8_requireShelfAtWindow 23 = .ok (.aload_n 0, 1) := by decide +kernel
theorem dX8_requireShelfAtWindow_24 : decode cX8_requireShelfAtWindow 24 = .ok (.getfield 12, 3) := by decide +kernel
theorem dX8_requireShelfAtWindow_27 : decode cX8_requireShelfAtWindow 27 = .ok (.getfield 44, 3) := by decide +kernel
theorem dX8_requireShelfAtWindow_30 : decode cX8_requireShelfAtWindow 30 = .ok (.getfield 48, 3) := by decide +kernel
theorem dX8_requireShelfAtWindow_33 : decode cX8_requireShelfAtWindow 33 = .ok (.if_icmp .lt 14, 3) := by decide +kernel
theorem dX8_requireShelfAtWindow_36 : decode cX8_requireShelfAtWindow 36 = .ok (.new 54, 3) := by decide +kernel
theorem dX8_requireShelfAtWindow_39 : decode cX8_requireShelfAtWindow 39 = .ok (.dup, 1) := by decide +kernel
theorem dX8_requireShelfAtWindow_40 : decode cX8_requireShelfAtWindow 40 = .ok (.ldc_w 435, 3) := by decide +kernel
theorem dX8_requireShelfAtWindow_43 : decode cX8_requireShelfAtWindow 43 = .ok (.invokespecial 58, 3) := by decide +kernel
theorem dX8_requireShelfAtWindow_46 : decode cX8_requireShelfAtWindow 46 = .ok (.athrow, 1) := by decide +kernel
theorem dX8_requireShelfAtWindow_47 : decode cX8_requireShelfAtWindow 47 = .ok (.return_, 1) := by decide +kernel
theorem dX8_requireSomeShelf_0 : decode cX8_requireSomeShelf 0 = .ok (.aload_n 0, 1) := by decide +kernel
theorem dX8_requireSomeShelf_1 : decode cX8_requireSomeShelf 1 = .ok (.getfield 12, 3) := by decide +kernel
theorem dX8_requireSomeShelf_4 : decode cX8_requireSomeShelf 4 = .ok (.getfield 44, 3) := by decide +kernel
theorem dX8_requireSomeShelf_7 : decode cX8_requireSomeShelf 7 = .ok (.getfield 48, 3) := by decide +kernel
theorem dX8_requireSomeShelf_10 : decode cX8_requireSomeShelf 10 = .ok (.ifCond .ne 14, 3) := by decide +kernel
theorem dX8_requireSomeShelf_13 : decode cX8_requireSomeShelf 13 = .ok (.new 54, 3) := by decide +kernel
theorem dX8_requireSomeShelf_16 : decode cX8_requireSomeShelf 16 = .ok (.dup, 1) := by decide +kernel
theorem dX8_requireSomeShelf_17 : decode cX8_requireSomeShelf 17 = .ok (.ldc_w 437, 3) := by decide +kernel
theorem dX8_requireSomeShelf_20 : decode cX8_requireSomeShelf 20 = .ok (.invokespecial 58, 3) := by decide +kernel
theorem dX8_requireSomeShelf_23 : decode cX8_requireSomeShelf 23 = .ok (.athrow, 1) := by decide +kernel
theorem dX8_requireSomeShelf_24 : decode cX8_requireSomeShelf 24 = .ok (.return_, 1) := by decide +kernel
set_option maxRecDepth 20000 in
theorem ggX8_requireServable_X6_isServable : GoodIn wsX8_requireServable wsX6_isServable := goodIn_r _ [7, 8, 9, 10, 11, 5, 12, 13, 14, 15, 16, 17, 18, 19, 20, 21, 22, 23, 30, 31, 32, 33, 34, 35, 36, 37, 38, 39, 40, 41, 42] rfl (by decide +kernel)
set_option maxRecDepth 20000 in
theorem gX8_requireServable_X6_isServable_n329 : GoodIn wsX8_requireServable (wsX6_isServable) := ggX8_requireServable_X6_isServable
theorem dX8_requireServable_0 : decode cX8_requireServable 0 = .ok (.aload_n 0, 1) := by decide +kernel
theorem dX8_requireServable_1 : decode cX8_requireServable 1 = .ok (.getfield 12, 3) := by decide +kernel
theorem dX8_requireServable_4 : decode cX8_requireServable 4 = .ok (.iload_n 1, 1) := by decide +kernel
theorem dX8_requireServable_5 : decode cX8_requireServable 5 = .ok (.invokevirtual 329, 3) := by decide +kernel
theorem dX8_requireServable_8 : decode cX8_requireServable 8 = .ok (.ifCond .ne 14, 3) := by decide +kernel
theorem dX8_requireServable_11 : decode cX8_requireServable 11 = .ok (.new 54, 3) := by decide +kernel
theorem dX8_requireServable_14 : decode cX8_requireServable 14 = .ok (.dup, 1) := by decide +kernel
theorem dX8_requireServable_15 : decode cX8_requireServable 15 = .ok (.ldc_w 439, 3) := by decide +kernel
theorem dX8_requireServable_18 : decode cX8_requireServable 18 = .ok (.invokespecial 58, 3) := by decide +kernel
theorem dX8_requireServable_21 : decode cX8_requireServable 21 = .ok (.athrow, 1) := by decide +kernel
theorem dX8_requireServable_22 : decode cX8_requireServable 22 = .ok (.return_, 1) := by decide +kernel
set_option maxRecDepth 20000 in
theorem ggX8_fewestFound_X3_wantedOf : GoodIn wsX8_fewestFound wsX3_wantedOf := goodIn_r _ [6, 7, 38, 39] rfl (by decide +kernel)
set_option maxRecDepth 20000 in
theorem gX8_fewestFound_X3_wantedOf_n326 : GoodIn wsX8_fewestFound (wsX3_wantedOf) := ggX8_fewestFound_X3_wantedOf
set_option maxRecDepth 20000 in
theorem ggX8_fewestFound_X8_fewestFrom : GoodIn wsX8_fewestFound wsX8_fewestFrom := goodIn_r _ [11, 12, 13, 10, 14, 15, 16, 17, 18, 19, 20, 21, 22, 23, 24, 25, 26, 8, 9, 40, 41, 42, 43, 44, 45] rfl (by decide +kernel)
set_option maxRecDepth 20000 in
theorem gX8_fewestFound_X8_fewestFrom : GoodIn wsX8_fewestFound (va_wsS RX8 447 yX8_fewestFrom wsX8_fewestFrom) := goodIn_app (goodIn_r _ [8, 9, 10] rfl (by decide +kernel)) ggX8_fewestFound_X8_fewestFrom
theorem dX8_fewestFound_0 : decode cX8_fewestFound 0 = .ok (.iconst 0, 1) := by decide +kernel
theorem dX8_fewestFound_1 : decode cX8_fewestFound 1 = .ok (.istore_n 2, 1) := by decide +kernel
theorem dX8_fewestFound_2 : decode cX8_fewestFound 2 = .ok (.iload_n 2, 1) := by decide +kernel
theorem dX8_fewestFound_3 : decode cX8_fewestFound 3 = .ok (.bipush 10, 2) := by decide +kernel
theorem dX8_fewestFound_5 : decode cX8_fewestFound 5 = .ok (.if_icmp .ge 27, 3) := by decide +kernel
theorem dX8_fewestFound_8 : decode cX8_fewestFound 8 = .ok (.aload_n 0, 1) := by decide +kernel
theorem dX8_fewestFound_9 : decode cX8_fewestFound 9 = .ok (.getfield 37, 3) := by decide +kernel
theorem dX8_fewestFound_12 : decode cX8_fewestFound 12 = .ok (.iload_n 2, 1) := by decide +kernel
theorem dX8_fewestFound_13 : decode cX8_fewestFound 13 = .ok (.aload_n 0, 1) := by decide +kernel
theorem dX8_fewestFound_14 : decode cX8_fewestFound 14 = .ok (.getfield 12, 3) := by decide +kernel
theorem dX8_fewestFound_17 : decode cX8_fewestFound 17 = .ok (.getfield 179, 3) := by decide +kernel
theorem dX8_fewestFound_20 : decode cX8_fewestFound 20 = .ok (.iload_n 1, 1) := by decide +kernel
theorem dX8_fewestFound_21 : decode cX8_fewestFound 21 = .ok (.iload_n 2, 1) := by decide +kernel
theorem dX8_fewestFound_22 : decode cX8_fewestFound 22 = .ok (.invokevirtual 326, 3) := by decide +kernel
theorem dX8_fewestFound_25 : decode cX8_fewestFound 25 = .ok (.iastore, 1) := by decide +kernel
theorem dX8_fewestFound_26 : decode cX8_fewestFound 26 = .ok (.iinc 2 1, 3) := by decide +kernel
theorem dX8_fewestFound_29 : decode cX8_fewestFound 29 = .ok (.goto (-27), 3) := by decide +kernel
theorem dX8_fewestFound_32 : decode cX8_fewestFound 32 = .ok (.aload_n 0, 1) := by decide +kernel
theorem dX8_fewestFound_33 : decode cX8_fewestFound 33 = .ok (.getfield 12, 3) := by decide +kernel
theorem dX8_fewestFound_36 : decode cX8_fewestFound 36 = .ok (.getfield 44, 3) := by decide +kernel
theorem dX8_fewestFound_39 : decode cX8_fewestFound 39 = .ok (.aload_n 0, 1) := by decide +kernel
theorem dX8_fewestFound_40 : decode cX8_fewestFound 40 = .ok (.getfield 37, 3) := by decide +kernel
theorem dX8_fewestFound_43 : decode cX8_fewestFound 43 = .ok (.iconst 0, 1) := by decide +kernel
theorem dX8_fewestFound_44 : decode cX8_fewestFound 44 = .ok (.iconst 0, 1) := by decide +kernel
theorem dX8_fewestFound_45 : decode cX8_fewestFound 45 = .ok (.bipush 13, 2) := by decide +kernel
theorem dX8_fewestFound_47 : decode cX8_fewestFound 47 = .ok (.invokestatic 447, 3) := by decide +kernel
theorem dX8_fewestFound_50 : decode cX8_fewestFound 50 = .ok (.ireturn, 1) := by decide +kernel
set_option maxRecDepth 20000 in
theorem ggX8_fewestFrom_X8_isLacking : GoodIn wsX8_fewestFrom wsX8_isLacking := goodIn_r _ [4] rfl (by decide +kernel)
set_option maxRecDepth 20000 in
theorem gX8_fewestFrom_X8_isLacking : GoodIn wsX8_fewestFrom (va_wsS RX8 451 yX8_isLacking wsX8_isLacking) := goodIn_app (goodIn_r _ [1, 2, 3] rfl (by decide +kernel)) ggX8_fewestFrom_X8_isLacking
set_option maxRecDepth 20000 in
theorem ggX8_fewestFrom_X7_helps : GoodIn wsX8_fewestFrom wsX7_helps := goodIn_r _ [8, 9, 10, 11, 6, 12, 13, 19, 20, 21, 22, 23, 24] rfl (by decide +kernel)
set_option maxRecDepth 20000 in
theorem gX8_fewestFrom_X7_helps_n454 : GoodIn wsX8_fewestFrom (wsX7_helps) := ggX8_fewestFrom_X7_helps
set_option maxRecDepth 20000 in
theorem ggX8_fewestFrom_X7_lend : GoodIn wsX8_fewestFrom wsX7_lend := goodIn_r _ [16, 9, 10, 11, 6, 12, 13, 19, 20, 21, 22, 23, 24] rfl (by decide +kernel)
set_option maxRecDepth 20000 in
theorem gX8_fewestFrom_X7_lend_n458 : GoodIn wsX8_fewestFrom (wsX7_lend) := ggX8_fewestFrom_X7_lend
set_option maxRecDepth 20000 in
theorem ggX8_fewestFrom_X8_fewestFrom : GoodIn wsX8_fewestFrom wsX8_fewestFrom := goodIn_r _ [0, 1, 2, 3, 4, 5, 6, 7, 8, 9, 10, 11, 12, 13, 14, 15, 16, 17, 18, 19, 20, 21, 22, 23, 24] rfl (by decide +kernel)
set_option maxRecDepth 20000 in
theorem gX8_fewestFrom_X8_fewestFrom : GoodIn wsX8_fewestFrom (va_wsS RX8 447 yX8_fewestFrom wsX8_fewestFrom) := goodIn_app (goodIn_r _ [17, 18, 3] rfl (by decide +kernel)) ggX8_fewestFrom_X8_fewestFrom
theorem dX8_fewestFrom_0 : decode cX8_fewestFrom 0 = .ok (.aload_n 1, 1) := by decide +kernel
theorem dX8_fewestFrom_1 : decode cX8_fewestFrom 1 = .ok (.invokestatic 451, 3) := by decide +kernel
theorem dX8_fewestFrom_4 : decode cX8_fewestFrom 4 = .ok (.ifCond .ne 5, 3) := by decide +kernel
theorem dX8_fewestFrom_7 : decode cX8_fewestFrom 7 = .ok (.iload_n 3, 1) := by decide +kernel
theorem dX8_fewestFrom_8 : decode cX8_fewestFrom 8 = .ok (.ireturn, 1) := by decide +kernel
theorem dX8_fewestFrom_9 : decode cX8_fewestFrom 9 = .ok (.iload_n 2, 1) := by decide +kernel
theorem dX8_fewestFrom_10 : decode cX8_fewestFrom 10 = .ok (.aload_n 0, 1) := by decide +kernel
theorem dX8_fewestFrom_11 : decode cX8_fewestFrom 11 = .ok (.getfield 48, 3) := by decide +kernel
theorem dX8_fewestFrom_14 : decode cX8_fewestFrom 14 = .ok (.if_icmp .ge 17, 3) := by decide +kernel
theorem dX8_fewestFrom_17 : decode cX8_fewestFrom 17 = .ok (.iload_n 2, 1) := by decide +kernel
theorem dX8_fewestFrom_18 : decode cX8_fewestFrom 18 = .ok (.bipush 12, 2) := by decide +kernel
theorem dX8_fewestFrom_20 : decode cX8_fewestFrom 20 = .ok (.if_icmp .ge 11, 3) := by decide +kernel
theorem dX8_fewestFrom_23 : decode cX8_fewestFrom 23 = .ok (.iload_n 3, 1) := by decide +kernel
theorem dX8_fewestFrom_24 : decode cX8_fewestFrom 24 = .ok (.iconst 1, 1) := by decide +kernel
theorem dX8_fewestFrom_25 : decode cX8_fewestFrom 25 = .ok (.iadd, 1) := by decide +kernel
theorem dX8_fewestFrom_26 : decode cX8_fewestFrom 26 = .ok (.iload 4, 2) := by decide +kernel
theorem dX8_fewestFrom_28 : decode cX8_fewestFrom 28 = .ok (.if_icmp .lt 6, 3) := by decide +kernel
theorem dX8_fewestFrom_31 : decode cX8_fewestFrom 31 = .ok (.iload 4, 2) := by decide +kernel
theorem dX8_fewestFrom_33 : decode cX8_fewestFrom 33 = .ok (.ireturn, 1) := by decide +kernel
theorem dX8_fewestFrom_34 : decode cX8_fewestFrom 34 = .ok (.iload 4, 2) := by decide +kernel
theorem dX8_fewestFrom_36 : decode cX8_fewestFrom 36 = .ok (.istore 5, 2) := by decide +kernel
theorem dX8_fewestFrom_38 : decode cX8_fewestFrom 38 = .ok (.aload_n 0, 1) := by decide +kernel
theorem dX8_fewestFrom_39 : decode cX8_fewestFrom 39 = .ok (.iload_n 2, 1) := by decide +kernel
theorem dX8_fewestFrom_40 : decode cX8_fewestFrom 40 = .ok (.aload_n 1, 1) := by decide +kernel
theorem dX8_fewestFrom_41 : decode cX8_fewestFrom 41 = .ok (.invokevirtual 454, 3) := by decide +kernel
theorem dX8_fewestFrom_44 : decode cX8_fewestFrom 44 = .ok (.ifCond .eq 32, 3) := by decide +kernel
theorem dX8_fewestFrom_47 : decode cX8_fewestFrom 47 = .ok (.aload_n 0, 1) := by decide +kernel
theorem dX8_fewestFrom_48 : decode cX8_fewestFrom 48 = .ok (.iload_n 2, 1) := by decide +kernel
theorem dX8_fewestFrom_49 : decode cX8_fewestFrom 49 = .ok (.aload_n 1, 1) := by decide +kernel
theorem dX8_fewestFrom_50 : decode cX8_fewestFrom 50 = .ok (.iconst (-1), 1) := by decide +kernel
theorem dX8_fewestFrom_51 : decode cX8_fewestFrom 51 = .ok (.invokevirtual 458, 3) := by decide +kernel
theorem dX8_fewestFrom_54 : decode cX8_fewestFrom 54 = .ok (.aload_n 0, 1) := by decide +kernel
theorem dX8_fewestFrom_55 : decode cX8_fewestFrom 55 = .ok (.aload_n 1, 1) := by decide +kernel
theorem dX8_fewestFrom_56 : decode cX8_fewestFrom 56 = .ok (.iload_n 2, 1) := by decide +kernel
theorem dX8_fewestFrom_57 : decode cX8_fewestFrom 57 = .ok (.iconst 1, 1) := by decide +kernel
theorem dX8_fewestFrom_58 : decode cX8_fewestFrom 58 = .ok (.iadd, 1) := by decide +kernel
theorem dX8_fewestFrom_59 : decode cX8_fewestFrom 59 = .ok (.iload_n 3, 1) := by decide +kernel
theorem dX8_fewestFrom_60 : decode cX8_fewestFrom 60 = .ok (.iconst 1, 1) := by decide +kernel
theorem dX8_fewestFrom_61 : decode cX8_fewestFrom 61 = .ok (.iadd, 1) := by decide +kernel
theorem dX8_fewestFrom_62 : decode cX8_fewestFrom 62 = .ok (.iload 5, 2) := by decide +kernel
theorem dX8_fewestFrom_64 : decode cX8_fewestFrom 64 = .ok (.invokestatic 447, 3) := by decide +kernel
theorem dX8_fewestFrom_67 : decode cX8_fewestFrom 67 = .ok (.istore 5, 2) := by decide +kernel
theorem dX8_fewestFrom_69 : decode cX8_fewestFrom 69 = .ok (.aload_n 0, 1) := by decide +kernel
theorem dX8_fewestFrom_70 : decode cX8_fewestFrom 70 = .ok (.iload_n 2, 1) := by decide +kernel
theorem dX8_fewestFrom_71 : decode cX8_fewestFrom 71 = .ok (.aload_n 1, 1) := by decide +kernel
theorem dX8_fewestFrom_72 : decode cX8_fewestFrom 72 = .ok (.iconst 1, 1) := by decide +kernel
theorem dX8_fewestFrom_73 : decode cX8_fewestFrom 73 = .ok (.invokevirtual 458, 3) := by decide +kernel
theorem dX8_fewestFrom_76 : decode cX8_fewestFrom 76 = .ok (.aload_n 0, 1) := by decide +kernel
theorem dX8_fewestFrom_77 : decode cX8_fewestFrom 77 = .ok (.aload_n 1, 1) := by decide +kernel
theorem dX8_fewestFrom_78 : decode cX8_fewestFrom 78 = .ok (.iload_n 2, 1) := by decide +kernel
theorem dX8_fewestFrom_79 : decode cX8_fewestFrom 79 = .ok (.iconst 1, 1) := by decide +kernel
theorem dX8_fewestFrom_80 : decode cX8_fewestFrom 80 = .ok (.iadd, 1) := by decide +kernel
theorem dX8_fewestFrom_81 : decode cX8_fewestFrom 81 = .ok (.iload_n 3, 1) := by decide +kernel
theorem dX8_fewestFrom_82 : decode cX8_fewestFrom 82 = .ok (.iload 5, 2) := by decide +kernel
theorem dX8_fewestFrom_84 : decode cX8_fewestFrom 84 = .ok (.invokestatic 447, 3) := by decide +kernel
theorem dX8_fewestFrom_87 : decode cX8_fewestFrom 87 = .ok (.ireturn, 1) := by decide +kernel
theorem dX8_isLacking_0 : decode cX8_isLacking 0 = .ok (.iconst 0, 1) := by decide +kernel
theorem dX8_isLacking_1 : decode cX8_isLacking 1 = .ok (.istore_n 1, 1) := by decide +kernel
theorem dX8_isLacking_2 : decode cX8_isLacking 2 = .ok (.iload_n 1, 1) := by decide +kernel
theorem dX8_isLacking_3 : decode cX8_isLacking 3 = .ok (.bipush 10, 2) := by decide +kernel
theorem dX8_isLacking_5 : decode cX8_isLacking 5 = .ok (.if_icmp .ge 23, 3) := by decide +kernel
theorem dX8_isLacking_8 : decode cX8_isLacking 8 = .ok (.iload_n 1, 1) := by decide +kernel
theorem dX8_isLacking_9 : decode cX8_isLacking 9 = .ok (.aload_n 0, 1) := by decide +kernel
theorem dX8_isLacking_10 : decode cX8_isLacking 10 = .ok (.arraylength, 1) := by decide +kernel
theorem dX8_isLacking_11 : decode cX8_isLacking 11 = .ok (.if_icmp .ge 17, 3) := by decide +kernel
theorem dX8_isLacking_14 : decode cX8_isLacking 14 = .ok (.aload_n 0, 1) := by decide +kernel
theorem dX8_isLacking_15 : decode cX8_isLacking 15 = .ok (.iload_n 1, 1) := by decide +kernel
theorem dX8_isLacking_16 : decode cX8_isLacking 16 = .ok (.iaload, 1) := by decide +kernel
theorem dX8_isLacking_17 : decode cX8_isLacking 17 = .ok (.ifCond .le 5, 3) := by decide +kernel
theorem dX8_isLacking_20 : decode cX8_isLacking 20 = .ok (.iconst 1, 1) := by decide +kernel
theorem dX8_isLacking_21 : decode cX8_isLacking 21 = .ok (.ireturn, 1) := by decide +kernel
theorem dX8_isLacking_22 : decode cX8_isLacking 22 = .ok (.iinc 1 1, 3) := by decide +kernel
theorem dX8_isLacking_25 : decode cX8_isLacking 25 = .ok (.goto (-23), 3) := by decide +kernel
theorem dX8_isLacking_28 : decode cX8_isLacking 28 = .ok (.iconst 0, 1) := by decide +kernel
theorem dX8_isLacking_29 : decode cX8_isLacking 29 = .ok (.ireturn, 1) := by decide +kernel
theorem dX8_meanOf_0 : decode cX8_meanOf 0 = .ok (.iload_n 1, 1) := by decide +kernel
theorem dX8_meanOf_1 : decode cX8_meanOf 1 = .ok (.ifCond .gt 7, 3) := by decide +kernel
theorem dX8_meanOf_4 : decode cX8_meanOf 4 = .ok (.dconst 0, 1) := by decide +kernel
theorem dX8_meanOf_5 : decode cX8_meanOf 5 = .ok (.goto 8, 3) := by decide +kernel
theorem dX8_meanOf_8 : decode cX8_meanOf 8 = .ok (.iload_n 0, 1) := by decide +kernel
theorem dX8_meanOf_9 : decode cX8_meanOf 9 = .ok (.i2d, 1) := by decide +kernel
theorem dX8_meanOf_10 : decode cX8_meanOf 10 = .ok (.iload_n 1, 1) := by decide +kernel
theorem dX8_meanOf_11 : decode cX8_meanOf 11 = .ok (.i2d, 1) := by decide +kernel
theorem dX8_meanOf_12 : decode cX8_meanOf 12 = .ok (.ddiv, 1) := by decide +kernel
theorem dX8_meanOf_13 : decode cX8_meanOf 13 = .ok (.dreturn, 1) := by decide +kernel
