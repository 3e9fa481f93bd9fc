set_option maxRecDepth 20000 in
theorem ggX8_init_X6_init : GoodIn wsX8_init wsX6_init := goodIn_r _ [21, 22, 2, 3, 23, 24, 25, 26, 27, 28, 29, 30, 31, 32, 33, 34, 35, 36, 37, 38, 39, 40, 41, 42, 43, 44, 17, 45, 46, 47, 48, 49, 50, 51, 52, 53, 54, 55, 56, 57, 58, 59, 60, 61, 62, 63, 64, 65, 66, 67, 68, 69, 70, 71, 111, 112, 113, 114, 115, 116, 94, 95, 96, 97, 98, 117, 118, 119, 120, 121, 122, 123, 124, 125, 126, 127, 128, 129] rfl (by decide +kernel)
set_option maxRecDepth 20000 in
theorem gX8_init_X6_init_n11 : GoodIn wsX8_init (wsX6_init) := ggX8_init_X6_init
set_option maxRecDepth 20000 in
theorem ggX8_init_X1_init : GoodIn wsX8_init wsX1_init := goodIn_r _ [73, 74, 2, 3, 75, 76, 77, 78, 105, 106, 107] rfl (by decide +kernel)
set_option maxRecDepth 20000 in
theorem gX8_init_X1_init_n21 : GoodIn wsX8_init (wsX1_init) := ggX8_init_X1_init
set_option maxRecDepth 20000 in
theorem ggX8_init_X5_init : GoodIn wsX8_init wsX5_init := goodIn_r _ [80, 81, 2, 3, 82, 17, 83, 84, 85, 86, 87, 88, 89, 90, 91, 92, 93, 108, 109, 110, 130, 131, 132] rfl (by decide +kernel)
set_option maxRecDepth 20000 in
theorem gX8_init_X5_init_n28 : GoodIn wsX8_init (wsX5_init) := ggX8_init_X5_init
theorem dX8_init_0 : decode cX8_init 0 = .ok (.aload_n 0, 1) := by decide +kernel
theorem dX8_init_1 : decode cX8_init 1 = .ok (.invokespecial 3, 3) := by decide +kernel
theorem dX8_init_4 : decode cX8_init 4 = .ok (.aload_n 0, 1) := by decide +kernel
theorem dX8_init_5 : decode cX8_init 5 = .ok (.new 9, 3) := by decide +kernel
theorem dX8_init_8 : decode cX8_init 8 = .ok (.dup, 1) := by decide +kernel
theorem dX8_init_9 : decode cX8_init 9 = .ok (.invokespecial 11, 3) := by decide +kernel
theorem dX8_init_12 : decode cX8_init 12 = .ok (.putfield 12, 3) := by decide +kernel
theorem dX8_init_15 : decode cX8_init 15 = .ok (.aload_n 0, 1) := by decide +kernel
theorem dX8_init_16 : decode cX8_init 16 = .ok (.new 9, 3) := by decide +kernel
theorem dX8_init_19 : decode cX8_init 19 = .ok (.dup, 1) := by decide +kernel
theorem dX8_init_20 : decode cX8_init 20 = .ok (.invokespecial 11, 3) := by decide +kernel
theorem dX8_init_23 : decode cX8_init 23 = .ok (.putfield 16, 3) := by decide +kernel
theorem dX8_init_26 : decode cX8_init 26 = .ok (.aload_n 0, 1) := by decide +kernel
theorem dX8_init_27 : decode cX8_init 27 = .ok (.new 19, 3) := by decide +kernel
theorem dX8_init_30 : decode cX8_init 30 = .ok (.dup, 1) := by decide +kernel
theorem dX8_init_31 : decode cX8_init 31 = .ok (.invokespecial 21, 3) := by decide +kernel
theorem dX8_init_34 : decode cX8_init 34 = .ok (.putfield 22, 3) := by decide +kernel
theorem dX8_init_37 : decode cX8_init 37 = .ok (.aload_n 0, 1) := by decide +kernel
theorem dX8_init_38 : decode cX8_init 38 = .ok (.new 26, 3) := by decide +kernel
theorem dX8_init_41 : decode cX8_init 41 = .ok (.dup, 1) := by decide +kernel
theorem dX8_init_42 : decode cX8_init 42 = .ok (.invokespecial 28, 3) := by decide +kernel
theorem dX8_init_45 : decode cX8_init 45 = .ok (.putfield 29, 3) := by decide +kernel
theorem dX8_init_48 : decode cX8_init 48 = .ok (.aload_n 0, 1) := by decide +kernel
theorem dX8_init_49 : decode cX8_init 49 = .ok (.bipush 12, 2) := by decide +kernel
theorem dX8_init_51 : decode cX8_init 51 = .ok (.newarray .int, 2) := by decide +kernel
theorem dX8_init_53 : decode cX8_init 53 = .ok (.putfield 33, 3) := by decide +kernel
theorem dX8_init_56 : decode cX8_init 56 = .ok (.aload_n 0, 1) := by decide +kernel
theorem dX8_init_57 : decode cX8_init 57 = .ok (.bipush 10, 2) := by decide +kernel
theorem dX8_init_59 : decode cX8_init 59 = .ok (.newarray .int, 2) := by decide +kernel
theorem dX8_init_61 : decode cX8_init 61 = .ok (.putfield 37, 3) := by decide +kernel
theorem dX8_init_64 : decode cX8_init 64 = .ok (.return_, 1) := by decide +kernel
set_option maxRecDepth 20000 in
theorem ggX8_addShelf_X8_requireHeight : GoodIn wsX8_addShelf wsX8_requireHeight := goodIn_ca (goodIn_r _ [9, 10, 11] rfl (by decide +kernel)) (goodIn_sub (fun _ h => List.mem_cons_of_mem _ (List.mem_append_right _ h)) (by decide +kernel))
set_option maxRecDepth 20000 in
theorem gX8_addShelf_X8_requireHeight : GoodIn wsX8_addShelf (wsV RX8 40 RX8 yX8_requireHeight wsX8_requireHeight) := goodIn_app (goodIn_r _ [5, 6, 7, 8] rfl (by decide +kernel)) ggX8_addShelf_X8_requireHeight
set_option maxRecDepth 20000 in
theorem ggX8_addShelf_X8_requireEmptyWindow : GoodIn wsX8_addShelf wsX8_requireEmptyWindow := goodIn_ca (goodIn_r _ [15, 1, 2, 3, 124, 125, 126, 127, 128, 129, 130, 131, 132, 133, 134, 135, 136, 137, 138, 139, 140] rfl (by decide +kernel)) (goodIn_sub (fun _ h => List.mem_cons_of_mem _ (List.mem_append_left _ (List.mem_append_right _ h))) (by decide +kernel))
set_option maxRecDepth 20000 in
theorem gX8_addShelf_X8_requireEmptyWindow : GoodIn wsX8_addShelf (wsV RX8 61 RX8 yX8_requireEmptyWindow wsX8_requireEmptyWindow) := goodIn_app (goodIn_r _ [12, 13, 14, 8] rfl (by decide +kernel)) ggX8_addShelf_X8_requireEmptyWindow
set_option maxRecDepth 20000 in
theorem ggX8_addShelf_X7_firstFree : GoodIn wsX8_addShelf wsX7_firstFree := goodIn_r _ [19, 20, 21, 22, 17, 23, 24, 25, 26, 27, 28, 29, 30, 31, 32, 33, 34, 35, 36, 135, 136, 137, 138, 139, 140] rfl (by decide +kernel)
set_option maxRecDepth 20000 in
theorem gX8_addShelf_X7_firstFree_n64 : GoodIn wsX8_addShelf (wsX7_firstFree) := ggX8_addShelf_X7_firstFree
set_option maxRecDepth 20000 in
theorem ggX8_addShelf_X1_save : GoodIn wsX8_addShelf wsX1_save := goodIn_r _ [40, 41, 42, 43, 44, 45, 46, 47, 48, 38, 49, 50, 51, 52, 53, 54, 55, 56, 17, 57, 58, 59, 60, 61, 62, 63, 64, 65, 66, 67, 68, 69, 70, 71, 72, 73, 24, 25, 74, 27, 26, 75, 76, 77, 78, 79, 80, 81, 82, 83, 84, 85, 86, 87, 88, 89, 90, 91, 92, 93, 94, 95, 96, 97, 98, 99, 100, 101, 102, 103, 104, 105, 106, 107, 108, 109, 110, 111, 112, 113, 114, 115, 116, 117, 118, 119, 120, 141, 142, 143, 130, 131, 132, 133, 134, 135, 136, 137, 138, 139, 140, 144, 145, 146, 147, 148, 149, 150, 151, 152, 153, 154, 155, 156] rfl (by decide +kernel)
set_option maxRecDepth 20000 in
theorem gX8_addShelf_X1_save_n70 : GoodIn wsX8_addShelf (wsX1_save) := ggX8_addShelf_X1_save
set_option maxRecDepth 20000 in
theorem ggX8_addShelf_X7_addAt : GoodIn wsX8_addShelf wsX7_addAt := goodIn_r _ [123, 24, 27, 26, 75, 76, 135, 136, 137, 138, 139, 140] rfl (by decide +kernel)
set_option maxRecDepth 20000 in
theorem gX8_addShelf_X7_addAt_n74 : GoodIn wsX8_addShelf (wsX7_addAt) := ggX8_addShelf_X7_addAt
theorem dX8_addShelf_0 : decode cX8_addShelf 0 = .ok (.aload_n 0, 1) := by decide +kernel
theorem dX8_addShelf_1 : decode cX8_addShelf 1 = .ok (.iload_n 1, 1) := by decide +kernel
theorem dX8_addShelf_2 : decode cX8_addShelf 2 = .ok (.invokevirtual 40, 3) := by decide +kernel
theorem dX8_addShelf_5 : decode cX8_addShelf 5 = .ok (.aload_n 0, 1) := by decide +kernel
theorem dX8_addShelf_6 : decode cX8_addShelf 6 = .ok (.getfield 12, 3) := by decide +kernel
theorem dX8_addShelf_9 : decode cX8_addShelf 9 = .ok (.getfield 44, 3) := by decide +kernel
theorem dX8_addShelf_12 : decode cX8_addShelf 12 = .ok (.getfield 48, 3) := by decide +kernel
theorem dX8_addShelf_15 : decode cX8_addShelf 15 = .ok (.bipush 12, 2) := by decide +kernel
theorem dX8_addShelf_17 : decode cX8_addShelf 17 = .ok (.if_icmp .lt 13, 3) := by decide +kernel
theorem dX8_addShelf_20 : decode cX8_addShelf 20 = .ok (.new 54, 3) := by decide +kernel
theorem dX8_addShelf_23 : decode cX8_addShelf 23 = .ok (.dup, 1) := by decide +kernel
theorem dX8_addShelf_24 : decode cX8_addShelf 24 = .ok (.ldc 56, 2) := by decide +kernel
theorem dX8_addShelf_26 : decode cX8_addShelf 26 = .ok (.invokespecial 58, 3) := by decide +kernel
theorem dX8_addShelf_29 : decode cX8_addShelf 29 = .ok (.athrow, 1) := by decide +kernel
theorem dX8_addShelf_30 : decode cX8_addShelf 30 = .ok (.aload_n 0, 1) := by decide +kernel
theorem dX8_addShelf_31 : decode cX8_addShelf 31 = .ok (.invokevirtual 61, 3) := by decide +kernel
theorem dX8_addShelf_34 : decode cX8_addShelf 34 = .ok (.aload_n 0, 1) := by decide +kernel
theorem dX8_addShelf_35 : decode cX8_addShelf 35 = .ok (.getfield 12, 3) := by decide +kernel
theorem dX8_addShelf_38 : decode cX8_addShelf 38 = .ok (.getfield 44, 3) := by decide +kernel
theorem dX8_addShelf_41 : decode cX8_addShelf 41 = .ok (.iload_n 1, 1) := by decide +kernel
theorem dX8_addShelf_42 : decode cX8_addShelf 42 = .ok (.invokevirtual 64, 3) := by decide +kernel
theorem dX8_addShelf_45 : decode cX8_addShelf 45 = .ok (.istore_n 2, 1) := by decide +kernel
theorem dX8_addShelf_46 : decode cX8_addShelf 46 = .ok (.iload_n 2, 1) := by decide +kernel
theorem dX8_addShelf_47 : decode cX8_addShelf 47 = .ok (.iconst (-1), 1) := by decide +kernel
theorem dX8_addShelf_48 : decode cX8_addShelf 48 = .ok (.if_icmp .ne 13, 3) := by decide +kernel
theorem dX8_addShelf_51 : decode cX8_addShelf 51 = .ok (.new 54, 3) := by decide +kernel
theorem dX8_addShelf_54 : decode cX8_addShelf 54 = .ok (.dup, 1) := by decide +kernel
theorem dX8_addShelf_55 : decode cX8_addShelf 55 = .ok (.ldc 68, 2) := by decide +kernel
theorem dX8_addShelf_57 : decode cX8_addShelf 57 = .ok (.invokespecial 58, 3) := by decide +kernel
theorem dX8_addShelf_60 : decode cX8_addShelf 60 = .ok (.athrow, 1) := by decide +kernel
theorem dX8_addShelf_61 : decode cX8_addShelf 61 = .ok (.aload_n 0, 1) := by decide +kernel
theorem dX8_addShelf_62 : decode cX8_addShelf 62 = .ok (.getfield 22, 3) := by decide +kernel
theorem dX8_addShelf_65 : decode cX8_addShelf 65 = .ok (.aload_n 0, 1) := by decide +kernel
theorem dX8_addShelf_66 : decode cX8_addShelf 66 = .ok (.getfield 12, 3) := by decide +kernel
theorem dX8_addShelf_69 : decode cX8_addShelf 69 = .ok (.invokevirtual 70, 3) := by decide +kernel
theorem dX8_addShelf_72 : decode cX8_addShelf 72 = .ok (.aload_n 0, 1) := by decide +kernel
theorem dX8_addShelf_73 : decode cX8_addShelf 73 = .ok (.getfield 12, 3) := by decide +kernel
theorem dX8_addShelf_76 : decode cX8_addShelf 76 = .ok (.getfield 44, 3) := by decide +kernel
theorem dX8_addShelf_79 : decode cX8_addShelf 79 = .ok (.iload_n 2, 1) := by decide +kernel
theorem dX8_addShelf_80 : decode cX8_addShelf 80 = .ok (.iload_n 1, 1) := by decide +kernel
theorem dX8_addShelf_81 : decode cX8_addShelf 81 = .ok (.invokevirtual 74, 3) := by decide +kernel
theorem dX8_addShelf_84 : decode cX8_addShelf 84 = .ok (.ireturn, 1) := by decide +kernel
set_option maxRecDepth 20000 in
theorem ggX8_scrap_X8_requireShelf : GoodIn wsX8_scrap wsX8_requireShelf := goodIn_ca (goodIn_r _ [9, 10, 11, 3, 111, 112, 113, 114, 115, 116, 117, 118, 119, 120, 121, 122, 123, 124, 125, 126, 127] rfl (by decide +kernel)) (goodIn_sub (fun _ h => List.mem_cons_of_mem _ (List.mem_append_right _ h)) (by decide +kernel))
set_option maxRecDepth 20000 in
theorem gX8_scrap_X8_requireShelf : GoodIn wsX8_scrap (wsV RX8 78 RX8 yX8_requireShelf wsX8_requireShelf) := goodIn_app (goodIn_r _ [5, 6, 7, 8] rfl (by decide +kernel)) ggX8_scrap_X8_requireShelf
set_option maxRecDepth 20000 in
theorem ggX8_scrap_X7_isEmpty : GoodIn wsX8_scrap wsX7_isEmpty := goodIn_r _ [15, 16, 17, 18, 13, 19, 20, 122, 123, 124, 125, 126, 127] rfl (by decide +kernel)
set_option maxRecDepth 20000 in
theorem gX8_scrap_X7_isEmpty_n86 : GoodIn wsX8_scrap (wsX7_isEmpty) := ggX8_scrap_X7_isEmpty
set_option maxRecDepth 20000 in
theorem ggX8_scrap_X1_save : GoodIn wsX8_scrap wsX1_save := goodIn_r _ [24, 25, 26, 27, 28, 29, 30, 31, 32, 22, 33, 34, 35, 36, 37, 38, 39, 40, 13, 41, 42, 43, 44, 45, 46, 47, 48, 49, 50, 51, 52, 53, 54, 55, 56, 57, 58, 59, 60, 61, 62, 63, 20, 64, 65, 66, 67, 68, 69, 70, 71, 72, 73, 74, 75, 76, 77, 78, 79, 80, 81, 82, 83, 84, 85, 86, 87, 88, 89, 90, 91, 92, 93, 94, 95, 96, 97, 98, 99, 100, 101, 102, 103, 104, 105, 106, 107, 128, 129, 130, 117, 118, 119, 120, 121, 122, 123, 124, 125, 126, 127, 131, 132, 133, 134, 135, 136, 137, 138, 139, 140, 141, 142, 143] rfl (by decide +kernel)
set_option maxRecDepth 20000 in
theorem gX8_scrap_X1_save_n70 : GoodIn wsX8_scrap (wsX1_save) := ggX8_scrap_X1_save
set_option maxRecDepth 20000 in
theorem ggX8_scrap_X7_remove : GoodIn wsX8_scrap wsX7_remove := goodIn_r _ [110, 58, 61, 62, 63, 20, 93, 94, 95, 96, 59, 122, 123, 124, 125, 126, 127] rfl (by decide +kernel)
set_option maxRecDepth 20000 in
theorem gX8_scrap_X7_remove_n95 : GoodIn wsX8_scrap (wsX7_remove) := ggX8_scrap_X7_remove
theorem dX8_scrap_0 : decode cX8_scrap 0 = .ok (.aload_n 0, 1) := by decide +kernel
theorem dX8_scrap_1 : decode cX8_scrap 1 = .ok (.iload_n 1, 1) := by decide +kernel
theorem dX8_scrap_2 : decode cX8_scrap 2 = .ok (.invokevirtual 78, 3) := by decide +kernel
theorem dX8_scrap_5 : decode cX8_scrap 5 = .ok (.iload_n 1, 1) := by decide +kernel
theorem dX8_scrap_6 : decode cX8_scrap 6 = .ok (.aload_n 0, 1) := by decide +kernel
theorem dX8_scrap_7 : decode cX8_scrap 7 = .ok (.getfield 12, 3) := by decide +kernel
theorem dX8_scrap_10 : decode cX8_scrap 10 = .ok (.getfield 44, 3) := by decide +kernel
theorem dX8_scrap_13 : decode cX8_scrap 13 = .ok (.getfield 81, 3) := by decide +kernel
theorem dX8_scrap_16 : decode cX8_scrap 16 = .ok (.if_icmp .ne 13, 3) := by decide +kernel
theorem dX8_scrap_19 : decode cX8_scrap 19 = .ok (.new 54, 3) := by decide +kernel
theorem dX8_scrap_22 : decode cX8_scrap 22 = .ok (.dup, 1) := by decide +kernel
theorem dX8_scrap_23 : decode cX8_scrap 23 = .ok (.ldc 84, 2) := by decide +kernel
theorem dX8_scrap_25 : decode cX8_scrap 25 = .ok (.invokespecial 58, 3) := by decide +kernel
theorem dX8_scrap_28 : decode cX8_scrap 28 = .ok (.athrow, 1) := by decide +kernel
theorem dX8_scrap_29 : decode cX8_scrap 29 = .ok (.aload_n 0, 1) := by decide +kernel
theorem dX8_scrap_30 : decode cX8_scrap 30 = .ok (.getfield 12, 3) := by decide +kernel
theorem dX8_scrap_33 : decode cX8_scrap 33 = .ok (.getfield 44, 3) := by decide +kernel
theorem dX8_scrap_36 : decode cX8_scrap 36 = .ok (.iload_n 1, 1) := by decide +kernel
theorem dX8_scrap_37 : decode cX8_scrap 37 = .ok (.invokevirtual 86, 3) := by decide +kernel
theorem dX8_scrap_40 : decode cX8_scrap 40 = .ok (.ifCond .ne 13, 3) := by decide +kernel
theorem dX8_scrap_43 : decode cX8_scrap 43 = .ok (.new 54, 3) := by decide +kernel
theorem dX8_scrap_46 : decode cX8_scrap 46 = .ok (.dup, 1) := by decide +kernel
theorem dX8_scrap_47 : decode cX8_scrap 47 = .ok (.ldc 90, 2) := by decide +kernel
theorem dX8_scrap_49 : decode cX8_scrap 49 = .ok (.invokespecial 58, 3) := by decide +kernel
theorem dX8_scrap_52 : decode cX8_scrap 52 = .ok (.athrow, 1) := by decide +kernel
theorem dX8_scrap_53 : decode cX8_scrap 53 = .ok (.aload_n 0, 1) := by decide +kernel
theorem dX8_scrap_54 : decode cX8_scrap 54 = .ok (.getfield 22, 3) := by decide +kernel
theorem dX8_scrap_57 : decode cX8_scrap 57 = .ok (.aload_n 0, 1) := by decide +kernel
theorem dX8_scrap_58 : decode cX8_scrap 58 = .ok (.getfield 12, 3) := by decide +kernel
theorem dX8_scrap_61 : decode cX8_scrap 61 = .ok (.invokevirtual 70, 3) := by decide +kernel
theorem dX8_scrap_64 : decode cX8_scrap 64 = .ok (.aload_n 0, 1) := by decide +kernel
theorem dX8_scrap_65 : decode cX8_scrap 65 = .ok (.getfield 12, 3) := by decide +kernel
theorem dX8_scrap_68 : decode cX8_scrap 68 = .ok (.getfield 44, 3) := by decide +kernel
theorem dX8_scrap_71 : decode cX8_scrap 71 = .ok (.getfield 92, 3) := by decide +kernel
theorem dX8_scrap_74 : decode cX8_scrap 74 = .ok (.iload_n 1, 1) := by decide +kernel
theorem dX8_scrap_75 : decode cX8_scrap 75 = .ok (.iaload, 1) := by decide +kernel
theorem dX8_scrap_76 : decode cX8_scrap 76 = .ok (.istore_n 2, 1) := by decide +kernel
theorem dX8_scrap_77 : decode cX8_scrap 77 = .ok (.aload_n 0, 1) := by decide +kernel
theorem dX8_scrap_78 : decode cX8_scrap 78 = .ok (.getfield 12, 3) := by decide +kernel
theorem dX8_scrap_81 : decode cX8_scrap 81 = .ok (.getfield 44, 3) := by decide +kernel
theorem dX8_scrap_84 : decode cX8_scrap 84 = .ok (.iload_n 1, 1) := by decide +kernel
theorem dX8_scrap_85 : decode cX8_scrap 85 = .ok (.invokevirtual 95, 3) := by decide +kernel
theorem dX8_scrap_88 : decode cX8_scrap 88 = .ok (.iload_n 2, 1) := by decide +kernel
theorem dX8_scrap_89 : decode cX8_scrap 89 = .ok (.ireturn, 1) := by decide +kernel
set_option maxRecDepth 20000 in
theorem ggX8_fetch_X8_requireShelf : GoodIn wsX8_fetch wsX8_requireShelf := goodIn_ca (goodIn_r _ [7, 8, 9, 2, 124, 125, 126, 127, 128, 129, 130, 131, 132, 133, 134, 135, 136, 137, 138, 139, 140] rfl (by decide +kernel)) (goodIn_sub (fun _ h => List.mem_cons_of_mem _ (List.mem_append_left _ (List.mem_append_right _ h))) (by decide +kernel))
set_option maxRecDepth 20000 in
theorem gX8_fetch_X8_requireShelf : GoodIn wsX8_fetch (wsV RX8 78 RX8 yX8_requireShelf wsX8_requireShelf) := goodIn_app (goodIn_r _ [3, 4, 5, 6] rfl (by decide +kernel)) ggX8_fetch_X8_requireShelf
set_option maxRecDepth 20000 in
theorem ggX8_fetch_X8_requireEmptyWindow : GoodIn wsX8_fetch wsX8_requireEmptyWindow := goodIn_ca (goodIn_r _ [13, 14, 15, 2, 124, 125, 126, 127, 128, 129, 130, 131, 132, 133, 134, 135, 136, 137, 138, 139, 140] rfl (by decide +kernel)) (goodIn_sub (fun _ h => List.mem_cons_of_mem _ (List.mem_append_right _ h)) (by decide +kernel))
set_option maxRecDepth 20000 in
theorem gX8_fetch_X8_requireEmptyWindow : GoodIn wsX8_fetch (wsV RX8 61 RX8 yX8_requireEmptyWindow wsX8_requireEmptyWindow) := goodIn_app (goodIn_r _ [10, 11, 12, 6] rfl (by decide +kernel)) ggX8_fetch_X8_requireEmptyWindow
set_option maxRecDepth 20000 in
theorem ggX8_fetch_X1_save : GoodIn wsX8_fetch wsX1_save := goodIn_r _ [19, 20, 21, 22, 23, 24, 25, 26, 27, 17, 28, 29, 30, 31, 32, 33, 34, 35, 36, 37, 38, 39, 40, 41, 42, 43, 44, 45, 46, 47, 48, 49, 50, 51, 52, 53, 54, 55, 56, 57, 58, 59, 60, 61, 62, 63, 64, 65, 66, 67, 68, 69, 70, 71, 72, 73, 74, 75, 76, 77, 78, 79, 80, 81, 82, 83, 84, 85, 86, 87, 88, 89, 90, 91, 92, 93, 94, 95, 96, 97, 98, 99, 100, 101, 102, 103, 104, 141, 142, 143, 130, 131, 132, 133, 134, 135, 136, 137, 138, 139, 140, 144, 145, 146, 147, 148, 149, 150, 151, 152, 153, 154, 155, 156] rfl (by decide +kernel)
set_option maxRecDepth 20000 in
theorem gX8_fetch_X1_save_n70 : GoodIn wsX8_fetch (wsX1_save) := ggX8_fetch_X1_save
set_option maxRecDepth 20000 in
theorem ggX8_fetch_X6_bring : GoodIn wsX8_fetch wsX6_bring := goodIn_r _ [107, 41, 37, 108, 109, 110, 24, 111, 112, 113, 114, 115, 116, 36, 117, 118, 40, 119, 120, 69, 71, 68, 121, 122, 123, 66, 67, 64, 130, 131, 132, 133, 134, 135, 136, 137, 138, 139, 140, 144, 145, 146, 147, 148, 149, 150] rfl (by decide +kernel)
set_option maxRecDepth 20000 in
theorem gX8_fetch_X6_bring_n98 : GoodIn wsX8_fetch (wsX6_bring) := ggX8_fetch_X6_bring
theorem dX8_fetch_0 : decode cX8_fetch 0 = .ok (.aload_n 0, 1) := by decide +kernel
theorem dX8_fetch_1 : decode cX8_fetch 1 = .ok (.iload_n 1, 1) := by decide +kernel
theorem dX8_fetch_2 : decode cX8_fetch 2 = .ok (.invokevirtual 78, 3) := by decide +kernel
theorem dX8_fetch_5 : decode cX8_fetch 5 = .ok (.aload_n 0, 1) := by decide +kernel
theorem dX8_fetch_6 : decode cX8_fetch 6 = .ok (.invokevirtual 61, 3) := by decide +kernel
theorem dX8_fetch_9 : decode cX8_fetch 9 = .ok (.aload_n 0, 1) := by decide +kernel
theorem dX8_fetch_10 : decode cX8_fetch 10 = .ok (.getfield 22, 3) := by decide +kernel
theorem dX8_fetch_13 : decode cX8_fetch 13 = .ok (.aload_n 0, 1) := by decide +kernel
theorem dX8_fetch_14 : decode cX8_fetch 14 = .ok (.getfield 12, 3) := by decide +kernel
theorem dX8_fetch_17 : decode cX8_fetch 17 = .ok (.invokevirtual 70, 3) := by decide +kernel
theorem dX8_fetch_20 : decode cX8_fetch 20 = .ok (.aload_n 0, 1) := by decide +kernel
theorem dX8_fetch_21 : decode cX8_fetch 21 = .ok (.getfield 12, 3) := by decide +kernel
theorem dX8_fetch_24 : decode cX8_fetch 24 = .ok (.iload_n 1, 1) := by decide +kernel
theorem dX8_fetch_25 : decode cX8_fetch 25 = .ok (.invokevirtual 98, 3) := by decide +kernel
theorem dX8_fetch_28 : decode cX8_fetch 28 = .ok (.ireturn, 1) := by decide +kernel
set_option maxRecDepth 20000 in
theorem ggX8_stow_X8_requireShelfAtWindow : GoodIn wsX8_stow wsX8_requireShelfAtWindow := goodIn_ca (goodIn_r _ [7, 8, 9, 2, 131, 132, 133, 134, 135, 136, 137, 138, 139, 140, 141, 142, 143, 144, 145, 146, 147] rfl (by decide +kernel)) (goodIn_sub (fun _ h => List.mem_cons_of_mem _ (List.mem_append_right _ h)) (by decide +kernel))
set_option maxRecDepth 20000 in
theorem gX8_stow_X8_requireShelfAtWindow : GoodIn wsX8_stow (wsV RX8 101 RX8 yX8_requireShelfAtWindow wsX8_requireShelfAtWindow) := goodIn_app (goodIn_r _ [3, 4, 5, 6] rfl (by decide +kernel)) ggX8_stow_X8_requireShelfAtWindow
set_option maxRecDepth 20000 in
theorem ggX8_stow_X1_save : GoodIn wsX8_stow wsX1_save := goodIn_r _ [13, 14, 15, 16, 17, 18, 19, 20, 21, 11, 22, 23, 24, 25, 26, 27, 28, 29, 30, 31, 32, 33, 34, 35, 36, 37, 38, 39, 40, 41, 42, 43, 44, 45, 46, 47, 48, 49, 50, 51, 52, 53, 54, 55, 56, 57, 58, 59, 60, 61, 62, 63, 64, 65, 66, 67, 68, 69, 70, 71, 72, 73, 74, 75, 76, 77, 78, 79, 80, 81, 82, 83, 84, 85, 86, 87, 88, 89, 90, 91, 92, 93, 94, 95, 96, 97, 98, 148, 149, 150, 137, 138, 139, 140, 141, 142, 143, 144, 145, 146, 147, 151, 152, 153, 154, 155, 156, 157, 158, 159, 160, 161, 162, 163] rfl (by decide +kernel)
set_option maxRecDepth 20000 in
theorem gX8_stow_X1_save_n70 : GoodIn wsX8_stow (wsX1_save) := ggX8_stow_X1_save
set_option maxRecDepth 20000 in
theorem ggX8_stow_X6_putBack : GoodIn wsX8_stow wsX6_putBack := goodIn_r _ [101, 31, 35, 102, 30, 103, 104, 105, 106, 107, 108, 48, 49, 52, 51, 109, 110, 111, 112, 113, 114, 115, 116, 117, 118, 119, 120, 18, 121, 122, 123, 124, 34, 125, 126, 63, 65, 62, 127, 128, 129, 130, 60, 61, 58, 137, 138, 139, 140, 141, 142, 143, 144, 145, 146, 147, 151, 152, 153, 154, 155, 156, 157] rfl (by decide +kernel)
set_option maxRecDepth 20000 in
theorem gX8_stow_X6_putBack_n104 : GoodIn wsX8_stow (wsX6_putBack) := ggX8_stow_X6_putBack
theorem dX8_stow_0 : decode cX8_stow 0 = .ok (.aload_n 0, 1) := by decide +kernel
theorem dX8_stow_1 : decode cX8_stow 1 = .ok (.invokevirtual 101, 3) := by decide +kernel
theorem dX8_stow_4 : decode cX8_stow 4 = .ok (.aload_n 0, 1) := by decide +kernel
theorem dX8_stow_5 : decode cX8_stow 5 = .ok (.getfield 22, 3) := by decide +kernel
theorem dX8_stow_8 : decode cX8_stow 8 = .ok (.aload_n 0, 1) := by decide +kernel
theorem dX8_stow_9 : decode cX8_stow 9 = .ok (.getfield 12, 3) := by decide +kernel
theorem dX8_stow_12 : decode cX8_stow 12 = .ok (.invokevirtual 70, 3) := by decide +kernel
theorem dX8_stow_15 : decode cX8_stow 15 = .ok (.aload_n 0, 1) := by decide +kernel
theorem dX8_stow_16 : decode cX8_stow 16 = .ok (.getfield 12, 3) := by decide +kernel
theorem dX8_stow_19 : decode cX8_stow 19 = .ok (.invokevirtual 104, 3) := by decide +kernel
theorem dX8_stow_22 : decode cX8_stow 22 = .ok (.ireturn, 1) := by decide +kernel
set_option maxRecDepth 20000 in
theorem ggX8_stowAt_X8_requireSlot : GoodIn wsX8_stowAt wsX8_requireSlot := goodIn_ca (goodIn_r _ [9, 10, 11, 12, 13, 14, 8, 15] rfl (by decide +kernel)) (goodIn_sub (fun _ h => List.mem_cons_of_mem _ (List.mem_append_right _ h)) (by decide +kernel))
set_option maxRecDepth 20000 in
theorem gX8_stowAt_X8_requireSlot : GoodIn wsX8_stowAt (wsV RX8 108 RX8 yX8_requireSlot wsX8_requireSlot) := goodIn_app (goodIn_r _ [5, 6, 7, 8] rfl (by decide +kernel)) ggX8_stowAt_X8_requireSlot
set_option maxRecDepth 20000 in
theorem ggX8_stowAt_X8_requireShelfAtWindow : GoodIn wsX8_stowAt wsX8_requireShelfAtWindow := goodIn_ca (goodIn_r _ [19, 1, 2, 3, 129, 130, 131, 132, 133, 134, 135, 136, 137, 138, 139, 140, 141, 142, 143, 144, 145] rfl (by decide +kernel)) (goodIn_sub (fun _ h => List.mem_cons_of_mem _ (List.mem_append_left _ (List.mem_append_right _ h))) (by decide +kernel))
set_option maxRecDepth 20000 in
theorem gX8_stowAt_X8_requireShelfAtWindow : GoodIn wsX8_stowAt (wsV RX8 101 RX8 yX8_requireShelfAtWindow wsX8_requireShelfAtWindow) := goodIn_app (goodIn_r _ [16, 17, 18, 8] rfl (by decide +kernel)) ggX8_stowAt_X8_requireShelfAtWindow
set_option maxRecDepth 20000 in
theorem ggX8_stowAt_X7_takenOn : GoodIn wsX8_stowAt wsX7_takenOn := goodIn_r _ [23, 24, 25, 26, 27, 28, 29, 21, 30, 140, 141, 142, 143, 144, 145] rfl (by decide +kernel)
set_option maxRecDepth 20000 in
theorem gX8_stowAt_X7_takenOn_n112 : GoodIn wsX8_stowAt (wsX7_takenOn) := ggX8_stowAt_X7_takenOn
set_option maxRecDepth 20000 in
theorem ggX8_stowAt_X7_fits : GoodIn wsX8_stowAt wsX7_fits := goodIn_r _ [32] rfl (by decide +kernel)
set_option maxRecDepth 20000 in
theorem gX8_stowAt_X7_fits_n115 : GoodIn wsX8_stowAt (wsX7_fits) := ggX8_stowAt_X7_fits
set_option maxRecDepth 20000 in
theorem ggX8_stowAt_X1_save : GoodIn wsX8_stowAt wsX1_save := goodIn_r _ [36, 37, 38, 39, 40, 41, 42, 43, 44, 34, 45, 46, 47, 48, 49, 50, 51, 52, 21, 53, 54, 55, 56, 57, 58, 59, 60, 61, 62, 63, 64, 65, 66, 67, 68, 69, 24, 25, 70, 27, 26, 71, 72, 73, 74, 75, 76, 77, 78, 79, 80, 81, 82, 83, 84, 85, 86, 87, 88, 89, 90, 91, 92, 93, 94, 95, 96, 97, 98, 99, 100, 101, 102, 103, 104, 105, 106, 107, 108, 109, 110, 111, 112, 113, 114, 115, 116, 146, 147, 148, 135, 136, 137, 138, 139, 140, 141, 142, 143, 144, 145, 149, 150, 151, 152, 153, 154, 155, 156, 157, 158, 159, 160, 161] rfl (by decide +kernel)
set_option maxRecDepth 20000 in
theorem gX8_stowAt_X1_save_n70 : GoodIn wsX8_stowAt (wsX1_save) := ggX8_stowAt_X1_save
set_option maxRecDepth 20000 in
theorem ggX8_stowAt_X6_putAt : GoodIn wsX8_stowAt wsX6_putAt := goodIn_r _ [119, 53, 57, 120, 21, 121, 122, 56, 123, 124, 81, 83, 80, 125, 126, 127, 128, 78, 79, 76, 135, 136, 137, 138, 139, 140, 141, 142, 143, 144, 145, 149, 150, 151, 152, 153, 154, 155] rfl (by decide +kernel)
set_option maxRecDepth 20000 in
theorem gX8_stowAt_X6_putAt_n121 : GoodIn wsX8_stowAt (wsX6_putAt) := ggX8_stowAt_X6_putAt
theorem dX8_stowAt_0 : decode cX8_stowAt 0 = .ok (.aload_n 0, 1) := by decide +kernel
theorem dX8_stowAt_1 : decode cX8_stowAt 1 = .ok (.iload_n 1, 1) := by decide +kernel
theorem dX8_stowAt_2 : decode cX8_stowAt 2 = .ok (.iload_n 2, 1) := by decide +kernel
theorem dX8_stowAt_3 : decode cX8_stowAt 3 = .ok (.invokevirtual 108, 3) := by decide +kernel
theorem dX8_stowAt_6 : decode cX8_stowAt 6 = .ok (.aload_n 0, 1) := by decide +kernel
theorem dX8_stowAt_7 : decode cX8_stowAt 7 = .ok (.invokevirtual 101, 3) := by decide +kernel
theorem dX8_stowAt_10 : decode cX8_stowAt 10 = .ok (.aload_n 0, 1) := by decide +kernel
theorem dX8_stowAt_11 : decode cX8_stowAt 11 = .ok (.getfield 12, 3) := by decide +kernel
theorem dX8_stowAt_14 : decode cX8_stowAt 14 = .ok (.getfield 44, 3) := by decide +kernel
theorem dX8_stowAt_17 : decode cX8_stowAt 17 = .ok (.astore_n 3, 1) := by decide +kernel
theorem dX8_stowAt_18 : decode cX8_stowAt 18 = .ok (.aload_n 3, 1) := by decide +kernel
theorem dX8_stowAt_19 : decode cX8_stowAt 19 = .ok (.iload_n 1, 1) := by decide +kernel
theorem dX8_stowAt_20 : decode cX8_stowAt 20 = .ok (.invokevirtual 112, 3) := by decide +kernel
theorem dX8_stowAt_23 : decode cX8_stowAt 23 = .ok (.iload_n 2, 1) := by decide +kernel
theorem dX8_stowAt_24 : decode cX8_stowAt 24 = .ok (.aload_n 3, 1) := by decide +kernel
theorem dX8_stowAt_25 : decode cX8_stowAt 25 = .ok (.getfield 92, 3) := by decide +kernel
theorem dX8_stowAt_28 : decode cX8_stowAt 28 = .ok (.aload_n 3, 1) := by decide +kernel
theorem dX8_stowAt_29 : decode cX8_stowAt 29 = .ok (.getfield 81, 3) := by decide +kernel
theorem dX8_stowAt_32 : decode cX8_stowAt 32 = .ok (.iaload, 1) := by decide +kernel
theorem dX8_stowAt_33 : decode cX8_stowAt 33 = .ok (.invokestatic 115, 3) := by decide +kernel
theorem dX8_stowAt_36 : decode cX8_stowAt 36 = .ok (.ifCond .ne 13, 3) := by decide +kernel
theorem dX8_stowAt_39 : decode cX8_stowAt 39 = .ok (.new 54, 3) := by decide +kernel
theorem dX8_stowAt_42 : decode cX8_stowAt 42 = .ok (.dup, 1) := by decide +kernel
theorem dX8_stowAt_43 : decode cX8_stowAt 43 = .ok (.ldc 119, 2) := by decide +kernel
theorem dX8_stowAt_45 : decode cX8_stowAt 45 = .ok (.invokespecial 58, 3) := by decide +kernel
theorem dX8_stowAt_48 : decode cX8_stowAt 48 = .ok (.athrow, 1) := by decide +kernel
theorem dX8_stowAt_49 : decode cX8_stowAt 49 = .ok (.aload_n 0, 1) := by decide +kernel
theorem dX8_stowAt_50 : decode cX8_stowAt 50 = .ok (.getfield 22, 3) := by decide +kernel
theorem dX8_stowAt_53 : decode cX8_stowAt 53 = .ok (.aload_n 0, 1) := by decide +kernel
theorem dX8_stowAt_54 : decode cX8_stowAt 54 = .ok (.getfield 12, 3) := by decide +kernel
theorem dX8_stowAt_57 : decode cX8_stowAt 57 = .ok (.invokevirtual 70, 3) := by decide +kernel
theorem dX8_stowAt_60 : decode cX8_stowAt 60 = .ok (.aload_n 0, 1) := by decide +kernel
theorem dX8_stowAt_61 : decode cX8_stowAt 61 = .ok (.getfield 12, 3) := by decide +kernel
theorem dX8_stowAt_64 : decode cX8_stowAt 64 = .ok (.iload_n 1, 1) := by decide +kernel
theorem dX8_stowAt_65 : decode cX8_stowAt 65 = .ok (.bipush 20, 2) := by decide +kernel
theorem dX8_stowAt_67 : decode cX8_stowAt 67 = .ok (.imul, 1) := by decide +kernel
theorem dX8_stowAt_68 : decode cX8_stowAt 68 = .ok (.iload_n 2, 1) := by decide +kernel
theorem dX8_stowAt_69 : decode cX8_stowAt 69 = .ok (.iadd, 1) := by decide +kernel
theorem dX8_stowAt_70 : decode cX8_stowAt 70 = .ok (.invokevirtual 121, 3) := by decide +kernel
theorem dX8_stowAt_73 : decode cX8_stowAt 73 = .ok (.ireturn, 1) := by decide +kernel
set_option maxRecDepth 20000 in
theorem ggX8_pack_X8_requirePackable : GoodIn wsX8_pack wsX8_requirePackable := goodIn_ca (goodIn_r _ [8, 9, 10, 2, 3, 11, 12, 13, 7, 14, 15, 16, 17, 18, 19, 20, 21, 22, 23, 24, 25, 26, 27, 28, 29, 30, 31, 32, 33, 34, 126, 127, 128, 129, 130, 131, 132, 133, 134, 135, 136, 137, 138, 139, 140, 141, 142] rfl (by decide +kernel)) (goodIn_sub (fun _ h => List.mem_cons_of_mem _ (List.mem_append_right _ h)) (by decide +kernel))
set_option maxRecDepth 20000 in
theorem gX8_pack_X8_requirePackable : GoodIn wsX8_pack (wsV RX8 124 RX8 yX8_requirePackable wsX8_requirePackable) := goodIn_app (goodIn_r _ [4, 5, 6, 7] rfl (by decide +kernel)) ggX8_pack_X8_requirePackable
set_option maxRecDepth 20000 in
theorem ggX8_pack_X1_save : GoodIn wsX8_pack wsX1_save := goodIn_r _ [38, 39, 40, 41, 42, 43, 44, 45, 46, 36, 47, 48, 49, 50, 51, 52, 53, 54, 16, 55, 56, 57, 58, 59, 60, 61, 62, 63, 64, 65, 66, 67, 68, 69, 70, 71, 19, 72, 73, 20, 74, 25, 75, 76, 77, 78, 79, 80, 81, 82, 83, 84, 85, 86, 87, 88, 89, 90, 91, 92, 93, 94, 95, 96, 97, 98, 99, 100, 101, 102, 103, 104, 105, 106, 107, 108, 109, 110, 111, 112, 113, 114, 115, 116, 117, 118, 119, 143, 144, 145, 132, 133, 134, 135, 136, 137, 138, 139, 140, 141, 142, 146, 147, 148, 149, 150, 151, 152, 153, 154, 155, 156, 157, 158] rfl (by decide +kernel)
set_option maxRecDepth 20000 in
theorem gX8_pack_X1_save_n70 : GoodIn wsX8_pack (wsX1_save) := ggX8_pack_X1_save
set_option maxRecDepth 20000 in
theorem ggX8_pack_X7_countMoved : GoodIn wsX8_pack wsX7_countMoved := goodIn_r _ [122, 19, 74, 137, 138, 139, 140, 141, 142] rfl (by decide +kernel)
set_option maxRecDepth 20000 in
theorem gX8_pack_X7_countMoved_n127 : GoodIn wsX8_pack (wsX7_countMoved) := ggX8_pack_X7_countMoved
set_option maxRecDepth 20000 in
theorem ggX8_pack_X7_moveTo : GoodIn wsX8_pack wsX7_moveTo := goodIn_r _ [125, 19, 74, 137, 138, 139, 140, 141, 142] rfl (by decide +kernel)
set_option maxRecDepth 20000 in
theorem gX8_pack_X7_moveTo_n131 : GoodIn wsX8_pack (wsX7_moveTo) := ggX8_pack_X7_moveTo
theorem dX8_pack_0 : decode cX8_pack 0 = .ok (.aload_n 0, 1) := by decide +kernel
theorem dX8_pack_1 : decode cX8_pack 1 = .ok (.invokevirtual 124, 3) := by decide +kernel
theorem dX8_pack_4 : decode cX8_pack 4 = .ok (.aload_n 0, 1) := by decide +kernel
theorem dX8_pack_5 : decode cX8_pack 5 = .ok (.getfield 22, 3) := by decide +kernel
theorem dX8_pack_8 : decode cX8_pack 8 = .ok (.aload_n 0, 1) := by decide +kernel
theorem dX8_pack_9 : decode cX8_pack 9 = .ok (.getfield 12, 3) := by decide +kernel
theorem dX8_pack_12 : decode cX8_pack 12 = .ok (.invokevirtual 70, 3) := by decide +kernel
theorem dX8_pack_15 : decode cX8_pack 15 = .ok (.aload_n 0, 1) := by decide +kernel
theorem dX8_pack_16 : decode cX8_pack 16 = .ok (.getfield 12, 3) := by decide +kernel
theorem dX8_pack_19 : decode cX8_pack 19 = .ok (.getfield 44, 3) := by decide +kernel
theorem dX8_pack_22 : decode cX8_pack 22 = .ok (.aload_n 0, 1) := by decide +kernel
theorem dX8_pack_23 : decode cX8_pack 23 = .ok (.getfield 33, 3) := by decide +kernel
theorem dX8_pack_26 : decode cX8_pack 26 = .ok (.invokevirtual 127, 3) := by decide +kernel
theorem dX8_pack_29 : decode cX8_pack 29 = .ok (.istore_n 1, 1) := by decide +kernel
theorem dX8_pack_30 : decode cX8_pack 30 = .ok (.aload_n 0, 1) := by decide +kernel
theorem dX8_pack_31 : decode cX8_pack 31 = .ok (.getfield 12, 3) := by decide +kernel
theorem dX8_pack_34 : decode cX8_pack 34 = .ok (.getfield 44, 3) := by decide +kernel
theorem dX8_pack_37 : decode cX8_pack 37 = .ok (.aload_n 0, 1) := by decide +kernel
theorem dX8_pack_38 : decode cX8_pack 38 = .ok (.getfield 33, 3) := by decide +kernel
theorem dX8_pack_41 : decode cX8_pack 41 = .ok (.invokevirtual 131, 3) := by decide +kernel
theorem dX8_pack_44 : decode cX8_pack 44 = .ok (.iload_n 1, 1) := by decide +kernel
theorem dX8_pack_45 : decode cX8_pack 45 = .ok (.ireturn, 1) := by decide +kernel
set_option maxRecDepth 20000 in
theorem ggX8_fill_X8_requireKind : GoodIn wsX8_fill wsX8_requireKind := goodIn_ca (goodIn_r _ [9, 10, 11] rfl (by decide +kernel)) (goodIn_sub (fun _ h => List.mem_cons_of_mem _ (List.mem_append_left _ (List.mem_append_right _ h))) (by decide +kernel))
set_option maxRecDepth 20000 in
theorem gX8_fill_X8_requireKind : GoodIn wsX8_fill (wsV RX8 135 RX8 yX8_requireKind wsX8_requireKind) := goodIn_app (goodIn_r _ [5, 6, 7, 8] rfl (by decide +kernel)) ggX8_fill_X8_requireKind
set_option maxRecDepth 20000 in
theorem ggX8_fill_X8_requireMany : GoodIn wsX8_fill wsX8_requireMany := goodIn_ca (goodIn_r _ [15, 16, 17] rfl (by decide +kernel)) (goodIn_sub (fun _ h => List.mem_cons_of_mem _ (List.mem_append_right _ h)) (by decide +kernel))
set_option maxRecDepth 20000 in
theorem gX8_fill_X8_requireMany : GoodIn wsX8_fill (wsV RX8 138 RX8 yX8_requireMany wsX8_requireMany) := goodIn_app (goodIn_r _ [12, 13, 14, 8] rfl (by decide +kernel)) ggX8_fill_X8_requireMany
set_option maxRecDepth 20000 in
theorem ggX8_fill_X8_requireShelfAtWindow : GoodIn wsX8_fill wsX8_requireShelfAtWindow := goodIn_ca (goodIn_r _ [21, 1, 2, 3, 120, 121, 122, 123, 124, 125, 126, 127, 128, 129, 130, 131, 132, 133, 134, 135, 136] rfl (by decide +kernel)) (goodIn_sub (fun _ h => List.mem_cons_of_mem _ (List.mem_append_left _ (List.mem_append_left _ (List.mem_append_right _ h)))) (by decide +kernel))
set_option maxRecDepth 20000 in
theorem gX8_fill_X8_requireShelfAtWindow : GoodIn wsX8_fill (wsV RX8 101 RX8 yX8_requireShelfAtWindow wsX8_requireShelfAtWindow) := goodIn_app (goodIn_r _ [18, 19, 20, 8] rfl (by decide +kernel)) ggX8_fill_X8_requireShelfAtWindow
set_option maxRecDepth 20000 in
theorem ggX8_fill_X6_weighShelf : GoodIn wsX8_fill wsX6_weighShelf := goodIn_r _ [25, 26, 27, 28, 29, 30, 31, 32, 126, 127, 128, 129, 130, 137, 138, 139, 140, 131, 132, 133, 134, 135, 136] rfl (by decide +kernel)
set_option maxRecDepth 20000 in
theorem gX8_fill_X6_weighShelf_n141 : GoodIn wsX8_fill (wsX6_weighShelf) := ggX8_fill_X6_weighShelf
set_option maxRecDepth 20000 in
theorem ggX8_fill_X1_save : GoodIn wsX8_fill wsX1_save := goodIn_r _ [36, 37, 38, 39, 40, 23, 41, 42, 43, 34, 44, 45, 46, 47, 48, 49, 50, 51, 29, 26, 52, 53, 54, 55, 56, 57, 58, 27, 59, 60, 61, 62, 63, 64, 65, 66, 67, 68, 69, 70, 71, 72, 32, 73, 74, 75, 76, 77, 78, 79, 80, 81, 82, 83, 84, 85, 86, 87, 88, 89, 90, 91, 92, 93, 94, 95, 96, 97, 98, 99, 100, 101, 102, 103, 104, 105, 106, 107, 108, 109, 110, 111, 112, 113, 114, 115, 116, 141, 142, 143, 126, 127, 128, 129, 130, 131, 132, 133, 134, 135, 136, 144, 145, 146, 147, 148, 149, 150, 137, 138, 139, 140, 151, 152] rfl (by decide +kernel)
set_option maxRecDepth 20000 in
theorem gX8_fill_X1_save_n70 : GoodIn wsX8_fill (wsX1_save) := ggX8_fill_X1_save
set_option maxRecDepth 20000 in
theorem ggX8_fill_X7_change : GoodIn wsX8_fill wsX7_change := goodIn_r _ [119, 32, 131, 132, 133, 134, 135, 136] rfl (by decide +kernel)
set_option maxRecDepth 20000 in
theorem gX8_fill_X7_change_n158 : GoodIn wsX8_fill (wsX7_change) := ggX8_fill_X7_change
theorem dX8_fill_0 : decode cX8_fill 0 = .ok (.aload_n 0, 1) := by decide +kernel
theorem dX8_fill_1 : decode cX8_fill 1 = .ok (.iload_n 1, 1) := by decide +kernel
theorem dX8_fill_2 : decode cX8_fill 2 = .ok (.invokevirtual 135, 3) := by decide +kernel
theorem dX8_fill_5 : decode cX8_fill 5 = .ok (.aload_n 0, 1) := by decide +kernel
theorem dX8_fill_6 : decode cX8_fill 6 = .ok (.iload_n 2, 1) := by decide +kernel
theorem dX8_fill_7 : decode cX8_fill 7 = .ok (.invokevirtual 138, 3) := by decide +kernel
theorem dX8_fill_10 : decode cX8_fill 10 = .ok (.aload_n 0, 1) := by decide +kernel
theorem dX8_fill_11 : decode cX8_fill 11 = .ok (.invokevirtual 101, 3) := by decide +kernel
theorem dX8_fill_14 : decode cX8_fill 14 = .ok (.aload_n 0, 1) := by decide +kernel
theorem dX8_fill_15 : decode cX8_fill 15 = .ok (.getfield 12, 3) := by decide +kernel
theorem dX8_fill_18 : decode cX8_fill 18 = .ok (.getfield 44, 3) := by decide +kernel
theorem dX8_fill_21 : decode cX8_fill 21 = .ok (.getfield 81, 3) := by decide +kernel
theorem dX8_fill_24 : decode cX8_fill 24 = .ok (.istore_n 3, 1) := by decide +kernel
theorem dX8_fill_25 : decode cX8_fill 25 = .ok (.aload_n 0, 1) := by decide +kernel
theorem dX8_fill_26 : decode cX8_fill 26 = .ok (.getfield 12, 3) := by decide +kernel
theorem dX8_fill_29 : decode cX8_fill 29 = .ok (.iload_n 3, 1) := by decide +kernel
theorem dX8_fill_30 : decode cX8_fill 30 = .ok (.invokevirtual 141, 3) := by decide +kernel
theorem dX8_fill_33 : decode cX8_fill 33 = .ok (.iload_n 2, 1) := by decide +kernel
theorem dX8_fill_34 : decode cX8_fill 34 = .ok (.aload_n 0, 1) := by decide +kernel
theorem dX8_fill_35 : decode cX8_fill 35 = .ok (.getfield 12, 3) := by decide +kernel
theorem dX8_fill_38 : decode cX8_fill 38 = .ok (.getfield 144, 3) := by decide +kernel
theorem dX8_fill_41 : decode cX8_fill 41 = .ok (.getfield 148, 3) := by decide +kernel
theorem dX8_fill_44 : decode cX8_fill 44 = .ok (.iload_n 1, 1) := by decide +kernel
theorem dX8_fill_45 : decode cX8_fill 45 = .ok (.iaload, 1) := by decide +kernel
theorem dX8_fill_46 : decode cX8_fill 46 = .ok (.imul, 1) := by decide +kernel
theorem dX8_fill_47 : decode cX8_fill 47 = .ok (.iadd, 1) := by decide +kernel
theorem dX8_fill_48 : decode cX8_fill 48 = .ok (.sipush 150, 3) := by decide +kernel
theorem dX8_fill_51 : decode cX8_fill 51 = .ok (.if_icmp .le 13, 3) := by decide +kernel
theorem dX8_fill_54 : decode cX8_fill 54 = .ok (.new 54, 3) := by decide +kernel
theorem dX8_fill_57 : decode cX8_fill 57 = .ok (.dup, 1) := by decide +kernel
theorem dX8_fill_58 : decode cX8_fill 58 = .ok (.ldc 153, 2) := by decide +kernel
theorem dX8_fill_60 : decode cX8_fill 60 = .ok (.invokespecial 58, 3) := by decide +kernel
theorem dX8_fill_63 : decode cX8_fill 63 = .ok (.athrow, 1) := by decide +kernel
theorem dX8_fill_64 : decode cX8_fill 64 = .ok (.aload_n 0, 1) := by decide +kernel
theorem dX8_fill_65 : decode cX8_fill 65 = .ok (.getfield 22, 3) := by decide +kernel
theorem dX8_fill_68 : decode cX8_fill 68 = .ok (.aload_n 0, 1) := by decide +kernel
theorem dX8_fill_69 : decode cX8_fill 69 = .ok (.getfield 12, 3) := by decide +kernel
theorem dX8_fill_72 : decode cX8_fill 72 = .ok (.invokevirtual 70, 3) := by decide +kernel
theorem dX8_fill_75 : decode cX8_fill 75 = .ok (.aload_n 0, 1) := by decide +kernel
theorem dX8_fill_76 : decode cX8_fill 76 = .ok (.getfield 12, 3) := by decide +kernel
theorem dX8_fill_79 : decode cX8_fill 79 = .ok (.getfield 144, 3) := by decide +kernel
theorem dX8_fill_82 : decode cX8_fill 82 = .ok (.getfield 155, 3) := by decide +kernel
theorem dX8_fill_85 : decode cX8_fill 85 = .ok (.iload_n 1, 1) := by decide +kernel
theorem dX8_fill_86 : decode cX8_fill 86 = .ok (.dup2, 1) := by decide +kernel
theorem dX8_fill_87 : decode cX8_fill 87 = .ok (.iaload, 1) := by decide +kernel
theorem dX8_fill_88 : decode cX8_fill 88 = .ok (.iload_n 2, 1) := by decide +kernel
theorem dX8_fill_89 : decode cX8_fill 89 = .ok (.iadd, 1) := by decide +kernel
theorem dX8_fill_90 : decode cX8_fill 90 = .ok (.iastore, 1) := by decide +kernel
theorem dX8_fill_91 : decode cX8_fill 91 = .ok (.aload_n 0, 1) := by decide +kernel
theorem dX8_fill_92 : decode cX8_fill 92 = .ok (.getfield 12, 3) := by decide +kernel
theorem dX8_fill_95 : decode cX8_fill 95 = .ok (.getfield 44, 3) := by decide +kernel
theorem dX8_fill_98 : decode cX8_fill 98 = .ok (.iload_n 3, 1) := by decide +kernel
theorem dX8_fill_99 : decode cX8_fill 99 = .ok (.iload_n 1, 1) := by decide +kernel
theorem dX8_fill_100 : decode cX8_fill 100 = .ok (.iload_n 2, 1) := by decide +kernel
theorem dX8_fill_101 : decode cX8_fill 101 = .ok (.invokevirtual 158, 3) := by decide +kernel
theorem dX8_fill_104 : decode cX8_fill 104 = .ok (.ireturn, 1) := by decide +kernel
set_option maxRecDepth 20000 in
theorem ggX8_take_X8_requireKind : GoodIn wsX8_take wsX8_requireKind := goodIn_ca (goodIn_r _ [9, 10, 11] rfl (by decide +kernel)) (goodIn_sub (fun _ h => List.mem_cons_of_mem _ (List.mem_append_left _ (List.mem_append_right _ h))) (by decide +kernel))
set_option maxRecDepth 20000 in
theorem gX8_take_X8_requireKind : GoodIn wsX8_take (wsV RX8 135 RX8 yX8_requireKind wsX8_requireKind) := goodIn_app (goodIn_r _ [5, 6, 7, 8] rfl (by decide +kernel)) ggX8_take_X8_requireKind
set_option maxRecDepth 20000 in
theorem ggX8_take_X8_requireMany : GoodIn wsX8_take wsX8_requireMany := goodIn_ca (goodIn_r _ [15, 16, 17] rfl (by decide +kernel)) (goodIn_sub (fun _ h => List.mem_cons_of_mem _ (List.mem_append_right _ h)) (by decide +kernel))
set_option maxRecDepth 20000 in
theorem gX8_take_X8_requireMany : GoodIn wsX8_take (wsV RX8 138 RX8 yX8_requireMany wsX8_requireMany) := goodIn_app (goodIn_r _ [12, 13, 14, 8] rfl (by decide +kernel)) ggX8_take_X8_requireMany
set_option maxRecDepth 20000 in
theorem ggX8_take_X8_requireShelfAtWindow : GoodIn wsX8_take wsX8_requireShelfAtWindow := goodIn_ca (goodIn_r _ [21, 1, 2, 3, 117, 118, 119, 120, 121, 122, 123, 124, 125, 126, 127, 128, 129, 130, 131, 132, 133] rfl (by decide +kernel)) (goodIn_sub (fun _ h => List.mem_cons_of_mem _ (List.mem_append_left _ (List.mem_append_left _ (List.mem_append_right _ h)))) (by decide +kernel))
set_option maxRecDepth 20000 in
theorem gX8_take_X8_requireShelfAtWindow : GoodIn wsX8_take (wsV RX8 101 RX8 yX8_requireShelfAtWindow wsX8_requireShelfAtWindow) := goodIn_app (goodIn_r _ [18, 19, 20, 8] rfl (by decide +kernel)) ggX8_take_X8_requireShelfAtWindow
set_option maxRecDepth 20000 in
theorem ggX8_take_X7_countIn : GoodIn wsX8_take wsX7_countIn := goodIn_r _ [25, 26, 128, 129, 130, 131, 132, 133] rfl (by decide +kernel)
set_option maxRecDepth 20000 in
theorem gX8_take_X7_countIn_n162 : GoodIn wsX8_take (wsX7_countIn) := ggX8_take_X7_countIn
set_option maxRecDepth 20000 in
theorem ggX8_take_X1_save : GoodIn wsX8_take wsX1_save := goodIn_r _ [30, 31, 32, 33, 34, 35, 36, 37, 38, 28, 39, 40, 41, 42, 43, 44, 45, 46, 23, 47, 48, 49, 50, 51, 52, 53, 54, 55, 56, 57, 58, 59, 60, 61, 62, 63, 64, 65, 66, 67, 68, 69, 26, 70, 71, 72, 73, 74, 75, 76, 77, 78, 79, 80, 81, 82, 83, 84, 85, 86, 87, 88, 89, 90, 91, 92, 93, 94, 95, 96, 97, 98, 99, 100, 101, 102, 103, 104, 105, 106, 107, 108, 109, 110, 111, 112, 113, 138, 139, 140, 123, 124, 125, 126, 127, 128, 129, 130, 131, 132, 133, 141, 142, 143, 144, 145, 146, 147, 134, 135, 136, 137, 148, 149] rfl (by decide +kernel)
set_option maxRecDepth 20000 in
theorem gX8_take_X1_save_n70 : GoodIn wsX8_take (wsX1_save) := ggX8_take_X1_save
set_option maxRecDepth 20000 in
theorem ggX8_take_X7_change : GoodIn wsX8_take wsX7_change := goodIn_r _ [116, 26, 128, 129, 130, 131, 132, 133] rfl (by decide +kernel)
set_option maxRecDepth 20000 in
theorem gX8_take_X7_change_n158 : GoodIn wsX8_take (wsX7_change) := ggX8_take_X7_change
theorem dX8_take_0 : decode cX8_take 0 = .ok (.aload_n 0, 1) := by decide +kernel
theorem dX8_take_1 : decode cX8_take 1 = .ok (.iload_n 1, 1) := by decide +kernel
theorem dX8_take_2 : decode cX8_take 2 = .ok (.invokevirtual 135, 3) := by decide +kernel
theorem dX8_take_5 : decode cX8_take 5 = .ok (.aload_n 0, 1) := by decide +kernel
theorem dX8_take_6 : decode cX8_take 6 = .ok (.iload_n 2, 1) := by decide +kernel
theorem dX8_take_7 : decode cX8_take 7 = .ok (.invokevirtual 138, 3) := by decide +kernel
theorem dX8_take_10 : decode cX8_take 10 = .ok (.aload_n 0, 1) := by decide +kernel
theorem dX8_take_11 : decode cX8_take 11 = .ok (.invokevirtual 101, 3) := by decide +kernel
theorem dX8_take_14 : decode cX8_take 14 = .ok (.aload_n 0, 1) := by decide +kernel
theorem dX8_take_15 : decode cX8_take 15 = .ok (.getfield 12, 3) := by decide +kernel
theorem dX8_take_18 : decode cX8_take 18 = .ok (.getfield 44, 3) := by decide +kernel
theorem dX8_take_21 : decode cX8_take 21 = .ok (.getfield 81, 3) := by decide +kernel
theorem dX8_take_24 : decode cX8_take 24 = .ok (.istore_n 3, 1) := by decide +kernel
theorem dX8_take_25 : decode cX8_take 25 = .ok (.aload_n 0, 1) := by decide +kernel
theorem dX8_take_26 : decode cX8_take 26 = .ok (.getfield 12, 3) := by decide +kernel
theorem dX8_take_29 : decode cX8_take 29 = .ok (.getfield 44, 3) := by decide +kernel
theorem dX8_take_32 : decode cX8_take 32 = .ok (.iload_n 3, 1) := by decide +kernel
theorem dX8_take_33 : decode cX8_take 33 = .ok (.iload_n 1, 1) := by decide +kernel
theorem dX8_take_34 : decode cX8_take 34 = .ok (.invokevirtual 162, 3) := by decide +kernel
theorem dX8_take_37 : decode cX8_take 37 = .ok (.iload_n 2, 1) := by decide +kernel
theorem dX8_take_38 : decode cX8_take 38 = .ok (.if_icmp .ge 13, 3) := by decide +kernel
theorem dX8_take_41 : decode cX8_take 41 = .ok (.new 54, 3) := by decide +kernel
theorem dX8_take_44 : decode cX8_take 44 = .ok (.dup, 1) := by decide +kernel
theorem dX8_take_45 : decode cX8_take 45 = .ok (.ldc 165, 2) := by decide +kernel
theorem dX8_take_47 : decode cX8_take 47 = .ok (.invokespecial 58, 3) := by decide +kernel
theorem dX8_take_50 : decode cX8_take 50 = .ok (.athrow, 1) := by decide +kernel
theorem dX8_take_51 : decode cX8_take 51 = .ok (.aload_n 0, 1) := by decide +kernel
theorem dX8_take_52 : decode cX8_take 52 = .ok (.getfield 22, 3) := by decide +kernel
theorem dX8_take_55 : decode cX8_take 55 = .ok (.aload_n 0, 1) := by decide +kernel
theorem dX8_take_56 : decode cX8_take 56 = .ok (.getfield 12, 3) := by decide +kernel
theorem dX8_take_59 : decode cX8_take 59 = .ok (.invokevirtual 70, 3) := by decide +kernel
theorem dX8_take_62 : decode cX8_take 62 = .ok (.aload_n 0, 1) := by decide +kernel
theorem dX8_take_63 : decode cX8_take 63 = .ok (.getfield 12, 3) := by decide +kernel
theorem dX8_take_66 : decode cX8_take 66 = .ok (.getfield 144, 3) := by decide +kernel
theorem dX8_take_69 : decode cX8_take 69 = .ok (.getfield 167, 3) := by decide +kernel
theorem dX8_take_72 : decode cX8_take 72 = .ok (.iload_n 1, 1) := by decide +kernel
theorem dX8_take_73 : decode cX8_take 73 = .ok (.dup2, 1) := by decide +kernel
theorem dX8_take_74 : decode cX8_take 74 = .ok (.iaload, 1) := by decide +kernel
theorem dX8_take_75 : decode cX8_take 75 = .ok (.iload_n 2, 1) := by decide +kernel
theorem dX8_take_76 : decode cX8_take 76 = .ok (.iadd, 1) := by decide +kernel
theorem dX8_take_77 : decode cX8_take 77 = .ok (.iastore, 1) := by decide +kernel
theorem dX8_take_78 : decode cX8_take 78 = .ok (.aload_n 0, 1) := by decide +kernel
theorem dX8_take_79 : decode cX8_take 79 = .ok (.getfield 12, 3) := by decide +kernel
theorem dX8_take_82 : decode cX8_take 82 = .ok (.getfield 44, 3) := by decide +kernel
theorem dX8_take_85 : decode cX8_take 85 = .ok (.iload_n 3, 1) := by decide +kernel
theorem dX8_take_86 : decode cX8_take 86 = .ok (.iload_n 1, 1) := by decide +kernel
theorem dX8_take_87 : decode cX8_take 87 = .ok (.iload_n 2, 1) := by decide +kernel
theorem dX8_take_88 : decode cX8_take 88 = .ok (.ineg, 1) := by decide +kernel
theorem dX8_take_89 : decode cX8_take 89 = .ok (.invokevirtual 158, 3) := by decide +kernel
theorem dX8_take_92 : decode cX8_take 92 = .ok (.ireturn, 1) := by decide +kernel
set_option maxRecDepth 20000 in
theorem ggX8_accept_X5_isOrder : GoodIn wsX8_accept wsX5_isOrder := goodIn_r _ [11, 12, 13, 14, 15, 16, 9, 17, 18, 19, 20, 21, 22, 23, 24, 25, 26, 27, 28, 29, 30, 31, 32, 33, 34, 35, 36, 37, 38, 39, 40, 41, 42, 43, 149, 150, 151, 152, 153, 154] rfl (by decide +kernel)
set_option maxRecDepth 20000 in
theorem gX8_accept_X5_isOrder_n170 : GoodIn wsX8_accept (wsX5_isOrder) := ggX8_accept_X5_isOrder
set_option maxRecDepth 20000 in
theorem ggX8_accept_X1_save : GoodIn wsX8_accept wsX1_save := goodIn_r _ [47, 48, 49, 50, 51, 52, 53, 54, 55, 45, 56, 57, 58, 59, 60, 61, 62, 63, 64, 65, 66, 67, 68, 69, 70, 71, 72, 73, 74, 75, 76, 77, 78, 79, 80, 81, 82, 83, 84, 85, 86, 87, 88, 89, 90, 91, 92, 93, 94, 95, 96, 97, 98, 99, 100, 101, 102, 103, 104, 105, 106, 107, 108, 109, 110, 111, 112, 113, 114, 115, 116, 117, 118, 119, 120, 121, 122, 123, 124, 125, 126, 127, 128, 129, 130, 131, 132, 155, 156, 157, 142, 143, 144, 145, 146, 158, 159, 160, 161, 162, 163, 164, 165, 166, 167, 168, 169, 170, 171, 172, 173, 174, 147, 148] rfl (by decide +kernel)
set_option maxRecDepth 20000 in
theorem gX8_accept_X1_save_n70 : GoodIn wsX8_accept (wsX1_save) := ggX8_accept_X1_save
set_option maxRecDepth 20000 in
theorem ggX8_accept_X3_add : GoodIn wsX8_accept wsX3_add := goodIn_r _ [135, 110, 111, 147, 148] rfl (by decide +kernel)
set_option maxRecDepth 20000 in
theorem gX8_accept_X3_add_n197 : GoodIn wsX8_accept (wsX3_add) := ggX8_accept_X3_add
theorem dX8_accept_0 : decode cX8_accept 0 = .ok (.aload_n 0, 1) := by decide +kernel
theorem dX8_accept_1 : decode cX8_accept 1 = .ok (.getfield 29, 3) := by decide +kernel
theorem dX8_accept_4 : decode cX8_accept 4 = .ok (.invokevirtual 170, 3) := by decide +kernel
theorem dX8_accept_7 : decode cX8_accept 7 = .ok (.ifCond .ne 13, 3) := by decide +kernel
theorem dX8_accept_10 : decode cX8_accept 10 = .ok (.new 174, 3) := by decide +kernel
theorem dX8_accept_13 : decode cX8_accept 13 = .ok (.dup, 1) := by decide +kernel
theorem dX8_accept_14 : decode cX8_accept 14 = .ok (.ldc 176, 2) := by decide +kernel
theorem dX8_accept_16 : decode cX8_accept 16 = .ok (.invokespecial 178, 3) := by decide +kernel
theorem dX8_accept_19 : decode cX8_accept 19 = .ok (.athrow, 1) := by decide +kernel
theorem dX8_accept_20 : decode cX8_accept 20 = .ok (.aload_n 0, 1) := by decide +kernel
theorem dX8_accept_21 : decode cX8_accept 21 = .ok (.getfield 12, 3) := by decide +kernel
theorem dX8_accept_24 : decode cX8_accept 24 = .ok (.getfield 179, 3) := by decide +kernel
theorem dX8_accept_27 : decode cX8_accept 27 = .ok (.getfield 183, 3) := by decide +kernel
theorem dX8_accept_30 : decode cX8_accept 30 = .ok (.bipush 8, 2) := by decide +kernel
theorem dX8_accept_32 : decode cX8_accept 32 = .ok (.if_icmp .lt 13, 3) := by decide +kernel
theorem dX8_accept_35 : decode cX8_accept 35 = .ok (.new 54, 3) := by decide +kernel
theorem dX8_accept_38 : decode cX8_accept 38 = .ok (.dup, 1) := by decide +kernel
theorem dX8_accept_39 : decode cX8_accept 39 = .ok (.ldc 186, 2) := by decide +kernel
theorem dX8_accept_41 : decode cX8_accept 41 = .ok (.invokespecial 58, 3) := by decide +kernel
theorem dX8_accept_44 : decode cX8_accept 44 = .ok (.athrow, 1) := by decide +kernel
theorem dX8_accept_45 : decode cX8_accept 45 = .ok (.aload_n 0, 1) := by decide +kernel
theorem dX8_accept_46 : decode cX8_accept 46 = .ok (.getfield 22, 3) := by decide +kernel
theorem dX8_accept_49 : decode cX8_accept 49 = .ok (.aload_n 0, 1) := by decide +kernel
theorem dX8_accept_50 : decode cX8_accept 50 = .ok (.getfield 12, 3) := by decide +kernel
theorem dX8_accept_53 : decode cX8_accept 53 = .ok (.invokevirtual 70, 3) := by decide +kernel
theorem dX8_accept_56 : decode cX8_accept 56 = .ok (.aload_n 0, 1) := by decide +kernel
theorem dX8_accept_57 : decode cX8_accept 57 = .ok (.getfield 12, 3) := by decide +kernel
theorem dX8_accept_60 : decode cX8_accept 60 = .ok (.getfield 179, 3) := by decide +kernel
theorem dX8_accept_63 : decode cX8_accept 63 = .ok (.aload_n 0, 1) := by decide +kernel
theorem dX8_accept_64 : decode cX8_accept 64 = .ok (.getfield 29, 3) := by decide +kernel
theorem dX8_accept_67 : decode cX8_accept 67 = .ok (.getfield 188, 3) := by decide +kernel
theorem dX8_accept_70 : decode cX8_accept 70 = .ok (.getfield 192, 3) := by decide +kernel
theorem dX8_accept_73 : decode cX8_accept 73 = .ok (.invokevirtual 197, 3) := by decide +kernel
theorem dX8_accept_76 : decode cX8_accept 76 = .ok (.istore_n 1, 1) := by decide +kernel
theorem dX8_accept_77 : decode cX8_accept 77 = .ok (.aload_n 0, 1) := by decide +kernel
theorem dX8_accept_78 : decode cX8_accept 78 = .ok (.getfield 29, 3) := by decide +kernel
theorem dX8_accept_81 : decode cX8_accept 81 = .ok (.iconst 0, 1) := by decide +kernel
theorem dX8_accept_82 : decode cX8_accept 82 = .ok (.putfield 200, 3) := by decide +kernel
theorem dX8_accept_85 : decode cX8_accept 85 = .ok (.iload_n 1, 1) := by decide +kernel
theorem dX8_accept_86 : decode cX8_accept 86 = .ok (.ireturn, 1) := by decide +kernel
set_option maxRecDepth 20000 in
theorem ggX8_cancel_X8_requireOrder : GoodIn wsX8_cancel wsX8_requireOrder := goodIn_ca (goodIn_r _ [7, 8, 9, 2, 109, 110, 111, 112, 113, 114, 115, 116, 117, 118, 119, 120, 121] rfl (by decide +kernel)) (goodIn_sub (fun _ h => List.mem_cons_of_mem _ (List.mem_append_right _ h)) (by decide +kernel))
set_option maxRecDepth 20000 in
theorem gX8_cancel_X8_requireOrder : GoodIn wsX8_cancel (wsV RX8 203 RX8 yX8_requireOrder wsX8_requireOrder) := goodIn_app (goodIn_r _ [3, 4, 5, 6] rfl (by decide +kernel)) ggX8_cancel_X8_requireOrder
set_option maxRecDepth 20000 in
theorem ggX8_cancel_X1_save : GoodIn wsX8_cancel wsX1_save := goodIn_r _ [13, 14, 15, 16, 17, 18, 19, 20, 21, 11, 22, 23, 24, 25, 26, 27, 28, 29, 30, 31, 32, 33, 34, 35, 36, 37, 38, 39, 40, 41, 42, 43, 44, 45, 46, 47, 48, 49, 50, 51, 52, 53, 54, 55, 56, 57, 58, 59, 60, 61, 62, 63, 64, 65, 66, 67, 68, 69, 70, 71, 72, 73, 74, 75, 76, 77, 78, 79, 80, 81, 82, 83, 84, 85, 86, 87, 88, 89, 90, 91, 92, 93, 94, 95, 96, 97, 98, 122, 123, 124, 115, 116, 117, 118, 119, 125, 126, 127, 128, 129, 130, 131, 132, 133, 134, 135, 136, 137, 138, 139, 140, 141, 120, 121] rfl (by decide +kernel)
set_option maxRecDepth 20000 in
theorem gX8_cancel_X1_save_n70 : GoodIn wsX8_cancel (wsX1_save) := ggX8_cancel_X1_save
set_option maxRecDepth 20000 in
theorem ggX8_cancel_X3_sumOf : GoodIn wsX8_cancel wsX3_sumOf := goodIn_r _ [101, 102, 103, 104, 42, 105, 77, 120, 121] rfl (by decide +kernel)
set_option maxRecDepth 20000 in
theorem gX8_cancel_X3_sumOf_n206 : GoodIn wsX8_cancel (wsX3_sumOf) := ggX8_cancel_X3_sumOf
set_option maxRecDepth 20000 in
theorem ggX8_cancel_X3_remove : GoodIn wsX8_cancel wsX3_remove := goodIn_r _ [108, 76, 77, 98, 85, 86, 87, 120, 121] rfl (by decide +kernel)
set_option maxRecDepth 20000 in
theorem gX8_cancel_X3_remove_n209 : GoodIn wsX8_cancel (wsX3_remove) := ggX8_cancel_X3_remove
theorem dX8_cancel_0 : decode cX8_cancel 0 = .ok (.aload_n 0, 1) := by decide +kernel
theorem dX8_cancel_1 : decode cX8_cancel 1 = .ok (.iload_n 1, 1) := by decide +kernel
theorem dX8_cancel_2 : decode cX8_cancel 2 = .ok (.invokevirtual 203, 3) := by decide +kernel
theorem dX8_cancel_5 : decode cX8_cancel 5 = .ok (.aload_n 0, 1) := by decide +kernel
theorem dX8_cancel_6 : decode cX8_cancel 6 = .ok (.getfield 22, 3) := by decide +kernel
theorem dX8_cancel_9 : decode cX8_cancel 9 = .ok (.aload_n 0, 1) := by decide +kernel
theorem dX8_cancel_10 : decode cX8_cancel 10 = .ok (.getfield 12, 3) := by decide +kernel
theorem dX8_cancel_13 : decode cX8_cancel 13 = .ok (.invokevirtual 70, 3) := by decide +kernel
theorem dX8_cancel_16 : decode cX8_cancel 16 = .ok (.aload_n 0, 1) := by decide +kernel
theorem dX8_cancel_17 : decode cX8_cancel 17 = .ok (.getfield 12, 3) := by decide +kernel
theorem dX8_cancel_20 : decode cX8_cancel 20 = .ok (.getfield 179, 3) := by decide +kernel
theorem dX8_cancel_23 : decode cX8_cancel 23 = .ok (.iload_n 1, 1) := by decide +kernel
theorem dX8_cancel_24 : decode cX8_cancel 24 = .ok (.invokevirtual 206, 3) := by decide +kernel
theorem dX8_cancel_27 : decode cX8_cancel 27 = .ok (.istore_n 2, 1) := by decide +kernel
theorem dX8_cancel_28 : decode cX8_cancel 28 = .ok (.aload_n 0, 1) := by decide +kernel
theorem dX8_cancel_29 : decode cX8_cancel 29 = .ok (.getfield 12, 3) := by decide +kernel
theorem dX8_cancel_32 : decode cX8_cancel 32 = .ok (.getfield 179, 3) := by decide +kernel
theorem dX8_cancel_35 : decode cX8_cancel 35 = .ok (.iload_n 1, 1) := by decide +kernel
theorem dX8_cancel_36 : decode cX8_cancel 36 = .ok (.invokevirtual 209, 3) := by decide +kernel
theorem dX8_cancel_39 : decode cX8_cancel 39 = .ok (.iload_n 2, 1) := by decide +kernel
theorem dX8_cancel_40 : decode cX8_cancel 40 = .ok (.ireturn, 1) := by decide +kernel
set_option maxRecDepth 20000 in
theorem ggX8_serve_X8_requireOrder : GoodIn wsX8_serve wsX8_requireOrder := goodIn_ca (goodIn_r _ [7, 8, 9, 2, 195, 196, 197, 198, 199, 200, 201, 202, 203, 204, 205, 206, 207] rfl (by decide +kernel)) (goodIn_sub (fun _ h => List.mem_cons_of_mem _ (List.mem_append_left _ (List.mem_append_right _ h))) (by decide +kernel))
set_option maxRecDepth 20000 in
theorem gX8_serve_X8_requireOrder : GoodIn wsX8_serve (wsV RX8 203 RX8 yX8_requireOrder wsX8_requireOrder) := goodIn_app (goodIn_r _ [3, 4, 5, 6] rfl (by decide +kernel)) ggX8_serve_X8_requireOrder
set_option maxRecDepth 20000 in
theorem ggX8_serve_X8_requireEmptyWindow : GoodIn wsX8_serve wsX8_requireEmptyWindow := goodIn_ca (goodIn_r _ [13, 14, 15, 2, 195, 196, 197, 198, 199, 200, 201, 202, 203, 204, 205, 208, 209, 210, 211, 212, 213] rfl (by decide +kernel)) (goodIn_sub (fun _ h => List.mem_cons_of_mem _ (List.mem_append_right _ h)) (by decide +kernel))
set_option maxRecDepth 20000 in
theorem gX8_serve_X8_requireEmptyWindow : GoodIn wsX8_serve (wsV RX8 61 RX8 yX8_requireEmptyWindow wsX8_requireEmptyWindow) := goodIn_app (goodIn_r _ [10, 11, 12, 6] rfl (by decide +kernel)) ggX8_serve_X8_requireEmptyWindow
set_option maxRecDepth 20000 in
theorem ggX8_serve_X8_requireServable : GoodIn wsX8_serve wsX8_requireServable := goodIn_ca (goodIn_r _ [19, 14, 15, 2, 20, 21, 22, 23, 24, 25, 26, 27, 28, 29, 30, 31, 32, 33, 34, 35, 36, 37, 38, 39, 195, 196, 197, 198, 199, 200, 201, 202, 203, 204, 205, 208, 209, 210, 211, 212, 213, 206, 207] rfl (by decide +kernel)) (goodIn_sub (fun _ h => List.mem_cons_of_mem _ (List.mem_append_right _ h)) (by decide +kernel))
set_option maxRecDepth 20000 in
theorem gX8_serve_X8_requireServable : GoodIn wsX8_serve (wsV RX8 210 RX8 yX8_requireServable wsX8_requireServable) := goodIn_app (goodIn_r _ [16, 17, 18, 6] rfl (by decide +kernel)) ggX8_serve_X8_requireServable
set_option maxRecDepth 20000 in
theorem ggX8_serve_X1_save : GoodIn wsX8_serve wsX1_save := goodIn_r _ [43, 44, 45, 46, 47, 21, 48, 49, 50, 41, 51, 52, 53, 54, 55, 56, 57, 58, 36, 24, 59, 60, 61, 62, 63, 64, 65, 66, 67, 68, 31, 29, 69, 70, 71, 72, 73, 74, 75, 76, 77, 78, 39, 79, 80, 81, 82, 83, 84, 85, 86, 87, 88, 89, 90, 91, 92, 93, 94, 95, 96, 97, 98, 99, 100, 34, 101, 102, 103, 104, 105, 106, 107, 108, 109, 110, 111, 112, 113, 114, 115, 116, 117, 118, 119, 120, 121, 214, 215, 216, 201, 202, 203, 204, 205, 208, 209, 210, 211, 212, 213, 217, 218, 219, 220, 221, 222, 223, 224, 225, 226, 227, 206, 207] rfl (by decide +kernel)
set_option maxRecDepth 20000 in
theorem gX8_serve_X1_save_n70 : GoodIn wsX8_serve (wsX1_save) := ggX8_serve_X1_save
set_option maxRecDepth 20000 in
theorem ggX8_serve_X6_serveOne : GoodIn wsX8_serve wsX6_serveOne := goodIn_r _ [124, 62, 24, 29, 69, 125, 126, 127, 21, 128, 129, 130, 131, 132, 30, 31, 32, 33, 34, 35, 36, 37, 38, 39, 133, 134, 135, 136, 137, 138, 139, 25, 26, 27, 28, 140, 141, 142, 143, 144, 145, 146, 147, 148, 149, 150, 151, 152, 153, 154, 61, 155, 156, 87, 89, 86, 157, 158, 159, 84, 85, 82, 160, 161, 162, 163, 164, 66, 165, 166, 167, 168, 169, 170, 171, 172, 173, 174, 175, 176, 177, 178, 73, 74, 77, 76, 179, 180, 181, 182, 183, 184, 185, 186, 187, 188, 189, 190, 191, 192, 193, 194, 100, 121, 108, 109, 110, 201, 202, 203, 204, 205, 217, 218, 219, 220, 221, 222, 223, 208, 209, 210, 211, 212, 213, 206, 207, 224, 225, 226, 227] rfl (by decide +kernel)
set_option maxRecDepth 20000 in
theorem gX8_serve_X6_serveOne_n213 : GoodIn wsX8_serve (wsX6_serveOne) := ggX8_serve_X6_serveOne
theorem dX8_serve_0 : decode cX8_serve 0 = .ok (.aload_n 0, 1) := by decide +kernel
theorem dX8_serve_1 : decode cX8_serve 1 = .ok (.iload_n 1, 1) := by decide +kernel
theorem dX8_serve_2 : decode cX8_serve 2 = .ok (.invokevirtual 203, 3) := by decide +kernel
theorem dX8_serve_5 : decode cX8_serve 5 = .ok (.aload_n 0, 1) := by decide +kernel
theorem dX8_serve_6 : decode cX8_serve 6 = .ok (.invokevirtual 61, 3) := by decide +kernel
theorem dX8_serve_9 : decode cX8_serve 9 = .ok (.aload_n 0, 1) := by decide +kernel
theorem dX8_serve_10 : decode cX8_serve 10 = .ok (.iload_n 1, 1) := by decide +kernel
theorem dX8_serve_11 : decode cX8_serve 11 = .ok (.invokevirtual 210, 3) := by decide +kernel
theorem dX8_serve_14 : decode cX8_serve 14 = .ok (.aload_n 0, 1) := by decide +kernel
theorem dX8_serve_15 : decode cX8_serve 15 = .ok (.getfield 22, 3) := by decide +kernel
theorem dX8_serve_18 : decode cX8_serve 18 = .ok (.aload_n 0, 1) := by decide +kernel
theorem dX8_serve_19 : decode cX8_serve 19 = .ok (.getfield 12, 3) := by decide +kernel
theorem dX8_serve_22 : decode cX8_serve 22 = .ok (.invokevirtual 70, 3) := by decide +kernel
theorem dX8_serve_25 : decode cX8_serve 25 = .ok (.aload_n 0, 1) := by decide +kernel
theorem dX8_serve_26 : decode cX8_serve 26 = .ok (.getfield 12, 3) := by decide +kernel
theorem dX8_serve_29 : decode cX8_serve 29 = .ok (.iload_n 1, 1) := by decide +kernel
theorem dX8_serve_30 : decode cX8_serve 30 = .ok (.invokevirtual 213, 3) := by decide +kernel
theorem dX8_serve_33 : decode cX8_serve 33 = .ok (.ireturn, 1) := by decide +kernel
set_option maxRecDepth 20000 in
theorem ggX8_serveAll_X8_requireEmptyWindow : GoodIn wsX8_serveAll wsX8_requireEmptyWindow := goodIn_ca (goodIn_r _ [7, 8, 9, 2, 194, 195, 196, 197, 198, 199, 200, 201, 202, 203, 204, 205, 206, 207, 208, 209, 210] rfl (by decide +kernel)) (goodIn_sub (fun _ h => List.mem_cons_of_mem _ (List.mem_append_right _ h)) (by decide +kernel))
set_option maxRecDepth 20000 in
theorem gX8_serveAll_X8_requireEmptyWindow : GoodIn wsX8_serveAll (wsV RX8 61 RX8 yX8_requireEmptyWindow wsX8_requireEmptyWindow) := goodIn_app (goodIn_r _ [3, 4, 5, 6] rfl (by decide +kernel)) ggX8_serveAll_X8_requireEmptyWindow
set_option maxRecDepth 20000 in
theorem ggX8_serveAll_X1_save : GoodIn wsX8_serveAll wsX1_save := goodIn_r _ [13, 14, 15, 16, 17, 18, 19, 20, 21, 11, 22, 23, 24, 25, 26, 27, 28, 29, 30, 31, 32, 33, 34, 35, 36, 37, 38, 39, 40, 41, 42, 43, 44, 45, 46, 47, 48, 49, 50, 51, 52, 53, 54, 55, 56, 57, 58, 59, 60, 61, 62, 63, 64, 65, 66, 67, 68, 69, 70, 71, 72, 73, 74, 75, 76, 77, 78, 79, 80, 81, 82, 83, 84, 85, 86, 87, 88, 89, 90, 91, 92, 93, 94, 95, 96, 97, 98, 211, 212, 213, 200, 201, 202, 203, 204, 205, 206, 207, 208, 209, 210, 214, 215, 216, 217, 218, 219, 220, 221, 222, 223, 224, 225, 226] rfl (by decide +kernel)
set_option maxRecDepth 20000 in
theorem gX8_serveAll_X1_save_n70 : GoodIn wsX8_serveAll (wsX1_save) := ggX8_serveAll_X1_save
set_option maxRecDepth 20000 in
theorem ggX8_serveAll_X6_serveEach : GoodIn wsX8_serveAll wsX6_serveEach := goodIn_r _ [101, 102, 103, 104, 18, 105, 43, 106, 107, 108, 109, 31, 110, 111, 112, 113, 114, 42, 115, 116, 77, 117, 30, 118, 119, 54, 120, 121, 122, 123, 35, 44, 124, 125, 126, 127, 128, 129, 130, 131, 132, 133, 134, 135, 136, 137, 138, 139, 140, 141, 142, 143, 144, 145, 146, 147, 148, 149, 150, 151, 152, 153, 34, 154, 155, 63, 65, 62, 156, 157, 158, 60, 61, 58, 159, 160, 161, 162, 163, 39, 164, 165, 166, 167, 168, 169, 170, 171, 172, 173, 174, 175, 176, 177, 48, 49, 52, 51, 178, 179, 180, 181, 182, 183, 184, 185, 186, 187, 188, 189, 190, 191, 192, 193, 76, 98, 85, 86, 87, 200, 201, 202, 203, 204, 225, 226, 205, 206, 207, 208, 209, 210, 214, 215, 216, 217, 218, 219, 220, 221, 222, 223, 224] rfl (by decide +kernel)
set_option maxRecDepth 20000 in
theorem gX8_serveAll_X6_serveEach_n216 : GoodIn wsX8_serveAll (wsX6_serveEach) := ggX8_serveAll_X6_serveEach
theorem dX8_serveAll_0 : decode cX8_serveAll 0 = .ok (.aload_n 0, 1) := by decide +kernel
theorem dX8_serveAll_1 : decode cX8_serveAll 1 = .ok (.invokevirtual 61, 3) := by decide +kernel
theorem dX8_serveAll_4 : decode cX8_serveAll 4 = .ok (.aload_n 0, 1) := by decide +kernel
theorem dX8_serveAll_5 : decode cX8_serveAll 5 = .ok (.getfield 22, 3) := by decide +kernel
theorem dX8_serveAll_8 : decode cX8_serveAll 8 = .ok (.aload_n 0, 1) := by decide +kernel
theorem dX8_serveAll_9 : decode cX8_serveAll 9 = .ok (.getfield 12, 3) := by decide +kernel
theorem dX8_serveAll_12 : decode cX8_serveAll 12 = .ok (.invokevirtual 70, 3) := by decide +kernel
theorem dX8_serveAll_15 : decode cX8_serveAll 15 = .ok (.aload_n 0, 1) := by decide +kernel
theorem dX8_serveAll_16 : decode cX8_serveAll 16 = .ok (.getfield 12, 3) := by decide +kernel
theorem dX8_serveAll_19 : decode cX8_serveAll 19 = .ok (.invokevirtual 216, 3) := by decide +kernel
theorem dX8_serveAll_22 : decode cX8_serveAll 22 = .ok (.ireturn, 1) := by decide +kernel
set_option maxRecDepth 20000 in
theorem ggX8_changeLeast_X8_requireKind : GoodIn wsX8_changeLeast wsX8_requireKind := goodIn_ca (goodIn_r _ [9, 10, 11] rfl (by decide +kernel)) (goodIn_sub (fun _ h => List.mem_cons_of_mem _ (List.mem_append_right _ h)) (by decide +kernel))
set_option maxRecDepth 20000 in
theorem gX8_changeLeast_X8_requireKind : GoodIn wsX8_changeLeast (wsV RX8 135 RX8 yX8_requireKind wsX8_requireKind) := goodIn_app (goodIn_r _ [5, 6, 7, 8] rfl (by decide +kernel)) ggX8_changeLeast_X8_requireKind
set_option maxRecDepth 20000 in
theorem ggX8_changeLeast_X1_save : GoodIn wsX8_changeLeast wsX1_save := goodIn_r _ [15, 16, 17, 18, 19, 20, 21, 22, 23, 13, 24, 25, 26, 27, 28, 29, 30, 31, 32, 33, 34, 35, 36, 37, 38, 39, 40, 41, 42, 43, 44, 45, 46, 47, 48, 49, 50, 51, 52, 53, 54, 55, 56, 57, 58, 59, 60, 61, 62, 63, 64, 65, 66, 67, 68, 69, 70, 71, 72, 73, 74, 75, 76, 77, 78, 79, 80, 81, 82, 83, 84, 85, 86, 87, 88, 89, 90, 91, 92, 93, 94, 95, 96, 97, 98, 99, 100, 116, 117, 118, 107, 108, 109, 110, 111, 119, 120, 121, 122, 123, 124, 125, 126, 127, 128, 129, 130, 131, 112, 113, 114, 115, 132, 133] rfl (by decide +kernel)
set_option maxRecDepth 20000 in
theorem gX8_changeLeast_X1_save_n70 : GoodIn wsX8_changeLeast (wsX1_save) := ggX8_changeLeast_X1_save
theorem dX8_changeLeast_0 : decode cX8_changeLeast 0 = .ok (.aload_n 0, 1) := by decide +kernel
theorem dX8_changeLeast_1 : decode cX8_changeLeast 1 = .ok (.iload_n 1, 1) := by decide +kernel
theorem dX8_changeLeast_2 : decode cX8_changeLeast 2 = .ok (.invokevirtual 135, 3) := by decide +kernel
theorem dX8_changeLeast_5 : decode cX8_changeLeast 5 = .ok (.iload_n 2, 1) := by decide +kernel
theorem dX8_changeLeast_6 : decode cX8_changeLeast 6 = .ok (.ifCond .lt 9, 3) := by decide +kernel
theorem dX8_changeLeast_9 : decode cX8_changeLeast 9 = .ok (.iload_n 2, 1) := by decide +kernel
theorem dX8_changeLeast_10 : decode cX8_changeLeast 10 = .ok (.bipush 99, 2) := by decide +kernel
theorem dX8_changeLeast_12 : decode cX8_changeLeast 12 = .ok (.if_icmp .le 13, 3) := by decide +kernel
theorem dX8_changeLeast_15 : decode cX8_changeLeast 15 = .ok (.new 174, 3) := by decide +kernel
theorem dX8_changeLeast_18 : decode cX8_changeLeast 18 = .ok (.dup, 1) := by decide +kernel
theorem dX8_changeLeast_19 : decode cX8_changeLeast 19 = .ok (.ldc 219, 2) := by decide +kernel
theorem dX8_changeLeast_21 : decode cX8_changeLeast 21 = .ok (.invokespecial 178, 3) := by decide +kernel
theorem dX8_changeLeast_24 : decode cX8_changeLeast 24 = .ok (.athrow, 1) := by decide +kernel
theorem dX8_changeLeast_25 : decode cX8_changeLeast 25 = .ok (.aload_n 0, 1) := by decide +kernel
theorem dX8_changeLeast_26 : decode cX8_changeLeast 26 = .ok (.getfield 22, 3) := by decide +kernel
theorem dX8_changeLeast_29 : decode cX8_changeLeast 29 = .ok (.aload_n 0, 1) := by decide +kernel
theorem dX8_changeLeast_30 : decode cX8_changeLeast 30 = .ok (.getfield 12, 3) := by decide +kernel
theorem dX8_changeLeast_33 : decode cX8_changeLeast 33 = .ok (.invokevirtual 70, 3) := by decide +kernel
theorem dX8_changeLeast_36 : decode cX8_changeLeast 36 = .ok (.aload_n 0, 1) := by decide +kernel
theorem dX8_changeLeast_37 : decode cX8_changeLeast 37 = .ok (.getfield 12, 3) := by decide +kernel
theorem dX8_changeLeast_40 : decode cX8_changeLeast 40 = .ok (.getfield 144, 3) := by decide +kernel
theorem dX8_changeLeast_43 : decode cX8_changeLeast 43 = .ok (.getfield 221, 3) := by decide +kernel
theorem dX8_changeLeast_46 : decode cX8_changeLeast 46 = .ok (.iload_n 1, 1) := by decide +kernel
theorem dX8_changeLeast_47 : decode cX8_changeLeast 47 = .ok (.iaload, 1) := by decide +kernel
theorem dX8_changeLeast_48 : decode cX8_changeLeast 48 = .ok (.istore_n 3, 1) := by decide +kernel
theorem dX8_changeLeast_49 : decode cX8_changeLeast 49 = .ok (.aload_n 0, 1) := by decide +kernel
theorem dX8_changeLeast_50 : decode cX8_changeLeast 50 = .ok (.getfield 12, 3) := by decide +kernel
theorem dX8_changeLeast_53 : decode cX8_changeLeast 53 = .ok (.getfield 144, 3) := by decide +kernel
theorem dX8_changeLeast_56 : decode cX8_changeLeast 56 = .ok (.getfield 221, 3) := by decide +kernel
theorem dX8_changeLeast_59 : decode cX8_changeLeast 59 = .ok (.iload_n 1, 1) := by decide +kernel
theorem dX8_changeLeast_60 : decode cX8_changeLeast 60 = .ok (.iload_n 2, 1) := by decide +kernel
theorem dX8_changeLeast_61 : decode cX8_changeLeast 61 = .ok (.iastore, 1) := by decide +kernel
theorem dX8_changeLeast_62 : decode cX8_changeLeast 62 = .ok (.iload_n 3, 1) := by decide +kernel
theorem dX8_changeLeast_63 : decode cX8_changeLeast 63 = .ok (.ireturn, 1) := by decide +kernel
set_option maxRecDepth 20000 in
theorem ggX8_changeWeight_X8_requireKind : GoodIn wsX8_changeWeight wsX8_requireKind := goodIn_ca (goodIn_r _ [11, 12, 13] rfl (by decide +kernel)) (goodIn_sub (fun _ h => List.mem_cons_of_mem _ (List.mem_append_right _ h)) (by decide +kernel))
set_option maxRecDepth 20000 in
theorem gX8_changeWeight_X8_requireKind : GoodIn wsX8_changeWeight (wsV RX8 135 RX8 yX8_requireKind wsX8_requireKind) := goodIn_app (goodIn_r _ [7, 8, 9, 10] rfl (by decide +kernel)) ggX8_changeWeight_X8_requireKind
set_option maxRecDepth 20000 in
theorem ggX8_changeWeight_X6_wouldBeTooHeavy : GoodIn wsX8_changeWeight wsX6_wouldBeTooHeavy := goodIn_r _ [17, 18, 19, 20, 21, 22, 15, 23, 24, 25, 26, 27, 28, 119, 120, 121, 122, 123, 124, 125, 126, 127, 128, 129, 130, 131, 132, 133] rfl (by decide +kernel)
set_option maxRecDepth 20000 in
theorem gX8_changeWeight_X6_wouldBeTooHeavy_n226 : GoodIn wsX8_changeWeight (wsX6_wouldBeTooHeavy) := ggX8_changeWeight_X6_wouldBeTooHeavy
set_option maxRecDepth 20000 in
theorem ggX8_changeWeight_X1_save : GoodIn wsX8_changeWeight wsX1_save := goodIn_r _ [32, 33, 34, 35, 36, 15, 37, 38, 39, 30, 40, 41, 42, 43, 44, 45, 46, 47, 25, 19, 48, 49, 50, 51, 52, 53, 54, 18, 55, 56, 57, 58, 59, 60, 61, 62, 63, 64, 65, 66, 67, 68, 28, 69, 70, 71, 72, 73, 74, 75, 76, 77, 78, 79, 80, 81, 82, 83, 84, 85, 86, 87, 88, 89, 90, 91, 92, 93, 94, 95, 96, 97, 98, 99, 100, 101, 102, 103, 104, 105, 106, 107, 108, 109, 110, 111, 112, 134, 135, 136, 119, 120, 121, 122, 123, 128, 129, 130, 131, 132, 133, 137, 138, 139, 140, 141, 142, 143, 124, 125, 126, 127, 144, 145] rfl (by decide +kernel)
set_option maxRecDepth 20000 in
theorem gX8_changeWeight_X1_save_n70 : GoodIn wsX8_changeWeight (wsX1_save) := ggX8_changeWeight_X1_save
theorem dX8_changeWeight_0 : decode cX8_changeWeight 0 = .ok (.aload_n 0, 1) := by decide +kernel
theorem dX8_changeWeight_1 : decode cX8_changeWeight 1 = .ok (.iload_n 1, 1) := by decide +kernel
theorem dX8_changeWeight_2 : decode cX8_changeWeight 2 = .ok (.invokevirtual 135, 3) := by decide +kernel
theorem dX8_changeWeight_5 : decode cX8_changeWeight 5 = .ok (.iload_n 2, 1) := by decide +kernel
theorem dX8_changeWeight_6 : decode cX8_changeWeight 6 = .ok (.iconst 1, 1) := by decide +kernel
theorem dX8_changeWeight_7 : decode cX8_changeWeight 7 = .ok (.if_icmp .lt 9, 3) := by decide +kernel
theorem dX8_changeWeight_10 : decode cX8_changeWeight 10 = .ok (.iload_n 2, 1) := by decide +kernel
theorem dX8_changeWeight_11 : decode cX8_changeWeight 11 = .ok (.bipush 9, 2) := by decide +kernel
theorem dX8_changeWeight_13 : decode cX8_changeWeight 13 = .ok (.if_icmp .le 13, 3) := by decide +kernel
theorem dX8_changeWeight_16 : decode cX8_changeWeight 16 = .ok (.new 174, 3) := by decide +kernel
theorem dX8_changeWeight_19 : decode cX8_changeWeight 19 = .ok (.dup, 1) := by decide +kernel
theorem dX8_changeWeight_20 : decode cX8_changeWeight 20 = .ok (.ldc 224, 2) := by decide +kernel
theorem dX8_changeWeight_22 : decode cX8_changeWeight 22 = .ok (.invokespecial 178, 3) := by decide +kernel
theorem dX8_changeWeight_25 : decode cX8_changeWeight 25 = .ok (.athrow, 1) := by decide +kernel
theorem dX8_changeWeight_26 : decode cX8_changeWeight 26 = .ok (.aload_n 0, 1) := by decide +kernel
theorem dX8_changeWeight_27 : decode cX8_changeWeight 27 = .ok (.getfield 12, 3) := by decide +kernel
theorem dX8_changeWeight_30 : decode cX8_changeWeight 30 = .ok (.iload_n 1, 1) := by decide +kernel
theorem dX8_changeWeight_31 : decode cX8_changeWeight 31 = .ok (.iload_n 2, 1) := by decide +kernel
theorem dX8_changeWeight_32 : decode cX8_changeWeight 32 = .ok (.invokevirtual 226, 3) := by decide +kernel
theorem dX8_changeWeight_35 : decode cX8_changeWeight 35 = .ok (.ifCond .eq 13, 3) := by decide +kernel
theorem dX8_changeWeight_38 : decode cX8_changeWeight 38 = .ok (.new 54, 3) := by decide +kernel
theorem dX8_changeWeight_41 : decode cX8_changeWeight 41 = .ok (.dup, 1) := by decide +kernel
theorem dX8_changeWeight_42 : decode cX8_changeWeight 42 = .ok (.ldc 230, 2) := by decide +kernel
theorem dX8_changeWeight_44 : decode cX8_changeWeight 44 = .ok (.invokespecial 58, 3) := by decide +kernel
theorem dX8_changeWeight_47 : decode cX8_changeWeight 47 = .ok (.athrow, 1) := by decide +kernel
theorem dX8_changeWeight_48 : decode cX8_changeWeight 48 = .ok (.aload_n 0, 1) := by decide +kernel
theorem dX8_changeWeight_49 : decode cX8_changeWeight 49 = .ok (.getfield 22, 3) := by decide +kernel
theorem dX8_changeWeight_52 : decode cX8_changeWeight 52 = .ok (.aload_n 0, 1) := by decide +kernel
theorem dX8_changeWeight_53 : decode cX8_changeWeight 53 = .ok (.getfield 12, 3) := by decide +kernel
theorem dX8_changeWeight_56 : decode cX8_changeWeight 56 = .ok (.invokevirtual 70, 3) := by decide +kernel
theorem dX8_changeWeight_59 : decode cX8_changeWeight 59 = .ok (.aload_n 0, 1) := by decide +kernel
theorem dX8_changeWeight_60 : decode cX8_changeWeight 60 = .ok (.getfield 12, 3) := by decide +kernel
theorem dX8_changeWeight_63 : decode cX8_changeWeight 63 = .ok (.getfield 144, 3) := by decide +kernel
theorem dX8_changeWeight_66 : decode cX8_changeWeight 66 = .ok (.getfield 148, 3) := by decide +kernel
theorem dX8_changeWeight_69 : decode cX8_changeWeight 69 = .ok (.iload_n 1, 1) := by decide +kernel
theorem dX8_changeWeight_70 : decode cX8_changeWeight 70 = .ok (.iaload, 1) := by decide +kernel
theorem dX8_changeWeight_71 : decode cX8_changeWeight 71 = .ok (.istore_n 3, 1) := by decide +kernel
theorem dX8_changeWeight_72 : decode cX8_changeWeight 72 = .ok (.aload_n 0, 1) := by decide +kernel
theorem dX8_changeWeight_73 : decode cX8_changeWeight 73 = .ok (.getfield 12, 3) := by decide +kernel
theorem dX8_changeWeight_76 : decode cX8_changeWeight 76 = .ok (.getfield 144, 3) := by decide +kernel
theorem dX8_changeWeight_79 : decode cX8_changeWeight 79 = .ok (.getfield 148, 3) := by decide +kernel
theorem dX8_changeWeight_82 : decode cX8_changeWeight 82 = .ok (.iload_n 1, 1) := by decide +kernel
theorem dX8_changeWeight_83 : decode cX8_changeWeight 83 = .ok (.iload_n 2, 1) := by decide +kernel
theorem dX8_changeWeight_84 : decode cX8_changeWeight 84 = .ok (.iastore, 1) := by decide +kernel
theorem dX8_changeWeight_85 : decode cX8_changeWeight 85 = .ok (.iload_n 3, 1) := by decide +kernel
theorem dX8_changeWeight_86 : decode cX8_changeWeight 86 = .ok (.ireturn, 1) := by decide +kernel
set_option maxRecDepth 20000 in
theorem ggX8_turnRule_X1_save : GoodIn wsX8_turnRule wsX1_save := goodIn_r _ [6, 7, 8, 9, 10, 11, 12, 13, 14, 4, 15, 16, 17, 18, 19, 20, 21, 22, 23, 24, 25, 26, 27, 28, 29, 30, 31, 32, 33, 34, 35, 36, 37, 38, 39, 40, 41, 42, 43, 44, 45, 46, 47, 48, 49, 50, 51, 52, 53, 54, 55, 56, 57, 58, 59, 60, 61, 62, 63, 64, 65, 66, 67, 68, 69, 70, 71, 72, 73, 74, 75, 76, 77, 78, 79, 80, 81, 82, 83, 84, 85, 86, 87, 88, 89, 90, 91, 110, 111, 112, 98, 99, 100, 101, 102, 113, 114, 115, 116, 117, 118, 103, 104, 105, 106, 107, 108, 109, 119, 120, 121, 122, 123, 124] rfl (by decide +kernel)
set_option maxRecDepth 20000 in
theorem gX8_turnRule_X1_save_n70 : GoodIn wsX8_turnRule (wsX1_save) := ggX8_turnRule_X1_save
theorem dX8_turnRule_0 : decode cX8_turnRule 0 = .ok (.aload_n 0, 1) := by decide +kernel
theorem dX8_turnRule_1 : decode cX8_turnRule 1 = .ok (.getfield 22, 3) := by decide +kernel
theorem dX8_turnRule_4 : decode cX8_turnRule 4 = .ok (.aload_n 0, 1) := by decide +kernel
theorem dX8_turnRule_5 : decode cX8_turnRule 5 = .ok (.getfield 12, 3) := by decide +kernel
theorem dX8_turnRule_8 : decode cX8_turnRule 8 = .ok (.invokevirtual 70, 3) := by decide +kernel
theorem dX8_turnRule_11 : decode cX8_turnRule 11 = .ok (.aload_n 0, 1) := by decide +kernel
theorem dX8_turnRule_12 : decode cX8_turnRule 12 = .ok (.getfield 12, 3) := by decide +kernel
theorem dX8_turnRule_15 : decode cX8_turnRule 15 = .ok (.getfield 232, 3) := by decide +kernel
theorem dX8_turnRule_18 : decode cX8_turnRule 18 = .ok (.aload_n 0, 1) := by decide +kernel
theorem dX8_turnRule_19 : decode cX8_turnRule 19 = .ok (.getfield 12, 3) := by decide +kernel
theorem dX8_turnRule_22 : decode cX8_turnRule 22 = .ok (.getfield 232, 3) := by decide +kernel
theorem dX8_turnRule_25 : decode cX8_turnRule 25 = .ok (.getfield 236, 3) := by decide +kernel
theorem dX8_turnRule_28 : decode cX8_turnRule 28 = .ok (.ifCond .ne 7, 3) := by decide +kernel
theorem dX8_turnRule_31 : decode cX8_turnRule 31 = .ok (.iconst 1, 1) := by decide +kernel
theorem dX8_turnRule_32 : decode cX8_turnRule 32 = .ok (.goto 4, 3) := by decide +kernel
theorem dX8_turnRule_35 : decode cX8_turnRule 35 = .ok (.iconst 0, 1) := by decide +kernel
theorem dX8_turnRule_36 : decode cX8_turnRule 36 = .ok (.putfield 236, 3) := by decide +kernel
theorem dX8_turnRule_39 : decode cX8_turnRule 39 = .ok (.aload_n 0, 1) := by decide +kernel
theorem dX8_turnRule_40 : decode cX8_turnRule 40 = .ok (.getfield 12, 3) := by decide +kernel
theorem dX8_turnRule_43 : decode cX8_turnRule 43 = .ok (.getfield 232, 3) := by decide +kernel
theorem dX8_turnRule_46 : decode cX8_turnRule 46 = .ok (.getfield 236, 3) := by decide +kernel
theorem dX8_turnRule_49 : decode cX8_turnRule 49 = .ok (.ireturn, 1) := by decide +kernel
theorem dX8_append_0 : decode cX8_append 0 = .ok (.iload_n 1, 1) := by decide +kernel
theorem dX8_append_1 : decode cX8_append 1 = .ok (.bipush 33, 2) := by decide +kernel
theorem dX8_append_3 : decode cX8_append 3 = .ok (.if_icmp .lt 9, 3) := by decide +kernel
theorem dX8_append_6 : decode cX8_append 6 = .ok (.iload_n 1, 1) := by decide +kernel
theorem dX8_append_7 : decode cX8_append 7 = .ok (.bipush 126, 2) := by decide +kernel
theorem dX8_append_9 : decode cX8_append 9 = .ok (.if_icmp .le 13, 3) := by decide +kernel
theorem dX8_append_12 : decode cX8_append 12 = .ok (.new 174, 3) := by decide +kernel
theorem dX8_append_15 : decode cX8_append 15 = .ok (.dup, 1) := by decide +kernel
theorem dX8_append_16 : decode cX8_append 16 = .ok (.ldc 242, 2) := by decide +kernel
theorem dX8_append_18 : decode cX8_append 18 = .ok (.invokespecial 178, 3) := by decide +kernel
theorem dX8_append_21 : decode cX8_append 21 = .ok (.athrow, 1) := by decide +kernel
theorem dX8_append_22 : decode cX8_append 22 = .ok (.aload_n 0, 1) := by decide +kernel
theorem dX8_append_23 : decode cX8_append 23 = .ok (.getfield 29, 3) := by decide +kernel
theorem dX8_append_26 : decode cX8_append 26 = .ok (.getfield 200, 3) := by decide +kernel
theorem dX8_append_29 : decode cX8_append 29 = .ok (.bipush 60, 2) := by decide +kernel
theorem dX8_append_31 : decode cX8_append 31 = .ok (.if_icmp .lt 13, 3) := by decide +kernel
theorem dX8_append_34 : decode cX8_append 34 = .ok (.new 54, 3) := by decide +kernel
theorem dX8_append_37 : decode cX8_append 37 = .ok (.dup, 1) := by decide +kernel
theorem dX8_append_38 : decode cX8_append 38 = .ok (.ldc 244, 2) := by decide +kernel
theorem dX8_append_40 : decode cX8_append 40 = .ok (.invokespecial 58, 3) := by decide +kernel
theorem dX8_append_43 : decode cX8_append 43 = .ok (.athrow, 1) := by decide +kernel
theorem dX8_append_44 : decode cX8_append 44 = .ok (.aload_n 0, 1) := by decide +kernel
theorem dX8_append_45 : decode cX8_append 45 = .ok (.getfield 29, 3) := by decide +kernel
theorem dX8_append_48 : decode cX8_append 48 = .ok (.getfield 246, 3) := by decide +kernel
theorem dX8_append_51 : decode cX8_append 51 = .ok (.aload_n 0, 1) := by decide +kernel
theorem dX8_append_52 : decode cX8_append 52 = .ok (.getfield 29, 3) := by decide +kernel
theorem dX8_append_55 : decode cX8_append 55 = .ok (.getfield 200, 3) := by decide +kernel
theorem dX8_append_58 : decode cX8_append 58 = .ok (.iload_n 1, 1) := by decide +kernel
theorem dX8_append_59 : decode cX8_append 59 = .ok (.iastore, 1) := by decide +kernel
theorem dX8_append_60 : decode cX8_append 60 = .ok (.aload_n 0, 1) := by decide +kernel
theorem dX8_append_61 : decode cX8_append 61 = .ok (.getfield 29, 3) := by decide +kernel
theorem dX8_append_64 : decode cX8_append 64 = .ok (.dup, 1) := by decide +kernel
theorem dX8_append_65 : decode cX8_append 65 = .ok (.getfield 200, 3) := by decide +kernel
theorem dX8_append_68 : decode cX8_append 68 = .ok (.iconst 1, 1) := by decide +kernel
theorem dX8_append_69 : decode cX8_append 69 = .ok (.iadd, 1) := by decide +kernel
theorem dX8_append_70 : decode cX8_append 70 = .ok (.putfield 200, 3) := by decide +kernel
theorem dX8_append_73 : decode cX8_append 73 = .ok (.aload_n 0, 1) := by decide +kernel
theorem dX8_append_74 : decode cX8_append 74 = .ok (.getfield 29, 3) := by decide +kernel
theorem dX8_append_77 : decode cX8_append 77 = .ok (.getfield 200, 3) := by decide +kernel
theorem dX8_append_80 : decode cX8_append 80 = .ok (.ireturn, 1) := by decide +kernel
theorem dX8_clearBuffer_0 : decode cX8_clearBuffer 0 = .ok (.aload_n 0, 1) := by decide +kernel
theorem dX8_clearBuffer_1 : decode cX8_clearBuffer 1 = .ok (.getfield 29, 3) := by decide +kernel
theorem dX8_clearBuffer_4 : decode cX8_clearBuffer 4 = .ok (.getfield 200, 3) := by decide +kernel
theorem dX8_clearBuffer_7 : decode cX8_clearBuffer 7 = .ok (.istore_n 1, 1) := by decide +kernel
theorem dX8_clearBuffer_8 : decode cX8_clearBuffer 8 = .ok (.aload_n 0, 1) := by decide +kernel
theorem dX8_clearBuffer_9 : decode cX8_clearBuffer 9 = .ok (.getfield 29, 3) := by decide +kernel
theorem dX8_clearBuffer_12 : decode cX8_clearBuffer 12 = .ok (.iconst 0, 1) := by decide +kernel
theorem dX8_clearBuffer_13 : decode cX8_clearBuffer 13 = .ok (.putfield 200, 3) := by decide +kernel
theorem dX8_clearBuffer_16 : decode cX8_clearBuffer 16 = .ok (.iload_n 1, 1) := by decide +kernel
theorem dX8_clearBuffer_17 : decode cX8_clearBuffer 17 = .ok (.ireturn, 1) := by decide +kernel
set_option maxRecDepth 20000 in
theorem ggX8_firstError_X5_readAll : GoodIn wsX8_firstError wsX5_readAll := goodIn_r _ [5, 6, 7, 8, 9, 10, 11, 12, 13, 14, 15, 16, 17, 18, 19, 20, 21, 22, 23, 24, 25, 26, 27, 28, 29, 30, 37, 38, 39, 40, 41, 42] rfl (by decide +kernel)
set_option maxRecDepth 20000 in
theorem gX8_firstError_X5_readAll_n249 : GoodIn wsX8_firstError (wsX5_readAll) := ggX8_firstError_X5_readAll
theorem dX8_firstError_0 : decode cX8_firstError 0 = .ok (.aload_n 0, 1) := by decide +kernel
theorem dX8_firstError_1 : decode cX8_firstError 1 = .ok (.getfield 29, 3) := by decide +kernel
theorem dX8_firstError_4 : decode cX8_firstError 4 = .ok (.invokevirtual 249, 3) := by decide +kernel
theorem dX8_firstError_7 : decode cX8_firstError 7 = .ok (.ireturn, 1) := by decide +kernel
set_option maxRecDepth 20000 in
theorem ggX8_keep_X8_requireSnapshotSlot : GoodIn wsX8_keep wsX8_requireSnapshotSlot := goodIn_ca (goodIn_r _ [7, 8, 9] rfl (by decide +kernel)) (goodIn_sub (fun _ h => List.mem_cons_of_mem _ (List.mem_append_right _ h)) (by decide +kernel))
set_option maxRecDepth 20000 in
theorem gX8_keep_X8_requireSnapshotSlot : GoodIn wsX8_keep (wsV RX8 252 RX8 yX8_requireSnapshotSlot wsX8_requireSnapshotSlot) := goodIn_app (goodIn_r _ [3, 4, 5, 6] rfl (by decide +kernel)) ggX8_keep_X8_requireSnapshotSlot
set_option maxRecDepth 20000 in
theorem ggX8_keep_X1_takeSnapshot : GoodIn wsX8_keep wsX1_takeSnapshot := goodIn_r _ [13, 14, 15, 16, 17, 18, 19, 20, 21, 22, 23, 24, 25, 26, 27, 28, 29, 30, 31, 32, 33, 34, 35, 36, 37, 38, 39, 40, 41, 42, 43, 44, 45, 46, 47, 48, 49, 50, 51, 52, 53, 54, 55, 56, 57, 58, 59, 60, 61, 62, 63, 64, 65, 66, 67, 68, 69, 70, 71, 72, 73, 74, 75, 76, 77, 78, 79, 80, 81, 82, 83, 84, 85, 86, 87, 88, 89, 90, 91, 92, 93, 100, 101, 102, 103, 104, 105, 106, 107, 108, 109, 110, 111, 112, 113, 114, 115, 116, 117, 118, 119, 120, 121, 122, 123, 124, 125, 126] rfl (by decide +kernel)
set_option maxRecDepth 20000 in
theorem gX8_keep_X1_takeSnapshot_n255 : GoodIn wsX8_keep (wsX1_takeSnapshot) := ggX8_keep_X1_takeSnapshot
theorem dX8_keep_0 : decode cX8_keep 0 = .ok (.aload_n 0, 1) := by decide +kernel
theorem dX8_keep_1 : decode cX8_keep 1 = .ok (.iload_n 1, 1) := by decide +kernel
theorem dX8_keep_2 : decode cX8_keep 2 = .ok (.invokevirtual 252, 3) := by decide +kernel
theorem dX8_keep_5 : decode cX8_keep 5 = .ok (.aload_n 0, 1) := by decide +kernel
theorem dX8_keep_6 : decode cX8_keep 6 = .ok (.getfield 22, 3) := by decide +kernel
theorem dX8_keep_9 : decode cX8_keep 9 = .ok (.iload_n 1, 1) := by decide +kernel
theorem dX8_keep_10 : decode cX8_keep 10 = .ok (.aload_n 0, 1) := by decide +kernel
theorem dX8_keep_11 : decode cX8_keep 11 = .ok (.getfield 12, 3) := by decide +kernel
theorem dX8_keep_14 : decode cX8_keep 14 = .ok (.invokevirtual 255, 3) := by decide +kernel
theorem dX8_keep_17 : decode cX8_keep 17 = .ok (.return_, 1) := by decide +kernel
set_option maxRecDepth 20000 in
theorem ggX8_goBack_X8_requireSnapshotSlot : GoodIn wsX8_goBack wsX8_requireSnapshotSlot := goodIn_ca (goodIn_r _ [9, 10, 11] rfl (by decide +kernel)) (goodIn_sub (fun _ h => List.mem_cons_of_mem _ (List.mem_append_right _ h)) (by decide +kernel))
set_option maxRecDepth 20000 in
theorem gX8_goBack_X8_requireSnapshotSlot : GoodIn wsX8_goBack (wsV RX8 252 RX8 yX8_requireSnapshotSlot wsX8_requireSnapshotSlot) := goodIn_app (goodIn_r _ [5, 6, 7, 8] rfl (by decide +kernel)) ggX8_goBack_X8_requireSnapshotSlot
set_option maxRecDepth 20000 in
theorem ggX8_goBack_X1_save : GoodIn wsX8_goBack wsX1_save := goodIn_r _ [15, 16, 17, 18, 19, 20, 21, 22, 23, 13, 24, 25, 26, 27, 28, 29, 30, 31, 32, 33, 34, 35, 36, 37, 38, 39, 40, 41, 42, 43, 44, 45, 46, 47, 48, 49, 50, 51, 52, 53, 54, 55, 56, 57, 58, 59, 60, 61, 62, 63, 64, 65, 66, 67, 68, 69, 70, 71, 72, 73, 74, 75, 76, 77, 78, 79, 80, 81, 82, 83, 84, 85, 86, 87, 88, 89, 90, 91, 92, 93, 94, 95, 96, 97, 98, 99, 100, 107, 108, 109, 110, 111, 112, 113, 114, 115, 116, 117, 118, 119, 120, 121, 122, 123, 124, 125, 126, 127, 128, 129, 130, 131, 132, 133] rfl (by decide +kernel)
set_option maxRecDepth 20000 in
theorem gX8_goBack_X1_save_n70 : GoodIn wsX8_goBack (wsX1_save) := ggX8_goBack_X1_save
set_option maxRecDepth 20000 in
theorem ggX8_goBack_X6_copyFrom : GoodIn wsX8_goBack wsX6_copyFrom := goodIn_r _ [82, 33, 37, 41, 45, 46, 83, 32, 84, 85, 50, 51, 53, 86, 87, 88, 89, 54, 55, 56, 90, 36, 91, 92, 60, 61, 62, 63, 64, 65, 67, 93, 40, 94, 95, 71, 96, 72, 73, 74, 97, 44, 98, 99, 78, 79, 100, 110, 111, 112, 113, 114, 115, 116, 117, 118, 119, 120, 121, 122, 123, 124, 125, 126, 127, 128, 129, 130, 131, 132, 133] rfl (by decide +kernel)
set_option maxRecDepth 20000 in
theorem gX8_goBack_X6_copyFrom_n265 : GoodIn wsX8_goBack (wsX6_copyFrom) := ggX8_goBack_X6_copyFrom
theorem dX8_goBack_0 : decode cX8_goBack 0 = .ok (.aload_n 0, 1) := by decide +kernel
theorem dX8_goBack_1 : decode cX8_goBack 1 = .ok (.iload_n 1, 1) := by decide +kernel
theorem dX8_goBack_2 : decode cX8_goBack 2 = .ok (.invokevirtual 252, 3) := by decide +kernel
theorem dX8_goBack_5 : decode cX8_goBack 5 = .ok (.aload_n 0, 1) := by decide +kernel
theorem dX8_goBack_6 : decode cX8_goBack 6 = .ok (.getfield 22, 3) := by decide +kernel
theorem dX8_goBack_9 : decode cX8_goBack 9 = .ok (.getfield 259, 3) := by decide +kernel
theorem dX8_goBack_12 : decode cX8_goBack 12 = .ok (.iload_n 1, 1) := by decide +kernel
theorem dX8_goBack_13 : decode cX8_goBack 13 = .ok (.aaload, 1) := by decide +kernel
theorem dX8_goBack_14 : decode cX8_goBack 14 = .ok (.astore_n 2, 1) := by decide +kernel
theorem dX8_goBack_15 : decode cX8_goBack 15 = .ok (.aload_n 2, 1) := by decide +kernel
theorem dX8_goBack_16 : decode cX8_goBack 16 = .ok (.ifnonnull 14, 3) := by decide +kernel
theorem dX8_goBack_19 : decode cX8_goBack 19 = .ok (.new 54, 3) := by decide +kernel
theorem dX8_goBack_22 : decode cX8_goBack 22 = .ok (.dup, 1) := by decide +kernel
theorem dX8_goBack_23 : decode cX8_goBack 23 = .ok (.ldc_w 263, 3) := by decide +kernel
theorem dX8_goBack_26 : decode cX8_goBack 26 = .ok (.invokespecial 58, 3) := by decide +kernel
theorem dX8_goBack_29 : decode cX8_goBack 29 = .ok (.athrow, 1) := by decide +kernel
theorem dX8_goBack_30 : decode cX8_goBack 30 = .ok (.aload_n 0, 1) := by decide +kernel
theorem dX8_goBack_31 : decode cX8_goBack 31 = .ok (.getfield 22, 3) := by decide +kernel
theorem dX8_goBack_34 : decode cX8_goBack 34 = .ok (.aload_n 0, 1) := by decide +kernel
theorem dX8_goBack_35 : decode cX8_goBack 35 = .ok (.getfield 12, 3) := by decide +kernel
theorem dX8_goBack_38 : decode cX8_goBack 38 = .ok (.invokevirtual 70, 3) := by decide +kernel
theorem dX8_goBack_41 : decode cX8_goBack 41 = .ok (.aload_n 0, 1) := by decide +kernel
theorem dX8_goBack_42 : decode cX8_goBack 42 = .ok (.getfield 12, 3) := by decide +kernel
theorem dX8_goBack_45 : decode cX8_goBack 45 = .ok (.aload_n 2, 1) := by decide +kernel
theorem dX8_goBack_46 : decode cX8_goBack 46 = .ok (.invokevirtual 265, 3) := by decide +kernel
theorem dX8_goBack_49 : decode cX8_goBack 49 = .ok (.return_, 1) := by decide +kernel
set_option maxRecDepth 20000 in
theorem ggX8_undo_X1_restoreLatest : GoodIn wsX8_undo wsX1_restoreLatest := goodIn_r _ [8, 9, 10, 11, 12, 13, 14, 15, 16, 17, 18, 19, 20, 21, 22, 23, 24, 25, 26, 27, 28, 29, 30, 31, 32, 33, 34, 35, 36, 37, 38, 39, 40, 41, 42, 43, 44, 45, 46, 47, 48, 49, 50, 51, 52, 53, 54, 55, 56, 57, 58, 59, 60, 67, 68, 69, 70, 71, 72, 73, 74, 75, 76, 77, 78, 79, 80, 81, 82, 83, 84, 85, 86, 87, 88, 89, 90, 91, 92, 93] rfl (by decide +kernel)
set_option maxRecDepth 20000 in
theorem gX8_undo_X1_restoreLatest_n268 : GoodIn wsX8_undo (wsX1_restoreLatest) := ggX8_undo_X1_restoreLatest
theorem dX8_undo_0 : decode cX8_undo 0 = .ok (.aload_n 0, 1) := by decide +kernel
theorem dX8_undo_1 : decode cX8_undo 1 = .ok (.getfield 22, 3) := by decide +kernel
theorem dX8_undo_4 : decode cX8_undo 4 = .ok (.aload_n 0, 1) := by decide +kernel
theorem dX8_undo_5 : decode cX8_undo 5 = .ok (.getfield 12, 3) := by decide +kernel
theorem dX8_undo_8 : decode cX8_undo 8 = .ok (.invokevirtual 268, 3) := by decide +kernel
theorem dX8_undo_11 : decode cX8_undo 11 = .ok (.ifCond .ne 14, 3) := by decide +kernel
theorem dX8_undo_14 : decode cX8_undo 14 = .ok (.new 54, 3) := by decide +kernel
theorem dX8_undo_17 : decode cX8_undo 17 = .ok (.dup, 1) := by decide +kernel
theorem dX8_undo_18 : decode cX8_undo 18 = .ok (.ldc_w 272, 3) := by decide +kernel
theorem dX8_undo_21 : decode cX8_undo 21 = .ok (.invokespecial 58, 3) := by decide +kernel
theorem dX8_undo_24 : decode cX8_undo 24 = .ok (.athrow, 1) := by decide +kernel
theorem dX8_undo_25 : decode cX8_undo 25 = .ok (.return_, 1) := by decide +kernel
theorem dX8_savedStates_0 : decode cX8_savedStates 0 = .ok (.aload_n 0, 1) := by decide +kernel
theorem dX8_savedStates_1 : decode cX8_savedStates 1 = .ok (.getfield 22, 3) := by decide +kernel
theorem dX8_savedStates_4 : decode cX8_savedStates 4 = .ok (.getfield 274, 3) := by decide +kernel
theorem dX8_savedStates_7 : decode cX8_savedStates 7 = .ok (.ireturn, 1) := by decide +kernel
theorem dX8_shelves_0 : decode cX8_shelves 0 = .ok (.aload_n 0, 1) := by decide +kernel
theorem dX8_shelves_1 : decode cX8_shelves 1 = .ok (.getfield 12, 3) := by decide +kernel
theorem dX8_shelves_4 : decode cX8_shelves 4 = .ok (.getfield 44, 3) := by decide +kernel
theorem dX8_shelves_7 : decode cX8_shelves 7 = .ok (.getfield 48, 3) := by decide +kernel
theorem dX8_shelves_10 : decode cX8_shelves 10 = .ok (.ireturn, 1) := by decide +kernel
set_option maxRecDepth 20000 in
theorem ggX8_heightOf_X8_requireShelf : GoodIn wsX8_heightOf wsX8_requireShelf := goodIn_ca (goodIn_r _ [6, 7, 8, 1, 9, 10, 11, 12, 13, 14, 15, 16, 17, 18, 19, 20, 21, 22, 23, 24, 25] rfl (by decide +kernel)) (goodIn_sub (fun _ h => List.mem_cons_of_mem _ (List.mem_append_right _ h)) (by decide +kernel))
set_option maxRecDepth 20000 in
theorem gX8_heightOf_X8_requireShelf : GoodIn wsX8_heightOf (wsV RX8 78 RX8 yX8_requireShelf wsX8_requireShelf) := goodIn_app (goodIn_r _ [2, 3, 4, 5] rfl (by decide +kernel)) ggX8_heightOf_X8_requireShelf
theorem dX8_heightOf_0 : decode cX8_heightOf 0 = .ok (.aload_n 0, 1) := by decide +kernel
theorem dX8_heightOf_1 : decode cX8_heightOf 1 = .ok (.iload_n 1, 1) := by decide +kernel
theorem dX8_heightOf_2 : decode cX8_heightOf 2 = .ok (.invokevirtual 78, 3) := by decide +kernel
theorem dX8_heightOf_5 : decode cX8_heightOf 5 = .ok (.aload_n 0, 1) := by decide +kernel
theorem dX8_heightOf_6 : decode cX8_heightOf 6 = .ok (.getfield 12, 3) := by decide +kernel
theorem dX8_heightOf_9 : decode cX8_heightOf 9 = .ok (.getfield 44, 3) := by decide +kernel
theorem dX8_heightOf_12 : decode cX8_heightOf 12 = .ok (.getfield 92, 3) := by decide +kernel
theorem dX8_heightOf_15 : decode cX8_heightOf 15 = .ok (.iload_n 1, 1) := by decide +kernel
theorem dX8_heightOf_16 : decode cX8_heightOf 16 = .ok (.iaload, 1) := by decide +kernel
theorem dX8_heightOf_17 : decode cX8_heightOf 17 = .ok (.ireturn, 1) := by decide +kernel
set_option maxRecDepth 20000 in
theorem ggX8_sideOf_X8_requireShelf : GoodIn wsX8_sideOf wsX8_requireShelf := goodIn_ca (goodIn_r _ [6, 7, 8, 1, 9, 10, 11, 12, 13, 14, 15, 16, 17, 18, 19, 20, 21, 22, 23, 24, 25] rfl (by decide +kernel)) (goodIn_sub (fun _ h => List.mem_cons_of_mem _ (List.mem_append_right _ h)) (by decide +kernel))
set_option maxRecDepth 20000 in
theorem gX8_sideOf_X8_requireShelf : GoodIn wsX8_sideOf (wsV RX8 78 RX8 yX8_requireShelf wsX8_requireShelf) := goodIn_app (goodIn_r _ [2, 3, 4, 5] rfl (by decide +kernel)) ggX8_sideOf_X8_requireShelf
theorem dX8_sideOf_0 : decode cX8_sideOf 0 = .ok (.aload_n 0, 1) := by decide +kernel
theorem dX8_sideOf_1 : decode cX8_sideOf 1 = .ok (.iload_n 1, 1) := by decide +kernel
theorem dX8_sideOf_2 : decode cX8_sideOf 2 = .ok (.invokevirtual 78, 3) := by decide +kernel
theorem dX8_sideOf_5 : decode cX8_sideOf 5 = .ok (.aload_n 0, 1) := by decide +kernel
theorem dX8_sideOf_6 : decode cX8_sideOf 6 = .ok (.getfield 12, 3) := by decide +kernel
theorem dX8_sideOf_9 : decode cX8_sideOf 9 = .ok (.getfield 44, 3) := by decide +kernel
theorem dX8_sideOf_12 : decode cX8_sideOf 12 = .ok (.getfield 275, 3) := by decide +kernel
theorem dX8_sideOf_15 : decode cX8_sideOf 15 = .ok (.iload_n 1, 1) := by decide +kernel
theorem dX8_sideOf_16 : decode cX8_sideOf 16 = .ok (.iaload, 1) := by decide +kernel
theorem dX8_sideOf_17 : decode cX8_sideOf 17 = .ok (.bipush 20, 2) := by decide +kernel
theorem dX8_sideOf_19 : decode cX8_sideOf 19 = .ok (.idiv, 1) := by decide +kernel
theorem dX8_sideOf_20 : decode cX8_sideOf 20 = .ok (.ireturn, 1) := by decide +kernel
set_option maxRecDepth 20000 in
theorem ggX8_slotOf_X8_requireShelf : GoodIn wsX8_slotOf wsX8_requireShelf := goodIn_ca (goodIn_r _ [6, 7, 8, 1, 9, 10, 11, 12, 13, 14, 15, 16, 17, 18, 19, 20, 21, 22, 23, 24, 25] rfl (by decide +kernel)) (goodIn_sub (fun _ h => List.mem_cons_of_mem _ (List.mem_append_right _ h)) (by decide +kernel))
set_option maxRecDepth 20000 in
theorem gX8_slotOf_X8_requireShelf : GoodIn wsX8_slotOf (wsV RX8 78 RX8 yX8_requireShelf wsX8_requireShelf) := goodIn_app (goodIn_r _ [2, 3, 4, 5] rfl (by decide +kernel)) ggX8_slotOf_X8_requireShelf
theorem dX8_slotOf_0 : decode cX8_slotOf 0 = .ok (.aload_n 0, 1) := by decide +kernel
theorem dX8_slotOf_1 : decode cX8_slotOf 1 = .ok (.iload_n 1, 1) := by decide +kernel
theorem dX8_slotOf_2 : decode cX8_slotOf 2 = .ok (.invokevirtual 78, 3) := by decide +kernel
theorem dX8_slotOf_5 : decode cX8_slotOf 5 = .ok (.aload_n 0, 1) := by decide +kernel
theorem dX8_slotOf_6 : decode cX8_slotOf 6 = .ok (.getfield 12, 3) := by decide +kernel
theorem dX8_slotOf_9 : decode cX8_slotOf 9 = .ok (.getfield 44, 3) := by decide +kernel
theorem dX8_slotOf_12 : decode cX8_slotOf 12 = .ok (.getfield 275, 3) := by decide +kernel
theorem dX8_slotOf_15 : decode cX8_slotOf 15 = .ok (.iload_n 1, 1) := by decide +kernel
theorem dX8_slotOf_16 : decode cX8_slotOf 16 = .ok (.iaload, 1) := by decide +kernel
theorem dX8_slotOf_17 : decode cX8_slotOf 17 = .ok (.bipush 20, 2) := by decide +kernel
theorem dX8_slotOf_19 : decode cX8_slotOf 19 = .ok (.irem, 1) := by decide +kernel
theorem dX8_slotOf_20 : decode cX8_slotOf 20 = .ok (.ireturn, 1) := by decide +kernel
set_option maxRecDepth 20000 in
theorem ggX8_isAtWindow_X8_requireShelf : GoodIn wsX8_isAtWindow wsX8_requireShelf := goodIn_ca (goodIn_r _ [6, 7, 8, 1, 9, 10, 11, 12, 13, 14, 15, 16, 17, 18, 19, 20, 21, 22, 23, 24, 25] rfl (by decide +kernel)) (goodIn_sub (fun _ h => List.mem_cons_of_mem _ (List.mem_append_right _ h)) (by decide +kernel))
set_option maxRecDepth 20000 in
theorem gX8_isAtWindow_X8_requireShelf : GoodIn wsX8_isAtWindow (wsV RX8 78 RX8 yX8_requireShelf wsX8_requireShelf) := goodIn_app (goodIn_r _ [2, 3, 4, 5] rfl (by decide +kernel)) ggX8_isAtWindow_X8_requireShelf
theorem dX8_isAtWindow_0 : decode cX8_isAtWindow 0 = .ok (.aload_n 0, 1) := by decide +kernel
theorem dX8_isAtWindow_1 : decode cX8_isAtWindow 1 = .ok (.iload_n 1, 1) := by decide +kernel
theorem dX8_isAtWindow_2 : decode cX8_isAtWindow 2 = .ok (.invokevirtual 78, 3) := by decide +kernel
theorem dX8_isAtWindow_5 : decode cX8_isAtWindow 5 = .ok (.iload_n 1, 1) := by decide +kernel
theorem dX8_isAtWindow_6 : decode cX8_isAtWindow 6 = .ok (.aload_n 0, 1) := by decide +kernel
theorem dX8_isAtWindow_7 : decode cX8_isAtWindow 7 = .ok (.getfield 12, 3) := by decide +kernel
theorem dX8_isAtWindow_10 : decode cX8_isAtWindow 10 = .ok (.getfield 44, 3) := by decide +kernel
theorem dX8_isAtWindow_13 : decode cX8_isAtWindow 13 = .ok (.getfield 81, 3) := by decide +kernel
theorem dX8_isAtWindow_16 : decode cX8_isAtWindow 16 = .ok (.if_icmp .ne 7, 3) := by decide +kernel
theorem dX8_isAtWindow_19 : decode cX8_isAtWindow 19 = .ok (.iconst 1, 1) := by decide +kernel
theorem dX8_isAtWindow_20 : decode cX8_isAtWindow 20 = .ok (.goto 4, 3) := by decide +kernel
theorem dX8_isAtWindow_23 : decode cX8_isAtWindow 23 = .ok (.iconst 0, 1) := by decide +kernel
theorem dX8_isAtWindow_24 : decode cX8_isAtWindow 24 = .ok (.ireturn, 1) := by decide +kernel
set_option maxRecDepth 20000 in
theorem ggX8_thingsIn_X8_requireShelf : GoodIn wsX8_thingsIn wsX8_requireShelf := goodIn_ca (goodIn_r _ [6, 7, 8, 1, 18, 19, 20, 21, 22, 23, 24, 25, 26, 27, 28, 29, 30, 31, 32, 33, 34] rfl (by decide +kernel)) (goodIn_sub (fun _ h => List.mem_cons_of_mem _ (List.mem_append_right _ h)) (by decide +kernel))
set_option maxRecDepth 20000 in
theorem gX8_thingsIn_X8_requireShelf : GoodIn wsX8_thingsIn (wsV RX8 78 RX8 yX8_requireShelf wsX8_requireShelf) := goodIn_app (goodIn_r _ [2, 3, 4, 5] rfl (by decide +kernel)) ggX8_thingsIn_X8_requireShelf
set_option maxRecDepth 20000 in
theorem ggX8_thingsIn_X8_requireKind : GoodIn wsX8_thingsIn wsX8_requireKind := goodIn_ca (goodIn_r _ [12, 7, 8] rfl (by decide +kernel)) (goodIn_sub (fun _ h => List.mem_cons_of_mem _ (List.mem_append_right _ h)) (by decide +kernel))
set_option maxRecDepth 20000 in
theorem gX8_thingsIn_X8_requireKind : GoodIn wsX8_thingsIn (wsV RX8 135 RX8 yX8_requireKind wsX8_requireKind) := goodIn_app (goodIn_r _ [9, 10, 11, 5] rfl (by decide +kernel)) ggX8_thingsIn_X8_requireKind
set_option maxRecDepth 20000 in
theorem ggX8_thingsIn_X7_countIn : GoodIn wsX8_thingsIn wsX7_countIn := goodIn_r _ [16, 17, 29, 30, 31, 32, 33, 34] rfl (by decide +kernel)
set_option maxRecDepth 20000 in
theorem gX8_thingsIn_X7_countIn_n162 : GoodIn wsX8_thingsIn (wsX7_countIn) := ggX8_thingsIn_X7_countIn
theorem dX8_thingsIn_0 : decode cX8_thingsIn 0 = .ok (.aload_n 0, 1) := by decide +kernel
theorem dX8_thingsIn_1 : decode cX8_thingsIn 1 = .ok (.iload_n 1, 1) := by decide +kernel
theorem dX8_thingsIn_2 : decode cX8_thingsIn 2 = .ok (.invokevirtual 78, 3) := by decide +kernel
theorem dX8_thingsIn_5 : decode cX8_thingsIn 5 = .ok (.aload_n 0, 1) := by decide +kernel
theorem dX8_thingsIn_6 : decode cX8_thingsIn 6 = .ok (.iload_n 2, 1) := by decide +kernel
theorem dX8_thingsIn_7 : decode cX8_thingsIn 7 = .ok (.invokevirtual 135, 3) := by decide +kernel
theorem dX8_thingsIn_10 : decode cX8_thingsIn 10 = .ok (.aload_n 0, 1) := by decide +kernel
theorem dX8_thingsIn_11 : decode cX8_thingsIn 11 = .ok (.getfield 12, 3) := by decide +kernel
theorem dX8_thingsIn_14 : decode cX8_thingsIn 14 = .ok (.getfield 44, 3) := by decide +kernel
theorem dX8_thingsIn_17 : decode cX8_thingsIn 17 = .ok (.iload_n 1, 1) := by decide +kernel
theorem dX8_thingsIn_18 : decode cX8_thingsIn 18 = .ok (.iload_n 2, 1) := by decide +kernel
theorem dX8_thingsIn_19 : decode cX8_thingsIn 19 = .ok (.invokevirtual 162, 3) := by decide +kernel
theorem dX8_thingsIn_22 : decode cX8_thingsIn 22 = .ok (.ireturn, 1) := by decide +kernel
set_option maxRecDepth 20000 in
theorem ggX8_weightOf_X8_requireShelf : GoodIn wsX8_weightOf wsX8_requireShelf := goodIn_ca (goodIn_r _ [6, 7, 8, 1, 20, 21, 22, 23, 24, 25, 26, 27, 28, 29, 30, 31, 32, 33, 34, 35, 36] rfl (by decide +kernel)) (goodIn_sub (fun _ h => List.mem_cons_of_mem _ (List.mem_append_right _ h)) (by decide +kernel))
set_option maxRecDepth 20000 in
theorem gX8_weightOf_X8_requireShelf : GoodIn wsX8_weightOf (wsV RX8 78 RX8 yX8_requireShelf wsX8_requireShelf) := goodIn_app (goodIn_r _ [2, 3, 4, 5] rfl (by decide +kernel)) ggX8_weightOf_X8_requireShelf
set_option maxRecDepth 20000 in
theorem ggX8_weightOf_X6_weighShelf : GoodIn wsX8_weightOf wsX6_weighShelf := goodIn_r _ [12, 13, 14, 15, 16, 17, 18, 19, 26, 27, 28, 29, 30, 37, 38, 39, 40, 31, 32, 33, 34, 35, 36] rfl (by decide +kernel)
set_option maxRecDepth 20000 in
theorem gX8_weightOf_X6_weighShelf_n141 : GoodIn wsX8_weightOf (wsX6_weighShelf) := ggX8_weightOf_X6_weighShelf
theorem dX8_weightOf_0 : decode cX8_weightOf 0 = .ok (.aload_n 0, 1) := by decide +kernel
theorem dX8_weightOf_1 : decode cX8_weightOf 1 = .ok (.iload_n 1, 1) := by decide +kernel
theorem dX8_weightOf_2 : decode cX8_weightOf 2 = .ok (.invokevirtual 78, 3) := by decide +kernel
theorem dX8_weightOf_5 : decode cX8_weightOf 5 = .ok (.aload_n 0, 1) := by decide +kernel
theorem dX8_weightOf_6 : decode cX8_weightOf 6 = .ok (.getfield 12, 3) := by decide +kernel
theorem dX8_weightOf_9 : decode cX8_weightOf 9 = .ok (.iload_n 1, 1) := by decide +kernel
theorem dX8_weightOf_10 : decode cX8_weightOf 10 = .ok (.invokevirtual 141, 3) := by decide +kernel
theorem dX8_weightOf_13 : decode cX8_weightOf 13 = .ok (.ireturn, 1) := by decide +kernel
set_option maxRecDepth 20000 in
theorem ggX8_fetchesOf_X8_requireShelf : GoodIn wsX8_fetchesOf wsX8_requireShelf := goodIn_ca (goodIn_r _ [6, 7, 8, 1, 9, 10, 11, 12, 13, 14, 15, 16, 17, 18, 19, 20, 21, 22, 23, 24, 25] rfl (by decide +kernel)) (goodIn_sub (fun _ h => List.mem_cons_of_mem _ (List.mem_append_right _ h)) (by decide +kernel))
set_option maxRecDepth 20000 in
theorem gX8_fetchesOf_X8_requireShelf : GoodIn wsX8_fetchesOf (wsV RX8 78 RX8 yX8_requireShelf wsX8_requireShelf) := goodIn_app (goodIn_r _ [2, 3, 4, 5] rfl (by decide +kernel)) ggX8_fetchesOf_X8_requireShelf
theorem dX8_fetchesOf_0 : decode cX8_fetchesOf 0 = .ok (.aload_n 0, 1) := by decide +kernel
theorem dX8_fetchesOf_1 : decode cX8_fetchesOf 1 = .ok (.iload_n 1, 1) := by decide +kernel
theorem dX8_fetchesOf_2 : decode cX8_fetchesOf 2 = .ok (.invokevirtual 78, 3) := by decide +kernel
theorem dX8_fetchesOf_5 : decode cX8_fetchesOf 5 = .ok (.aload_n 0, 1) := by decide +kernel
theorem dX8_fetchesOf_6 : decode cX8_fetchesOf 6 = .ok (.getfield 12, 3) := by decide +kernel
theorem dX8_fetchesOf_9 : decode cX8_fetchesOf 9 = .ok (.getfield 44, 3) := by decide +kernel
theorem dX8_fetchesOf_12 : decode cX8_fetchesOf 12 = .ok (.getfield 278, 3) := by decide +kernel
theorem dX8_fetchesOf_15 : decode cX8_fetchesOf 15 = .ok (.iload_n 1, 1) := by decide +kernel
theorem dX8_fetchesOf_16 : decode cX8_fetchesOf 16 = .ok (.iaload, 1) := by decide +kernel
theorem dX8_fetchesOf_17 : decode cX8_fetchesOf 17 = .ok (.ireturn, 1) := by decide +kernel
set_option maxRecDepth 20000 in
theorem ggX8_atWindow_X8_requireShelfAtWindow : GoodIn wsX8_atWindow wsX8_requireShelfAtWindow := goodIn_ca (goodIn_r _ [6, 7, 8, 1, 9, 10, 11, 12, 13, 14, 15, 16, 17, 18, 19, 20, 21, 22, 23, 24, 25] rfl (by decide +kernel)) (goodIn_sub (fun _ h => List.mem_cons_of_mem _ (List.mem_append_right _ h)) (by decide +kernel))
set_option maxRecDepth 20000 in
theorem gX8_atWindow_X8_requireShelfAtWindow : GoodIn wsX8_atWindow (wsV RX8 101 RX8 yX8_requireShelfAtWindow wsX8_requireShelfAtWindow) := goodIn_app (goodIn_r _ [2, 3, 4, 5] rfl (by decide +kernel)) ggX8_atWindow_X8_requireShelfAtWindow
theorem dX8_atWindow_0 : decode cX8_atWindow 0 = .ok (.aload_n 0, 1) := by decide +kernel
theorem dX8_atWindow_1 : decode cX8_atWindow 1 = .ok (.invokevirtual 101, 3) := by decide +kernel
theorem dX8_atWindow_4 : decode cX8_atWindow 4 = .ok (.aload_n 0, 1) := by decide +kernel
theorem dX8_atWindow_5 : decode cX8_atWindow 5 = .ok (.getfield 12, 3) := by decide +kernel
theorem dX8_atWindow_8 : decode cX8_atWindow 8 = .ok (.getfield 44, 3) := by decide +kernel
theorem dX8_atWindow_11 : decode cX8_atWindow 11 = .ok (.getfield 81, 3) := by decide +kernel
theorem dX8_atWindow_14 : decode cX8_atWindow 14 = .ok (.ireturn, 1) := by decide +kernel
set_option maxRecDepth 20000 in
theorem ggX8_isFree_X8_requireSlot : GoodIn wsX8_isFree wsX8_requireSlot := goodIn_ca (goodIn_r _ [6, 7, 8, 9, 10, 11, 5, 12] rfl (by decide +kernel)) (goodIn_sub (fun _ h => List.mem_cons_of_mem _ (List.mem_append_right _ h)) (by decide +kernel))
set_option maxRecDepth 20000 in
theorem gX8_isFree_X8_requireSlot : GoodIn wsX8_isFree (wsV RX8 108 RX8 yX8_requireSlot wsX8_requireSlot) := goodIn_app (goodIn_r _ [2, 3, 4, 5] rfl (by decide +kernel)) ggX8_isFree_X8_requireSlot
set_option maxRecDepth 20000 in
theorem ggX8_isFree_X7_holderOf : GoodIn wsX8_isFree wsX7_holderOf := goodIn_r _ [16, 17, 18, 19, 20, 32, 33, 34, 35, 36, 37] rfl (by decide +kernel)
set_option maxRecDepth 20000 in
theorem gX8_isFree_X7_holderOf_n281 : GoodIn wsX8_isFree (wsX7_holderOf) := ggX8_isFree_X7_holderOf
theorem dX8_isFree_0 : decode cX8_isFree 0 = .ok (.aload_n 0, 1) := by decide +kernel
theorem dX8_isFree_1 : decode cX8_isFree 1 = .ok (.iload_n 1, 1) := by decide +kernel
theorem dX8_isFree_2 : decode cX8_isFree 2 = .ok (.iload_n 2, 1) := by decide +kernel
theorem dX8_isFree_3 : decode cX8_isFree 3 = .ok (.invokevirtual 108, 3) := by decide +kernel
theorem dX8_isFree_6 : decode cX8_isFree 6 = .ok (.aload_n 0, 1) := by decide +kernel
theorem dX8_isFree_7 : decode cX8_isFree 7 = .ok (.getfield 12, 3) := by decide +kernel
theorem dX8_isFree_10 : decode cX8_isFree 10 = .ok (.getfield 44, 3) := by decide +kernel
theorem dX8_isFree_13 : decode cX8_isFree 13 = .ok (.iload_n 1, 1) := by decide +kernel
theorem dX8_isFree_14 : decode cX8_isFree 14 = .ok (.bipush 20, 2) := by decide +kernel
theorem dX8_isFree_16 : decode cX8_isFree 16 = .ok (.imul, 1) := by decide +kernel
theorem dX8_isFree_17 : decode cX8_isFree 17 = .ok (.iload_n 2, 1) := by decide +kernel
theorem dX8_isFree_18 : decode cX8_isFree 18 = .ok (.iadd, 1) := by decide +kernel
theorem dX8_isFree_19 : decode cX8_isFree 19 = .ok (.invokevirtual 281, 3) := by decide +kernel
theorem dX8_isFree_22 : decode cX8_isFree 22 = .ok (.iconst (-1), 1) := by decide +kernel
theorem dX8_isFree_23 : decode cX8_isFree 23 = .ok (.if_icmp .ne 7, 3) := by decide +kernel
theorem dX8_isFree_26 : decode cX8_isFree 26 = .ok (.iconst 1, 1) := by decide +kernel
theorem dX8_isFree_27 : decode cX8_isFree 27 = .ok (.goto 4, 3) := by decide +kernel
theorem dX8_isFree_30 : decode cX8_isFree 30 = .ok (.iconst 0, 1) := by decide +kernel
theorem dX8_isFree_31 : decode cX8_isFree 31 = .ok (.ireturn, 1) := by decide +kernel
set_option maxRecDepth 20000 in
theorem ggX8_shelfAt_X8_requireSlot : GoodIn wsX8_shelfAt wsX8_requireSlot := goodIn_ca (goodIn_r _ [8, 9, 10, 11, 12, 13, 7, 14] rfl (by decide +kernel)) (goodIn_sub (fun _ h => List.mem_cons_of_mem _ (List.mem_append_right _ h)) (by decide +kernel))
set_option maxRecDepth 20000 in
theorem gX8_shelfAt_X8_requireSlot : GoodIn wsX8_shelfAt (wsV RX8 108 RX8 yX8_requireSlot wsX8_requireSlot) := goodIn_app (goodIn_r _ [4, 5, 6, 7] rfl (by decide +kernel)) ggX8_shelfAt_X8_requireSlot
set_option maxRecDepth 20000 in
theorem ggX8_shelfAt_X7_holderOf : GoodIn wsX8_shelfAt wsX7_holderOf := goodIn_r _ [18, 19, 20, 21, 22, 34, 35, 36, 37, 38, 39] rfl (by decide +kernel)
set_option maxRecDepth 20000 in
theorem gX8_shelfAt_X7_holderOf_n281 : GoodIn wsX8_shelfAt (wsX7_holderOf) := ggX8_shelfAt_X7_holderOf
theorem dX8_shelfAt_0 : decode cX8_shelfAt 0 = .ok (.aload_n 0, 1) := by decide +kernel
theorem dX8_shelfAt_1 : decode cX8_shelfAt 1 = .ok (.iload_n 1, 1) := by decide +kernel
theorem dX8_shelfAt_2 : decode cX8_shelfAt 2 = .ok (.iload_n 2, 1) := by decide +kernel
theorem dX8_shelfAt_3 : decode cX8_shelfAt 3 = .ok (.invokevirtual 108, 3) := by decide +kernel
theorem dX8_shelfAt_6 : decode cX8_shelfAt 6 = .ok (.aload_n 0, 1) := by decide +kernel
theorem dX8_shelfAt_7 : decode cX8_shelfAt 7 = .ok (.getfield 12, 3) := by decide +kernel
theorem dX8_shelfAt_10 : decode cX8_shelfAt 10 = .ok (.getfield 44, 3) := by decide +kernel
theorem dX8_shelfAt_13 : decode cX8_shelfAt 13 = .ok (.iload_n 1, 1) := by decide +kernel
theorem dX8_shelfAt_14 : decode cX8_shelfAt 14 = .ok (.bipush 20, 2) := by decide +kernel
theorem dX8_shelfAt_16 : decode cX8_shelfAt 16 = .ok (.imul, 1) := by decide +kernel
theorem dX8_shelfAt_17 : decode cX8_shelfAt 17 = .ok (.iload_n 2, 1) := by decide +kernel
theorem dX8_shelfAt_18 : decode cX8_shelfAt 18 = .ok (.iadd, 1) := by decide +kernel
theorem dX8_shelfAt_19 : decode cX8_shelfAt 19 = .ok (.invokevirtual 281, 3) := by decide +kernel
theorem dX8_shelfAt_22 : decode cX8_shelfAt 22 = .ok (.istore_n 3, 1) := by decide +kernel
theorem dX8_shelfAt_23 : decode cX8_shelfAt 23 = .ok (.iload_n 3, 1) := by decide +kernel
theorem dX8_shelfAt_24 : decode cX8_shelfAt 24 = .ok (.iconst (-1), 1) := by decide +kernel
theorem dX8_shelfAt_25 : decode cX8_shelfAt 25 = .ok (.if_icmp .ne 14, 3) := by decide +kernel
theorem dX8_shelfAt_28 : decode cX8_shelfAt 28 = .ok (.new 54, 3) := by decide +kernel
theorem dX8_shelfAt_31 : decode cX8_shelfAt 31 = .ok (.dup, 1) := by decide +kernel
theorem dX8_shelfAt_32 : decode cX8_shelfAt 32 = .ok (.ldc_w 284, 3) := by decide +kernel
theorem dX8_shelfAt_35 : decode cX8_shelfAt 35 = .ok (.invokespecial 58, 3) := by decide +kernel
theorem dX8_shelfAt_38 : decode cX8_shelfAt 38 = .ok (.athrow, 1) := by decide +kernel
theorem dX8_shelfAt_39 : decode cX8_shelfAt 39 = .ok (.iload_n 3, 1) := by decide +kernel
theorem dX8_shelfAt_40 : decode cX8_shelfAt 40 = .ok (.ireturn, 1) := by decide +kernel
set_option maxRecDepth 20000 in
theorem ggX8_freeBySlots_X7_countFree : GoodIn wsX8_freeBySlots wsX7_countFree := goodIn_r _ [5, 6, 7, 8, 3, 9, 10, 11, 12, 13, 14, 15, 16, 17, 18, 19, 31, 32, 33, 34, 35, 36] rfl (by decide +kernel)
set_option maxRecDepth 20000 in
theorem gX8_freeBySlots_X7_countFree_n286 : GoodIn wsX8_freeBySlots (wsX7_countFree) := ggX8_freeBySlots_X7_countFree
theorem dX8_freeBySlots_0 : decode cX8_freeBySlots 0 = .ok (.aload_n 0, 1) := by decide +kernel
theorem dX8_freeBySlots_1 : decode cX8_freeBySlots 1 = .ok (.getfield 12, 3) := by decide +kernel
theorem dX8_freeBySlots_4 : decode cX8_freeBySlots 4 = .ok (.getfield 44, 3) := by decide +kernel
theorem dX8_freeBySlots_7 : decode cX8_freeBySlots 7 = .ok (.iconst 0, 1) := by decide +kernel
theorem dX8_freeBySlots_8 : decode cX8_freeBySlots 8 = .ok (.invokevirtual 286, 3) := by decide +kernel
theorem dX8_freeBySlots_11 : decode cX8_freeBySlots 11 = .ok (.aload_n 0, 1) := by decide +kernel
theorem dX8_freeBySlots_12 : decode cX8_freeBySlots 12 = .ok (.getfield 12, 3) := by decide +kernel
theorem dX8_freeBySlots_15 : decode cX8_freeBySlots 15 = .ok (.getfield 44, 3) := by decide +kernel
theorem dX8_freeBySlots_18 : decode cX8_freeBySlots 18 = .ok (.iconst 1, 1) := by decide +kernel
theorem dX8_freeBySlots_19 : decode cX8_freeBySlots 19 = .ok (.invokevirtual 286, 3) := by decide +kernel
theorem dX8_freeBySlots_22 : decode cX8_freeBySlots 22 = .ok (.iadd, 1) := by decide +kernel
theorem dX8_freeBySlots_23 : decode cX8_freeBySlots 23 = .ok (.ireturn, 1) := by decide +kernel
set_option maxRecDepth 20000 in
theorem ggX8_freeByHeights_X7_sumOfHeights : GoodIn wsX8_freeByHeights wsX7_sumOfHeights := goodIn_r _ [5, 6, 7, 8, 20, 21, 22, 23, 24, 25] rfl (by decide +kernel)
set_option maxRecDepth 20000 in
theorem gX8_freeByHeights_X7_sumOfHeights_n289 : GoodIn wsX8_freeByHeights (wsX7_sumOfHeights) := ggX8_freeByHeights_X7_sumOfHeights
theorem dX8_freeByHeights_0 : decode cX8_freeByHeights 0 = .ok (.bipush 40, 2) := by decide +kernel
theorem dX8_freeByHeights_2 : decode cX8_freeByHeights 2 = .ok (.aload_n 0, 1) := by decide +kernel
theorem dX8_freeByHeights_3 : decode cX8_freeByHeights 3 = .ok (.getfield 12, 3) := by decide +kernel
theorem dX8_freeByHeights_6 : decode cX8_freeByHeights 6 = .ok (.getfield 44, 3) := by decide +kernel
theorem dX8_freeByHeights_9 : decode cX8_freeByHeights 9 = .ok (.invokevirtual 289, 3) := by decide +kernel
theorem dX8_freeByHeights_12 : decode cX8_freeByHeights 12 = .ok (.isub, 1) := by decide +kernel
theorem dX8_freeByHeights_13 : decode cX8_freeByHeights 13 = .ok (.ireturn, 1) := by decide +kernel
set_option maxRecDepth 20000 in
theorem ggX8_firstPlace_X8_requireHeight : GoodIn wsX8_firstPlace wsX8_requireHeight := goodIn_ca (goodIn_r _ [8, 9, 10] rfl (by decide +kernel)) (goodIn_sub (fun _ h => List.mem_cons_of_mem _ (List.mem_append_right _ h)) (by decide +kernel))
set_option maxRecDepth 20000 in
theorem gX8_firstPlace_X8_requireHeight : GoodIn wsX8_firstPlace (wsV RX8 40 RX8 yX8_requireHeight wsX8_requireHeight) := goodIn_app (goodIn_r _ [4, 5, 6, 7] rfl (by decide +kernel)) ggX8_firstPlace_X8_requireHeight
set_option maxRecDepth 20000 in
theorem ggX8_firstPlace_X7_firstFree : GoodIn wsX8_firstPlace wsX7_firstFree := goodIn_r _ [14, 15, 16, 17, 12, 18, 19, 20, 21, 22, 23, 24, 25, 26, 27, 28, 29, 30, 31, 43, 44, 45, 46, 47, 48] rfl (by decide +kernel)
set_option maxRecDepth 20000 in
theorem gX8_firstPlace_X7_firstFree_n64 : GoodIn wsX8_firstPlace (wsX7_firstFree) := ggX8_firstPlace_X7_firstFree
theorem dX8_firstPlace_0 : decode cX8_firstPlace 0 = .ok (.aload_n 0, 1) := by decide +kernel
theorem dX8_firstPlace_1 : decode cX8_firstPlace 1 = .ok (.iload_n 1, 1) := by decide +kernel
theorem dX8_firstPlace_2 : decode cX8_firstPlace 2 = .ok (.invokevirtual 40, 3) := by decide +kernel
theorem dX8_firstPlace_5 : decode cX8_firstPlace 5 = .ok (.aload_n 0, 1) := by decide +kernel
theorem dX8_firstPlace_6 : decode cX8_firstPlace 6 = .ok (.getfield 12, 3) := by decide +kernel
theorem dX8_firstPlace_9 : decode cX8_firstPlace 9 = .ok (.getfield 44, 3) := by decide +kernel
theorem dX8_firstPlace_12 : decode cX8_firstPlace 12 = .ok (.iload_n 1, 1) := by decide +kernel
theorem dX8_firstPlace_13 : decode cX8_firstPlace 13 = .ok (.invokevirtual 64, 3) := by decide +kernel
theorem dX8_firstPlace_16 : decode cX8_firstPlace 16 = .ok (.istore_n 2, 1) := by decide +kernel
theorem dX8_firstPlace_17 : decode cX8_firstPlace 17 = .ok (.iload_n 2, 1) := by decide +kernel
theorem dX8_firstPlace_18 : decode cX8_firstPlace 18 = .ok (.iconst (-1), 1) := by decide +kernel
theorem dX8_firstPlace_19 : decode cX8_firstPlace 19 = .ok (.if_icmp .ne 13, 3) := by decide +kernel
theorem dX8_firstPlace_22 : decode cX8_firstPlace 22 = .ok (.new 54, 3) := by decide +kernel
theorem dX8_firstPlace_25 : decode cX8_firstPlace 25 = .ok (.dup, 1) := by decide +kernel
theorem dX8_firstPlace_26 : decode cX8_firstPlace 26 = .ok (.ldc 68, 2) := by decide +kernel
theorem dX8_firstPlace_28 : decode cX8_firstPlace 28 = .ok (.invokespecial 58, 3) := by decide +kernel
theorem dX8_firstPlace_31 : decode cX8_firstPlace 31 = .ok (.athrow, 1) := by decide +kernel
theorem dX8_firstPlace_32 : decode cX8_firstPlace 32 = .ok (.iload_n 2, 1) := by decide +kernel
theorem dX8_firstPlace_33 : decode cX8_firstPlace 33 = .ok (.ireturn, 1) := by decide +kernel
set_option maxRecDepth 20000 in
theorem ggX8_longestGap_X8_requireSide : GoodIn wsX8_longestGap wsX8_requireSide := goodIn_ca (goodIn_r _ [6, 7, 8] rfl (by decide +kernel)) (goodIn_sub (fun _ h => List.mem_cons_of_mem _ (List.mem_append_right _ h)) (by decide +kernel))
set_option maxRecDepth 20000 in
theorem gX8_longestGap_X8_requireSide : GoodIn wsX8_longestGap (wsV RX8 292 RX8 yX8_requireSide wsX8_requireSide) := goodIn_app (goodIn_r _ [2, 3, 4, 5] rfl (by decide +kernel)) ggX8_longestGap_X8_requireSide
set_option maxRecDepth 20000 in
theorem ggX8_longestGap_X7_longestFree : GoodIn wsX8_longestGap wsX7_longestFree := goodIn_r _ [12, 13, 14, 15, 16, 17, 18, 19, 10, 20, 21, 22, 23, 24, 25, 26, 27, 28, 29, 30, 42, 43, 44, 45, 46, 47] rfl (by decide +kernel)
set_option maxRecDepth 20000 in
theorem gX8_longestGap_X7_longestFree_n295 : GoodIn wsX8_longestGap (wsX7_longestFree) := ggX8_longestGap_X7_longestFree
theorem dX8_longestGap_0 : decode cX8_longestGap 0 = .ok (.aload_n 0, 1) := by decide +kernel
theorem dX8_longestGap_1 : decode cX8_longestGap 1 = .ok (.iload_n 1, 1) := by decide +kernel
theorem dX8_longestGap_2 : decode cX8_longestGap 2 = .ok (.invokevirtual 292, 3) := by decide +kernel
theorem dX8_longestGap_5 : decode cX8_longestGap 5 = .ok (.aload_n 0, 1) := by decide +kernel
theorem dX8_longestGap_6 : decode cX8_longestGap 6 = .ok (.getfield 12, 3) := by decide +kernel
theorem dX8_longestGap_9 : decode cX8_longestGap 9 = .ok (.getfield 44, 3) := by decide +kernel
theorem dX8_longestGap_12 : decode cX8_longestGap 12 = .ok (.iload_n 1, 1) := by decide +kernel
theorem dX8_longestGap_13 : decode cX8_longestGap 13 = .ok (.invokevirtual 295, 3) := by decide +kernel
theorem dX8_longestGap_16 : decode cX8_longestGap 16 = .ok (.ireturn, 1) := by decide +kernel
theorem dX8_lift_0 : decode cX8_lift 0 = .ok (.aload_n 0, 1) := by decide +kernel
theorem dX8_lift_1 : decode cX8_lift 1 = .ok (.getfield 12, 3) := by decide +kernel
theorem dX8_lift_4 : decode cX8_lift 4 = .ok (.getfield 232, 3) := by decide +kernel
theorem dX8_lift_7 : decode cX8_lift 7 = .ok (.getfield 298, 3) := by decide +kernel
theorem dX8_lift_10 : decode cX8_lift 10 = .ok (.ireturn, 1) := by decide +kernel
theorem dX8_isKeptPlace_0 : decode cX8_isKeptPlace 0 = .ok (.aload_n 0, 1) := by decide +kernel
theorem dX8_isKeptPlace_1 : decode cX8_isKeptPlace 1 = .ok (.getfield 12, 3) := by decide +kernel
theorem dX8_isKeptPlace_4 : decode cX8_isKeptPlace 4 = .ok (.getfield 232, 3) := by decide +kernel
theorem dX8_isKeptPlace_7 : decode cX8_isKeptPlace 7 = .ok (.getfield 236, 3) := by decide +kernel
theorem dX8_isKeptPlace_10 : decode cX8_isKeptPlace 10 = .ok (.ireturn, 1) := by decide +kernel
set_option maxRecDepth 20000 in
theorem ggX8_wouldPack_X8_requirePackable : GoodIn wsX8_wouldPack wsX8_requirePackable := goodIn_ca (goodIn_r _ [7, 8, 9, 1, 2, 10, 11, 12, 6, 13, 14, 15, 16, 17, 18, 19, 20, 21, 22, 23, 24, 25, 26, 27, 28, 29, 30, 31, 32, 33, 38, 39, 40, 41, 42, 43, 44, 45, 46, 47, 48, 49, 50, 51, 52, 53, 54] rfl (by decide +kernel)) (goodIn_sub (fun _ h => List.mem_cons_of_mem _ (List.mem_append_right _ h)) (by decide +kernel))
set_option maxRecDepth 20000 in
theorem gX8_wouldPack_X8_requirePackable : GoodIn wsX8_wouldPack (wsV RX8 124 RX8 yX8_requirePackable wsX8_requirePackable) := goodIn_app (goodIn_r _ [3, 4, 5, 6] rfl (by decide +kernel)) ggX8_wouldPack_X8_requirePackable
set_option maxRecDepth 20000 in
theorem ggX8_wouldPack_X7_countMoved : GoodIn wsX8_wouldPack wsX7_countMoved := goodIn_r _ [36, 18, 37, 49, 50, 51, 52, 53, 54] rfl (by decide +kernel)
set_option maxRecDepth 20000 in
theorem gX8_wouldPack_X7_countMoved_n127 : GoodIn wsX8_wouldPack (wsX7_countMoved) := ggX8_wouldPack_X7_countMoved
theorem dX8_wouldPack_0 : decode cX8_wouldPack 0 = .ok (.aload_n 0, 1) := by decide +kernel
theorem dX8_wouldPack_1 : decode cX8_wouldPack 1 = .ok (.invokevirtual 124, 3) := by decide +kernel
theorem dX8_wouldPack_4 : decode cX8_wouldPack 4 = .ok (.aload_n 0, 1) := by decide +kernel
theorem dX8_wouldPack_5 : decode cX8_wouldPack 5 = .ok (.getfield 12, 3) := by decide +kernel
theorem dX8_wouldPack_8 : decode cX8_wouldPack 8 = .ok (.getfield 44, 3) := by decide +kernel
theorem dX8_wouldPack_11 : decode cX8_wouldPack 11 = .ok (.aload_n 0, 1) := by decide +kernel
theorem dX8_wouldPack_12 : decode cX8_wouldPack 12 = .ok (.getfield 33, 3) := by decide +kernel
theorem dX8_wouldPack_15 : decode cX8_wouldPack 15 = .ok (.invokevirtual 127, 3) := by decide +kernel
theorem dX8_wouldPack_18 : decode cX8_wouldPack 18 = .ok (.ireturn, 1) := by decide +kernel
set_option maxRecDepth 20000 in
theorem ggX8_sideWeight_X8_requireSide : GoodIn wsX8_sideWeight wsX8_requireSide := goodIn_ca (goodIn_r _ [6, 7, 8] rfl (by decide +kernel)) (goodIn_sub (fun _ h => List.mem_cons_of_mem _ (List.mem_append_right _ h)) (by decide +kernel))
set_option maxRecDepth 20000 in
theorem gX8_sideWeight_X8_requireSide : GoodIn wsX8_sideWeight (wsV RX8 292 RX8 yX8_requireSide wsX8_requireSide) := goodIn_app (goodIn_r _ [2, 3, 4, 5] rfl (by decide +kernel)) ggX8_sideWeight_X8_requireSide
set_option maxRecDepth 20000 in
theorem ggX8_sideWeight_X6_weighSide : GoodIn wsX8_sideWeight wsX6_weighSide := goodIn_r _ [12, 13, 14, 15, 16, 10, 17, 18, 19, 20, 21, 22, 23, 30, 31, 32, 33, 34, 35, 36, 37, 38, 39, 40, 41, 42, 43, 44] rfl (by decide +kernel)
set_option maxRecDepth 20000 in
theorem gX8_sideWeight_X6_weighSide_n301 : GoodIn wsX8_sideWeight (wsX6_weighSide) := ggX8_sideWeight_X6_weighSide
theorem dX8_sideWeight_0 : decode cX8_sideWeight 0 = .ok (.aload_n 0, 1) := by decide +kernel
theorem dX8_sideWeight_1 : decode cX8_sideWeight 1 = .ok (.iload_n 1, 1) := by decide +kernel
theorem dX8_sideWeight_2 : decode cX8_sideWeight 2 = .ok (.invokevirtual 292, 3) := by decide +kernel
theorem dX8_sideWeight_5 : decode cX8_sideWeight 5 = .ok (.aload_n 0, 1) := by decide +kernel
theorem dX8_sideWeight_6 : decode cX8_sideWeight 6 = .ok (.getfield 12, 3) := by decide +kernel
theorem dX8_sideWeight_9 : decode cX8_sideWeight 9 = .ok (.iload_n 1, 1) := by decide +kernel
theorem dX8_sideWeight_10 : decode cX8_sideWeight 10 = .ok (.invokevirtual 301, 3) := by decide +kernel
theorem dX8_sideWeight_13 : decode cX8_sideWeight 13 = .ok (.ireturn, 1) := by decide +kernel
theorem dX8_trips_0 : decode cX8_trips 0 = .ok (.aload_n 0, 1) := by decide +kernel
theorem dX8_trips_1 : decode cX8_trips 1 = .ok (.getfield 12, 3) := by decide +kernel
theorem dX8_trips_4 : decode cX8_trips 4 = .ok (.getfield 232, 3) := by decide +kernel
theorem dX8_trips_7 : decode cX8_trips 7 = .ok (.getfield 304, 3) := by decide +kernel
theorem dX8_trips_10 : decode cX8_trips 10 = .ok (.ireturn, 1) := by decide +kernel
set_option maxRecDepth 20000 in
theorem ggX8_tripTicks_X8_requireTrip : GoodIn wsX8_tripTicks wsX8_requireTrip := goodIn_ca (goodIn_r _ [6, 7, 8, 1, 9, 10, 11, 12, 13, 14, 15, 16, 17, 18, 19, 20, 21, 22, 23, 24, 25, 26] rfl (by decide +kernel)) (goodIn_sub (fun _ h => List.mem_cons_of_mem _ (List.mem_append_right _ h)) (by decide +kernel))
set_option maxRecDepth 20000 in
theorem gX8_tripTicks_X8_requireTrip : GoodIn wsX8_tripTicks (wsV RX8 307 RX8 yX8_requireTrip wsX8_requireTrip) := goodIn_app (goodIn_r _ [2, 3, 4, 5] rfl (by decide +kernel)) ggX8_tripTicks_X8_requireTrip
theorem dX8_tripTicks_0 : decode cX8_tripTicks 0 = .ok (.aload_n 0, 1) := by decide +kernel
theorem dX8_tripTicks_1 : decode cX8_tripTicks 1 = .ok (.iload_n 1, 1) := by decide +kernel
theorem dX8_tripTicks_2 : decode cX8_tripTicks 2 = .ok (.invokevirtual 307, 3) := by decide +kernel
theorem dX8_tripTicks_5 : decode cX8_tripTicks 5 = .ok (.aload_n 0, 1) := by decide +kernel
theorem dX8_tripTicks_6 : decode cX8_tripTicks 6 = .ok (.getfield 12, 3) := by decide +kernel
theorem dX8_tripTicks_9 : decode cX8_tripTicks 9 = .ok (.getfield 232, 3) := by decide +kernel
theorem dX8_tripTicks_12 : decode cX8_tripTicks 12 = .ok (.getfield 310, 3) := by decide +kernel
theorem dX8_tripTicks_15 : decode cX8_tripTicks 15 = .ok (.iload_n 1, 1) := by decide +kernel
theorem dX8_tripTicks_16 : decode cX8_tripTicks 16 = .ok (.iaload, 1) := by decide +kernel
theorem dX8_tripTicks_17 : decode cX8_tripTicks 17 = .ok (.ireturn, 1) := by decide +kernel
set_option maxRecDepth 20000 in
theorem ggX8_wasFetch_X8_requireTrip : GoodIn wsX8_wasFetch wsX8_requireTrip := goodIn_ca (goodIn_r _ [6, 7, 8, 1, 9, 10, 11, 12, 13, 14, 15, 16, 17, 18, 19, 20, 21, 22, 23, 24, 25, 26] rfl (by decide +kernel)) (goodIn_sub (fun _ h => List.mem_cons_of_mem _ (List.mem_append_right _ h)) (by decide +kernel))
set_option maxRecDepth 20000 in
theorem gX8_wasFetch_X8_requireTrip : GoodIn wsX8_wasFetch (wsV RX8 307 RX8 yX8_requireTrip wsX8_requireTrip) := goodIn_app (goodIn_r _ [2, 3, 4, 5] rfl (by decide +kernel)) ggX8_wasFetch_X8_requireTrip
theorem dX8_wasFetch_0 : decode cX8_wasFetch 0 = .ok (.aload_n 0, 1) := by decide +kernel
theorem dX8_wasFetch_1 : decode cX8_wasFetch 1 = .ok (.iload_n 1, 1) := by decide +kernel
theorem dX8_wasFetch_2 : decode cX8_wasFetch 2 = .ok (.invokevirtual 307, 3) := by decide +kernel
theorem dX8_wasFetch_5 : decode cX8_wasFetch 5 = .ok (.aload_n 0, 1) := by decide +kernel
theorem dX8_wasFetch_6 : decode cX8_wasFetch 6 = .ok (.getfield 12, 3) := by decide +kernel
theorem dX8_wasFetch_9 : decode cX8_wasFetch 9 = .ok (.getfield 232, 3) := by decide +kernel
theorem dX8_wasFetch_12 : decode cX8_wasFetch 12 = .ok (.getfield 313, 3) := by decide +kernel
theorem dX8_wasFetch_15 : decode cX8_wasFetch 15 = .ok (.iload_n 1, 1) := by decide +kernel
theorem dX8_wasFetch_16 : decode cX8_wasFetch 16 = .ok (.baload, 1) := by decide +kernel
theorem dX8_wasFetch_17 : decode cX8_wasFetch 17 = .ok (.ireturn, 1) := by decide +kernel
set_option maxRecDepth 20000 in
theorem ggX8_weightOfKind_X8_requireKind : GoodIn wsX8_weightOfKind wsX8_requireKind := goodIn_ca (goodIn_r _ [6, 7, 8] rfl (by decide +kernel)) (goodIn_sub (fun _ h => List.mem_cons_of_mem _ (List.mem_append_right _ h)) (by decide +kernel))
set_option maxRecDepth 20000 in
theorem gX8_weightOfKind_X8_requireKind : GoodIn wsX8_weightOfKind (wsV RX8 135 RX8 yX8_requireKind wsX8_requireKind) := goodIn_app (goodIn_r _ [2, 3, 4, 5] rfl (by decide +kernel)) ggX8_weightOfKind_X8_requireKind
theorem dX8_weightOfKind_0 : decode cX8_weightOfKind 0 = .ok (.aload_n 0, 1) := by decide +kernel
theorem dX8_weightOfKind_1 : decode cX8_weightOfKind 1 = .ok (.iload_n 1, 1) := by decide +kernel
theorem dX8_weightOfKind_2 : decode cX8_weightOfKind 2 = .ok (.invokevirtual 135, 3) := by decide +kernel
theorem dX8_weightOfKind_5 : decode cX8_weightOfKind 5 = .ok (.aload_n 0, 1) := by decide +kernel
theorem dX8_weightOfKind_6 : decode cX8_weightOfKind 6 = .ok (.getfield 12, 3) := by decide +kernel
theorem dX8_weightOfKind_9 : decode cX8_weightOfKind 9 = .ok (.getfield 144, 3) := by decide +kernel
theorem dX8_weightOfKind_12 : decode cX8_weightOfKind 12 = .ok (.getfield 148, 3) := by decide +kernel
theorem dX8_weightOfKind_15 : decode cX8_weightOfKind 15 = .ok (.iload_n 1, 1) := by decide +kernel
theorem dX8_weightOfKind_16 : decode cX8_weightOfKind 16 = .ok (.iaload, 1) := by decide +kernel
theorem dX8_weightOfKind_17 : decode cX8_weightOfKind 17 = .ok (.ireturn, 1) := by decide +kernel
set_option maxRecDepth 20000 in
theorem ggX8_stockByShelves_X8_requireKind : GoodIn wsX8_stockByShelves wsX8_requireKind := goodIn_ca (goodIn_r _ [6, 7, 8] rfl (by decide +kernel)) (goodIn_sub (fun _ h => List.mem_cons_of_mem _ (List.mem_append_right _ h)) (by decide +kernel))
set_option maxRecDepth 20000 in
theorem gX8_stockByShelves_X8_requireKind : GoodIn wsX8_stockByShelves (wsV RX8 135 RX8 yX8_requireKind wsX8_requireKind) := goodIn_app (goodIn_r _ [2, 3, 4, 5] rfl (by decide +kernel)) ggX8_stockByShelves_X8_requireKind
set_option maxRecDepth 20000 in
theorem ggX8_stockByShelves_X7_stockOf : GoodIn wsX8_stockByShelves wsX7_stockOf := goodIn_r _ [12, 13, 14, 15, 16, 10, 17, 18, 30, 31, 32, 33, 34, 35] rfl (by decide +kernel)
set_option maxRecDepth 20000 in
theorem gX8_stockByShelves_X7_stockOf_n317 : GoodIn wsX8_stockByShelves (wsX7_stockOf) := ggX8_stockByShelves_X7_stockOf
theorem dX8_stockByShelves_0 : decode cX8_stockByShelves 0 = .ok (.aload_n 0, 1) := by decide +kernel
theorem dX8_stockByShelves_1 : decode cX8_stockByShelves 1 = .ok (.iload_n 1, 1) := by decide +kernel
theorem dX8_stockByShelves_2 : decode cX8_stockByShelves 2 = .ok (.invokevirtual 135, 3) := by decide +kernel
theorem dX8_stockByShelves_5 : decode cX8_stockByShelves 5 = .ok (.aload_n 0, 1) := by decide +kernel
theorem dX8_stockByShelves_6 : decode cX8_stockByShelves 6 = .ok (.getfield 12, 3) := by decide +kernel
theorem dX8_stockByShelves_9 : decode cX8_stockByShelves 9 = .ok (.getfield 44, 3) := by decide +kernel
theorem dX8_stockByShelves_12 : decode cX8_stockByShelves 12 = .ok (.iload_n 1, 1) := by decide +kernel
theorem dX8_stockByShelves_13 : decode cX8_stockByShelves 13 = .ok (.invokevirtual 317, 3) := by decide +kernel
theorem dX8_stockByShelves_16 : decode cX8_stockByShelves 16 = .ok (.ireturn, 1) := by decide +kernel
set_option maxRecDepth 20000 in
theorem ggX8_stockByAccount_X8_requireKind : GoodIn wsX8_stockByAccount wsX8_requireKind := goodIn_ca (goodIn_r _ [6, 7, 8] rfl (by decide +kernel)) (goodIn_sub (fun _ h => List.mem_cons_of_mem _ (List.mem_append_right _ h)) (by decide +kernel))
set_option maxRecDepth 20000 in
theorem gX8_stockByAccount_X8_requireKind : GoodIn wsX8_stockByAccount (wsV RX8 135 RX8 yX8_requireKind wsX8_requireKind) := goodIn_app (goodIn_r _ [2, 3, 4, 5] rfl (by decide +kernel)) ggX8_stockByAccount_X8_requireKind
theorem dX8_stockByAccount_0 : decode cX8_stockByAccount 0 = .ok (.aload_n 0, 1) := by decide +kernel
theorem dX8_stockByAccount_1 : decode cX8_stockByAccount 1 = .ok (.iload_n 1, 1) := by decide +kernel
theorem dX8_stockByAccount_2 : decode cX8_stockByAccount 2 = .ok (.invokevirtual 135, 3) := by decide +kernel
theorem dX8_stockByAccount_5 : decode cX8_stockByAccount 5 = .ok (.aload_n 0, 1) := by decide +kernel
theorem dX8_stockByAccount_6 : decode cX8_stockByAccount 6 = .ok (.getfield 12, 3) := by decide +kernel
theorem dX8_stockByAccount_9 : decode cX8_stockByAccount 9 = .ok (.getfield 144, 3) := by decide +kernel
theorem dX8_stockByAccount_12 : decode cX8_stockByAccount 12 = .ok (.getfield 155, 3) := by decide +kernel
theorem dX8_stockByAccount_15 : decode cX8_stockByAccount 15 = .ok (.iload_n 1, 1) := by decide +kernel
theorem dX8_stockByAccount_16 : decode cX8_stockByAccount 16 = .ok (.iaload, 1) := by decide +kernel
theorem dX8_stockByAccount_17 : decode cX8_stockByAccount 17 = .ok (.aload_n 0, 1) := by decide +kernel
theorem dX8_stockByAccount_18 : decode cX8_stockByAccount 18 = .ok (.getfield 12, 3) := by decide +kernel
theorem dX8_stockByAccount_21 : decode cX8_stockByAccount 21 = .ok (.getfield 144, 3) := by decide +kernel
theorem dX8_stockByAccount_24 : decode cX8_stockByAccount 24 = .ok (.getfield 167, 3) := by decide +kernel
theorem dX8_stockByAccount_27 : decode cX8_stockByAccount 27 = .ok (.iload_n 1, 1) := by decide +kernel
theorem dX8_stockByAccount_28 : decode cX8_stockByAccount 28 = .ok (.iaload, 1) := by decide +kernel
theorem dX8_stockByAccount_29 : decode cX8_stockByAccount 29 = .ok (.isub, 1) := by decide +kernel
theorem dX8_stockByAccount_30 : decode cX8_stockByAccount 30 = .ok (.ireturn, 1) := by decide +kernel
set_option maxRecDepth 20000 in
theorem ggX8_shelvesWith_X8_requireKind : GoodIn wsX8_shelvesWith wsX8_requireKind := goodIn_ca (goodIn_r _ [6, 7, 8] rfl (by decide +kernel)) (goodIn_sub (fun _ h => List.mem_cons_of_mem _ (List.mem_append_right _ h)) (by decide +kernel))
set_option maxRecDepth 20000 in
theorem gX8_shelvesWith_X8_requireKind : GoodIn wsX8_shelvesWith (wsV RX8 135 RX8 yX8_requireKind wsX8_requireKind) := goodIn_app (goodIn_r _ [2, 3, 4, 5] rfl (by decide +kernel)) ggX8_shelvesWith_X8_requireKind
set_option maxRecDepth 20000 in
theorem ggX8_shelvesWith_X7_countHolding : GoodIn wsX8_shelvesWith wsX7_countHolding := goodIn_r _ [12, 13, 14, 15, 16, 10, 17, 18, 30, 31, 32, 33, 34, 35] rfl (by decide +kernel)
set_option maxRecDepth 20000 in
theorem gX8_shelvesWith_X7_countHolding_n320 : GoodIn wsX8_shelvesWith (wsX7_countHolding) := ggX8_shelvesWith_X7_countHolding
theorem dX8_shelvesWith_0 : decode cX8_shelvesWith 0 = .ok (.aload_n 0, 1) := by decide +kernel
theorem dX8_shelvesWith_1 : decode cX8_shelvesWith 1 = .ok (.iload_n 1, 1) := by decide +kernel
theorem dX8_shelvesWith_2 : decode cX8_shelvesWith 2 = .ok (.invokevirtual 135, 3) := by decide +kernel
theorem dX8_shelvesWith_5 : decode cX8_shelvesWith 5 = .ok (.aload_n 0, 1) := by decide +kernel
theorem dX8_shelvesWith_6 : decode cX8_shelvesWith 6 = .ok (.getfield 12, 3) := by decide +kernel
theorem dX8_shelvesWith_9 : decode cX8_shelvesWith 9 = .ok (.getfield 44, 3) := by decide +kernel
theorem dX8_shelvesWith_12 : decode cX8_shelvesWith 12 = .ok (.iload_n 1, 1) := by decide +kernel
theorem dX8_shelvesWith_13 : decode cX8_shelvesWith 13 = .ok (.invokevirtual 320, 3) := by decide +kernel
theorem dX8_shelvesWith_16 : decode cX8_shelvesWith 16 = .ok (.ireturn, 1) := by decide +kernel
set_option maxRecDepth 20000 in
theorem ggX8_leastOf_X8_requireKind : GoodIn wsX8_leastOf wsX8_requireKind := goodIn_ca (goodIn_r _ [6, 7, 8] rfl (by decide +kernel)) (goodIn_sub (fun _ h => List.mem_cons_of_mem _ (List.mem_append_right _ h)) (by decide +kernel))
set_option maxRecDepth 20000 in
theorem gX8_leastOf_X8_requireKind : GoodIn wsX8_leastOf (wsV RX8 135 RX8 yX8_requireKind wsX8_requireKind) := goodIn_app (goodIn_r _ [2, 3, 4, 5] rfl (by decide +kernel)) ggX8_leastOf_X8_requireKind
theorem dX8_leastOf_0 : decode cX8_leastOf 0 = .ok (.aload_n 0, 1) := by decide +kernel
theorem dX8_leastOf_1 : decode cX8_leastOf 1 = .ok (.iload_n 1, 1) := by decide +kernel
theorem dX8_leastOf_2 : decode cX8_leastOf 2 = .ok (.invokevirtual 135, 3) := by decide +kernel
theorem dX8_leastOf_5 : decode cX8_leastOf 5 = .ok (.aload_n 0, 1) := by decide +kernel
theorem dX8_leastOf_6 : decode cX8_leastOf 6 = .ok (.getfield 12, 3) := by decide +kernel
theorem dX8_leastOf_9 : decode cX8_leastOf 9 = .ok (.getfield 144, 3) := by decide +kernel
theorem dX8_leastOf_12 : decode cX8_leastOf 12 = .ok (.getfield 221, 3) := by decide +kernel
theorem dX8_leastOf_15 : decode cX8_leastOf 15 = .ok (.iload_n 1, 1) := by decide +kernel
theorem dX8_leastOf_16 : decode cX8_leastOf 16 = .ok (.iaload, 1) := by decide +kernel
theorem dX8_leastOf_17 : decode cX8_leastOf 17 = .ok (.ireturn, 1) := by decide +kernel
set_option maxRecDepth 20000 in
theorem ggX8_missingOf_X8_requireKind : GoodIn wsX8_missingOf wsX8_requireKind := goodIn_ca (goodIn_r _ [6, 7, 8] rfl (by decide +kernel)) (goodIn_sub (fun _ h => List.mem_cons_of_mem _ (List.mem_append_right _ h)) (by decide +kernel))
set_option maxRecDepth 20000 in
theorem gX8_missingOf_X8_requireKind : GoodIn wsX8_missingOf (wsV RX8 135 RX8 yX8_requireKind wsX8_requireKind) := goodIn_app (goodIn_r _ [2, 3, 4, 5] rfl (by decide +kernel)) ggX8_missingOf_X8_requireKind
set_option maxRecDepth 20000 in
theorem ggX8_missingOf_X6_missing : GoodIn wsX8_missingOf wsX6_missing := goodIn_r _ [12, 13, 14, 15, 16, 17, 18, 19, 20, 21, 22, 23, 24, 25, 26, 27, 28, 35, 36, 37, 38, 39, 40, 41, 42, 43, 44, 45, 46, 47, 48, 49] rfl (by decide +kernel)
set_option maxRecDepth 20000 in
theorem gX8_missingOf_X6_missing_n323 : GoodIn wsX8_missingOf (wsX6_missing) := ggX8_missingOf_X6_missing
theorem dX8_missingOf_0 : decode cX8_missingOf 0 = .ok (.aload_n 0, 1) := by decide +kernel
theorem dX8_missingOf_1 : decode cX8_missingOf 1 = .ok (.iload_n 1, 1) := by decide +kernel
theorem dX8_missingOf_2 : decode cX8_missingOf 2 = .ok (.invokevirtual 135, 3) := by decide +kernel
theorem dX8_missingOf_5 : decode cX8_missingOf 5 = .ok (.aload_n 0, 1) := by decide +kernel
theorem dX8_missingOf_6 : decode cX8_missingOf 6 = .ok (.getfield 12, 3) := by decide +kernel
theorem dX8_missingOf_9 : decode cX8_missingOf 9 = .ok (.iload_n 1, 1) := by decide +kernel
theorem dX8_missingOf_10 : decode cX8_missingOf 10 = .ok (.invokevirtual 323, 3) := by decide +kernel
theorem dX8_missingOf_13 : decode cX8_missingOf 13 = .ok (.ireturn, 1) := by decide +kernel
set_option maxRecDepth 20000 in
theorem ggX8_shortKinds_X6_missing : GoodIn wsX8_shortKinds wsX6_missing := goodIn_r _ [5, 6, 7, 8, 9, 10, 11, 12, 13, 14, 15, 16, 17, 18, 19, 20, 21, 28, 29, 30, 31, 32, 33, 34, 35, 36, 37, 38, 39, 40, 41, 42] rfl (by decide +kernel)
set_option maxRecDepth 20000 in
theorem gX8_shortKinds_X6_missing_n323 : GoodIn wsX8_shortKinds (wsX6_missing) := ggX8_shortKinds_X6_missing
theorem dX8_shortKinds_0 : decode cX8_shortKinds 0 = .ok (.iconst 0, 1) := by decide +kernel
theorem dX8_shortKinds_1 : decode cX8_shortKinds 1 = .ok (.istore_n 1, 1) := by decide +kernel
theorem dX8_shortKinds_2 : decode cX8_shortKinds 2 = .ok (.iconst 0, 1) := by decide +kernel
theorem dX8_shortKinds_3 : decode cX8_shortKinds 3 = .ok (.istore_n 2, 1) := by decide +kernel
theorem dX8_shortKinds_4 : decode cX8_shortKinds 4 = .ok (.iload_n 2, 1) := by decide +kernel
theorem dX8_shortKinds_5 : decode cX8_shortKinds 5 = .ok (.bipush 10, 2) := by decide +kernel
theorem dX8_shortKinds_7 : decode cX8_shortKinds 7 = .ok (.if_icmp .ge 26, 3) := by decide +kernel
theorem dX8_shortKinds_10 : decode cX8_shortKinds 10 = .ok (.aload_n 0, 1) := by decide +kernel
theorem dX8_shortKinds_11 : decode cX8_shortKinds 11 = .ok (.getfield 12, 3) := by decide +kernel
theorem dX8_shortKinds_14 : decode cX8_shortKinds 14 = .ok (.iload_n 2, 1) := by decide +kernel
theorem dX8_shortKinds_15 : decode cX8_shortKinds 15 = .ok (.invokevirtual 323, 3) := by decide +kernel
theorem dX8_shortKinds_18 : decode cX8_shortKinds 18 = .ok (.ifCond .le 9, 3) := by decide +kernel
theorem dX8_shortKinds_21 : decode cX8_shortKinds 21 = .ok (.iload_n 1, 1) := by decide +kernel
theorem dX8_shortKinds_22 : decode cX8_shortKinds 22 = .ok (.iconst 1, 1) := by decide +kernel
theorem dX8_shortKinds_23 : decode cX8_shortKinds 23 = .ok (.iload_n 2, 1) := by decide +kernel
theorem dX8_shortKinds_24 : decode cX8_shortKinds 24 = .ok (.ishl, 1) := by decide +kernel
theorem dX8_shortKinds_25 : decode cX8_shortKinds 25 = .ok (.ior, 1) := by decide +kernel
theorem dX8_shortKinds_26 : decode cX8_shortKinds 26 = .ok (.istore_n 1, 1) := by decide +kernel
theorem dX8_shortKinds_27 : decode cX8_shortKinds 27 = .ok (.iinc 2 1, 3) := by decide +kernel
theorem dX8_shortKinds_30 : decode cX8_shortKinds 30 = .ok (.goto (-26), 3) := by decide +kernel
theorem dX8_shortKinds_33 : decode cX8_shortKinds 33 = .ok (.iload_n 1, 1) := by decide +kernel
theorem dX8_shortKinds_34 : decode cX8_shortKinds 34 = .ok (.ireturn, 1) := by decide +kernel
theorem dX8_orders_0 : decode cX8_orders 0 = .ok (.aload_n 0, 1) := by decide +kernel
theorem dX8_orders_1 : decode cX8_orders 1 = .ok (.getfield 12, 3) := by decide +kernel
theorem dX8_orders_4 : decode cX8_orders 4 = .ok (.getfield 179, 3) := by decide +kernel
theorem dX8_orders_7 : decode cX8_orders 7 = .ok (.getfield 183, 3) := by decide +kernel
theorem dX8_orders_10 : decode cX8_orders 10 = .ok (.ireturn, 1) := by decide +kernel
set_option maxRecDepth 20000 in
theorem ggX8_wanted_X8_requireOrder : GoodIn wsX8_wanted wsX8_requireOrder := goodIn_ca (goodIn_r _ [6, 7, 8, 1, 18, 19, 20, 21, 22, 23, 24, 25, 26, 27, 28, 29, 30] rfl (by decide +kernel)) (goodIn_sub (fun _ h => List.mem_cons_of_mem _ (List.mem_append_right _ h)) (by decide +kernel))
set_option maxRecDepth 20000 in
theorem gX8_wanted_X8_requireOrder : GoodIn wsX8_wanted (wsV RX8 203 RX8 yX8_requireOrder wsX8_requireOrder) := goodIn_app (goodIn_r _ [2, 3, 4, 5] rfl (by decide +kernel)) ggX8_wanted_X8_requireOrder
set_option maxRecDepth 20000 in
theorem ggX8_wanted_X8_requireKind : GoodIn wsX8_wanted wsX8_requireKind := goodIn_ca (goodIn_r _ [12, 7, 8] rfl (by decide +kernel)) (goodIn_sub (fun _ h => List.mem_cons_of_mem _ (List.mem_append_right _ h)) (by decide +kernel))
set_option maxRecDepth 20000 in
theorem gX8_wanted_X8_requireKind : GoodIn wsX8_wanted (wsV RX8 135 RX8 yX8_requireKind wsX8_requireKind) := goodIn_app (goodIn_r _ [9, 10, 11, 5] rfl (by decide +kernel)) ggX8_wanted_X8_requireKind
set_option maxRecDepth 20000 in
theorem ggX8_wanted_X3_wantedOf : GoodIn wsX8_wanted wsX3_wantedOf := goodIn_r _ [16, 17, 29, 30] rfl (by decide +kernel)
set_option maxRecDepth 20000 in
theorem gX8_wanted_X3_wantedOf_n326 : GoodIn wsX8_wanted (wsX3_wantedOf) := ggX8_wanted_X3_wantedOf
theorem dX8_wanted_0 : decode cX8_wanted 0 = .ok (.aload_n 0, 1) := by decide +kernel
theorem dX8_wanted_1 : decode cX8_wanted 1 = .ok (.iload_n 1, 1) := by decide +kernel
theorem dX8_wanted_2 : decode cX8_wanted 2 = .ok (.invokevirtual 203, 3) := by decide +kernel
theorem dX8_wanted_5 : decode cX8_wanted 5 = .ok (.aload_n 0, 1) := by decide +kernel
theorem dX8_wanted_6 : decode cX8_wanted 6 = .ok (.iload_n 2, 1) := by decide +kernel
theorem dX8_wanted_7 : decode cX8_wanted 7 = .ok (.invokevirtual 135, 3) := by decide +kernel
theorem dX8_wanted_10 : decode cX8_wanted 10 = .ok (.aload_n 0, 1) := by decide +kernel
theorem dX8_wanted_11 : decode cX8_wanted 11 = .ok (.getfield 12, 3) := by decide +kernel
theorem dX8_wanted_14 : decode cX8_wanted 14 = .ok (.getfield 179, 3) := by decide +kernel
theorem dX8_wanted_17 : decode cX8_wanted 17 = .ok (.iload_n 1, 1) := by decide +kernel
theorem dX8_wanted_18 : decode cX8_wanted 18 = .ok (.iload_n 2, 1) := by decide +kernel
theorem dX8_wanted_19 : decode cX8_wanted 19 = .ok (.invokevirtual 326, 3) := by decide +kernel
theorem dX8_wanted_22 : decode cX8_wanted 22 = .ok (.ireturn, 1) := by decide +kernel
set_option maxRecDepth 20000 in
theorem ggX8_thingsOf_X8_requireOrder : GoodIn wsX8_thingsOf wsX8_requireOrder := goodIn_ca (goodIn_r _ [6, 7, 8, 1, 18, 19, 20, 21, 22, 23, 24, 25, 26, 27, 28, 29, 30] rfl (by decide +kernel)) (goodIn_sub (fun _ h => List.mem_cons_of_mem _ (List.mem_append_right _ h)) (by decide +kernel))
set_option maxRecDepth 20000 in
theorem gX8_thingsOf_X8_requireOrder : GoodIn wsX8_thingsOf (wsV RX8 203 RX8 yX8_requireOrder wsX8_requireOrder) := goodIn_app (goodIn_r _ [2, 3, 4, 5] rfl (by decide +kernel)) ggX8_thingsOf_X8_requireOrder
set_option maxRecDepth 20000 in
theorem ggX8_thingsOf_X3_sumOf : GoodIn wsX8_thingsOf wsX3_sumOf := goodIn_r _ [12, 13, 14, 15, 10, 16, 17, 29, 30] rfl (by decide +kernel)
set_option maxRecDepth 20000 in
theorem gX8_thingsOf_X3_sumOf_n206 : GoodIn wsX8_thingsOf (wsX3_sumOf) := ggX8_thingsOf_X3_sumOf
theorem dX8_thingsOf_0 : decode cX8_thingsOf 0 = .ok (.aload_n 0, 1) := by decide +kernel
theorem dX8_thingsOf_1 : decode cX8_thingsOf 1 = .ok (.iload_n 1, 1) := by decide +kernel
theorem dX8_thingsOf_2 : decode cX8_thingsOf 2 = .ok (.invokevirtual 203, 3) := by decide +kernel
theorem dX8_thingsOf_5 : decode cX8_thingsOf 5 = .ok (.aload_n 0, 1) := by decide +kernel
theorem dX8_thingsOf_6 : decode cX8_thingsOf 6 = .ok (.getfield 12, 3) := by decide +kernel
theorem dX8_thingsOf_9 : decode cX8_thingsOf 9 = .ok (.getfield 179, 3) := by decide +kernel
theorem dX8_thingsOf_12 : decode cX8_thingsOf 12 = .ok (.iload_n 1, 1) := by decide +kernel
theorem dX8_thingsOf_13 : decode cX8_thingsOf 13 = .ok (.invokevirtual 206, 3) := by decide +kernel
theorem dX8_thingsOf_16 : decode cX8_thingsOf 16 = .ok (.ireturn, 1) := by decide +kernel
set_option maxRecDepth 20000 in
theorem ggX8_canServe_X8_requireOrder : GoodIn wsX8_canServe wsX8_requireOrder := goodIn_ca (goodIn_r _ [6, 7, 8, 1, 29, 30, 31, 32, 33, 34, 35, 36, 37, 38, 39, 40, 41] rfl (by decide +kernel)) (goodIn_sub (fun _ h => List.mem_cons_of_mem _ (List.mem_append_right _ h)) (by decide +kernel))
set_option maxRecDepth 20000 in
theorem gX8_canServe_X8_requireOrder : GoodIn wsX8_canServe (wsV RX8 203 RX8 yX8_requireOrder wsX8_requireOrder) := goodIn_app (goodIn_r _ [2, 3, 4, 5] rfl (by decide +kernel)) ggX8_canServe_X8_requireOrder
set_option maxRecDepth 20000 in
theorem ggX8_canServe_X6_isServable : GoodIn wsX8_canServe wsX6_isServable := goodIn_r _ [12, 13, 14, 15, 16, 10, 17, 18, 19, 20, 21, 22, 23, 24, 25, 26, 27, 28, 35, 36, 37, 38, 39, 42, 43, 44, 45, 46, 47, 40, 41] rfl (by decide +kernel)
set_option maxRecDepth 20000 in
theorem gX8_canServe_X6_isServable_n329 : GoodIn wsX8_canServe (wsX6_isServable) := ggX8_canServe_X6_isServable
theorem dX8_canServe_0 : decode cX8_canServe 0 = .ok (.aload_n 0, 1) := by decide +kernel
theorem dX8_canServe_1 : decode cX8_canServe 1 = .ok (.iload_n 1, 1) := by decide +kernel
theorem dX8_canServe_2 : decode cX8_canServe 2 = .ok (.invokevirtual 203, 3) := by decide +kernel
theorem dX8_canServe_5 : decode cX8_canServe 5 = .ok (.aload_n 0, 1) := by decide +kernel
theorem dX8_canServe_6 : decode cX8_canServe 6 = .ok (.getfield 12, 3) := by decide +kernel
theorem dX8_canServe_9 : decode cX8_canServe 9 = .ok (.iload_n 1, 1) := by decide +kernel
theorem dX8_canServe_10 : decode cX8_canServe 10 = .ok (.invokevirtual 329, 3) := by decide +kernel
theorem dX8_canServe_13 : decode cX8_canServe 13 = .ok (.ireturn, 1) := by decide +kernel
set_option maxRecDepth 20000 in
theorem ggX8_fewestByTrying_X8_requireOrder : GoodIn wsX8_fewestByTrying wsX8_requireOrder := goodIn_ca (goodIn_r _ [6, 7, 8, 1, 50, 51, 52, 53, 54, 55, 56, 57, 58, 59, 60, 61, 62] rfl (by decide +kernel)) (goodIn_sub (fun _ h => List.mem_cons_of_mem _ (List.mem_append_left _ (List.mem_append_right _ h))) (by decide +kernel))
set_option maxRecDepth 20000 in
theorem gX8_fewestByTrying_X8_requireOrder : GoodIn wsX8_fewestByTrying (wsV RX8 203 RX8 yX8_requireOrder wsX8_requireOrder) := goodIn_app (goodIn_r _ [2, 3, 4, 5] rfl (by decide +kernel)) ggX8_fewestByTrying_X8_requireOrder
set_option maxRecDepth 20000 in
theorem ggX8_fewestByTrying_X8_requireServable : GoodIn wsX8_fewestByTrying wsX8_requireServable := goodIn_ca (goodIn_r _ [12, 13, 14, 1, 15, 16, 17, 18, 19, 20, 21, 22, 23, 24, 25, 26, 27, 28, 29, 30, 31, 32, 33, 34, 50, 51, 52, 53, 54, 55, 56, 57, 58, 59, 60, 63, 64, 65, 66, 67, 68, 61, 62] rfl (by decide +kernel)) (goodIn_sub (fun _ h => List.mem_cons_of_mem _ (List.mem_append_right _ h)) (by decide +kernel))
set_option maxRecDepth 20000 in
theorem gX8_fewestByTrying_X8_requireServable : GoodIn wsX8_fewestByTrying (wsV RX8 210 RX8 yX8_requireServable wsX8_requireServable) := goodIn_app (goodIn_r _ [9, 10, 11, 5] rfl (by decide +kernel)) ggX8_fewestByTrying_X8_requireServable
set_option maxRecDepth 20000 in
theorem ggX8_fewestByTrying_X6_choice : GoodIn wsX8_fewestByTrying wsX6_choice := goodIn_r _ [37, 38, 39, 40, 16, 41, 19, 24, 25, 26, 27, 28, 29, 30, 31, 32, 33, 34, 42, 43, 44, 45, 46, 47, 48, 20, 21, 22, 23, 56, 57, 58, 59, 60, 63, 64, 65, 66, 67, 68, 61, 62] rfl (by decide +kernel)
set_option maxRecDepth 20000 in
theorem gX8_fewestByTrying_X6_choice_n332 : GoodIn wsX8_fewestByTrying (wsX6_choice) := ggX8_fewestByTrying_X6_choice
set_option maxRecDepth 20000 in
theorem ggX8_fewestByTrying_J6_bitCount_0f7a4 : GoodIn wsX8_fewestByTrying wsJ6_bitCount_0f7a4 := goodIn_r _ [45, 46, 47, 48] rfl (by decide +kernel)
set_option maxRecDepth 20000 in
theorem gX8_fewestByTrying_J6_bitCount_0f7a4 : GoodIn wsX8_fewestByTrying (va_wsS RX8 335 yJ6_bitCount_0f7a4 wsJ6_bitCount_0f7a4) := goodIn_app (goodIn_r _ [49, 43, 44] rfl (by decide +kernel)) ggX8_fewestByTrying_J6_bitCount_0f7a4
theorem dX8_fewestByTrying_0 : decode cX8_fewestByTrying 0 = .ok (.aload_n 0, 1) := by decide +kernel
theorem dX8_fewestByTrying_1 : decode cX8_fewestByTrying 1 = .ok (.iload_n 1, 1) := by decide +kernel
theorem dX8_fewestByTrying_2 : decode cX8_fewestByTrying 2 = .ok (.invokevirtual 203, 3) := by decide +kernel
theorem dX8_fewestByTrying_5 : decode cX8_fewestByTrying 5 = .ok (.aload_n 0, 1) := by decide +kernel
theorem dX8_fewestByTrying_6 : decode cX8_fewestByTrying 6 = .ok (.iload_n 1, 1) := by decide +kernel
theorem dX8_fewestByTrying_7 : decode cX8_fewestByTrying 7 = .ok (.invokevirtual 210, 3) := by decide +kernel
theorem dX8_fewestByTrying_10 : decode cX8_fewestByTrying 10 = .ok (.aload_n 0, 1) := by decide +kernel
theorem dX8_fewestByTrying_11 : decode cX8_fewestByTrying 11 = .ok (.getfield 12, 3) := by decide +kernel
theorem dX8_fewestByTrying_14 : decode cX8_fewestByTrying 14 = .ok (.iload_n 1, 1) := by decide +kernel
theorem dX8_fewestByTrying_15 : decode cX8_fewestByTrying 15 = .ok (.invokevirtual 332, 3) := by decide +kernel
theorem dX8_fewestByTrying_18 : decode cX8_fewestByTrying 18 = .ok (.invokestatic 335, 3) := by decide +kernel
theorem dX8_fewestByTrying_21 : decode cX8_fewestByTrying 21 = .ok (.ireturn, 1) := by decide +kernel
set_option maxRecDepth 20000 in
theorem ggX8_fewestByGoing_X8_requireOrder : GoodIn wsX8_fewestByGoing wsX8_requireOrder := goodIn_ca (goodIn_r _ [5, 6, 7, 8, 53, 54, 55, 56, 57, 58, 59, 60, 61, 62, 63, 64, 65] rfl (by decide +kernel)) (goodIn_sub (fun _ h => List.mem_cons_of_mem _ (List.mem_append_left _ (List.mem_append_right _ h))) (by decide +kernel))
set_option maxRecDepth 20000 in
theorem gX8_fewestByGoing_X8_requireOrder : GoodIn wsX8_fewestByGoing (wsV RX8 203 RX8 yX8_requireOrder wsX8_requireOrder) := goodIn_app (goodIn_r _ [1, 2, 3, 4] rfl (by decide +kernel)) ggX8_fewestByGoing_X8_requireOrder
set_option maxRecDepth 20000 in
theorem ggX8_fewestByGoing_X8_requireServable : GoodIn wsX8_fewestByGoing wsX8_requireServable := goodIn_ca (goodIn_r _ [12, 13, 14, 8, 15, 16, 17, 18, 19, 20, 21, 22, 23, 24, 25, 26, 27, 28, 29, 30, 31, 32, 33, 34, 53, 54, 55, 56, 57, 58, 59, 60, 61, 62, 63, 66, 67, 68, 69, 70, 71, 64, 65] rfl (by decide +kernel)) (goodIn_sub (fun _ h => List.mem_cons_of_mem _ (List.mem_append_right _ h)) (by decide +kernel))
set_option maxRecDepth 20000 in
theorem gX8_fewestByGoing_X8_requireServable : GoodIn wsX8_fewestByGoing (wsV RX8 210 RX8 yX8_requireServable wsX8_requireServable) := goodIn_app (goodIn_r _ [9, 10, 11, 4] rfl (by decide +kernel)) ggX8_fewestByGoing_X8_requireServable
set_option maxRecDepth 20000 in
theorem ggX8_fewestByGoing_X8_fewestFound : GoodIn wsX8_fewestByGoing wsX8_fewestFound := goodIn_r _ [38, 39, 8, 25, 26, 27, 28, 29, 40, 41, 4, 42, 43, 44, 45, 46, 31, 47, 48, 49, 30, 32, 33, 34, 50, 51, 52, 53, 54, 55, 56, 57, 58, 59, 60, 61, 62, 63, 64, 65, 66, 67, 68, 69, 70, 71] rfl (by decide +kernel)
set_option maxRecDepth 20000 in
theorem gX8_fewestByGoing_X8_fewestFound : GoodIn wsX8_fewestByGoing (wsV RX8 340 RX8 yX8_fewestFound wsX8_fewestFound) := goodIn_app (goodIn_r _ [35, 36, 37, 4] rfl (by decide +kernel)) ggX8_fewestByGoing_X8_fewestFound
theorem dX8_fewestByGoing_0 : decode cX8_fewestByGoing 0 = .ok (.aload_n 0, 1) := by decide +kernel
theorem dX8_fewestByGoing_1 : decode cX8_fewestByGoing 1 = .ok (.iload_n 1, 1) := by decide +kernel
theorem dX8_fewestByGoing_2 : decode cX8_fewestByGoing 2 = .ok (.invokevirtual 203, 3) := by decide +kernel
theorem dX8_fewestByGoing_5 : decode cX8_fewestByGoing 5 = .ok (.aload_n 0, 1) := by decide +kernel
theorem dX8_fewestByGoing_6 : decode cX8_fewestByGoing 6 = .ok (.iload_n 1, 1) := by decide +kernel
theorem dX8_fewestByGoing_7 : decode cX8_fewestByGoing 7 = .ok (.invokevirtual 210, 3) := by decide +kernel
theorem dX8_fewestByGoing_10 : decode cX8_fewestByGoing 10 = .ok (.aload_n 0, 1) := by decide +kernel
theorem dX8_fewestByGoing_11 : decode cX8_fewestByGoing 11 = .ok (.iload_n 1, 1) := by decide +kernel
theorem dX8_fewestByGoing_12 : decode cX8_fewestByGoing 12 = .ok (.invokevirtual 340, 3) := by decide +kernel
theorem dX8_fewestByGoing_15 : decode cX8_fewestByGoing 15 = .ok (.ireturn, 1) := by decide +kernel
set_option maxRecDepth 20000 in
theorem ggX8_choiceFor_X8_requireOrder : GoodIn wsX8_choiceFor wsX8_requireOrder := goodIn_ca (goodIn_r _ [6, 7, 8, 1, 49, 50, 51, 52, 53, 54, 55, 56, 57, 58, 59, 60, 61] rfl (by decide +kernel)) (goodIn_sub (fun _ h => List.mem_cons_of_mem _ (List.mem_append_left _ (List.mem_append_right _ h))) (by decide +kernel))
set_option maxRecDepth 20000 in
theorem gX8_choiceFor_X8_requireOrder : GoodIn wsX8_choiceFor (wsV RX8 203 RX8 yX8_requireOrder wsX8_requireOrder) := goodIn_app (goodIn_r _ [2, 3, 4, 5] rfl (by decide +kernel)) ggX8_choiceFor_X8_requireOrder
set_option maxRecDepth 20000 in
theorem ggX8_choiceFor_X8_requireServable : GoodIn wsX8_choiceFor wsX8_requireServable := goodIn_ca (goodIn_r _ [12, 13, 14, 1, 15, 16, 17, 18, 19, 20, 21, 22, 23, 24, 25, 26, 27, 28, 29, 30, 31, 32, 33, 34, 49, 50, 51, 52, 53, 54, 55, 56, 57, 58, 59, 62, 63, 64, 65, 66, 67, 60, 61] rfl (by decide +kernel)) (goodIn_sub (fun _ h => List.mem_cons_of_mem _ (List.mem_append_right _ h)) (by decide +kernel))
set_option maxRecDepth 20000 in
theorem gX8_choiceFor_X8_requireServable : GoodIn wsX8_choiceFor (wsV RX8 210 RX8 yX8_requireServable wsX8_requireServable) := goodIn_app (goodIn_r _ [9, 10, 11, 5] rfl (by decide +kernel)) ggX8_choiceFor_X8_requireServable
set_option maxRecDepth 20000 in
theorem ggX8_choiceFor_X6_choice : GoodIn wsX8_choiceFor wsX6_choice := goodIn_r _ [37, 38, 39, 40, 16, 41, 19, 24, 25, 26, 27, 28, 29, 30, 31, 32, 33, 34, 42, 43, 44, 45, 46, 47, 48, 20, 21, 22, 23, 55, 56, 57, 58, 59, 62, 63, 64, 65, 66, 67, 60, 61] rfl (by decide +kernel)
set_option maxRecDepth 20000 in
theorem gX8_choiceFor_X6_choice_n332 : GoodIn wsX8_choiceFor (wsX6_choice) := ggX8_choiceFor_X6_choice
theorem dX8_choiceFor_0 : decode cX8_choiceFor 0 = .ok (.aload_n 0, 1) := by decide +kernel
theorem dX8_choiceFor_1 : decode cX8_choiceFor 1 = .ok (.iload_n 1, 1) := by decide +kernel
theorem dX8_choiceFor_2 : decode cX8_choiceFor 2 = .ok (.invokevirtual 203, 3) := by decide +kernel
theorem dX8_choiceFor_5 : decode cX8_choiceFor 5 = .ok (.aload_n 0, 1) := by decide +kernel
theorem dX8_choiceFor_6 : decode cX8_choiceFor 6 = .ok (.iload_n 1, 1) := by decide +kernel
theorem dX8_choiceFor_7 : decode cX8_choiceFor 7 = .ok (.invokevirtual 210, 3) := by decide +kernel
theorem dX8_choiceFor_10 : decode cX8_choiceFor 10 = .ok (.aload_n 0, 1) := by decide +kernel
theorem dX8_choiceFor_11 : decode cX8_choiceFor 11 = .ok (.getfield 12, 3) := by decide +kernel
theorem dX8_choiceFor_14 : decode cX8_choiceFor 14 = .ok (.iload_n 1, 1) := by decide +kernel
theorem dX8_choiceFor_15 : decode cX8_choiceFor 15 = .ok (.invokevirtual 332, 3) := by decide +kernel
theorem dX8_choiceFor_18 : decode cX8_choiceFor 18 = .ok (.ireturn, 1) := by decide +kernel
set_option maxRecDepth 20000 in
theorem ggX8_ticksByServing_X8_requireOrder : GoodIn wsX8_ticksByServing wsX8_requireOrder := goodIn_ca (goodIn_r _ [7, 8, 9, 2, 156, 157, 158, 159, 160, 161, 162, 163, 164, 165, 166, 167, 168] rfl (by decide +kernel)) (goodIn_sub (fun _ h => List.mem_cons_of_mem _ (List.mem_append_left _ (List.mem_append_right _ h))) (by decide +kernel))
set_option maxRecDepth 20000 in
theorem gX8_ticksByServing_X8_requireOrder : GoodIn wsX8_ticksByServing (wsV RX8 203 RX8 yX8_requireOrder wsX8_requireOrder) := goodIn_app (goodIn_r _ [3, 4, 5, 6] rfl (by decide +kernel)) ggX8_ticksByServing_X8_requireOrder
set_option maxRecDepth 20000 in
theorem ggX8_ticksByServing_X8_requireEmptyWindow : GoodIn wsX8_ticksByServing wsX8_requireEmptyWindow := goodIn_ca (goodIn_r _ [13, 14, 15, 2, 156, 157, 158, 159, 160, 161, 162, 163, 164, 165, 166, 169, 170, 171, 172, 173, 174] rfl (by decide +kernel)) (goodIn_sub (fun _ h => List.mem_cons_of_mem _ (List.mem_append_right _ h)) (by decide +kernel))
set_option maxRecDepth 20000 in
theorem gX8_ticksByServing_X8_requireEmptyWindow : GoodIn wsX8_ticksByServing (wsV RX8 61 RX8 yX8_requireEmptyWindow wsX8_requireEmptyWindow) := goodIn_app (goodIn_r _ [10, 11, 12, 6] rfl (by decide +kernel)) ggX8_ticksByServing_X8_requireEmptyWindow
set_option maxRecDepth 20000 in
theorem ggX8_ticksByServing_X8_requireServable : GoodIn wsX8_ticksByServing wsX8_requireServable := goodIn_ca (goodIn_r _ [19, 14, 15, 2, 20, 21, 22, 23, 24, 25, 26, 27, 28, 29, 30, 31, 32, 33, 34, 35, 36, 37, 38, 39, 156, 157, 158, 159, 160, 161, 162, 163, 164, 165, 166, 169, 170, 171, 172, 173, 174, 167, 168] rfl (by decide +kernel)) (goodIn_sub (fun _ h => List.mem_cons_of_mem _ (List.mem_append_right _ h)) (by decide +kernel))
set_option maxRecDepth 20000 in
theorem gX8_ticksByServing_X8_requireServable : GoodIn wsX8_ticksByServing (wsV RX8 210 RX8 yX8_requireServable wsX8_requireServable) := goodIn_app (goodIn_r _ [16, 17, 18, 6] rfl (by decide +kernel)) ggX8_ticksByServing_X8_requireServable
set_option maxRecDepth 20000 in
theorem ggX8_ticksByServing_X6_copyFrom : GoodIn wsX8_ticksByServing wsX6_copyFrom := goodIn_r _ [42, 24, 43, 44, 29, 45, 46, 36, 47, 48, 49, 50, 51, 52, 53, 54, 55, 56, 57, 39, 58, 59, 60, 61, 62, 63, 64, 65, 66, 67, 68, 69, 70, 71, 72, 73, 74, 75, 76, 77, 78, 31, 79, 80, 81, 34, 82, 162, 163, 164, 165, 166, 169, 170, 171, 172, 173, 174, 175, 176, 177, 178, 179, 180, 181, 182, 183, 184, 185, 167, 168] rfl (by decide +kernel)
set_option maxRecDepth 20000 in
theorem gX8_ticksByServing_X6_copyFrom_n265 : GoodIn wsX8_ticksByServing (wsX6_copyFrom) := ggX8_ticksByServing_X6_copyFrom
set_option maxRecDepth 20000 in
theorem ggX8_ticksByServing_X6_serveOne : GoodIn wsX8_ticksByServing wsX6_serveOne := goodIn_r _ [85, 43, 24, 29, 45, 86, 87, 88, 21, 89, 90, 91, 92, 93, 30, 31, 32, 33, 34, 35, 36, 37, 38, 39, 94, 95, 96, 97, 98, 99, 100, 25, 26, 27, 28, 101, 102, 103, 104, 105, 106, 107, 108, 109, 110, 111, 112, 113, 114, 115, 59, 116, 117, 67, 68, 66, 118, 119, 120, 64, 65, 62, 121, 122, 123, 124, 125, 44, 126, 127, 128, 129, 130, 131, 132, 133, 134, 135, 136, 137, 138, 139, 49, 50, 56, 51, 140, 141, 142, 143, 144, 145, 146, 147, 148, 149, 150, 151, 152, 153, 154, 155, 81, 82, 53, 54, 55, 162, 163, 164, 165, 166, 175, 176, 177, 178, 179, 180, 181, 169, 170, 171, 172, 173, 174, 167, 168, 182, 183, 184, 185] rfl (by decide +kernel)
set_option maxRecDepth 20000 in
theorem gX8_ticksByServing_X6_serveOne_n213 : GoodIn wsX8_ticksByServing (wsX6_serveOne) := ggX8_ticksByServing_X6_serveOne
theorem dX8_ticksByServing_0 : decode cX8_ticksByServing 0 = .ok (.aload_n 0, 1) := by decide +kernel
theorem dX8_ticksByServing_1 : decode cX8_ticksByServing 1 = .ok (.iload_n 1, 1) := by decide +kernel
theorem dX8_ticksByServing_2 : decode cX8_ticksByServing 2 = .ok (.invokevirtual 203, 3) := by decide +kernel
theorem dX8_ticksByServing_5 : decode cX8_ticksByServing 5 = .ok (.aload_n 0, 1) := by decide +kernel
theorem dX8_ticksByServing_6 : decode cX8_ticksByServing 6 = .ok (.invokevirtual 61, 3) := by decide +kernel
theorem dX8_ticksByServing_9 : decode cX8_ticksByServing 9 = .ok (.aload_n 0, 1) := by decide +kernel
theorem dX8_ticksByServing_10 : decode cX8_ticksByServing 10 = .ok (.iload_n 1, 1) := by decide +kernel
theorem dX8_ticksByServing_11 : decode cX8_ticksByServing 11 = .ok (.invokevirtual 210, 3) := by decide +kernel
theorem dX8_ticksByServing_14 : decode cX8_ticksByServing 14 = .ok (.aload_n 0, 1) := by decide +kernel
theorem dX8_ticksByServing_15 : decode cX8_ticksByServing 15 = .ok (.getfield 16, 3) := by decide +kernel
theorem dX8_ticksByServing_18 : decode cX8_ticksByServing 18 = .ok (.aload_n 0, 1) := by decide +kernel
theorem dX8_ticksByServing_19 : decode cX8_ticksByServing 19 = .ok (.getfield 12, 3) := by decide +kernel
theorem dX8_ticksByServing_22 : decode cX8_ticksByServing 22 = .ok (.invokevirtual 265, 3) := by decide +kernel
theorem dX8_ticksByServing_25 : decode cX8_ticksByServing 25 = .ok (.aload_n 0, 1) := by decide +kernel
theorem dX8_ticksByServing_26 : decode cX8_ticksByServing 26 = .ok (.getfield 16, 3) := by decide +kernel
theorem dX8_ticksByServing_29 : decode cX8_ticksByServing 29 = .ok (.iload_n 1, 1) := by decide +kernel
theorem dX8_ticksByServing_30 : decode cX8_ticksByServing 30 = .ok (.invokevirtual 213, 3) := by decide +kernel
theorem dX8_ticksByServing_33 : decode cX8_ticksByServing 33 = .ok (.ireturn, 1) := by decide +kernel
set_option maxRecDepth 20000 in
theorem ggX8_ticksBySums_X8_requireOrder : GoodIn wsX8_ticksBySums wsX8_requireOrder := goodIn_ca (goodIn_r _ [8, 9, 10, 3, 63, 64, 65, 66, 67, 68, 69, 70, 71, 72, 73, 81, 82] rfl (by decide +kernel)) (goodIn_sub (fun _ h => List.mem_cons_of_mem _ (List.mem_append_right _ h)) (by decide +kernel))
set_option maxRecDepth 20000 in
theorem gX8_ticksBySums_X8_requireOrder : GoodIn wsX8_ticksBySums (wsV RX8 203 RX8 yX8_requireOrder wsX8_requireOrder) := goodIn_app (goodIn_r _ [4, 5, 6, 7] rfl (by decide +kernel)) ggX8_ticksBySums_X8_requireOrder
set_option maxRecDepth 20000 in
theorem ggX8_ticksBySums_X8_requireEmptyWindow : GoodIn wsX8_ticksBySums wsX8_requireEmptyWindow := goodIn_ca (goodIn_r _ [14, 1, 2, 3, 63, 64, 65, 66, 67, 68, 69, 70, 71, 72, 73, 83, 84, 85, 86, 87, 88] rfl (by decide +kernel)) (goodIn_sub (fun _ h => List.mem_cons_of_mem _ (List.mem_append_left _ (List.mem_append_right _ h))) (by decide +kernel))
set_option maxRecDepth 20000 in
theorem gX8_ticksBySums_X8_requireEmptyWindow : GoodIn wsX8_ticksBySums (wsV RX8 61 RX8 yX8_requireEmptyWindow wsX8_requireEmptyWindow) := goodIn_app (goodIn_r _ [11, 12, 13, 7] rfl (by decide +kernel)) ggX8_ticksBySums_X8_requireEmptyWindow
set_option maxRecDepth 20000 in
theorem ggX8_ticksBySums_X8_requireServable : GoodIn wsX8_ticksBySums wsX8_requireServable := goodIn_ca (goodIn_r _ [18, 1, 2, 3, 19, 20, 21, 22, 23, 24, 25, 26, 27, 28, 29, 30, 31, 32, 33, 34, 35, 36, 37, 38, 63, 64, 65, 66, 67, 68, 69, 70, 71, 72, 73, 83, 84, 85, 86, 87, 88, 81, 82] rfl (by decide +kernel)) (goodIn_sub (fun _ h => List.mem_cons_of_mem _ (List.mem_append_left _ (List.mem_append_right _ h))) (by decide +kernel))
set_option maxRecDepth 20000 in
theorem gX8_ticksBySums_X8_requireServable : GoodIn wsX8_ticksBySums (wsV RX8 210 RX8 yX8_requireServable wsX8_requireServable) := goodIn_app (goodIn_r _ [15, 16, 17, 7] rfl (by decide +kernel)) ggX8_ticksBySums_X8_requireServable
set_option maxRecDepth 20000 in
theorem ggX8_ticksBySums_X6_choice : GoodIn wsX8_ticksBySums wsX6_choice := goodIn_r _ [41, 42, 43, 44, 20, 45, 23, 28, 29, 30, 31, 32, 33, 34, 35, 36, 37, 38, 46, 47, 48, 49, 50, 51, 52, 24, 25, 26, 27, 69, 70, 71, 72, 73, 83, 84, 85, 86, 87, 88, 81, 82] rfl (by decide +kernel)
set_option maxRecDepth 20000 in
theorem gX8_ticksBySums_X6_choice_n332 : GoodIn wsX8_ticksBySums (wsX6_choice) := ggX8_ticksBySums_X6_choice
set_option maxRecDepth 20000 in
theorem ggX8_ticksBySums_X6_sumTicks : GoodIn wsX8_ticksBySums wsX6_sumTicks := goodIn_r _ [55, 56, 23, 57, 58, 59, 60, 61, 35, 62, 69, 70, 71, 72, 73, 74, 75, 76, 77, 78, 79, 80, 83, 84, 85, 86, 87, 88] rfl (by decide +kernel)
set_option maxRecDepth 20000 in
theorem gX8_ticksBySums_X6_sumTicks_n345 : GoodIn wsX8_ticksBySums (wsX6_sumTicks) := ggX8_ticksBySums_X6_sumTicks
theorem dX8_ticksBySums_0 : decode cX8_ticksBySums 0 = .ok (.aload_n 0, 1) := by decide +kernel
theorem dX8_ticksBySums_1 : decode cX8_ticksBySums 1 = .ok (.iload_n 1, 1) := by decide +kernel
theorem dX8_ticksBySums_2 : decode cX8_ticksBySums 2 = .ok (.invokevirtual 203, 3) := by decide +kernel
theorem dX8_ticksBySums_5 : decode cX8_ticksBySums 5 = .ok (.aload_n 0, 1) := by decide +kernel
theorem dX8_ticksBySums_6 : decode cX8_ticksBySums 6 = .ok (.invokevirtual 61, 3) := by decide +kernel
theorem dX8_ticksBySums_9 : decode cX8_ticksBySums 9 = .ok (.aload_n 0, 1) := by decide +kernel
theorem dX8_ticksBySums_10 : decode cX8_ticksBySums 10 = .ok (.iload_n 1, 1) := by decide +kernel
theorem dX8_ticksBySums_11 : decode cX8_ticksBySums 11 = .ok (.invokevirtual 210, 3) := by decide +kernel
theorem dX8_ticksBySums_14 : decode cX8_ticksBySums 14 = .ok (.aload_n 0, 1) := by decide +kernel
theorem dX8_ticksBySums_15 : decode cX8_ticksBySums 15 = .ok (.getfield 12, 3) := by decide +kernel
theorem dX8_ticksBySums_18 : decode cX8_ticksBySums 18 = .ok (.getfield 232, 3) := by decide +kernel
theorem dX8_ticksBySums_21 : decode cX8_ticksBySums 21 = .ok (.getfield 236, 3) := by decide +kernel
theorem dX8_ticksBySums_24 : decode cX8_ticksBySums 24 = .ok (.ifCond .ne 14, 3) := by decide +kernel
theorem dX8_ticksBySums_27 : decode cX8_ticksBySums 27 = .ok (.new 54, 3) := by decide +kernel
theorem dX8_ticksBySums_30 : decode cX8_ticksBySums 30 = .ok (.dup, 1) := by decide +kernel
theorem dX8_ticksBySums_31 : decode cX8_ticksBySums 31 = .ok (.ldc_w 343, 3) := by decide +kernel
theorem dX8_ticksBySums_34 : decode cX8_ticksBySums 34 = .ok (.invokespecial 58, 3) := by decide +kernel
theorem dX8_ticksBySums_37 : decode cX8_ticksBySums 37 = .ok (.athrow, 1) := by decide +kernel
theorem dX8_ticksBySums_38 : decode cX8_ticksBySums 38 = .ok (.aload_n 0, 1) := by decide +kernel
theorem dX8_ticksBySums_39 : decode cX8_ticksBySums 39 = .ok (.getfield 12, 3) := by decide +kernel
theorem dX8_ticksBySums_42 : decode cX8_ticksBySums 42 = .ok (.aload_n 0, 1) := by decide +kernel
theorem dX8_ticksBySums_43 : decode cX8_ticksBySums 43 = .ok (.getfield 12, 3) := by decide +kernel
theorem dX8_ticksBySums_46 : decode cX8_ticksBySums 46 = .ok (.iload_n 1, 1) := by decide +kernel
theorem dX8_ticksBySums_47 : decode cX8_ticksBySums 47 = .ok (.invokevirtual 332, 3) := by decide +kernel
theorem dX8_ticksBySums_50 : decode cX8_ticksBySums 50 = .ok (.invokevirtual 345, 3) := by decide +kernel
theorem dX8_ticksBySums_53 : decode cX8_ticksBySums 53 = .ok (.ireturn, 1) := by decide +kernel
set_option maxRecDepth 20000 in
theorem ggX8_cheapestOrder_X8_requireEmptyWindow : GoodIn wsX8_cheapestOrder wsX8_requireEmptyWindow := goodIn_ca (goodIn_r _ [7, 1, 2, 8, 150, 151, 152, 153, 154, 155, 156, 157, 158, 159, 160, 161, 162, 163, 164, 165, 166] rfl (by decide +kernel)) (goodIn_sub (fun _ h => List.mem_cons_of_mem _ (List.mem_append_right _ h)) (by decide +kernel))
set_option maxRecDepth 20000 in
theorem gX8_cheapestOrder_X8_requireEmptyWindow : GoodIn wsX8_cheapestOrder (wsV RX8 61 RX8 yX8_requireEmptyWindow wsX8_requireEmptyWindow) := goodIn_app (goodIn_r _ [3, 4, 5, 6] rfl (by decide +kernel)) ggX8_cheapestOrder_X8_requireEmptyWindow
set_option maxRecDepth 20000 in
theorem ggX8_cheapestOrder_X8_findCheapest : GoodIn wsX8_cheapestOrder wsX8_findCheapest := goodIn_r _ [12, 8, 13, 14, 15, 16, 17, 18, 19, 20, 21, 22, 23, 24, 25, 26, 27, 28, 29, 30, 31, 32, 33, 34, 35, 36, 37, 38, 39, 40, 41, 42, 43, 44, 45, 46, 47, 48, 49, 50, 51, 52, 53, 54, 55, 56, 57, 58, 59, 60, 61, 62, 63, 64, 65, 66, 67, 68, 69, 70, 71, 72, 73, 74, 75, 76, 77, 78, 79, 80, 81, 82, 83, 84, 85, 86, 87, 88, 89, 90, 91, 92, 93, 94, 95, 96, 97, 98, 99, 100, 101, 102, 103, 104, 105, 106, 107, 108, 109, 110, 111, 112, 113, 114, 115, 116, 117, 118, 119, 120, 121, 122, 123, 124, 125, 126, 127, 128, 129, 130, 131, 132, 133, 134, 135, 136, 137, 138, 139, 140, 141, 142, 143, 144, 145, 146, 147, 148, 149, 150, 151, 152, 153, 154, 155, 156, 157, 158, 159, 160, 167, 168, 161, 162, 163, 164, 165, 166, 169, 170, 171, 172, 173, 174, 175, 176, 177, 178, 179] rfl (by decide +kernel)
set_option maxRecDepth 20000 in
theorem gX8_cheapestOrder_X8_findCheapest : GoodIn wsX8_cheapestOrder (wsV RX8 348 RX8 yX8_findCheapest wsX8_findCheapest) := goodIn_app (goodIn_r _ [9, 10, 11, 6] rfl (by decide +kernel)) ggX8_cheapestOrder_X8_findCheapest
theorem dX8_cheapestOrder_0 : decode cX8_cheapestOrder 0 = .ok (.aload_n 0, 1) := by decide +kernel
theorem dX8_cheapestOrder_1 : decode cX8_cheapestOrder 1 = .ok (.invokevirtual 61, 3) := by decide +kernel
theorem dX8_cheapestOrder_4 : decode cX8_cheapestOrder 4 = .ok (.aload_n 0, 1) := by decide +kernel
theorem dX8_cheapestOrder_5 : decode cX8_cheapestOrder 5 = .ok (.invokevirtual 348, 3) := by decide +kernel
theorem dX8_cheapestOrder_8 : decode cX8_cheapestOrder 8 = .ok (.istore_n 1, 1) := by decide +kernel
theorem dX8_cheapestOrder_9 : decode cX8_cheapestOrder 9 = .ok (.iload_n 1, 1) := by decide +kernel
theorem dX8_cheapestOrder_10 : decode cX8_cheapestOrder 10 = .ok (.iconst (-1), 1) := by decide +kernel
theorem dX8_cheapestOrder_11 : decode cX8_cheapestOrder 11 = .ok (.if_icmp .ne 14, 3) := by decide +kernel
theorem dX8_cheapestOrder_14 : decode cX8_cheapestOrder 14 = .ok (.new 54, 3) := by decide +kernel
theorem dX8_cheapestOrder_17 : decode cX8_cheapestOrder 17 = .ok (.dup, 1) := by decide +kernel
theorem dX8_cheapestOrder_18 : decode cX8_cheapestOrder 18 = .ok (.ldc_w 351, 3) := by decide +kernel
theorem dX8_cheapestOrder_21 : decode cX8_cheapestOrder 21 = .ok (.invokespecial 58, 3) := by decide +kernel
theorem dX8_cheapestOrder_24 : decode cX8_cheapestOrder 24 = .ok (.athrow, 1) := by decide +kernel
theorem dX8_cheapestOrder_25 : decode cX8_cheapestOrder 25 = .ok (.iload_n 1, 1) := by decide +kernel
theorem dX8_cheapestOrder_26 : decode cX8_cheapestOrder 26 = .ok (.ireturn, 1) := by decide +kernel
set_option maxRecDepth 20000 in
theorem ggX8_servable_X8_requireEmptyWindow : GoodIn wsX8_servable wsX8_requireEmptyWindow := goodIn_ca (goodIn_r _ [7, 8, 9, 2, 155, 156, 157, 158, 159, 160, 161, 162, 163, 164, 165, 166, 167, 168, 169, 170, 171] rfl (by decide +kernel)) (goodIn_sub (fun _ h => List.mem_cons_of_mem _ (List.mem_append_right _ h)) (by decide +kernel))
set_option maxRecDepth 20000 in
theorem gX8_servable_X8_requireEmptyWindow : GoodIn wsX8_servable (wsV RX8 61 RX8 yX8_requireEmptyWindow wsX8_requireEmptyWindow) := goodIn_app (goodIn_r _ [3, 4, 5, 6] rfl (by decide +kernel)) ggX8_servable_X8_requireEmptyWindow
set_option maxRecDepth 20000 in
theorem ggX8_servable_X6_copyFrom : GoodIn wsX8_servable wsX6_copyFrom := goodIn_r _ [13, 14, 15, 16, 17, 18, 19, 20, 21, 22, 23, 24, 25, 26, 27, 28, 29, 30, 31, 32, 33, 34, 35, 36, 37, 38, 39, 40, 41, 42, 43, 44, 45, 46, 47, 48, 49, 50, 51, 52, 53, 54, 55, 56, 57, 58, 59, 161, 162, 163, 164, 165, 166, 167, 168, 169, 170, 171, 172, 173, 174, 175, 176, 177, 178, 179, 180, 181, 182, 183, 184] rfl (by decide +kernel)
set_option maxRecDepth 20000 in
theorem gX8_servable_X6_copyFrom_n265 : GoodIn wsX8_servable (wsX6_copyFrom) := ggX8_servable_X6_copyFrom
set_option maxRecDepth 20000 in
theorem ggX8_servable_X6_serveEach : GoodIn wsX8_servable wsX6_serveEach := goodIn_r _ [62, 63, 64, 65, 11, 66, 17, 67, 68, 69, 70, 14, 71, 72, 73, 74, 75, 54, 76, 77, 58, 78, 20, 79, 80, 32, 81, 82, 83, 84, 15, 18, 85, 86, 87, 88, 89, 90, 91, 92, 93, 94, 95, 96, 97, 98, 99, 100, 101, 102, 103, 104, 105, 106, 107, 108, 109, 110, 111, 112, 113, 114, 34, 115, 116, 42, 43, 41, 117, 118, 119, 39, 40, 37, 120, 121, 122, 123, 124, 16, 125, 126, 127, 128, 129, 130, 131, 132, 133, 134, 135, 136, 137, 138, 23, 24, 30, 25, 139, 140, 141, 142, 143, 144, 145, 146, 147, 148, 149, 150, 151, 152, 153, 154, 57, 59, 27, 28, 29, 161, 162, 163, 164, 165, 183, 184, 166, 167, 168, 169, 170, 171, 172, 173, 174, 175, 176, 177, 178, 179, 180, 181, 182] rfl (by decide +kernel)
set_option maxRecDepth 20000 in
theorem gX8_servable_X6_serveEach_n216 : GoodIn wsX8_servable (wsX6_serveEach) := ggX8_servable_X6_serveEach
theorem dX8_servable_0 : decode cX8_servable 0 = .ok (.aload_n 0, 1) := by decide +kernel
theorem dX8_servable_1 : decode cX8_servable 1 = .ok (.invokevirtual 61, 3) := by decide +kernel
theorem dX8_servable_4 : decode cX8_servable 4 = .ok (.aload_n 0, 1) := by decide +kernel
theorem dX8_servable_5 : decode cX8_servable 5 = .ok (.getfield 16, 3) := by decide +kernel
theorem dX8_servable_8 : decode cX8_servable 8 = .ok (.aload_n 0, 1) := by decide +kernel
theorem dX8_servable_9 : decode cX8_servable 9 = .ok (.getfield 12, 3) := by decide +kernel
theorem dX8_servable_12 : decode cX8_servable 12 = .ok (.invokevirtual 265, 3) := by decide +kernel
theorem dX8_servable_15 : decode cX8_servable 15 = .ok (.aload_n 0, 1) := by decide +kernel
theorem dX8_servable_16 : decode cX8_servable 16 = .ok (.getfield 16, 3) := by decide +kernel
theorem dX8_servable_19 : decode cX8_servable 19 = .ok (.invokevirtual 216, 3) := by decide +kernel
theorem dX8_servable_22 : decode cX8_servable 22 = .ok (.pop, 1) := by decide +kernel
theorem dX8_servable_23 : decode cX8_servable 23 = .ok (.aload_n 0, 1) := by decide +kernel
theorem dX8_servable_24 : decode cX8_servable 24 = .ok (.getfield 16, 3) := by decide +kernel
theorem dX8_servable_27 : decode cX8_servable 27 = .ok (.getfield 353, 3) := by decide +kernel
theorem dX8_servable_30 : decode cX8_servable 30 = .ok (.aload_n 0, 1) := by decide +kernel
theorem dX8_servable_31 : decode cX8_servable 31 = .ok (.getfield 12, 3) := by decide +kernel
theorem dX8_servable_34 : decode cX8_servable 34 = .ok (.getfield 353, 3) := by decide +kernel
theorem dX8_servable_37 : decode cX8_servable 37 = .ok (.isub, 1) := by decide +kernel
theorem dX8_servable_38 : decode cX8_servable 38 = .ok (.ireturn, 1) := by decide +kernel
theorem dX8_ticks_0 : decode cX8_ticks 0 = .ok (.aload_n 0, 1) := by decide +kernel
theorem dX8_ticks_1 : decode cX8_ticks 1 = .ok (.getfield 12, 3) := by decide +kernel
theorem dX8_ticks_4 : decode cX8_ticks 4 = .ok (.getfield 232, 3) := by decide +kernel
theorem dX8_ticks_7 : decode cX8_ticks 7 = .ok (.getfield 356, 3) := by decide +kernel
theorem dX8_ticks_10 : decode cX8_ticks 10 = .ok (.ireturn, 1) := by decide +kernel
theorem dX8_fetches_0 : decode cX8_fetches 0 = .ok (.aload_n 0, 1) := by decide +kernel
theorem dX8_fetches_1 : decode cX8_fetches 1 = .ok (.getfield 12, 3) := by decide +kernel
theorem dX8_fetches_4 : decode cX8_fetches 4 = .ok (.getfield 232, 3) := by decide +kernel
theorem dX8_fetches_7 : decode cX8_fetches 7 = .ok (.getfield 359, 3) := by decide +kernel
theorem dX8_fetches_10 : decode cX8_fetches 10 = .ok (.ireturn, 1) := by decide +kernel
theorem dX8_served_0 : decode cX8_served 0 = .ok (.aload_n 0, 1) := by decide +kernel
theorem dX8_served_1 : decode cX8_served 1 = .ok (.getfield 12, 3) := by decide +kernel
theorem dX8_served_4 : decode cX8_served 4 = .ok (.getfield 353, 3) := by decide +kernel
theorem dX8_served_7 : decode cX8_served 7 = .ok (.ireturn, 1) := by decide +kernel
set_option maxRecDepth 20000 in
theorem ggX8_fetchTicks_X8_requireShelf : GoodIn wsX8_fetchTicks wsX8_requireShelf := goodIn_ca (goodIn_r _ [6, 7, 8, 1, 28, 29, 30, 31, 32, 33, 34, 35, 36, 37, 38, 39, 40, 41, 42, 43, 44] rfl (by decide +kernel)) (goodIn_sub (fun _ h => List.mem_cons_of_mem _ (List.mem_append_left _ (List.mem_append_right _ h))) (by decide +kernel))
set_option maxRecDepth 20000 in
theorem gX8_fetchTicks_X8_requireShelf : GoodIn wsX8_fetchTicks (wsV RX8 78 RX8 yX8_requireShelf wsX8_requireShelf) := goodIn_app (goodIn_r _ [2, 3, 4, 5] rfl (by decide +kernel)) ggX8_fetchTicks_X8_requireShelf
set_option maxRecDepth 20000 in
theorem ggX8_fetchTicks_X8_requireEmptyWindow : GoodIn wsX8_fetchTicks wsX8_requireEmptyWindow := goodIn_ca (goodIn_r _ [12, 13, 14, 1, 28, 29, 30, 31, 32, 33, 34, 35, 36, 37, 38, 39, 40, 41, 42, 43, 44] rfl (by decide +kernel)) (goodIn_sub (fun _ h => List.mem_cons_of_mem _ (List.mem_append_right _ h)) (by decide +kernel))
set_option maxRecDepth 20000 in
theorem gX8_fetchTicks_X8_requireEmptyWindow : GoodIn wsX8_fetchTicks (wsV RX8 61 RX8 yX8_requireEmptyWindow wsX8_requireEmptyWindow) := goodIn_app (goodIn_r _ [9, 10, 11, 5] rfl (by decide +kernel)) ggX8_fetchTicks_X8_requireEmptyWindow
set_option maxRecDepth 20000 in
theorem ggX8_fetchTicks_X6_ticksToBring : GoodIn wsX8_fetchTicks wsX6_ticksToBring := goodIn_r _ [18, 19, 20, 21, 22, 23, 24, 25, 26, 27, 34, 35, 36, 37, 38, 39, 40, 41, 42, 43, 44, 45, 46, 47, 48, 49, 50, 51] rfl (by decide +kernel)
set_option maxRecDepth 20000 in
theorem gX8_fetchTicks_X6_ticksToBring_n362 : GoodIn wsX8_fetchTicks (wsX6_ticksToBring) := ggX8_fetchTicks_X6_ticksToBring
theorem dX8_fetchTicks_0 : decode cX8_fetchTicks 0 = .ok (.aload_n 0, 1) := by decide +kernel
theorem dX8_fetchTicks_1 : decode cX8_fetchTicks 1 = .ok (.iload_n 1, 1) := by decide +kernel
theorem dX8_fetchTicks_2 : decode cX8_fetchTicks 2 = .ok (.invokevirtual 78, 3) := by decide +kernel
theorem dX8_fetchTicks_5 : decode cX8_fetchTicks 5 = .ok (.aload_n 0, 1) := by decide +kernel
theorem dX8_fetchTicks_6 : decode cX8_fetchTicks 6 = .ok (.invokevirtual 61, 3) := by decide +kernel
theorem dX8_fetchTicks_9 : decode cX8_fetchTicks 9 = .ok (.aload_n 0, 1) := by decide +kernel
theorem dX8_fetchTicks_10 : decode cX8_fetchTicks 10 = .ok (.getfield 12, 3) := by decide +kernel
theorem dX8_fetchTicks_13 : decode cX8_fetchTicks 13 = .ok (.iload_n 1, 1) := by decide +kernel
theorem dX8_fetchTicks_14 : decode cX8_fetchTicks 14 = .ok (.invokevirtual 362, 3) := by decide +kernel
theorem dX8_fetchTicks_17 : decode cX8_fetchTicks 17 = .ok (.ireturn, 1) := by decide +kernel
set_option maxRecDepth 20000 in
theorem ggX8_heaviest_X8_requireSomeShelf : GoodIn wsX8_heaviest wsX8_requireSomeShelf := goodIn_ca (goodIn_r _ [6, 7, 8, 1, 24, 25, 26, 27, 28, 29, 30, 31, 32, 33, 34, 35, 36, 37, 38, 39, 40] rfl (by decide +kernel)) (goodIn_sub (fun _ h => List.mem_cons_of_mem _ (List.mem_append_right _ h)) (by decide +kernel))
set_option maxRecDepth 20000 in
theorem gX8_heaviest_X8_requireSomeShelf : GoodIn wsX8_heaviest (wsV RX8 365 RX8 yX8_requireSomeShelf wsX8_requireSomeShelf) := goodIn_app (goodIn_r _ [2, 3, 4, 5] rfl (by decide +kernel)) ggX8_heaviest_X8_requireSomeShelf
set_option maxRecDepth 20000 in
theorem ggX8_heaviest_X6_findHeaviest : GoodIn wsX8_heaviest wsX6_findHeaviest := goodIn_r _ [12, 13, 14, 15, 16, 10, 17, 18, 19, 20, 21, 22, 23, 30, 31, 32, 33, 34, 35, 36, 37, 38, 39, 40, 41, 42, 43, 44] rfl (by decide +kernel)
set_option maxRecDepth 20000 in
theorem gX8_heaviest_X6_findHeaviest_n368 : GoodIn wsX8_heaviest (wsX6_findHeaviest) := ggX8_heaviest_X6_findHeaviest
theorem dX8_heaviest_0 : decode cX8_heaviest 0 = .ok (.aload_n 0, 1) := by decide +kernel
theorem dX8_heaviest_1 : decode cX8_heaviest 1 = .ok (.invokevirtual 365, 3) := by decide +kernel
theorem dX8_heaviest_4 : decode cX8_heaviest 4 = .ok (.aload_n 0, 1) := by decide +kernel
theorem dX8_heaviest_5 : decode cX8_heaviest 5 = .ok (.getfield 12, 3) := by decide +kernel
theorem dX8_heaviest_8 : decode cX8_heaviest 8 = .ok (.invokevirtual 368, 3) := by decide +kernel
theorem dX8_heaviest_11 : decode cX8_heaviest 11 = .ok (.ireturn, 1) := by decide +kernel
set_option maxRecDepth 20000 in
theorem ggX8_mostFetched_X8_requireSomeShelf : GoodIn wsX8_mostFetched wsX8_requireSomeShelf := goodIn_ca (goodIn_r _ [6, 7, 8, 1, 15, 16, 17, 18, 19, 20, 21, 22, 23, 24, 25, 26, 27, 28, 29, 30, 31] rfl (by decide +kernel)) (goodIn_sub (fun _ h => List.mem_cons_of_mem _ (List.mem_append_right _ h)) (by decide +kernel))
set_option maxRecDepth 20000 in
theorem gX8_mostFetched_X8_requireSomeShelf : GoodIn wsX8_mostFetched (wsV RX8 365 RX8 yX8_requireSomeShelf wsX8_requireSomeShelf) := goodIn_app (goodIn_r _ [2, 3, 4, 5] rfl (by decide +kernel)) ggX8_mostFetched_X8_requireSomeShelf
set_option maxRecDepth 20000 in
theorem ggX8_mostFetched_X7_mostUsed : GoodIn wsX8_mostFetched wsX7_mostUsed := goodIn_r _ [12, 13, 14, 26, 27, 28, 29, 30, 31] rfl (by decide +kernel)
set_option maxRecDepth 20000 in
theorem gX8_mostFetched_X7_mostUsed_n371 : GoodIn wsX8_mostFetched (wsX7_mostUsed) := ggX8_mostFetched_X7_mostUsed
theorem dX8_mostFetched_0 : decode cX8_mostFetched 0 = .ok (.aload_n 0, 1) := by decide +kernel
theorem dX8_mostFetched_1 : decode cX8_mostFetched 1 = .ok (.invokevirtual 365, 3) := by decide +kernel
theorem dX8_mostFetched_4 : decode cX8_mostFetched 4 = .ok (.aload_n 0, 1) := by decide +kernel
theorem dX8_mostFetched_5 : decode cX8_mostFetched 5 = .ok (.getfield 12, 3) := by decide +kernel
theorem dX8_mostFetched_8 : decode cX8_mostFetched 8 = .ok (.getfield 44, 3) := by decide +kernel
theorem dX8_mostFetched_11 : decode cX8_mostFetched 11 = .ok (.iconst 0, 1) := by decide +kernel
theorem dX8_mostFetched_12 : decode cX8_mostFetched 12 = .ok (.invokevirtual 371, 3) := by decide +kernel
theorem dX8_mostFetched_15 : decode cX8_mostFetched 15 = .ok (.ireturn, 1) := by decide +kernel
set_option maxRecDepth 20000 in
theorem ggX8_usedWays_X7_sumOfUsedWays : GoodIn wsX8_usedWays wsX7_sumOfUsedWays := goodIn_r _ [5, 6, 7, 8, 9, 10, 3, 11, 23, 24, 25, 26, 27, 28] rfl (by decide +kernel)
set_option maxRecDepth 20000 in
theorem gX8_usedWays_X7_sumOfUsedWays_n374 : GoodIn wsX8_usedWays (wsX7_sumOfUsedWays) := ggX8_usedWays_X7_sumOfUsedWays
theorem dX8_usedWays_0 : decode cX8_usedWays 0 = .ok (.aload_n 0, 1) := by decide +kernel
theorem dX8_usedWays_1 : decode cX8_usedWays 1 = .ok (.getfield 12, 3) := by decide +kernel
theorem dX8_usedWays_4 : decode cX8_usedWays 4 = .ok (.getfield 44, 3) := by decide +kernel
theorem dX8_usedWays_7 : decode cX8_usedWays 7 = .ok (.invokevirtual 374, 3) := by decide +kernel
theorem dX8_usedWays_10 : decode cX8_usedWays 10 = .ok (.ireturn, 1) := by decide +kernel
set_option maxRecDepth 20000 in
theorem ggX8_meanWay_X7_sumOfUsedWays : GoodIn wsX8_meanWay wsX7_sumOfUsedWays := goodIn_r _ [5, 6, 7, 8, 9, 10, 3, 11, 30, 31, 32, 33, 34, 35] rfl (by decide +kernel)
set_option maxRecDepth 20000 in
theorem gX8_meanWay_X7_sumOfUsedWays_n374 : GoodIn wsX8_meanWay (wsX7_sumOfUsedWays) := ggX8_meanWay_X7_sumOfUsedWays
set_option maxRecDepth 20000 in
theorem ggX8_meanWay_X7_sumOfUses : GoodIn wsX8_meanWay wsX7_sumOfUses := goodIn_r _ [14, 6, 8, 30, 31, 32, 33, 34, 35] rfl (by decide +kernel)
set_option maxRecDepth 20000 in
theorem gX8_meanWay_X7_sumOfUses_n377 : GoodIn wsX8_meanWay (wsX7_sumOfUses) := ggX8_meanWay_X7_sumOfUses
set_option maxRecDepth 20000 in
theorem ggX8_meanWay_X8_meanOf : GoodIn wsX8_meanWay wsX8_meanOf := goodIn_r _ [18] rfl (by decide +kernel)
set_option maxRecDepth 20000 in
theorem gX8_meanWay_X8_meanOf : GoodIn wsX8_meanWay (va_wsS RX8 380 yX8_meanOf wsX8_meanOf) := goodIn_app (goodIn_r _ [15, 16, 17] rfl (by decide +kernel)) ggX8_meanWay_X8_meanOf
theorem dX8_meanWay_0 : decode cX8_meanWay 0 = .ok (.aload_n 0, 1) := by decide +kernel
theorem dX8_meanWay_1 : decode cX8_meanWay 1 = .ok (.getfield 12, 3) := by decide +kernel
theorem dX8_meanWay_4 : decode cX8_meanWay 4 = .ok (.getfield 44, 3) := by decide +kernel
theorem dX8_meanWay_7 : decode cX8_meanWay 7 = .ok (.invokevirtual 374, 3) := by decide +kernel
theorem dX8_meanWay_10 : decode cX8_meanWay 10 = .ok (.aload_n 0, 1) := by decide +kernel
theorem dX8_meanWay_11 : decode cX8_meanWay 11 = .ok (.getfield 12, 3) := by decide +kernel
theorem dX8_meanWay_14 : decode cX8_meanWay 14 = .ok (.getfield 44, 3) := by decide +kernel
theorem dX8_meanWay_17 : decode cX8_meanWay 17 = .ok (.invokevirtual 377, 3) := by decide +kernel
theorem dX8_meanWay_20 : decode cX8_meanWay 20 = .ok (.invokestatic 380, 3) := by decide +kernel
theorem dX8_meanWay_23 : decode cX8_meanWay 23 = .ok (.dreturn, 1) := by decide +kernel
set_option maxRecDepth 20000 in
theorem ggX8_meanTicks_X8_meanOf : GoodIn wsX8_meanTicks wsX8_meanOf := goodIn_r _ [5] rfl (by decide +kernel)
set_option maxRecDepth 20000 in
theorem gX8_meanTicks_X8_meanOf : GoodIn wsX8_meanTicks (va_wsS RX8 380 yX8_meanOf wsX8_meanOf) := goodIn_app (goodIn_r _ [2, 3, 4] rfl (by decide +kernel)) ggX8_meanTicks_X8_meanOf
theorem dX8_meanTicks_0 : decode cX8_meanTicks 0 = .ok (.aload_n 0, 1) := by decide +kernel
theorem dX8_meanTicks_1 : decode cX8_meanTicks 1 = .ok (.getfield 12, 3) := by decide +kernel
theorem dX8_meanTicks_4 : decode cX8_meanTicks 4 = .ok (.getfield 232, 3) := by decide +kernel
theorem dX8_meanTicks_7 : decode cX8_meanTicks 7 = .ok (.getfield 356, 3) := by decide +kernel
theorem dX8_meanTicks_10 : decode cX8_meanTicks 10 = .ok (.aload_n 0, 1) := by decide +kernel
theorem dX8_meanTicks_11 : decode cX8_meanTicks 11 = .ok (.getfield 12, 3) := by decide +kernel
theorem dX8_meanTicks_14 : decode cX8_meanTicks 14 = .ok (.getfield 232, 3) := by decide +kernel
theorem dX8_meanTicks_17 : decode cX8_meanTicks 17 = .ok (.getfield 359, 3) := by decide +kernel
theorem dX8_meanTicks_20 : decode cX8_meanTicks 20 = .ok (.invokestatic 380, 3) := by decide +kernel
theorem dX8_meanTicks_23 : decode cX8_meanTicks 23 = .ok (.dreturn, 1) := by decide +kernel
set_option maxRecDepth 20000 in
theorem ggX8_digest_X8_hashShelves : GoodIn wsX8_digest wsX8_hashShelves := goodIn_ca (goodIn_r _ [7, 2, 8, 9, 10, 6, 11, 12, 13, 14, 15, 16, 17, 18, 19, 20, 21, 22, 23, 24, 25, 26, 27, 28, 29, 30, 31, 32, 33, 34, 35, 36, 37, 38, 39, 40, 41, 42, 43, 44, 45, 46, 47, 48, 49, 50, 51, 52, 53, 54, 55, 56, 57, 58, 59, 60, 61, 62, 63, 64, 65, 66, 67, 409, 410, 411, 412, 413, 414, 415, 416, 417, 418, 419, 420, 421, 422, 423, 424, 425, 426, 427, 428, 429] rfl (by decide +kernel)) (goodIn_sub (fun _ h => List.mem_cons_of_mem _ (List.mem_append_right _ h)) (by decide +kernel))
set_option maxRecDepth 20000 in
theorem gX8_digest_X8_hashShelves : GoodIn wsX8_digest (wsV RX8 386 RX8 yX8_hashShelves wsX8_hashShelves) := goodIn_app (goodIn_r _ [3, 4, 5, 6] rfl (by decide +kernel)) ggX8_digest_X8_hashShelves
set_option maxRecDepth 20000 in
theorem ggX8_digest_X8_hashSlots : GoodIn wsX8_digest wsX8_hashSlots := goodIn_ca (goodIn_r _ [71, 2, 72, 50, 73, 74, 75, 76, 77, 78, 12, 13, 6, 14, 15, 79, 80, 81, 82, 83, 84, 85, 86, 87, 88, 89, 90, 91, 92, 93, 94, 95, 96, 97, 98, 99, 100, 101, 102, 103, 104, 105, 106, 107, 108, 109, 110, 111, 112, 113, 114, 115, 116, 24, 25, 117, 118, 119, 120, 121, 122, 123, 124, 125, 126, 127, 128, 129, 130, 131, 38, 39, 40, 409, 410, 411, 412, 413, 414, 415, 416, 417, 418, 419, 420, 421, 422, 423, 424, 425, 430, 431, 432, 433, 434, 435, 436] rfl (by decide +kernel)) (goodIn_sub (fun _ h => List.mem_cons_of_mem _ (List.mem_append_right _ h)) (by decide +kernel))
set_option maxRecDepth 20000 in
theorem gX8_digest_X8_hashSlots : GoodIn wsX8_digest (wsV RX8 390 RX8 yX8_hashSlots wsX8_hashSlots) := goodIn_app (goodIn_r _ [68, 69, 70, 6] rfl (by decide +kernel)) ggX8_digest_X8_hashSlots
set_option maxRecDepth 20000 in
theorem ggX8_digest_X8_hashKinds : GoodIn wsX8_digest wsX8_hashKinds := goodIn_ca (goodIn_r _ [135, 136, 137, 138, 6, 139, 2, 45, 46, 47, 48, 24, 25, 12, 13, 14, 15, 140, 141, 142, 143, 144, 50, 145, 146, 75, 147, 49, 51, 52, 53, 148, 149, 150, 151, 152, 153, 154, 155, 156, 157, 158, 159, 160, 161, 162, 163, 164, 165, 166, 167, 59, 168, 169, 63, 62, 170, 121, 122, 123, 171, 172, 173, 174, 175, 176, 177, 178, 113, 114, 115, 116, 179, 180, 181, 182, 58, 60, 61, 409, 410, 411, 412, 413, 414, 415, 416, 417, 418, 419, 426, 427, 428, 429, 420, 421, 422, 423, 424, 425] rfl (by decide +kernel)) (goodIn_sub (fun _ h => List.mem_cons_of_mem _ (List.mem_append_right _ h)) (by decide +kernel))
set_option maxRecDepth 20000 in
theorem gX8_digest_X8_hashKinds : GoodIn wsX8_digest (wsV RX8 393 RX8 yX8_hashKinds wsX8_hashKinds) := goodIn_app (goodIn_r _ [132, 133, 134, 6] rfl (by decide +kernel)) ggX8_digest_X8_hashKinds
set_option maxRecDepth 20000 in
theorem ggX8_digest_X8_hashTrips : GoodIn wsX8_digest wsX8_hashTrips := goodIn_ca (goodIn_r _ [186, 2, 187, 188, 189, 6, 190, 12, 13, 14, 15, 191, 192, 193, 194, 195, 196, 197, 198, 24, 25, 199, 200, 201, 202, 38, 39, 40, 409, 410, 411, 412, 413, 414, 415, 416, 417, 418, 419, 430, 431, 432, 433, 434, 435, 436] rfl (by decide +kernel)) (goodIn_sub (fun _ h => List.mem_cons_of_mem _ (List.mem_append_right _ h)) (by decide +kernel))
set_option maxRecDepth 20000 in
theorem gX8_digest_X8_hashTrips : GoodIn wsX8_digest (wsV RX8 396 RX8 yX8_hashTrips wsX8_hashTrips) := goodIn_app (goodIn_r _ [183, 184, 185, 6] rfl (by decide +kernel)) ggX8_digest_X8_hashTrips
set_option maxRecDepth 20000 in
theorem ggX8_digest_X8_hashOrders : GoodIn wsX8_digest wsX8_hashOrders := goodIn_ca (goodIn_r _ [206, 2, 207, 208, 209, 6, 210, 12, 13, 14, 15, 211, 212, 213, 214, 215, 216, 217, 218, 24, 25, 45, 46, 47, 48, 219, 220, 221, 222, 223, 224, 59, 225, 226, 62, 227, 228, 229, 230, 231, 49, 50, 51, 52, 53, 38, 39, 40, 232, 233, 234, 235, 236, 237, 238, 239, 240, 241, 242, 243, 244, 245, 246, 247, 248, 249, 250, 251, 252, 253, 254, 255, 256, 257, 258, 259, 260, 147, 261, 262, 263, 409, 410, 411, 412, 413, 414, 415, 416, 417, 418, 419, 437, 438, 420, 421, 422, 423, 424, 425] rfl (by decide +kernel)) (goodIn_sub (fun _ h => List.mem_cons_of_mem _ (List.mem_append_right _ h)) (by decide +kernel))
set_option maxRecDepth 20000 in
theorem gX8_digest_X8_hashOrders : GoodIn wsX8_digest (wsV RX8 399 RX8 yX8_hashOrders wsX8_hashOrders) := goodIn_app (goodIn_r _ [203, 204, 205, 6] rfl (by decide +kernel)) ggX8_digest_X8_hashOrders
set_option maxRecDepth 20000 in
theorem ggX8_digest_X8_findCheapest : GoodIn wsX8_digest wsX8_findCheapest := goodIn_r _ [267, 2, 268, 224, 59, 225, 226, 62, 227, 228, 229, 230, 231, 219, 220, 221, 222, 223, 49, 50, 51, 52, 53, 269, 270, 271, 272, 63, 273, 274, 275, 276, 75, 76, 78, 277, 278, 279, 280, 77, 281, 282, 283, 284, 285, 286, 287, 288, 289, 290, 291, 292, 293, 294, 295, 296, 297, 298, 299, 300, 301, 302, 303, 304, 305, 306, 307, 308, 309, 310, 232, 233, 234, 235, 236, 237, 238, 239, 240, 241, 242, 243, 244, 245, 311, 312, 313, 314, 315, 316, 317, 318, 319, 320, 122, 321, 322, 323, 324, 325, 326, 327, 328, 329, 330, 331, 332, 333, 334, 335, 336, 337, 338, 339, 340, 341, 103, 104, 105, 86, 87, 88, 89, 90, 91, 92, 106, 107, 108, 93, 94, 95, 342, 343, 344, 345, 346, 347, 348, 409, 410, 411, 412, 413, 414, 415, 416, 417, 418, 419, 437, 438, 420, 421, 422, 423, 424, 425, 430, 431, 432, 433, 434, 435, 436, 426, 427, 428, 429] rfl (by decide +kernel)
set_option maxRecDepth 20000 in
theorem gX8_digest_X8_findCheapest : GoodIn wsX8_digest (wsV RX8 348 RX8 yX8_findCheapest wsX8_findCheapest) := goodIn_app (goodIn_r _ [264, 265, 266, 6] rfl (by decide +kernel)) ggX8_digest_X8_findCheapest
set_option maxRecDepth 20000 in
theorem ggX8_digest_X8_hashOn : GoodIn wsX8_digest wsX8_hashOn := goodIn_r _ [14, 15] rfl (by decide +kernel)
set_option maxRecDepth 20000 in
theorem gX8_digest_X8_hashOn : GoodIn wsX8_digest (va_wsS RX8 402 yX8_hashOn wsX8_hashOn) := goodIn_app (goodIn_r _ [12, 13, 6] rfl (by decide +kernel)) ggX8_digest_X8_hashOn
set_option maxRecDepth 20000 in
theorem ggX8_digest_X8_hashAccounts : GoodIn wsX8_digest wsX8_hashAccounts := goodIn_r _ [352, 2, 353, 354, 355, 6, 356, 12, 13, 14, 15, 357, 358, 359, 360, 361, 362, 363, 364, 365, 59, 366, 367, 62, 182, 58, 60, 61, 63, 49, 50, 51, 52, 53, 368, 369, 370, 75, 281, 371, 372, 373, 374, 375, 376, 377, 77, 378, 322, 323, 379, 380, 381, 382, 383, 384, 385, 386, 387, 388, 389, 390, 391, 392, 393, 394, 395, 396, 397, 398, 399, 400, 401, 402, 403, 409, 410, 411, 412, 413, 414, 415, 416, 417, 418, 419, 430, 431, 432, 433, 434, 435, 436, 420, 421, 422, 423, 424, 425, 426, 427, 428, 429, 439, 440, 441] rfl (by decide +kernel)
set_option maxRecDepth 20000 in
theorem gX8_digest_X8_hashAccounts : GoodIn wsX8_digest (wsV RX8 406 RX8 yX8_hashAccounts wsX8_hashAccounts) := goodIn_app (goodIn_r _ [349, 350, 351, 6] rfl (by decide +kernel)) ggX8_digest_X8_hashAccounts
set_option maxRecDepth 20000 in
theorem ggX8_digest_X8_hashTexts : GoodIn wsX8_digest wsX8_hashTexts := goodIn_r _ [407, 383, 408, 38, 39, 6, 40, 12, 13, 14, 15, 409, 410, 411, 412, 413, 414, 439, 440, 441, 442, 443, 444] rfl (by decide +kernel)
set_option maxRecDepth 20000 in
theorem gX8_digest_X8_hashTexts : GoodIn wsX8_digest (wsV RX8 409 RX8 yX8_hashTexts wsX8_hashTexts) := goodIn_app (goodIn_r _ [404, 405, 406, 6] rfl (by decide +kernel)) ggX8_digest_X8_hashTexts
theorem dX8_digest_0 : decode cX8_digest 0 = .ok (.aload_n 0, 1) := by decide +kernel
theorem dX8_digest_1 : decode cX8_digest 1 = .ok (.ldc2_w 384, 3) := by decide +kernel
theorem dX8_digest_4 : decode cX8_digest 4 = .ok (.invokevirtual 386, 3) := by decide +kernel
theorem dX8_digest_7 : decode cX8_digest 7 = .ok (.lstore_n 1, 1) := by decide +kernel
theorem dX8_digest_8 : decode cX8_digest 8 = .ok (.aload_n 0, 1) := by decide +kernel
theorem dX8_digest_9 : decode cX8_digest 9 = .ok (.lload_n 1, 1) := by decide +kernel
theorem dX8_digest_10 : decode cX8_digest 10 = .ok (.invokevirtual 390, 3) := by decide +kernel
theorem dX8_digest_13 : decode cX8_digest 13 = .ok (.lstore_n 1, 1) := by decide +kernel
theorem dX8_digest_14 : decode cX8_digest 14 = .ok (.aload_n 0, 1) := by decide +kernel
theorem dX8_digest_15 : decode cX8_digest 15 = .ok (.lload_n 1, 1) := by decide +kernel
theorem dX8_digest_16 : decode cX8_digest 16 = .ok (.invokevirtual 393, 3) := by decide +kernel
theorem dX8_digest_19 : decode cX8_digest 19 = .ok (.lstore_n 1, 1) := by decide +kernel
theorem dX8_digest_20 : decode cX8_digest 20 = .ok (.aload_n 0, 1) := by decide +kernel
theorem dX8_digest_21 : decode cX8_digest 21 = .ok (.lload_n 1, 1) := by decide +kernel
theorem dX8_digest_22 : decode cX8_digest 22 = .ok (.invokevirtual 396, 3) := by decide +kernel
theorem dX8_digest_25 : decode cX8_digest 25 = .ok (.lstore_n 1, 1) := by decide +kernel
theorem dX8_digest_26 : decode cX8_digest 26 = .ok (.aload_n 0, 1) := by decide +kernel
theorem dX8_digest_27 : decode cX8_digest 27 = .ok (.lload_n 1, 1) := by decide +kernel
theorem dX8_digest_28 : decode cX8_digest 28 = .ok (.invokevirtual 399, 3) := by decide +kernel
theorem dX8_digest_31 : decode cX8_digest 31 = .ok (.lstore_n 1, 1) := by decide +kernel
theorem dX8_digest_32 : decode cX8_digest 32 = .ok (.lload_n 1, 1) := by decide +kernel
theorem dX8_digest_33 : decode cX8_digest 33 = .ok (.aload_n 0, 1) := by decide +kernel
theorem dX8_digest_34 : decode cX8_digest 34 = .ok (.getfield 12, 3) := by decide +kernel
theorem dX8_digest_37 : decode cX8_digest 37 = .ok (.getfield 44, 3) := by decide +kernel
theorem dX8_digest_40 : decode cX8_digest 40 = .ok (.getfield 81, 3) := by decide +kernel
theorem dX8_digest_43 : decode cX8_digest 43 = .ok (.iconst (-1), 1) := by decide +kernel
theorem dX8_digest_44 : decode cX8_digest 44 = .ok (.if_icmp .ne 13, 3) := by decide +kernel
theorem dX8_digest_47 : decode cX8_digest 47 = .ok (.aload_n 0, 1) := by decide +kernel
theorem dX8_digest_48 : decode cX8_digest 48 = .ok (.invokevirtual 348, 3) := by decide +kernel
theorem dX8_digest_51 : decode cX8_digest 51 = .ok (.iconst 1, 1) := by decide +kernel
theorem dX8_digest_52 : decode cX8_digest 52 = .ok (.iadd, 1) := by decide +kernel
theorem dX8_digest_53 : decode cX8_digest 53 = .ok (.i2l, 1) := by decide +kernel
theorem dX8_digest_54 : decode cX8_digest 54 = .ok (.goto 4, 3) := by decide +kernel
theorem dX8_digest_57 : decode cX8_digest 57 = .ok (.lconst 0, 1) := by decide +kernel
theorem dX8_digest_58 : decode cX8_digest 58 = .ok (.invokestatic 402, 3) := by decide +kernel
theorem dX8_digest_61 : decode cX8_digest 61 = .ok (.lstore_n 1, 1) := by decide +kernel
theorem dX8_digest_62 : decode cX8_digest 62 = .ok (.aload_n 0, 1) := by decide +kernel
theorem dX8_digest_63 : decode cX8_digest 63 = .ok (.lload_n 1, 1) := by decide +kernel
theorem dX8_digest_64 : decode cX8_digest 64 = .ok (.invokevirtual 406, 3) := by decide +kernel
theorem dX8_digest_67 : decode cX8_digest 67 = .ok (.lstore_n 1, 1) := by decide +kernel
theorem dX8_digest_68 : decode cX8_digest 68 = .ok (.aload_n 0, 1) := by decide +kernel
theorem dX8_digest_69 : decode cX8_digest 69 = .ok (.lload_n 1, 1) := by decide +kernel
theorem dX8_digest_70 : decode cX8_digest 70 = .ok (.invokevirtual 409, 3) := by decide +kernel
theorem dX8_digest_73 : decode cX8_digest 73 = .ok (.lreturn, 1) := by decide +kernel
theorem dX8_requireHeight_0 : decode cX8_requireHeight 0 = .ok (.iload_n 1, 1) := by decide +kernel
theorem dX8_requireHeight_1 : decode cX8_requireHeight 1 = .ok (.iconst 1, 1) := by decide +kernel
theorem dX8_requireHeight_2 : decode cX8_requireHeight 2 = .ok (.if_icmp .lt 8, 3) := by decide +kernel
theorem dX8_requireHeight_5 : decode cX8_requireHeight 5 = .ok (.iload_n 1, 1) := by decide +kernel
theorem dX8_requireHeight_6 : decode cX8_requireHeight 6 = .ok (.iconst 4, 1) := by decide +kernel
theorem dX8_requireHeight_7 : decode cX8_requireHeight 7 = .ok (.if_icmp .le 14, 3) := by decide +kernel
theorem dX8_requireHeight_10 : decode cX8_requireHeight 10 = .ok (.new 174, 3) := by decide +kernel
theorem dX8_requireHeight_13 : decode cX8_requireHeight 13 = .ok (.dup, 1) := by decide +kernel
theorem dX8_requireHeight_14 : decode cX8_requireHeight 14 = .ok (.ldc_w 412, 3) := by decide +kernel
theorem dX8_requireHeight_17 : decode cX8_requireHeight 17 = .ok (.invokespecial 178, 3) := by decide +kernel
theorem dX8_requireHeight_20 : decode cX8_requireHeight 20 = .ok (.athrow, 1) := by decide +kernel
theorem dX8_requireHeight_21 : decode cX8_requireHeight 21 = .ok (.return_, 1) := by decide +kernel
theorem dX8_requireMany_0 : decode cX8_requireMany 0 = .ok (.iload_n 1, 1) := by decide +kernel
theorem dX8_requireMany_1 : decode cX8_requireMany 1 = .ok (.iconst 1, 1) := by decide +kernel
theorem dX8_requireMany_2 : decode cX8_requireMany 2 = .ok (.if_icmp .lt 9, 3) := by decide +kernel
theorem dX8_requireMany_5 : decode cX8_requireMany 5 = .ok (.iload_n 1, 1) := by decide +kernel
theorem dX8_requireMany_6 : decode cX8_requireMany 6 = .ok (.bipush 20, 2) := by decide +kernel
theorem dX8_requireMany_8 : decode cX8_requireMany 8 = .ok (.if_icmp .le 14, 3) := by decide +kernel
theorem dX8_requireMany_11 : decode cX8_requireMany 11 = .ok (.new 174, 3) := by decide +kernel
theorem dX8_requireMany_14 : decode cX8_requireMany 14 = .ok (.dup, 1) := by decide +kernel
theorem dX8_requireMany_15 : decode cX8_requireMany 15 = .ok (.ldc_w 414, 3) := by decide +kernel
theorem dX8_requireMany_18 : decode cX8_requireMany 18 = .ok (.invokespecial 178, 3) := by decide +kernel
theorem dX8_requireMany_21 : decode cX8_requireMany 21 = .ok (.athrow, 1) := by decide +kernel
theorem dX8_requireMany_22 : decode cX8_requireMany 22 = .ok (.return_, 1) := by decide +kernel
theorem dX8_requireSnapshotSlot_0 : decode cX8_requireSnapshotSlot 0 = .ok (.iload_n 1, 1) := by decide +kernel
theorem dX8_requireSnapshotSlot_1 : decode cX8_requireSnapshotSlot 1 = .ok (.ifCond .lt 8, 3) := by decide +kernel
theorem dX8_requireSnapshotSlot_4 : decode cX8_requireSnapshotSlot 4 = .ok (.iload_n 1, 1) := by decide +kernel
theorem dX8_requireSnapshotSlot_5 : decode cX8_requireSnapshotSlot 5 = .ok (.iconst 2, 1) := by decide +kernel
theorem dX8_requireSnapshotSlot_6 : decode cX8_requireSnapshotSlot 6 = .ok (.if_icmp .lt 14, 3) := by decide +kernel
theorem dX8_requireSnapshotSlot_9 : decode cX8_requireSnapshotSlot 9 = .ok (.new 174, 3) := by decide +kernel
theorem dX8_requireSnapshotSlot_12 : decode cX8_requireSnapshotSlot 12 = .ok (.dup, 1) := by decide +kernel
theorem dX8_requireSnapshotSlot_13 : decode cX8_requireSnapshotSlot 13 = .ok (.ldc_w 416, 3) := by decide +kernel
theorem dX8_requireSnapshotSlot_16 : decode cX8_requireSnapshotSlot 16 = .ok (.invokespecial 178, 3) := by decide +kernel
theorem dX8_requireSnapshotSlot_19 : decode cX8_requireSnapshotSlot 19 = .ok (.athrow, 1) := by decide +kernel
theorem dX8_requireSnapshotSlot_20 : decode cX8_requireSnapshotSlot 20 = .ok (.return_, 1) := by decide +kernel
theorem dX8_requireShelf_0 : decode cX8_requireShelf 0 = .ok (.iload_n 1, 1) := by decide +kernel
theorem dX8_requireShelf_1 : decode cX8_requireShelf 1 = .ok (.ifCond .lt 17, 3) := by decide +kernel
theorem dX8_requireShelf_4 : decode cX8_requireShelf 4 = .ok (.iload_n 1, 1) := by decide +kernel
theorem dX8_requireShelf_5 : decode cX8_requireShelf 5 = .ok (.aload_n 0, 1) := by decide +kernel
theorem dX8_requireShelf_6 : decode cX8_requireShelf 6 = .ok (.getfield 12, 3) := by decide +kernel
theorem dX8_requireShelf_9 : decode cX8_requireShelf 9 = .ok (.getfield 44, 3) := by decide +kernel
theorem dX8_requireShelf_12 : decode cX8_requireShelf 12 = .ok (.getfield 48, 3) := by decide +kernel
theorem dX8_requireShelf_15 : decode cX8_requireShelf 15 = .ok (.if_icmp .lt 14, 3) := by decide +kernel
theorem dX8_requireShelf_18 : decode cX8_requireShelf 18 = .ok (.new 418, 3) := by decide +kernel
theorem dX8_requireShelf_21 : decode cX8_requireShelf 21 = .ok (.dup, 1) := by decide +kernel
theorem dX8_requireShelf_22 : decode cX8_requireShelf 22 = .ok (.ldc_w 420, 3) := by decide +kernel
theorem dX8_requireShelf_25 : decode cX8_requireShelf 25 = .ok (.invokespecial 422, 3) := by decide +kernel
theorem dX8_requireShelf_28 : decode cX8_requireShelf 28 = .ok (.athrow, 1) := by decide +kernel
theorem dX8_requireShelf_29 : decode cX8_requireShelf 29 = .ok (.return_, 1) := by decide +kernel
theorem dX8_requireSide_0 : decode cX8_requireSide 0 = .ok (.iload_n 1, 1) := by decide +kernel
theorem dX8_requireSide_1 : decode cX8_requireSide 1 = .ok (.ifCond .lt 8, 3) := by decide +kernel
theorem dX8_requireSide_4 : decode cX8_requireSide 4 = .ok (.iload_n 1, 1) := by decide +kernel
theorem dX8_requireSide_5 : decode cX8_requireSide 5 = .ok (.iconst 2, 1) := by decide +kernel
theorem dX8_requireSide_6 : decode cX8_requireSide 6 = .ok (.if_icmp .lt 14, 3) := by decide +kernel
theorem dX8_requireSide_9 : decode cX8_requireSide 9 = .ok (.new 418, 3) := by decide +kernel
theorem dX8_requireSide_12 : decode cX8_requireSide 12 = .ok (.dup, 1) := by decide +kernel
theorem dX8_requireSide_13 : decode cX8_requireSide 13 = .ok (.ldc_w 423, 3) := by decide +kernel
theorem dX8_requireSide_16 : decode cX8_requireSide 16 = .ok (.invokespecial 422, 3) := by decide +kernel
theorem dX8_requireSide_19 : decode cX8_requireSide 19 = .ok (.athrow, 1) := by decide +kernel
theorem dX8_requireSide_20 : decode cX8_requireSide 20 = .ok (.return_, 1) := by decide +kernel
set_option maxRecDepth 20000 in
theorem ggX8_requireSlot_X8_requireSide : GoodIn wsX8_requireSlot wsX8_requireSide := goodIn_ca (goodIn_r _ [7, 1, 2] rfl (by decide +kernel)) (goodIn_sub (fun _ h => List.mem_cons_of_mem _ (List.mem_append_right _ h)) (by decide +kernel))
set_option maxRecDepth 20000 in
theorem gX8_requireSlot_X8_requireSide : GoodIn wsX8_requireSlot (wsV RX8 292 RX8 yX8_requireSide wsX8_requireSide) := goodIn_app (goodIn_r _ [3, 4, 5, 6] rfl (by decide +kernel)) ggX8_requireSlot_X8_requireSide
theorem dX8_requireSlot_0 : decode cX8_requireSlot 0 = .ok (.aload_n 0, 1) := by decide +kernel
theorem dX8_requireSlot_1 : decode cX8_requireSlot 1 = .ok (.iload_n 1, 1) := by decide +kernel
theorem dX8_requireSlot_2 : decode cX8_requireSlot 2 = .ok (.invokevirtual 292, 3) := by decide +kernel
theorem dX8_requireSlot_5 : decode cX8_requireSlot 5 = .ok (.iload_n 2, 1) := by decide +kernel
theorem dX8_requireSlot_6 : decode cX8_requireSlot 6 = .ok (.ifCond .lt 9, 3) := by decide +kernel
theorem dX8_requireSlot_9 : decode cX8_requireSlot 9 = .ok (.iload_n 2, 1) := by decide +kernel
theorem dX8_requireSlot_10 : decode cX8_requireSlot 10 = .ok (.bipush 20, 2) := by decide +kernel
theorem dX8_requireSlot_12 : decode cX8_requireSlot 12 = .ok (.if_icmp .lt 14, 3) := by decide +kernel
theorem dX8_requireSlot_15 : decode cX8_requireSlot 15 = .ok (.new 418, 3) := by decide +kernel
theorem dX8_requireSlot_18 : decode cX8_requireSlot 18 = .ok (.dup, 1) := by decide +kernel
theorem dX8_requireSlot_19 : decode cX8_requireSlot 19 = .ok (.ldc_w 425, 3) := by decide +kernel
theorem dX8_requireSlot_22 : decode cX8_requireSlot 22 = .ok (.invokespecial 422, 3) := by decide +kernel
theorem dX8_requireSlot_25 : decode cX8_requireSlot 25 = .ok (.athrow, 1) := by decide +kernel
theorem dX8_requireSlot_26 : decode cX8_requireSlot 26 = .ok (.return_, 1) := by decide +kernel
theorem dX8_requireKind_0 : decode cX8_requireKind 0 = .ok (.iload_n 1, 1) := by decide +kernel
theorem dX8_requireKind_1 : decode cX8_requireKind 1 = .ok (.ifCond .lt 9, 3) := by decide +kernel
theorem dX8_requireKind_4 : decode cX8_requireKind 4 = .ok (.iload_n 1, 1) := by decide +kernel
theorem dX8_requireKind_5 : decode cX8_requireKind 5 = .ok (.bipush 10, 2) := by decide +kernel
theorem dX8_requireKind_7 : decode cX8_requireKind 7 = .ok (.if_icmp .lt 14, 3) := by decide +kernel
theorem dX8_requireKind_10 : decode cX8_requireKind 10 = .ok (.new 418, 3) := by decide +kernel
theorem dX8_requireKind_13 : decode cX8_requireKind 13 = .ok (.dup, 1) := by decide +kernel
theorem dX8_requireKind_14 : decode cX8_requireKind 14 = .ok (.ldc_w 427, 3) := by decide +kernel
theorem dX8_requireKind_17 : decode cX8_requireKind 17 = .ok (.invokespecial 422, 3) := by decide +kernel
theorem dX8_requireKind_20 : decode cX8_requireKind 20 = .ok (.athrow, 1) := by decide +kernel
theorem dX8_requireKind_21 : decode cX8_requireKind 21 = .ok (.return_, 1) := by decide +kernel
theorem dX8_requireOrder_0 : decode cX8_requireOrder 0 = .ok (.iload_n 1, 1) := by decide +kernel
theorem dX8_requireOrder_1 : decode cX8_requireOrder 1 = .ok (.ifCond .lt 17, 3) := by decide +kernel
theorem dX8_requireOrder_4 : decode cX8_requireOrder 4 = .ok (.iload_n 1, 1) := by decide +kernel
theorem dX8_requireOrder_5 : decode cX8_requireOrder 5 = .ok (.aload_n 0, 1) := by decide +kernel
theorem dX8_requireOrder_6 : decode cX8_requireOrder 6 = .ok (.getfield 12, 3) := by decide +kernel
theorem dX8_requireOrder_9 : decode cX8_requireOrder 9 = .ok (.getfield 179, 3) := by decide +kernel
theorem dX8_requireOrder_12 : decode cX8_requireOrder 12 = .ok (.getfield 183, 3) := by decide +kernel
theorem dX8_requireOrder_15 : decode cX8_requireOrder 15 = .ok (.if_icmp .lt 14, 3) := by decide +kernel
theorem dX8_requireOrder_18 : decode cX8_requireOrder 18 = .ok (.new 418, 3) := by decide +kernel
theorem dX8_requireOrder_21 : decode cX8_requireOrder 21 = .ok (.dup, 1) := by decide +kernel
theorem dX8_requireOrder_22 : decode cX8_requireOrder 22 = .ok (.ldc_w 429, 3) := by decide +kernel
theorem dX8_requireOrder_25 : decode cX8_requireOrder 25 = .ok (.invokespecial 422, 3) := by decide +kernel
theorem dX8_requireOrder_28 : decode cX8_requireOrder 28 = .ok (.athrow, 1) := by decide +kernel
theorem dX8_requireOrder_29 : decode cX8_requireOrder 29 = .ok (.return_, 1) := by decide +kernel
theorem dX8_requireTrip_0 : decode cX8_requireTrip 0 = .ok (.iload_n 1, 1) := by decide +kernel
theorem dX8_requireTrip_1 : decode cX8_requireTrip 1 = .ok (.ifCond .lt 17, 3) := by decide +kernel
theorem dX8_requireTrip_4 : decode cX8_requireTrip 4 = .ok (.iload_n 1, 1) := by decide +kernel
theorem dX8_requireTrip_5 : decode cX8_requireTrip 5 = .ok (.aload_n 0, 1) := by decide +kernel
theorem dX8_requireTrip_6 : decode cX8_requireTrip 6 = .ok (.getfield 12, 3) := by decide +kernel
theorem dX8_requireTrip_9 : decode cX8_requireTrip 9 = .ok (.getfield 232, 3) := by decide +kernel
theorem dX8_requireTrip_12 : decode cX8_requireTrip 12 = .ok (.getfield 304, 3) := by decide +kernel
theorem dX8_requireTrip_15 : decode cX8_requireTrip 15 = .ok (.if_icmp .lt 14, 3) := by decide +kernel
theorem dX8_requireTrip_18 : decode cX8_requireTrip 18 = .ok (.new 418, 3) := by decide +kernel
theorem dX8_requireTrip_21 : decode cX8_requireTrip 21 = .ok (.dup, 1) := by decide +kernel
theorem dX8_requireTrip_22 : decode cX8_requireTrip 22 = .ok (.ldc_w 431, 3) := by decide +kernel
theorem dX8_requireTrip_25 : decode cX8_requireTrip 25 = .ok (.invokespecial 422, 3) := by decide +kernel
theorem dX8_requireTrip_28 : decode cX8_requireTrip 28 = .ok (.athrow, 1) := by decide +kernel
theorem dX8_requireTrip_29 : decode cX8_requireTrip 29 = .ok (.return_, 1) := by decide +kernel
theorem dX8_requireEmptyWindow_0 : decode cX8_requireEmptyWindow 0 = .ok (.aload_n 0, 1) := by decide +kernel
theorem dX8_requireEmptyWindow_1 : decode cX8_requireEmptyWindow 1 = .ok (.getfield 12, 3) := by decide +kernel
theorem dX8_requireEmptyWindow_4 : decode cX8_requireEmptyWindow 4 = .ok (.getfield 44, 3) := by decide +kernel
theorem dX8_requireEmptyWindow_7 : decode cX8_requireEmptyWindow 7 = .ok (.getfield 81, 3) := by decide +kernel
theorem dX8_requireEmptyWindow_10 : decode cX8_requireEmptyWindow 10 = .ok (.iconst (-1), 1) := by decide +kernel
theorem dX8_requireEmptyWindow_11 : decode cX8_requireEmptyWindow 11 = .ok (.if_icmp .eq 14, 3) := by decide +kernel
theorem dX8_requireEmptyWindow_14 : decode cX8_requireEmptyWindow 14 = .ok (.new 54, 3) := by decide +kernel
theorem dX8_requireEmptyWindow_17 : decode cX8_requireEmptyWindow 17 = .ok (.dup, 1) := by decide +kernel
theorem dX8_requireEmptyWindow_18 : decode cX8_requireEmptyWindow 18 = .ok (.ldc_w 433, 3) := by decide +kernel
theorem dX8_requireEmptyWindow_21 : decode cX8_requireEmptyWindow 21 = .ok (.invokespecial 58, 3) := by decide +kernel
theorem dX8_requireEmptyWindow_24 : decode cX8_requireEmptyWindow 24 = .ok (.athrow, 1) := by decide +kernel
theorem dX8_requireEmptyWindow_25 : decode cX8_requireEmptyWindow 25 = .ok (.return_, 1) := by decide +kernel
theorem dX8_requireShelfAtWindow_0 : decode cX8_requireShelfAtWindow 0 = .ok (.aload_n 0, 1) := by decide +kernel
theorem dX8_requireShelfAtWindow_1 : decode cX8_requireShelfAtWindow 1 = .ok (.getfield 12, 3) := by decide +kernel
theorem dX8_requireShelfAtWindow_4 : decode cX8_requireShelfAtWindow 4 = .ok (.getfield 44, 3) := by decide +kernel
theorem dX8_requireShelfAtWindow_7 : decode cX8_requireShelfAtWindow 7 = .ok (.getfield 81, 3) := by decide +kernel
theorem dX8_requireShelfAtWindow_10 : decode cX8_requireShelfAtWindow 10 = .ok (.ifCond .lt 26, 3) := by decide +kernel
theorem dX8_requireShelfAtWindow_13 : decode cX8_requireShelfAtWindow 13 = .ok (.aload_n 0, 1) := by decide +kernel
theorem dX8_requireShelfAtWindow_14 : decode cX8_requireShelfAtWindow 14 = .ok (.getfield 12, 3) := by decide +kernel
theorem dX8_requireShelfAtWindow_17 : decode cX8_requireShelfAtWindow 17 = .ok (.getfield 44, 3) := by decide +kernel
theorem dX8_requireShelfAtWindow_20 : decode cX8_requireShelfAtWindow 20 = .ok (.getfield 81, 3) := by decide +kernel
theorem dX8_requireShelfAtWindow_23 : decode cX8_requireShelfAtWindow 23 = .ok (.aload_n 0, 1) := by decide +kernel
theorem dX8_requireShelfAtWindow_24 : decode cX8_requireShelfAtWindow 24 = .ok (.getfield 12, 3) := by decide +kernel
theorem dX8_requireShelfAtWindow_27 : decode cX8_requireShelfAtWindow 27 = .ok (.getfield 44, 3) := by decide +kernel
theorem dX8_requireShelfAtWindow_30 : decode cX8_requireShelfAtWindow 30 = .ok (.getfield 48, 3) := by decide +kernel
theorem dX8_requireShelfAtWindow_33 : decode cX8_requireShelfAtWindow 33 = .ok (.if_icmp .lt 14, 3) := by decide +kernel
theorem dX8_requireShelfAtWindow_36 : decode cX8_requireShelfAtWindow 36 = .ok (.new 54, 3) := by decide +kernel
theorem dX8_requireShelfAtWindow_39 : decode cX8_requireShelfAtWindow 39 = .ok (.dup, 1) := by decide +kernel
theorem dX8_requireShelfAtWindow_40 : decode cX8_requireShelfAtWindow 40 = .ok (.ldc_w 435, 3) := by decide +kernel
theorem dX8_requireShelfAtWindow_43 : decode cX8_requireShelfAtWindow 43 = .ok (.invokespecial 58, 3) := by decide +kernel
theorem dX8_requireShelfAtWindow_46 : decode cX8_requireShelfAtWindow 46 = .ok (.athrow, 1) := by decide +kernel
theorem dX8_requireShelfAtWindow_47 : decode cX8_requireShelfAtWindow 47 = .ok (.return_, 1) := by decide +kernel
theorem dX8_requireSomeShelf_0 : decode cX8_requireSomeShelf 0 = .ok (.aload_n 0, 1) := by decide +kernel
theorem dX8_requireSomeShelf_1 : decode cX8_requireSomeShelf 1 = .ok (.getfield 12, 3) := by decide +kernel
theorem dX8_requireSomeShelf_4 : decode cX8_requireSomeShelf 4 = .ok (.getfield 44, 3) := by decide +kernel
theorem dX8_requireSomeShelf_7 : decode cX8_requireSomeShelf 7 = .ok (.getfield 48, 3) := by decide +kernel
theorem dX8_requireSomeShelf_10 : decode cX8_requireSomeShelf 10 = .ok (.ifCond .ne 14, 3) := by decide +kernel
theorem dX8_requireSomeShelf_13 : decode cX8_requireSomeShelf 13 = .ok (.new 54, 3) := by decide +kernel
theorem dX8_requireSomeShelf_16 : decode cX8_requireSomeShelf 16 = .ok (.dup, 1) := by decide +kernel
theorem dX8_requireSomeShelf_17 : decode cX8_requireSomeShelf 17 = .ok (.ldc_w 437, 3) := by decide +kernel
theorem dX8_requireSomeShelf_20 : decode cX8_requireSomeShelf 20 = .ok (.invokespecial 58, 3) := by decide +kernel
theorem dX8_requireSomeShelf_23 : decode cX8_requireSomeShelf 23 = .ok (.athrow, 1) := by decide +kernel
theorem dX8_requireSomeShelf_24 : decode cX8_requireSomeShelf 24 = .ok (.return_, 1) := by decide +kernel
set_option maxRecDepth 20000 in
theorem ggX8_requireServable_X6_isServable : GoodIn wsX8_requireServable wsX6_isServable := goodIn_r _ [7, 8, 9, 10, 11, 5, 12, 13, 14, 15, 16, 17, 18, 19, 20, 21, 22, 23, 30, 31, 32, 33, 34, 35, 36, 37, 38, 39, 40, 41, 42] rfl (by decide +kernel)
set_option maxRecDepth 20000 in
theorem gX8_requireServable_X6_isServable_n329 : GoodIn wsX8_requireServable (wsX6_isServable) := ggX8_requireServable_X6_isServable
theorem dX8_requireServable_0 : decode cX8_requireServable 0 = .ok (.aload_n 0, 1) := by decide +kernel
theorem dX8_requireServable_1 : decode cX8_requireServable 1 = .ok (.getfield 12, 3) := by decide +kernel
theorem dX8_requireServable_4 : decode cX8_requireServable 4 = .ok (.iload_n 1, 1) := by decide +kernel
theorem dX8_requireServable_5 : decode cX8_requireServable 5 = .ok (.invokevirtual 329, 3) := by decide +kernel
theorem dX8_requireServable_8 : decode cX8_requireServable 8 = .ok (.ifCond .ne 14, 3) := by decide +kernel
theorem dX8_requireServable_11 : decode cX8_requireServable 11 = .ok (.new 54, 3) := by decide +kernel
theorem dX8_requireServable_14 : decode cX8_requireServable 14 = .ok (.dup, 1) := by decide +kernel
theorem dX8_requireServable_15 : decode cX8_requireServable 15 = .ok (.ldc_w 439, 3) := by decide +kernel
theorem dX8_requireServable_18 : decode cX8_requireServable 18 = .ok (.invokespecial 58, 3) := by decide +kernel
theorem dX8_requireServable_21 : decode cX8_requireServable 21 = .ok (.athrow, 1) := by decide +kernel
theorem dX8_requireServable_22 : decode cX8_requireServable 22 = .ok (.return_, 1) := by decide +kernel
set_option maxRecDepth 20000 in
theorem ggX8_requirePackable_X8_requireEmptyWindow : GoodIn wsX8_requirePackable wsX8_requireEmptyWindow := goodIn_ca (goodIn_r _ [9, 1, 2, 3, 30, 31, 32, 33, 34, 35, 36, 37, 38, 39, 40, 41, 42, 43, 44, 45, 46] rfl (by decide +kernel)) (goodIn_sub (fun _ h => List.mem_cons_of_mem _ (List.mem_append_right _ h)) (by decide +kernel))
set_option maxRecDepth 20000 in
theorem gX8_requirePackable_X8_requireEmptyWindow : GoodIn wsX8_requirePackable (wsV RX8 61 RX8 yX8_requireEmptyWindow wsX8_requireEmptyWindow) := goodIn_app (goodIn_r _ [5, 6, 7, 8] rfl (by decide +kernel)) ggX8_requirePackable_X8_requireEmptyWindow
set_option maxRecDepth 20000 in
theorem ggX8_requirePackable_X7_findPacked : GoodIn wsX8_requirePackable wsX7_findPacked := goodIn_r _ [13, 14, 15, 16, 17, 18, 11, 19, 20, 21, 22, 23, 24, 25, 26, 27, 28, 29, 41, 42, 43, 44, 45, 46] rfl (by decide +kernel)
set_option maxRecDepth 20000 in
theorem gX8_requirePackable_X7_findPacked_n441 : GoodIn wsX8_requirePackable (wsX7_findPacked) := ggX8_requirePackable_X7_findPacked
theorem dX8_requirePackable_0 : decode cX8_requirePackable 0 = .ok (.aload_n 0, 1) := by decide +kernel
theorem dX8_requirePackable_1 : decode cX8_requirePackable 1 = .ok (.invokevirtual 61, 3) := by decide +kernel
theorem dX8_requirePackable_4 : decode cX8_requirePackable 4 = .ok (.aload_n 0, 1) := by decide +kernel
theorem dX8_requirePackable_5 : decode cX8_requirePackable 5 = .ok (.getfield 12, 3) := by decide +kernel
theorem dX8_requirePackable_8 : decode cX8_requirePackable 8 = .ok (.getfield 44, 3) := by decide +kernel
theorem dX8_requirePackable_11 : decode cX8_requirePackable 11 = .ok (.aload_n 0, 1) := by decide +kernel
theorem dX8_requirePackable_12 : decode cX8_requirePackable 12 = .ok (.getfield 33, 3) := by decide +kernel
theorem dX8_requirePackable_15 : decode cX8_requirePackable 15 = .ok (.invokevirtual 441, 3) := by decide +kernel
theorem dX8_requirePackable_18 : decode cX8_requirePackable 18 = .ok (.ifCond .ne 14, 3) := by decide +kernel
theorem dX8_requirePackable_21 : decode cX8_requirePackable 21 = .ok (.new 54, 3) := by decide +kernel
theorem dX8_requirePackable_24 : decode cX8_requirePackable 24 = .ok (.dup, 1) := by decide +kernel
theorem dX8_requirePackable_25 : decode cX8_requirePackable 25 = .ok (.ldc_w 445, 3) := by decide +kernel
theorem dX8_requirePackable_28 : decode cX8_requirePackable 28 = .ok (.invokespecial 58, 3) := by decide +kernel
theorem dX8_requirePackable_31 : decode cX8_requirePackable 31 = .ok (.athrow, 1) := by decide +kernel
theorem dX8_requirePackable_32 : decode cX8_requirePackable 32 = .ok (.return_, 1) := by decide +kernel
set_option maxRecDepth 20000 in
theorem ggX8_fewestFound_X3_wantedOf : GoodIn wsX8_fewestFound wsX3_wantedOf := goodIn_r _ [6, 7, 38, 39] rfl (by decide +kernel)
set_option maxRecDepth 20000 in
theorem gX8_fewestFound_X3_wantedOf_n326 : GoodIn wsX8_fewestFound (wsX3_wantedOf) := ggX8_fewestFound_X3_wantedOf
set_option maxRecDepth 20000 in
theorem ggX8_fewestFound_X8_fewestFrom : GoodIn wsX8_fewestFound wsX8_fewestFrom := goodIn_r _ [11, 12, 13, 10, 14, 15, 16, 17, 18, 19, 20, 21, 22, 23, 24, 25, 26, 8, 9, 40, 41, 42, 43, 44, 45] rfl (by decide +kernel)
set_option maxRecDepth 20000 in
theorem gX8_fewestFound_X8_fewestFrom : GoodIn wsX8_fewestFound (va_wsS RX8 447 yX8_fewestFrom wsX8_fewestFrom) := goodIn_app (goodIn_r _ [8, 9, 10] rfl (by decide +kernel)) ggX8_fewestFound_X8_fewestFrom
theorem dX8_fewestFound_0 : decode cX8_fewestFound 0 = .ok (.iconst 0, 1) := by decide +kernel
theorem dX8_fewestFound_1 : decode cX8_fewestFound 1 = .ok (.istore_n 2, 1) := by decide +kernel
theorem dX8_fewestFound_2 : decode cX8_fewestFound 2 = .ok (.iload_n 2, 1) := by decide +kernel
theorem dX8_fewestFound_3 : decode cX8_fewestFound 3 = .ok (.bipush 10, 2) := by decide +kernel
theorem dX8_fewestFound_5 : decode cX8_fewestFound 5 = .ok (.if_icmp .ge 27, 3) := by decide +kernel
theorem dX8_fewestFound_8 : decode cX8_fewestFound 8 = .ok (.aload_n 0, 1) := by decide +kernel
theorem dX8_fewestFound_9 : decode cX8_fewestFound 9 = .ok (.getfield 37, 3) := by decide +kernel
theorem dX8_fewestFound_12 : decode cX8_fewestFound 12 = .ok (.iload_n 2, 1) := by decide +kernel
theorem dX8_fewestFound_13 : decode cX8_fewestFound 13 = .ok (.aload_n 0, 1) := by decide +kernel
theorem dX8_fewestFound_14 : decode cX8_fewestFound 14 = .ok (.getfield 12, 3) := by decide +kernel
theorem dX8_fewestFound_17 : decode cX8_fewestFound 17 = .ok (.getfield 179, 3) := by decide +kernel
theorem dX8_fewestFound_20 : decode cX8_fewestFound 20 = .ok (.iload_n 1, 1) := by decide +kernel
theorem dX8_fewestFound_21 : decode cX8_fewestFound 21 = .ok (.iload_n 2, 1) := by decide +kernel
theorem dX8_fewestFound_22 : decode cX8_fewestFound 22 = .ok (.invokevirtual 326, 3) := by decide +kernel
theorem dX8_fewestFound_25 : decode cX8_fewestFound 25 = .ok (.iastore, 1) := by decide +kernel
theorem dX8_fewestFound_26 : decode cX8_fewestFound 26 = .ok (.iinc 2 1, 3) := by decide +kernel
theorem dX8_fewestFound_29 : decode cX8_fewestFound 29 = .ok (.goto (-27), 3) := by decide +kernel
theorem dX8_fewestFound_32 : decode cX8_fewestFound 32 = .ok (.aload_n 0, 1) := by decide +kernel
theorem dX8_fewestFound_33 : decode cX8_fewestFound 33 = .ok (.getfield 12, 3) := by decide +kernel
theorem dX8_fewestFound_36 : decode cX8_fewestFound 36 = .ok (.getfield 44, 3) := by decide +kernel
theorem dX8_fewestFound_39 : decode cX8_fewestFound 39 = .ok (.aload_n 0, 1) := by decide +kernel
theorem dX8_fewestFound_40 : decode cX8_fewestFound 40 = .ok (.getfield 37, 3) := by decide +kernel
theorem dX8_fewestFound_43 : decode cX8_fewestFound 43 = .ok (.iconst 0, 1) := by decide +kernel
theorem dX8_fewestFound_44 : decode cX8_fewestFound 44 = .ok (.iconst 0, 1) := by decide +kernel
theorem dX8_fewestFound_45 : decode cX8_fewestFound 45 = .ok (.bipush 13, 2) := by decide +kernel
theorem dX8_fewestFound_47 : decode cX8_fewestFound 47 = .ok (.invokestatic 447, 3) := by decide +kernel
theorem dX8_fewestFound_50 : decode cX8_fewestFound 50 = .ok (.ireturn, 1) := by decide +kernel
set_option maxRecDepth 20000 in
theorem ggX8_fewestFrom_X8_isLacking : GoodIn wsX8_fewestFrom wsX8_isLacking := goodIn_r _ [4] rfl (by decide +kernel)
set_option maxRecDepth 20000 in
theorem gX8_fewestFrom_X8_isLacking : GoodIn wsX8_fewestFrom (va_wsS RX8 451 yX8_isLacking wsX8_isLacking) := goodIn_app (goodIn_r _ [1, 2, 3] rfl (by decide +kernel)) ggX8_fewestFrom_X8_isLacking
set_option maxRecDepth 20000 in
theorem ggX8_fewestFrom_X7_helps : GoodIn wsX8_fewestFrom wsX7_helps := goodIn_r _ [8, 9, 10, 11, 6, 12, 13, 19, 20, 21, 22, 23, 24] rfl (by decide +kernel)
set_option maxRecDepth 20000 in
theorem gX8_fewestFrom_X7_helps_n454 : GoodIn wsX8_fewestFrom (wsX7_helps) := ggX8_fewestFrom_X7_helps
set_option maxRecDepth 20000 in
theorem ggX8_fewestFrom_X7_lend : GoodIn wsX8_fewestFrom wsX7_lend := goodIn_r _ [16, 9, 10, 11, 6, 12, 13, 19, 20, 21, 22, 23, 24] rfl (by decide +kernel)
set_option maxRecDepth 20000 in
theorem gX8_fewestFrom_X7_lend_n458 : GoodIn wsX8_fewestFrom (wsX7_lend) := ggX8_fewestFrom_X7_lend
set_option maxRecDepth 20000 in
theorem ggX8_fewestFrom_X8_fewestFrom : GoodIn wsX8_fewestFrom wsX8_fewestFrom := goodIn_r _ [0, 1, 2, 3, 4, 5, 6, 7, 8, 9, 10, 11, 12, 13, 14, 15, 16, 17, 18, 19, 20, 21, 22, 23, 24] rfl (by decide +kernel)
set_option maxRecDepth 20000 in
theorem gX8_fewestFrom_X8_fewestFrom : GoodIn wsX8_fewestFrom (va_wsS RX8 447 yX8_fewestFrom wsX8_fewestFrom) := goodIn_app (goodIn_r _ [17, 18, 3] rfl (by decide +kernel)) ggX8_fewestFrom_X8_fewestFrom
theorem dX8_fewestFrom_0 : decode cX8_fewestFrom 0 = .ok (.aload_n 1, 1) := by decide +kernel
theorem dX8_fewestFrom_1 : decode cX8_fewestFrom 1 = .ok (.invokestatic 451, 3) := by decide +kernel
theorem dX8_fewestFrom_4 : decode cX8_fewestFrom 4 = .ok (.ifCond .ne 5, 3) := by decide +kernel
theorem dX8_fewestFrom_7 : decode cX8_fewestFrom 7 = .ok (.iload_n 3, 1) := by decide +kernel
theorem dX8_fewestFrom_8 : decode cX8_fewestFrom 8 = .ok (.ireturn, 1) := by decide +kernel
theorem dX8_fewestFrom_9 : decode cX8_fewestFrom 9 = .ok (.iload_n 2, 1) := by decide +kernel
theorem dX8_fewestFrom_10 : decode cX8_fewestFrom 10 = .ok (.aload_n 0, 1) := by decide +kernel
theorem dX8_fewestFrom_11 : decode cX8_fewestFrom 11 = .ok (.getfield 48, 3) := by decide +kernel
theorem dX8_fewestFrom_14 : decode cX8_fewestFrom 14 = .ok (.if_icmp .ge 17, 3) := by decide +kernel
theorem dX8_fewestFrom_17 : decode cX8_fewestFrom 17 = .ok (.iload_n 2, 1) := by decide +kernel
theorem dX8_fewestFrom_18 : decode cX8_fewestFrom 18 = .ok (.bipush 12, 2) := by decide +kernel
theorem dX8_fewestFrom_20 : decode cX8_fewestFrom 20 = .ok (.if_icmp .ge 11, 3) := by decide +kernel
theorem dX8_fewestFrom_23 : decode cX8_fewestFrom 23 = .ok (.iload_n 3, 1) := by decide +kernel
theorem dX8_fewestFrom_24 : decode cX8_fewestFrom 24 = .ok (.iconst 1, 1) := by decide +kernel
theorem dX8_fewestFrom_25 : decode cX8_fewestFrom 25 = .ok (.iadd, 1) := by decide +kernel
theorem dX8_fewestFrom_26 : decode cX8_fewestFrom 26 = .ok (.iload 4, 2) := by decide +kernel
theorem dX8_fewestFrom_28 : decode cX8_fewestFrom 28 = .ok (.if_icmp .lt 6, 3) := by decide +kernel
theorem dX8_fewestFrom_31 : decode cX8_fewestFrom 31 = .ok (.iload 4, 2) := by decide +kernel
theorem dX8_fewestFrom_33 : decode cX8_fewestFrom 33 = .ok (.ireturn, 1) := by decide +kernel
theorem dX8_fewestFrom_34 : decode cX8_fewestFrom 34 = .ok (.iload 4, 2) := by decide +kernel
theorem dX8_fewestFrom_36 : decode cX8_fewestFrom 36 = .ok (.istore 5, 2) := by decide +kernel
theorem dX8_fewestFrom_38 : decode cX8_fewestFrom 38 = .ok (.aload_n 0, 1) := by decide +kernel
theorem dX8_fewestFrom_39 : decode cX8_fewestFrom 39 = .ok (.iload_n 2, 1) := by decide +kernel
theorem dX8_fewestFrom_40 : decode cX8_fewestFrom 40 = .ok (.aload_n 1, 1) := by decide +kernel
theorem dX8_fewestFrom_41 : decode cX8_fewestFrom 41 = .ok (.invokevirtual 454, 3) := by decide +kernel
theorem dX8_fewestFrom_44 : decode cX8_fewestFrom 44 = .ok (.ifCond .eq 32, 3) := by decide +kernel
theorem dX8_fewestFrom_47 : decode cX8_fewestFrom 47 = .ok (.aload_n 0, 1) := by decide +kernel
theorem dX8_fewestFrom_48 : decode cX8_fewestFrom 48 = .ok (.iload_n 2, 1) := by decide +kernel
theorem dX8_fewestFrom_49 : decode cX8_fewestFrom 49 = .ok (.aload_n 1, 1) := by decide +kernel
theorem dX8_fewestFrom_50 : decode cX8_fewestFrom 50 = .ok (.iconst (-1), 1) := by decide +kernel
theorem dX8_fewestFrom_51 : decode cX8_fewestFrom 51 = .ok (.invokevirtual 458, 3) := by decide +kernel
theorem dX8_fewestFrom_54 : decode cX8_fewestFrom 54 = .ok (.aload_n 0, 1) := by decide +kernel
theorem dX8_fewestFrom_55 : decode cX8_fewestFrom 55 = .ok (.aload_n 1, 1) := by decide +kernel
theorem dX8_fewestFrom_56 : decode cX8_fewestFrom 56 = .ok (.iload_n 2, 1) := by decide +kernel
theorem dX8_fewestFrom_57 : decode cX8_fewestFrom 57 = .ok (.iconst 1, 1) := by decide +kernel
theorem dX8_fewestFrom_58 : decode cX8_fewestFrom 58 = .ok (.iadd, 1) := by decide +kernel
theorem dX8_fewestFrom_59 : decode cX8_fewestFrom 59 = .ok (.iload_n 3, 1) := by decide +kernel
theorem dX8_fewestFrom_60 : decode cX8_fewestFrom 60 = .ok (.iconst 1, 1) := by decide +kernel
theorem dX8_fewestFrom_61 : decode cX8_fewestFrom 61 = .ok (.iadd, 1) := by decide +kernel
theorem dX8_fewestFrom_62 : decode cX8_fewestFrom 62 = .ok (.iload 5, 2) := by decide +kernel
theorem dX8_fewestFrom_64 : decode cX8_fewestFrom 64 = .ok (.invokestatic 447, 3) := by decide +kernel
theorem dX8_fewestFrom_67 : decode cX8_fewestFrom 67 = .ok (.istore 5, 2) := by decide +kernel
theorem dX8_fewestFrom_69 : decode cX8_fewestFrom 69 = .ok (.aload_n 0, 1) := by decide +kernel
theorem dX8_fewestFrom_70 : decode cX8_fewestFrom 70 = .ok (.iload_n 2, 1) := by decide +kernel
theorem dX8_fewestFrom_71 : decode cX8_fewestFrom 71 = .ok (.aload_n 1, 1) := by decide +kernel
theorem dX8_fewestFrom_72 : decode cX8_fewestFrom 72 = .ok (.iconst 1, 1) := by decide +kernel
theorem dX8_fewestFrom_73 : decode cX8_fewestFrom 73 = .ok (.invokevirtual 458, 3) := by decide +kernel
theorem dX8_fewestFrom_76 : decode cX8_fewestFrom 76 = .ok (.aload_n 0, 1) := by decide +kernel
theorem dX8_fewestFrom_77 : decode cX8_fewestFrom 77 = .ok (.aload_n 1, 1) := by decide +kernel
theorem dX8_fewestFrom_78 : decode cX8_fewestFrom 78 = .ok (.iload_n 2, 1) := by decide +kernel
theorem dX8_fewestFrom_79 : decode cX8_fewestFrom 79 = .ok (.iconst 1, 1) := by decide +kernel
theorem dX8_fewestFrom_80 : decode cX8_fewestFrom 80 = .ok (.iadd, 1) := by decide +kernel
theorem dX8_fewestFrom_81 : decode cX8_fewestFrom 81 = .ok (.iload_n 3, 1) := by decide +kernel
theorem dX8_fewestFrom_82 : decode cX8_fewestFrom 82 = .ok (.iload 5, 2) := by decide +kernel
theorem dX8_fewestFrom_84 : decode cX8_fewestFrom 84 = .ok (.invokestatic 447, 3) := by decide +kernel
theorem dX8_fewestFrom_87 : decode cX8_fewestFrom 87 = .ok (.ireturn, 1) := by decide +kernel
theorem dX8_isLacking_0 : decode cX8_isLacking 0 = .ok (.iconst 0, 1) := by decide +kernel
theorem dX8_isLacking_1 : decode cX8_isLacking 1 = .ok (.istore_n 1, 1) := by decide +kernel
theorem dX8_isLacking_2 : decode cX8_isLacking 2 = .ok (.iload_n 1, 1) := by decide +kernel
theorem dX8_isLacking_3 : decode cX8_isLacking 3 = .ok (.bipush 10, 2) := by decide +kernel
theorem dX8_isLacking_5 : decode cX8_isLacking 5 = .ok (.if_icmp .ge 23, 3) := by decide +kernel
theorem dX8_isLacking_8 : decode cX8_isLacking 8 = .ok (.iload_n 1, 1) := by decide +kernel
theorem dX8_isLacking_9 : decode cX8_isLacking 9 = .ok (.aload_n 0, 1) := by decide +kernel
theorem dX8_isLacking_10 : decode cX8_isLacking 10 = .ok (.arraylength, 1) := by decide +kernel
theorem dX8_isLacking_11 : decode cX8_isLacking 11 = .ok (.if_icmp .ge 17, 3) := by decide +kernel
theorem dX8_isLacking_14 : decode cX8_isLacking 14 = .ok (.aload_n 0, 1) := by decide +kernel
theorem dX8_isLacking_15 : decode cX8_isLacking 15 = .ok (.iload_n 1, 1) := by decide +kernel
theorem dX8_isLacking_16 : decode cX8_isLacking 16 = .ok (.iaload, 1) := by decide +kernel
theorem dX8_isLacking_17 : decode cX8_isLacking 17 = .ok (.ifCond .le 5, 3) := by decide +kernel
theorem dX8_isLacking_20 : decode cX8_isLacking 20 = .ok (.iconst 1, 1) := by decide +kernel
theorem dX8_isLacking_21 : decode cX8_isLacking 21 = .ok (.ireturn, 1) := by decide +kernel
theorem dX8_isLacking_22 : decode cX8_isLacking 22 = .ok (.iinc 1 1, 3) := by decide +kernel
theorem dX8_isLacking_25 : decode cX8_isLacking 25 = .ok (.goto (-23), 3) := by decide +kernel
theorem dX8_isLacking_28 : decode cX8_isLacking 28 = .ok (.iconst 0, 1) := by decide +kernel
theorem dX8_isLacking_29 : decode cX8_isLacking 29 = .ok (.ireturn, 1) := by decide +kernel
set_option maxRecDepth 20000 in
theorem ggX8_findCheapest_X6_isServable : GoodIn wsX8_findCheapest wsX6_isServable := goodIn_r _ [6, 7, 8, 9, 10, 4, 11, 12, 13, 14, 15, 16, 17, 18, 19, 20, 21, 22, 145, 146, 147, 148, 149, 152, 153, 154, 155, 156, 157, 150, 151] rfl (by decide +kernel)
set_option maxRecDepth 20000 in
theorem gX8_findCheapest_X6_isServable_n329 : GoodIn wsX8_findCheapest (wsX6_isServable) := ggX8_findCheapest_X6_isServable
set_option maxRecDepth 20000 in
theorem ggX8_findCheapest_X6_copyFrom : GoodIn wsX8_findCheapest wsX6_copyFrom := goodIn_r _ [25, 7, 26, 27, 12, 28, 29, 19, 30, 31, 32, 33, 34, 35, 36, 37, 38, 39, 40, 22, 41, 42, 43, 44, 45, 46, 47, 48, 49, 50, 51, 52, 53, 54, 55, 56, 57, 58, 59, 60, 61, 14, 62, 63, 64, 17, 65, 145, 146, 147, 148, 149, 152, 153, 154, 155, 156, 157, 158, 159, 160, 161, 162, 163, 164, 165, 166, 167, 168, 150, 151] rfl (by decide +kernel)
set_option maxRecDepth 20000 in
theorem gX8_findCheapest_X6_copyFrom_n265 : GoodIn wsX8_findCheapest (wsX6_copyFrom) := ggX8_findCheapest_X6_copyFrom
set_option maxRecDepth 20000 in
theorem ggX8_findCheapest_X6_serveOne : GoodIn wsX8_findCheapest wsX6_serveOne := goodIn_r _ [68, 26, 7, 12, 28, 69, 70, 71, 4, 72, 73, 74, 75, 76, 13, 14, 15, 16, 17, 18, 19, 20, 21, 22, 77, 78, 79, 80, 81, 82, 83, 8, 9, 10, 11, 84, 85, 86, 87, 88, 89, 90, 91, 92, 93, 94, 95, 96, 97, 98, 42, 99, 100, 50, 51, 49, 101, 102, 103, 47, 48, 45, 104, 105, 106, 107, 108, 27, 109, 110, 111, 112, 113, 114, 115, 116, 117, 118, 119, 120, 121, 122, 32, 33, 39, 34, 123, 124, 125, 126, 127, 128, 129, 130, 131, 132, 133, 134, 135, 136, 137, 138, 64, 65, 36, 37, 38, 145, 146, 147, 148, 149, 158, 159, 160, 161, 162, 163, 164, 152, 153, 154, 155, 156, 157, 150, 151, 165, 166, 167, 168] rfl (by decide +kernel)
set_option maxRecDepth 20000 in
theorem gX8_findCheapest_X6_serveOne_n213 : GoodIn wsX8_findCheapest (wsX6_serveOne) := ggX8_findCheapest_X6_serveOne
theorem dX8_findCheapest_0 : decode cX8_findCheapest 0 = .ok (.iconst (-1), 1) := by decide +kernel
theorem dX8_findCheapest_1 : decode cX8_findCheapest 1 = .ok (.istore_n 1, 1) := by decide +kernel
theorem dX8_findCheapest_2 : decode cX8_findCheapest 2 = .ok (.iconst 0, 1) := by decide +kernel
theorem dX8_findCheapest_3 : decode cX8_findCheapest 3 = .ok (.istore_n 2, 1) := by decide +kernel
theorem dX8_findCheapest_4 : decode cX8_findCheapest 4 = .ok (.iconst 0, 1) := by decide +kernel
theorem dX8_findCheapest_5 : decode cX8_findCheapest 5 = .ok (.istore_n 3, 1) := by decide +kernel
theorem dX8_findCheapest_6 : decode cX8_findCheapest 6 = .ok (.iload_n 3, 1) := by decide +kernel
theorem dX8_findCheapest_7 : decode cX8_findCheapest 7 = .ok (.aload_n 0, 1) := by decide +kernel
theorem dX8_findCheapest_8 : decode cX8_findCheapest 8 = .ok (.getfield 12, 3) := by decide +kernel
theorem dX8_findCheapest_11 : decode cX8_findCheapest 11 = .ok (.getfield 179, 3) := by decide +kernel
theorem dX8_findCheapest_14 : decode cX8_findCheapest 14 = .ok (.getfield 183, 3) := by decide +kernel
theorem dX8_findCheapest_17 : decode cX8_findCheapest 17 = .ok (.if_icmp .ge 57, 3) := by decide +kernel
theorem dX8_findCheapest_20 : decode cX8_findCheapest 20 = .ok (.aload_n 0, 1) := by decide +kernel
theorem dX8_findCheapest_21 : decode cX8_findCheapest 21 = .ok (.getfield 12, 3) := by decide +kernel
theorem dX8_findCheapest_24 : decode cX8_findCheapest 24 = .ok (.iload_n 3, 1) := by decide +kernel
theorem dX8_findCheapest_25 : decode cX8_findCheapest 25 = .ok (.invokevirtual 329, 3) := by decide +kernel
theorem dX8_findCheapest_28 : decode cX8_findCheapest 28 = .ok (.ifCond .eq 40, 3) := by decide +kernel
theorem dX8_findCheapest_31 : decode cX8_findCheapest 31 = .ok (.aload_n 0, 1) := by decide +kernel
theorem dX8_findCheapest_32 : decode cX8_findCheapest 32 = .ok (.getfield 16, 3) := by decide +kernel
theorem dX8_findCheapest_35 : decode cX8_findCheapest 35 = .ok (.aload_n 0, 1) := by decide +kernel
theorem dX8_findCheapest_36 : decode cX8_findCheapest 36 = .ok (.getfield 12, 3) := by decide +kernel
theorem dX8_findCheapest_39 : decode cX8_findCheapest 39 = .ok (.invokevirtual 265, 3) := by decide +kernel
theorem dX8_findCheapest_42 : decode cX8_findCheapest 42 = .ok (.aload_n 0, 1) := by decide +kernel
theorem dX8_findCheapest_43 : decode cX8_findCheapest 43 = .ok (.getfield 16, 3) := by decide +kernel
theorem dX8_findCheapest_46 : decode cX8_findCheapest 46 = .ok (.iload_n 3, 1) := by decide +kernel
theorem dX8_findCheapest_47 : decode cX8_findCheapest 47 = .ok (.invokevirtual 213, 3) := by decide +kernel
theorem dX8_findCheapest_50 : decode cX8_findCheapest 50 = .ok (.istore 4, 2) := by decide +kernel
theorem dX8_findCheapest_52 : decode cX8_findCheapest 52 = .ok (.iload_n 1, 1) := by decide +kernel
theorem dX8_findCheapest_53 : decode cX8_findCheapest 53 = .ok (.iconst (-1), 1) := by decide +kernel
theorem dX8_findCheapest_54 : decode cX8_findCheapest 54 = .ok (.if_icmp .eq 9, 3) := by decide +kernel
theorem dX8_findCheapest_57 : decode cX8_findCheapest 57 = .ok (.iload 4, 2) := by decide +kernel
theorem dX8_findCheapest_59 : decode cX8_findCheapest 59 = .ok (.iload_n 2, 1) := by decide +kernel
theorem dX8_findCheapest_60 : decode cX8_findCheapest 60 = .ok (.if_icmp .ge 8, 3) := by decide +kernel
theorem dX8_findCheapest_63 : decode cX8_findCheapest 63 = .ok (.iload_n 3, 1) := by decide +kernel
theorem dX8_findCheapest_64 : decode cX8_findCheapest 64 = .ok (.istore_n 1, 1) := by decide +kernel
theorem dX8_findCheapest_65 : decode cX8_findCheapest 65 = .ok (.iload 4, 2) := by decide +kernel
theorem dX8_findCheapest_67 : decode cX8_findCheapest 67 = .ok (.istore_n 2, 1) := by decide +kernel
theorem dX8_findCheapest_68 : decode cX8_findCheapest 68 = .ok (.iinc 3 1, 3) := by decide +kernel
theorem dX8_findCheapest_71 : decode cX8_findCheapest 71 = .ok (.goto (-65), 3) := by decide +kernel
theorem dX8_findCheapest_74 : decode cX8_findCheapest 74 = .ok (.iload_n 1, 1) := by decide +kernel
theorem dX8_findCheapest_75 : decode cX8_findCheapest 75 = .ok (.ireturn, 1) := by decide +kernel
theorem dX8_meanOf_0 : decode cX8_meanOf 0 = .ok (.iload_n 1, 1) := by decide +kernel
theorem dX8_meanOf_1 : decode cX8_meanOf 1 = .ok (.ifCond .gt 7, 3) := by decide +kernel
theorem dX8_meanOf_4 : decode cX8_meanOf 4 = .ok (.dconst 0, 1) := by decide +kernel
theorem dX8_meanOf_5 : decode cX8_meanOf 5 = .ok (.goto 8, 3) := by decide +kernel
theorem dX8_meanOf_8 : decode cX8_meanOf 8 = .ok (.iload_n 0, 1) := by decide +kernel
theorem dX8_meanOf_9 : decode cX8_meanOf 9 = .ok (.i2d, 1) := by decide +kernel
theorem dX8_meanOf_10 : decode cX8_meanOf 10 = .ok (.iload_n 1, 1) := by decide +kernel
theorem dX8_meanOf_11 : decode cX8_meanOf 11 = .ok (.i2d, 1) := by decide +kernel
theorem dX8_meanOf_12 : decode cX8_meanOf 12 = .ok (.ddiv, 1) := by decide +kernel
theorem dX8_meanOf_13 : decode cX8_meanOf 13 = .ok (.dreturn, 1) := by decide +kernel
theorem dX8_hashOn_0 : decode cX8_hashOn 0 = .ok (.ldc2_w 462, 3) := by decide +kernel
theorem dX8_hashOn_3 : decode cX8_hashOn 3 = .ok (.lload_n 0, 1) := by decide +kernel
theorem dX8_hashOn_4 : decode cX8_hashOn 4 = .ok (.lmul, 1) := by decide +kernel
theorem dX8_hashOn_5 : decode cX8_hashOn 5 = .ok (.lload_n 2, 1) := by decide +kernel
theorem dX8_hashOn_6 : decode cX8_hashOn 6 = .ok (.ladd, 1) := by decide +kernel
theorem dX8_hashOn_7 : decode cX8_hashOn 7 = .ok (.lreturn, 1) := by decide +kernel
set_option maxRecDepth 20000 in
theorem ggX8_hashOn__X8_hashOn : GoodIn wsX8_hashOn_ wsX8_hashOn := goodIn_r _ [4, 5] rfl (by decide +kernel)
set_option maxRecDepth 20000 in
theorem gX8_hashOn__X8_hashOn : GoodIn wsX8_hashOn_ (va_wsS RX8 402 yX8_hashOn wsX8_hashOn) := goodIn_app (goodIn_r _ [1, 2, 3] rfl (by decide +kernel)) ggX8_hashOn__X8_hashOn
theorem dX8_hashOn__0 : decode cX8_hashOn_ 0 = .ok (.lload_n 0, 1) := by decide +kernel
theorem dX8_hashOn__1 : decode cX8_hashOn_ 1 = .ok (.iload_n 2, 1) := by decide +kernel
theorem dX8_hashOn__2 : decode cX8_hashOn_ 2 = .ok (.ifCond .eq 7, 3) := by decide +kernel
theorem dX8_hashOn__5 : decode cX8_hashOn_ 5 = .ok (.lconst 1, 1) := by decide +kernel
theorem dX8_hashOn__6 : decode cX8_hashOn_ 6 = .ok (.goto 4, 3) := by decide +kernel
theorem dX8_hashOn__9 : decode cX8_hashOn_ 9 = .ok (.lconst 0, 1) := by decide +kernel
theorem dX8_hashOn__10 : decode cX8_hashOn_ 10 = .ok (.invokestatic 402, 3) := by decide +kernel
theorem dX8_hashOn__13 : decode cX8_hashOn_ 13 = .ok (.lreturn, 1) := by decide +kernel
set_option maxRecDepth 20000 in
theorem ggX8_hashShelves_X8_shelves : GoodIn wsX8_hashShelves wsX8_shelves := goodIn_r _ [6, 1, 63, 64, 65, 66, 67, 68, 69, 70, 71, 72, 73, 74, 75, 76, 77, 78, 79] rfl (by decide +kernel)
set_option maxRecDepth 20000 in
theorem gX8_hashShelves_X8_shelves : GoodIn wsX8_hashShelves (wsV RX8 464 RX8 yX8_shelves wsX8_shelves) := goodIn_app (goodIn_r _ [2, 3, 4, 5] rfl (by decide +kernel)) ggX8_hashShelves_X8_shelves
set_option maxRecDepth 20000 in
theorem ggX8_hashShelves_X8_hashOn : GoodIn wsX8_hashShelves wsX8_hashOn := goodIn_r _ [9, 10] rfl (by decide +kernel)
set_option maxRecDepth 20000 in
theorem gX8_hashShelves_X8_hashOn : GoodIn wsX8_hashShelves (va_wsS RX8 402 yX8_hashOn wsX8_hashOn) := goodIn_app (goodIn_r _ [7, 8, 5] rfl (by decide +kernel)) ggX8_hashShelves_X8_hashOn
set_option maxRecDepth 20000 in
theorem ggX8_hashShelves_X8_heightOf : GoodIn wsX8_hashShelves wsX8_heightOf := goodIn_ca (goodIn_r _ [14, 1, 15, 16, 17, 5, 18, 19, 20, 63, 64, 65, 66, 67, 68, 69, 70, 71, 72, 73, 74, 75, 76, 77, 78, 79] rfl (by decide +kernel)) (goodIn_sub (fun _ h => List.mem_cons_of_mem _ (List.mem_append_right _ h)) (by decide +kernel))
set_option maxRecDepth 20000 in
theorem gX8_hashShelves_X8_heightOf : GoodIn wsX8_hashShelves (wsV RX8 467 RX8 yX8_heightOf wsX8_heightOf) := goodIn_app (goodIn_r _ [11, 12, 13, 5] rfl (by decide +kernel)) ggX8_hashShelves_X8_heightOf
set_option maxRecDepth 20000 in
theorem ggX8_hashShelves_X8_sideOf : GoodIn wsX8_hashShelves wsX8_sideOf := goodIn_ca (goodIn_r _ [24, 1, 15, 16, 17, 5, 18, 19, 20, 63, 64, 65, 66, 67, 68, 69, 70, 71, 72, 73, 74, 75, 76, 77, 78, 79] rfl (by decide +kernel)) (goodIn_sub (fun _ h => List.mem_cons_of_mem _ (List.mem_append_right _ h)) (by decide +kernel))
set_option maxRecDepth 20000 in
theorem gX8_hashShelves_X8_sideOf : GoodIn wsX8_hashShelves (wsV RX8 470 RX8 yX8_sideOf wsX8_sideOf) := goodIn_app (goodIn_r _ [21, 22, 23, 5] rfl (by decide +kernel)) ggX8_hashShelves_X8_sideOf
set_option maxRecDepth 20000 in
theorem ggX8_hashShelves_X8_slotOf : GoodIn wsX8_hashShelves wsX8_slotOf := goodIn_ca (goodIn_r _ [28, 1, 15, 16, 17, 5, 18, 19, 20, 63, 64, 65, 66, 67, 68, 69, 70, 71, 72, 73, 74, 75, 76, 77, 78, 79] rfl (by decide +kernel)) (goodIn_sub (fun _ h => List.mem_cons_of_mem _ (List.mem_append_right _ h)) (by decide +kernel))
set_option maxRecDepth 20000 in
theorem gX8_hashShelves_X8_slotOf : GoodIn wsX8_hashShelves (wsV RX8 473 RX8 yX8_slotOf wsX8_slotOf) := goodIn_app (goodIn_r _ [25, 26, 27, 5] rfl (by decide +kernel)) ggX8_hashShelves_X8_slotOf
set_option maxRecDepth 20000 in
theorem ggX8_hashShelves_X8_isAtWindow : GoodIn wsX8_hashShelves wsX8_isAtWindow := goodIn_ca (goodIn_r _ [32, 1, 15, 16, 17, 5, 18, 19, 20, 63, 64, 65, 66, 67, 68, 69, 70, 71, 72, 73, 74, 75, 76, 77, 78, 79] rfl (by decide +kernel)) (goodIn_sub (fun _ h => List.mem_cons_of_mem _ (List.mem_append_right _ h)) (by decide +kernel))
set_option maxRecDepth 20000 in
theorem gX8_hashShelves_X8_isAtWindow : GoodIn wsX8_hashShelves (wsV RX8 476 RX8 yX8_isAtWindow wsX8_isAtWindow) := goodIn_app (goodIn_r _ [29, 30, 31, 5] rfl (by decide +kernel)) ggX8_hashShelves_X8_isAtWindow
set_option maxRecDepth 20000 in
theorem ggX8_hashShelves_X8_hashOn_ : GoodIn wsX8_hashShelves wsX8_hashOn_ := goodIn_r _ [35, 7, 8, 5, 9, 10] rfl (by decide +kernel)
set_option maxRecDepth 20000 in
theorem gX8_hashShelves_X8_hashOn_ : GoodIn wsX8_hashShelves (va_wsS RX8 479 yX8_hashOn_ wsX8_hashOn_) := goodIn_app (goodIn_r _ [33, 34, 5] rfl (by decide +kernel)) ggX8_hashShelves_X8_hashOn_
set_option maxRecDepth 20000 in
theorem ggX8_hashShelves_X8_thingsIn : GoodIn wsX8_hashShelves wsX8_thingsIn := goodIn_ca (goodIn_r _ [39, 1, 15, 16, 17, 5, 18, 19, 20, 40, 41, 42, 43, 44, 45, 46, 47, 48, 63, 64, 65, 66, 67, 68, 69, 70, 71, 72, 73, 74, 75, 76, 77, 78, 79] rfl (by decide +kernel)) (goodIn_sub (fun _ h => List.mem_cons_of_mem _ (List.mem_append_right _ h)) (by decide +kernel))
set_option maxRecDepth 20000 in
theorem gX8_hashShelves_X8_thingsIn : GoodIn wsX8_hashShelves (wsV RX8 482 RX8 yX8_thingsIn wsX8_thingsIn) := goodIn_app (goodIn_r _ [36, 37, 38, 5] rfl (by decide +kernel)) ggX8_hashShelves_X8_thingsIn
set_option maxRecDepth 20000 in
theorem ggX8_hashShelves_X8_weightOf : GoodIn wsX8_hashShelves wsX8_weightOf := goodIn_ca (goodIn_r _ [52, 1, 15, 16, 17, 5, 18, 19, 20, 53, 54, 55, 56, 57, 58, 44, 45, 46, 47, 48, 63, 64, 65, 66, 67, 68, 69, 70, 71, 72, 73, 74, 75, 76, 77, 78, 79, 80, 81, 82, 83] rfl (by decide +kernel)) (goodIn_sub (fun _ h => List.mem_cons_of_mem _ (List.mem_append_right _ h)) (by decide +kernel))
set_option maxRecDepth 20000 in
theorem gX8_hashShelves_X8_weightOf : GoodIn wsX8_hashShelves (wsV RX8 485 RX8 yX8_weightOf wsX8_weightOf) := goodIn_app (goodIn_r _ [49, 50, 51, 5] rfl (by decide +kernel)) ggX8_hashShelves_X8_weightOf
set_option maxRecDepth 20000 in
theorem ggX8_hashShelves_X8_fetchesOf : GoodIn wsX8_hashShelves wsX8_fetchesOf := goodIn_ca (goodIn_r _ [62, 1, 15, 16, 17, 5, 18, 19, 20, 63, 64, 65, 66, 67, 68, 69, 70, 71, 72, 73, 74, 75, 76, 77, 78, 79] rfl (by decide +kernel)) (goodIn_sub (fun _ h => List.mem_cons_of_mem _ (List.mem_append_right _ h)) (by decide +kernel))
set_option maxRecDepth 20000 in
theorem gX8_hashShelves_X8_fetchesOf : GoodIn wsX8_hashShelves (wsV RX8 488 RX8 yX8_fetchesOf wsX8_fetchesOf) := goodIn_app (goodIn_r _ [59, 60, 61, 5] rfl (by decide +kernel)) ggX8_hashShelves_X8_fetchesOf
theorem dX8_hashShelves_0 : decode cX8_hashShelves 0 = .ok (.lload_n 1, 1) := by decide +kernel
theorem dX8_hashShelves_1 : decode cX8_hashShelves 1 = .ok (.aload_n 0, 1) := by decide +kernel
theorem dX8_hashShelves_2 : decode cX8_hashShelves 2 = .ok (.invokevirtual 464, 3) := by decide +kernel
theorem dX8_hashShelves_5 : decode cX8_hashShelves 5 = .ok (.i2l, 1) := by decide +kernel
theorem dX8_hashShelves_6 : decode cX8_hashShelves 6 = .ok (.invokestatic 402, 3) := by decide +kernel
theorem dX8_hashShelves_9 : decode cX8_hashShelves 9 = .ok (.lstore_n 3, 1) := by decide +kernel
theorem dX8_hashShelves_10 : decode cX8_hashShelves 10 = .ok (.iconst 0, 1) := by decide +kernel
theorem dX8_hashShelves_11 : decode cX8_hashShelves 11 = .ok (.istore 5, 2) := by decide +kernel
theorem dX8_hashShelves_13 : decode cX8_hashShelves 13 = .ok (.iload 5, 2) := by decide +kernel
theorem dX8_hashShelves_15 : decode cX8_hashShelves 15 = .ok (.aload_n 0, 1) := by decide +kernel
theorem dX8_hashShelves_16 : decode cX8_hashShelves 16 = .ok (.getfield 12, 3) := by decide +kernel
theorem dX8_hashShelves_19 : decode cX8_hashShelves 19 = .ok (.getfield 44, 3) := by decide +kernel
theorem dX8_hashShelves_22 : decode cX8_hashShelves 22 = .ok (.getfield 48, 3) := by decide +kernel
theorem dX8_hashShelves_25 : decode cX8_hashShelves 25 = .ok (.if_icmp .ge 110, 3) := by decide +kernel
theorem dX8_hashShelves_28 : decode cX8_hashShelves 28 = .ok (.lload_n 3, 1) := by decide +kernel
theorem dX8_hashShelves_29 : decode cX8_hashShelves 29 = .ok (.aload_n 0, 1) := by decide +kernel
theorem dX8_hashShelves_30 : decode cX8_hashShelves 30 = .ok (.iload 5, 2) := by decide +kernel
theorem dX8_hashShelves_32 : decode cX8_hashShelves 32 = .ok (.invokevirtual 467, 3) := by decide +kernel
theorem dX8_hashShelves_35 : decode cX8_hashShelves 35 = .ok (.i2l, 1) := by decide +kernel
theorem dX8_hashShelves_36 : decode cX8_hashShelves 36 = .ok (.invokestatic 402, 3) := by decide +kernel
theorem dX8_hashShelves_39 : decode cX8_hashShelves 39 = .ok (.lstore_n 3, 1) := by decide +kernel
theorem dX8_hashShelves_40 : decode cX8_hashShelves 40 = .ok (.lload_n 3, 1) := by decide +kernel
theorem dX8_hashShelves_41 : decode cX8_hashShelves 41 = .ok (.aload_n 0, 1) := by decide +kernel
theorem dX8_hashShelves_42 : decode cX8_hashShelves 42 = .ok (.iload 5, 2) := by decide +kernel
theorem dX8_hashShelves_44 : decode cX8_hashShelves 44 = .ok (.invokevirtual 470, 3) := by decide +kernel
theorem dX8_hashShelves_47 : decode cX8_hashShelves 47 = .ok (.i2l, 1) := by decide +kernel
theorem dX8_hashShelves_48 : decode cX8_hashShelves 48 = .ok (.invokestatic 402, 3) := by decide +kernel
theorem dX8_hashShelves_51 : decode cX8_hashShelves 51 = .ok (.lstore_n 3, 1) := by decide +kernel
theorem dX8_hashShelves_52 : decode cX8_hashShelves 52 = .ok (.lload_n 3, 1) := by decide +kernel
theorem dX8_hashShelves_53 : decode cX8_hashShelves 53 = .ok (.aload_n 0, 1) := by decide +kernel
theorem dX8_hashShelves_54 : decode cX8_hashShelves 54 = .ok (.iload 5, 2) := by decide +kernel
theorem dX8_hashShelves_56 : decode cX8_hashShelves 56 = .ok (.invokevirtual 473, 3) := by decide +kernel
theorem dX8_hashShelves_59 : decode cX8_hashShelves 59 = .ok (.i2l, 1) := by decide +kernel
theorem dX8_hashShelves_60 : decode cX8_hashShelves 60 = .ok (.invokestatic 402, 3) := by decide +kernel
theorem dX8_hashShelves_63 : decode cX8_hashShelves 63 = .ok (.lstore_n 3, 1) := by decide +kernel
theorem dX8_hashShelves_64 : decode cX8_hashShelves 64 = .ok (.lload_n 3, 1) := by decide +kernel
theorem dX8_hashShelves_65 : decode cX8_hashShelves 65 = .ok (.aload_n 0, 1) := by decide +kernel
theorem dX8_hashShelves_66 : decode cX8_hashShelves 66 = .ok (.iload 5, 2) := by decide +kernel
theorem dX8_hashShelves_68 : decode cX8_hashShelves 68 = .ok (.invokevirtual 476, 3) := by decide +kernel
theorem dX8_hashShelves_71 : decode cX8_hashShelves 71 = .ok (.invokestatic 479, 3) := by decide +kernel
theorem dX8_hashShelves_74 : decode cX8_hashShelves 74 = .ok (.lstore_n 3, 1) := by decide +kernel
theorem dX8_hashShelves_75 : decode cX8_hashShelves 75 = .ok (.iconst 0, 1) := by decide +kernel
theorem dX8_hashShelves_76 : decode cX8_hashShelves 76 = .ok (.istore 6, 2) := by decide +kernel
theorem dX8_hashShelves_78 : decode cX8_hashShelves 78 = .ok (.iload 6, 2) := by decide +kernel
theorem dX8_hashShelves_80 : decode cX8_hashShelves 80 = .ok (.bipush 10, 2) := by decide +kernel
theorem dX8_hashShelves_82 : decode cX8_hashShelves 82 = .ok (.if_icmp .ge 23, 3) := by decide +kernel
theorem dX8_hashShelves_85 : decode cX8_hashShelves 85 = .ok (.lload_n 3, 1) := by decide +kernel
theorem dX8_hashShelves_86 : decode cX8_hashShelves 86 = .ok (.aload_n 0, 1) := by decide +kernel
theorem dX8_hashShelves_87 : decode cX8_hashShelves 87 = .ok (.iload 5, 2) := by decide +kernel
theorem dX8_hashShelves_89 : decode cX8_hashShelves 89 = .ok (.iload 6, 2) := by decide +kernel
theorem dX8_hashShelves_91 : decode cX8_hashShelves 91 = .ok (.invokevirtual 482, 3) := by decide +kernel
theorem dX8_hashShelves_94 : decode cX8_hashShelves 94 = .ok (.i2l, 1) := by decide +kernel
theorem dX8_hashShelves_95 : decode cX8_hashShelves 95 = .ok (.invokestatic 402, 3) := by decide +kernel
theorem dX8_hashShelves_98 : decode cX8_hashShelves 98 = .ok (.lstore_n 3, 1) := by decide +kernel
theorem dX8_hashShelves_99 : decode cX8_hashShelves 99 = .ok (.iinc 6 1, 3) := by decide +kernel
theorem dX8_hashShelves_102 : decode cX8_hashShelves 102 = .ok (.goto (-24), 3) := by decide +kernel
theorem dX8_hashShelves_105 : decode cX8_hashShelves 105 = .ok (.lload_n 3, 1) := by decide +kernel
theorem dX8_hashShelves_106 : decode cX8_hashShelves 106 = .ok (.aload_n 0, 1) := by decide +kernel
theorem dX8_hashShelves_107 : decode cX8_hashShelves 107 = .ok (.iload 5, 2) := by decide +kernel
theorem dX8_hashShelves_109 : decode cX8_hashShelves 109 = .ok (.invokevirtual 485, 3) := by decide +kernel
theorem dX8_hashShelves_112 : decode cX8_hashShelves 112 = .ok (.i2l, 1) := by decide +kernel
theorem dX8_hashShelves_113 : decode cX8_hashShelves 113 = .ok (.invokestatic 402, 3) := by decide +kernel
theorem dX8_hashShelves_116 : decode cX8_hashShelves 116 = .ok (.lstore_n 3, 1) := by decide +kernel
theorem dX8_hashShelves_117 : decode cX8_hashShelves 117 = .ok (.lload_n 3, 1) := by decide +kernel
theorem dX8_hashShelves_118 : decode cX8_hashShelves 118 = .ok (.aload_n 0, 1) := by decide +kernel
theorem dX8_hashShelves_119 : decode cX8_hashShelves 119 = .ok (.iload 5, 2) := by decide +kernel
theorem dX8_hashShelves_121 : decode cX8_hashShelves 121 = .ok (.invokevirtual 488, 3) := by decide +kernel
theorem dX8_hashShelves_124 : decode cX8_hashShelves 124 = .ok (.i2l, 1) := by decide +kernel
theorem dX8_hashShelves_125 : decode cX8_hashShelves 125 = .ok (.invokestatic 402, 3) := by decide +kernel
theorem dX8_hashShelves_128 : decode cX8_hashShelves 128 = .ok (.lstore_n 3, 1) := by decide +kernel
theorem dX8_hashShelves_129 : decode cX8_hashShelves 129 = .ok (.iinc 5 1, 3) := by decide +kernel
theorem dX8_hashShelves_132 : decode cX8_hashShelves 132 = .ok (.goto (-119), 3) := by decide +kernel
theorem dX8_hashShelves_135 : decode cX8_hashShelves 135 = .ok (.lload_n 3, 1) := by decide +kernel
theorem dX8_hashShelves_136 : decode cX8_hashShelves 136 = .ok (.lreturn, 1) := by decide +kernel
set_option maxRecDepth 20000 in
theorem ggX8_hashSlots_X7_holderOf : GoodIn wsX8_hashSlots wsX7_holderOf := goodIn_r _ [5, 6, 7, 8, 9, 84, 85, 86, 87, 88, 89] rfl (by decide +kernel)
set_option maxRecDepth 20000 in
theorem gX8_hashSlots_X7_holderOf_n281 : GoodIn wsX8_hashSlots (wsX7_holderOf) := ggX8_hashSlots_X7_holderOf
set_option maxRecDepth 20000 in
theorem ggX8_hashSlots_X8_hashOn : GoodIn wsX8_hashSlots wsX8_hashOn := goodIn_r _ [13, 14] rfl (by decide +kernel)
set_option maxRecDepth 20000 in
theorem gX8_hashSlots_X8_hashOn : GoodIn wsX8_hashSlots (va_wsS RX8 402 yX8_hashOn wsX8_hashOn) := goodIn_app (goodIn_r _ [10, 11, 12] rfl (by decide +kernel)) ggX8_hashSlots_X8_hashOn
set_option maxRecDepth 20000 in
theorem ggX8_hashSlots_X8_freeBySlots : GoodIn wsX8_hashSlots wsX8_freeBySlots := goodIn_r _ [18, 1, 19, 3, 20, 21, 22, 23, 24, 25, 6, 7, 8, 9, 26, 27, 28, 29, 30, 31, 73, 74, 75, 76, 77, 78, 79, 80, 81, 82, 83, 84, 85, 86, 87, 88, 89] rfl (by decide +kernel)
set_option maxRecDepth 20000 in
theorem gX8_hashSlots_X8_freeBySlots : GoodIn wsX8_hashSlots (wsV RX8 491 RX8 yX8_freeBySlots wsX8_freeBySlots) := goodIn_app (goodIn_r _ [15, 16, 17, 12] rfl (by decide +kernel)) ggX8_hashSlots_X8_freeBySlots
set_option maxRecDepth 20000 in
theorem ggX8_hashSlots_X8_freeByHeights : GoodIn wsX8_hashSlots wsX8_freeByHeights := goodIn_r _ [35, 1, 36, 3, 37, 38, 6, 7, 9, 73, 74, 75, 76, 77, 78, 79, 80, 81, 82, 83, 84, 85, 86, 87, 88, 89] rfl (by decide +kernel)
set_option maxRecDepth 20000 in
theorem gX8_hashSlots_X8_freeByHeights : GoodIn wsX8_hashSlots (wsV RX8 494 RX8 yX8_freeByHeights wsX8_freeByHeights) := goodIn_app (goodIn_r _ [32, 33, 34, 12] rfl (by decide +kernel)) ggX8_hashSlots_X8_freeByHeights
set_option maxRecDepth 20000 in
theorem ggX8_hashSlots_X7_firstFree : GoodIn wsX8_hashSlots wsX7_firstFree := goodIn_r _ [41, 22, 23, 24, 3, 25, 6, 7, 8, 9, 26, 27, 28, 42, 43, 44, 29, 30, 31, 84, 85, 86, 87, 88, 89] rfl (by decide +kernel)
set_option maxRecDepth 20000 in
theorem gX8_hashSlots_X7_firstFree_n64 : GoodIn wsX8_hashSlots (wsX7_firstFree) := ggX8_hashSlots_X7_firstFree
set_option maxRecDepth 20000 in
theorem ggX8_hashSlots_X8_longestGap : GoodIn wsX8_hashSlots wsX8_longestGap := goodIn_ca (goodIn_r _ [48, 1, 49, 50, 51, 12, 52, 53, 54, 55, 3, 56, 57, 58, 59, 60, 61, 22, 23, 24, 25, 6, 7, 8, 9, 26, 27, 28, 29, 30, 31, 73, 74, 75, 76, 77, 78, 79, 80, 81, 82, 83, 84, 85, 86, 87, 88, 89] rfl (by decide +kernel)) (goodIn_sub (fun _ h => List.mem_cons_of_mem _ (List.mem_append_right _ h)) (by decide +kernel))
set_option maxRecDepth 20000 in
theorem gX8_hashSlots_X8_longestGap : GoodIn wsX8_hashSlots (wsV RX8 497 RX8 yX8_longestGap wsX8_longestGap) := goodIn_app (goodIn_r _ [45, 46, 47, 12] rfl (by decide +kernel)) ggX8_hashSlots_X8_longestGap
set_option maxRecDepth 20000 in
theorem ggX8_hashSlots_X8_lift : GoodIn wsX8_hashSlots wsX8_lift := goodIn_r _ [65, 1, 73, 74, 75, 76, 77, 78, 79, 80, 81, 82, 83, 90, 91, 92, 93, 94, 95, 96] rfl (by decide +kernel)
set_option maxRecDepth 20000 in
theorem gX8_hashSlots_X8_lift : GoodIn wsX8_hashSlots (wsV RX8 500 RX8 yX8_lift wsX8_lift) := goodIn_app (goodIn_r _ [62, 63, 64, 12] rfl (by decide +kernel)) ggX8_hashSlots_X8_lift
set_option maxRecDepth 20000 in
theorem ggX8_hashSlots_X8_isKeptPlace : GoodIn wsX8_hashSlots wsX8_isKeptPlace := goodIn_r _ [69, 1, 73, 74, 75, 76, 77, 78, 79, 80, 81, 82, 83, 90, 91, 92, 93, 94, 95, 96] rfl (by decide +kernel)
set_option maxRecDepth 20000 in
theorem gX8_hashSlots_X8_isKeptPlace : GoodIn wsX8_hashSlots (wsV RX8 502 RX8 yX8_isKeptPlace wsX8_isKeptPlace) := goodIn_app (goodIn_r _ [66, 67, 68, 12] rfl (by decide +kernel)) ggX8_hashSlots_X8_isKeptPlace
set_option maxRecDepth 20000 in
theorem ggX8_hashSlots_X8_hashOn_ : GoodIn wsX8_hashSlots wsX8_hashOn_ := goodIn_r _ [72, 10, 11, 12, 13, 14] rfl (by decide +kernel)
set_option maxRecDepth 20000 in
theorem gX8_hashSlots_X8_hashOn_ : GoodIn wsX8_hashSlots (va_wsS RX8 479 yX8_hashOn_ wsX8_hashOn_) := goodIn_app (goodIn_r _ [70, 71, 12] rfl (by decide +kernel)) ggX8_hashSlots_X8_hashOn_
theorem dX8_hashSlots_0 : decode cX8_hashSlots 0 = .ok (.lload_n 1, 1) := by decide +kernel
theorem dX8_hashSlots_1 : decode cX8_hashSlots 1 = .ok (.lstore_n 3, 1) := by decide +kernel
theorem dX8_hashSlots_2 : decode cX8_hashSlots 2 = .ok (.iconst 0, 1) := by decide +kernel
theorem dX8_hashSlots_3 : decode cX8_hashSlots 3 = .ok (.istore 5, 2) := by decide +kernel
theorem dX8_hashSlots_5 : decode cX8_hashSlots 5 = .ok (.iload 5, 2) := by decide +kernel
theorem dX8_hashSlots_7 : decode cX8_hashSlots 7 = .ok (.bipush 40, 2) := by decide +kernel
theorem dX8_hashSlots_9 : decode cX8_hashSlots 9 = .ok (.if_icmp .ge 29, 3) := by decide +kernel
theorem dX8_hashSlots_12 : decode cX8_hashSlots 12 = .ok (.lload_n 3, 1) := by decide +kernel
theorem dX8_hashSlots_13 : decode cX8_hashSlots 13 = .ok (.aload_n 0, 1) := by decide +kernel
theorem dX8_hashSlots_14 : decode cX8_hashSlots 14 = .ok (.getfield 12, 3) := by decide +kernel
theorem dX8_hashSlots_17 : decode cX8_hashSlots 17 = .ok (.getfield 44, 3) := by decide +kernel
theorem dX8_hashSlots_20 : decode cX8_hashSlots 20 = .ok (.iload 5, 2) := by decide +kernel
theorem dX8_hashSlots_22 : decode cX8_hashSlots 22 = .ok (.invokevirtual 281, 3) := by decide +kernel
theorem dX8_hashSlots_25 : decode cX8_hashSlots 25 = .ok (.iconst 1, 1) := by decide +kernel
theorem dX8_hashSlots_26 : decode cX8_hashSlots 26 = .ok (.iadd, 1) := by decide +kernel
theorem dX8_hashSlots_27 : decode cX8_hashSlots 27 = .ok (.i2l, 1) := by decide +kernel
theorem dX8_hashSlots_28 : decode cX8_hashSlots 28 = .ok (.invokestatic 402, 3) := by decide +kernel
theorem dX8_hashSlots_31 : decode cX8_hashSlots 31 = .ok (.lstore_n 3, 1) := by decide +kernel
theorem dX8_hashSlots_32 : decode cX8_hashSlots 32 = .ok (.iinc 5 1, 3) := by decide +kernel
theorem dX8_hashSlots_35 : decode cX8_hashSlots 35 = .ok (.goto (-30), 3) := by decide +kernel
theorem dX8_hashSlots_38 : decode cX8_hashSlots 38 = .ok (.lload_n 3, 1) := by decide +kernel
theorem dX8_hashSlots_39 : decode cX8_hashSlots 39 = .ok (.aload_n 0, 1) := by decide +kernel
theorem dX8_hashSlots_40 : decode cX8_hashSlots 40 = .ok (.invokevirtual 491, 3) := by decide +kernel
theorem dX8_hashSlots_43 : decode cX8_hashSlots 43 = .ok (.i2l, 1) := by decide +kernel
theorem dX8_hashSlots_44 : decode cX8_hashSlots 44 = .ok (.invokestatic 402, 3) := by decide +kernel
theorem dX8_hashSlots_47 : decode cX8_hashSlots 47 = .ok (.lstore_n 3, 1) := by decide +kernel
theorem dX8_hashSlots_48 : decode cX8_hashSlots 48 = .ok (.lload_n 3, 1) := by decide +kernel
theorem dX8_hashSlots_49 : decode cX8_hashSlots 49 = .ok (.aload_n 0, 1) := by decide +kernel
theorem dX8_hashSlots_50 : decode cX8_hashSlots 50 = .ok (.invokevirtual 494, 3) := by decide +kernel
theorem dX8_hashSlots_53 : decode cX8_hashSlots 53 = .ok (.i2l, 1) := by decide +kernel
theorem dX8_hashSlots_54 : decode cX8_hashSlots 54 = .ok (.invokestatic 402, 3) := by decide +kernel
theorem dX8_hashSlots_57 : decode cX8_hashSlots 57 = .ok (.lstore_n 3, 1) := by decide +kernel
theorem dX8_hashSlots_58 : decode cX8_hashSlots 58 = .ok (.iconst 1, 1) := by decide +kernel
theorem dX8_hashSlots_59 : decode cX8_hashSlots 59 = .ok (.istore 5, 2) := by decide +kernel
theorem dX8_hashSlots_61 : decode cX8_hashSlots 61 = .ok (.iload 5, 2) := by decide +kernel
theorem dX8_hashSlots_63 : decode cX8_hashSlots 63 = .ok (.iconst 4, 1) := by decide +kernel
theorem dX8_hashSlots_64 : decode cX8_hashSlots 64 = .ok (.if_icmp .gt 29, 3) := by decide +kernel
theorem dX8_hashSlots_67 : decode cX8_hashSlots 67 = .ok (.lload_n 3, 1) := by decide +kernel
theorem dX8_hashSlots_68 : decode cX8_hashSlots 68 = .ok (.aload_n 0, 1) := by decide +kernel
theorem dX8_hashSlots_69 : decode cX8_hashSlots 69 = .ok (.getfield 12, 3) := by decide +kernel
theorem dX8_hashSlots_72 : decode cX8_hashSlots 72 = .ok (.getfield 44, 3) := by decide +kernel
theorem dX8_hashSlots_75 : decode cX8_hashSlots 75 = .ok (.iload 5, 2) := by decide +kernel
theorem dX8_hashSlots_77 : decode cX8_hashSlots 77 = .ok (.invokevirtual 64, 3) := by decide +kernel
theorem dX8_hashSlots_80 : decode cX8_hashSlots 80 = .ok (.iconst 1, 1) := by decide +kernel
theorem dX8_hashSlots_81 : decode cX8_hashSlots 81 = .ok (.iadd, 1) := by decide +kernel
theorem dX8_hashSlots_82 : decode cX8_hashSlots 82 = .ok (.i2l, 1) := by decide +kernel
theorem dX8_hashSlots_83 : decode cX8_hashSlots 83 = .ok (.invokestatic 402, 3) := by decide +kernel
theorem dX8_hashSlots_86 : decode cX8_hashSlots 86 = .ok (.lstore_n 3, 1) := by decide +kernel
theorem dX8_hashSlots_87 : decode cX8_hashSlots 87 = .ok (.iinc 5 1, 3) := by decide +kernel
theorem dX8_hashSlots_90 : decode cX8_hashSlots 90 = .ok (.goto (-29), 3) := by decide +kernel
theorem dX8_hashSlots_93 : decode cX8_hashSlots 93 = .ok (.lload_n 3, 1) := by decide +kernel
theorem dX8_hashSlots_94 : decode cX8_hashSlots 94 = .ok (.aload_n 0, 1) := by decide +kernel
theorem dX8_hashSlots_95 : decode cX8_hashSlots 95 = .ok (.iconst 0, 1) := by decide +kernel
theorem dX8_hashSlots_96 : decode cX8_hashSlots 96 = .ok (.invokevirtual 497, 3) := by decide +kernel
theorem dX8_hashSlots_99 : decode cX8_hashSlots 99 = .ok (.i2l, 1) := by decide +kernel
theorem dX8_hashSlots_100 : decode cX8_hashSlots 100 = .ok (.invokestatic 402, 3) := by decide +kernel
theorem dX8_hashSlots_103 : decode cX8_hashSlots 103 = .ok (.lstore_n 3, 1) := by decide +kernel
theorem dX8_hashSlots_104 : decode cX8_hashSlots 104 = .ok (.lload_n 3, 1) := by decide +kernel
theorem dX8_hashSlots_105 : decode cX8_hashSlots 105 = .ok (.aload_n 0, 1) := by decide +kernel
theorem dX8_hashSlots_106 : decode cX8_hashSlots 106 = .ok (.iconst 1, 1) := by decide +kernel
theorem dX8_hashSlots_107 : decode cX8_hashSlots 107 = .ok (.invokevirtual 497, 3) := by decide +kernel
theorem dX8_hashSlots_110 : decode cX8_hashSlots 110 = .ok (.i2l, 1) := by decide +kernel
theorem dX8_hashSlots_111 : decode cX8_hashSlots 111 = .ok (.invokestatic 402, 3) := by decide +kernel
theorem dX8_hashSlots_114 : decode cX8_hashSlots 114 = .ok (.lstore_n 3, 1) := by decide +kernel
theorem dX8_hashSlots_115 : decode cX8_hashSlots 115 = .ok (.lload_n 3, 1) := by decide +kernel
theorem dX8_hashSlots_116 : decode cX8_hashSlots 116 = .ok (.aload_n 0, 1) := by decide +kernel
theorem dX8_hashSlots_117 : decode cX8_hashSlots 117 = .ok (.invokevirtual 500, 3) := by decide +kernel
theorem dX8_hashSlots_120 : decode cX8_hashSlots 120 = .ok (.i2l, 1) := by decide +kernel
theorem dX8_hashSlots_121 : decode cX8_hashSlots 121 = .ok (.invokestatic 402, 3) := by decide +kernel
theorem dX8_hashSlots_124 : decode cX8_hashSlots 124 = .ok (.lstore_n 3, 1) := by decide +kernel
theorem dX8_hashSlots_125 : decode cX8_hashSlots 125 = .ok (.lload_n 3, 1) := by decide +kernel
theorem dX8_hashSlots_126 : decode cX8_hashSlots 126 = .ok (.aload_n 0, 1) := by decide +kernel
theorem dX8_hashSlots_127 : decode cX8_hashSlots 127 = .ok (.invokevirtual 502, 3) := by decide +kernel
theorem dX8_hashSlots_130 : decode cX8_hashSlots 130 = .ok (.invokestatic 479, 3) := by decide +kernel
theorem dX8_hashSlots_133 : decode cX8_hashSlots 133 = .ok (.lreturn, 1) := by decide +kernel
set_option maxRecDepth 20000 in
theorem ggX8_hashKinds_X8_weightOfKind : GoodIn wsX8_hashKinds wsX8_weightOfKind := goodIn_ca (goodIn_r _ [5, 6, 7, 8, 9, 4, 10, 11, 12, 79, 80, 81, 82, 83, 84, 85, 86, 87, 88, 89, 90, 91, 92, 93] rfl (by decide +kernel)) (goodIn_sub (fun _ h => List.mem_cons_of_mem _ (List.mem_append_right _ h)) (by decide +kernel))
set_option maxRecDepth 20000 in
theorem gX8_hashKinds_X8_weightOfKind : GoodIn wsX8_hashKinds (wsV RX8 505 RX8 yX8_weightOfKind wsX8_weightOfKind) := goodIn_app (goodIn_r _ [1, 2, 3, 4] rfl (by decide +kernel)) ggX8_hashKinds_X8_weightOfKind
set_option maxRecDepth 20000 in
theorem ggX8_hashKinds_X8_hashOn : GoodIn wsX8_hashKinds wsX8_hashOn := goodIn_r _ [15, 16] rfl (by decide +kernel)
set_option maxRecDepth 20000 in
theorem gX8_hashKinds_X8_hashOn : GoodIn wsX8_hashKinds (va_wsS RX8 402 yX8_hashOn wsX8_hashOn) := goodIn_app (goodIn_r _ [13, 14, 4] rfl (by decide +kernel)) ggX8_hashKinds_X8_hashOn
set_option maxRecDepth 20000 in
theorem ggX8_hashKinds_X8_stockByShelves : GoodIn wsX8_hashKinds wsX8_stockByShelves := goodIn_ca (goodIn_r _ [20, 6, 7, 8, 9, 4, 10, 11, 12, 21, 22, 23, 24, 25, 26, 27, 28, 29, 30, 79, 80, 81, 82, 83, 84, 85, 86, 87, 88, 89, 94, 95, 96, 97, 98, 99] rfl (by decide +kernel)) (goodIn_sub (fun _ h => List.mem_cons_of_mem _ (List.mem_append_right _ h)) (by decide +kernel))
set_option maxRecDepth 20000 in
theorem gX8_hashKinds_X8_stockByShelves : GoodIn wsX8_hashKinds (wsV RX8 508 RX8 yX8_stockByShelves wsX8_stockByShelves) := goodIn_app (goodIn_r _ [17, 18, 19, 4] rfl (by decide +kernel)) ggX8_hashKinds_X8_stockByShelves
set_option maxRecDepth 20000 in
theorem ggX8_hashKinds_X8_stockByAccount : GoodIn wsX8_hashKinds wsX8_stockByAccount := goodIn_ca (goodIn_r _ [34, 6, 7, 8, 9, 4, 10, 11, 12, 79, 80, 81, 82, 83, 84, 85, 86, 87, 88, 89, 90, 91, 92, 93] rfl (by decide +kernel)) (goodIn_sub (fun _ h => List.mem_cons_of_mem _ (List.mem_append_right _ h)) (by decide +kernel))
set_option maxRecDepth 20000 in
theorem gX8_hashKinds_X8_stockByAccount : GoodIn wsX8_hashKinds (wsV RX8 511 RX8 yX8_stockByAccount wsX8_stockByAccount) := goodIn_app (goodIn_r _ [31, 32, 33, 4] rfl (by decide +kernel)) ggX8_hashKinds_X8_stockByAccount
set_option maxRecDepth 20000 in
theorem ggX8_hashKinds_X8_shelvesWith : GoodIn wsX8_hashKinds wsX8_shelvesWith := goodIn_ca (goodIn_r _ [38, 6, 7, 8, 9, 4, 10, 11, 12, 39, 22, 40, 41, 25, 26, 27, 28, 29, 30, 79, 80, 81, 82, 83, 84, 85, 86, 87, 88, 89, 94, 95, 96, 97, 98, 99] rfl (by decide +kernel)) (goodIn_sub (fun _ h => List.mem_cons_of_mem _ (List.mem_append_right _ h)) (by decide +kernel))
set_option maxRecDepth 20000 in
theorem gX8_hashKinds_X8_shelvesWith : GoodIn wsX8_hashKinds (wsV RX8 514 RX8 yX8_shelvesWith wsX8_shelvesWith) := goodIn_app (goodIn_r _ [35, 36, 37, 4] rfl (by decide +kernel)) ggX8_hashKinds_X8_shelvesWith
set_option maxRecDepth 20000 in
theorem ggX8_hashKinds_X8_leastOf : GoodIn wsX8_hashKinds wsX8_leastOf := goodIn_ca (goodIn_r _ [45, 6, 7, 8, 9, 4, 10, 11, 12, 79, 80, 81, 82, 83, 84, 85, 86, 87, 88, 89, 90, 91, 92, 93] rfl (by decide +kernel)) (goodIn_sub (fun _ h => List.mem_cons_of_mem _ (List.mem_append_right _ h)) (by decide +kernel))
set_option maxRecDepth 20000 in
theorem gX8_hashKinds_X8_leastOf : GoodIn wsX8_hashKinds (wsV RX8 517 RX8 yX8_leastOf wsX8_leastOf) := goodIn_app (goodIn_r _ [42, 43, 44, 4] rfl (by decide +kernel)) ggX8_hashKinds_X8_leastOf
set_option maxRecDepth 20000 in
theorem ggX8_hashKinds_X8_missingOf : GoodIn wsX8_hashKinds wsX8_missingOf := goodIn_ca (goodIn_r _ [49, 6, 7, 8, 9, 4, 10, 11, 12, 50, 51, 52, 53, 54, 55, 56, 57, 58, 59, 21, 22, 23, 24, 25, 26, 27, 28, 29, 30, 79, 80, 81, 82, 83, 84, 85, 86, 87, 88, 89, 90, 91, 92, 93, 94, 95, 96, 97, 98, 99] rfl (by decide +kernel)) (goodIn_sub (fun _ h => List.mem_cons_of_mem _ (List.mem_append_right _ h)) (by decide +kernel))
set_option maxRecDepth 20000 in
theorem gX8_hashKinds_X8_missingOf : GoodIn wsX8_hashKinds (wsV RX8 520 RX8 yX8_missingOf wsX8_missingOf) := goodIn_app (goodIn_r _ [46, 47, 48, 4] rfl (by decide +kernel)) ggX8_hashKinds_X8_missingOf
set_option maxRecDepth 20000 in
theorem ggX8_hashKinds_X8_shortKinds : GoodIn wsX8_hashKinds wsX8_shortKinds := goodIn_r _ [63, 6, 50, 51, 52, 53, 54, 55, 56, 57, 58, 59, 21, 22, 23, 24, 25, 26, 27, 28, 29, 30, 79, 80, 81, 82, 83, 84, 85, 86, 87, 88, 89, 90, 91, 92, 93, 94, 95, 96, 97, 98, 99] rfl (by decide +kernel)
set_option maxRecDepth 20000 in
theorem gX8_hashKinds_X8_shortKinds : GoodIn wsX8_hashKinds (wsV RX8 523 RX8 yX8_shortKinds wsX8_shortKinds) := goodIn_app (goodIn_r _ [60, 61, 62, 4] rfl (by decide +kernel)) ggX8_hashKinds_X8_shortKinds
set_option maxRecDepth 20000 in
theorem ggX8_hashKinds_X8_sideWeight : GoodIn wsX8_hashKinds wsX8_sideWeight := goodIn_ca (goodIn_r _ [67, 6, 68, 69, 70, 4, 71, 11, 12, 72, 51, 73, 74, 55, 75, 76, 77, 78, 54, 27, 22, 28, 29, 30, 79, 80, 81, 82, 83, 84, 85, 86, 87, 88, 89, 94, 95, 96, 97, 98, 99, 90, 91, 92, 93] rfl (by decide +kernel)) (goodIn_sub (fun _ h => List.mem_cons_of_mem _ (List.mem_append_right _ h)) (by decide +kernel))
set_option maxRecDepth 20000 in
theorem gX8_hashKinds_X8_sideWeight : GoodIn wsX8_hashKinds (wsV RX8 526 RX8 yX8_sideWeight wsX8_sideWeight) := goodIn_app (goodIn_r _ [64, 65, 66, 4] rfl (by decide +kernel)) ggX8_hashKinds_X8_sideWeight
theorem dX8_hashKinds_0 : decode cX8_hashKinds 0 = .ok (.lload_n 1, 1) := by decide +kernel
theorem dX8_hashKinds_1 : decode cX8_hashKinds 1 = .ok (.lstore_n 3, 1) := by decide +kernel
theorem dX8_hashKinds_2 : decode cX8_hashKinds 2 = .ok (.iconst 0, 1) := by decide +kernel
theorem dX8_hashKinds_3 : decode cX8_hashKinds 3 = .ok (.istore 5, 2) := by decide +kernel
theorem dX8_hashKinds_5 : decode cX8_hashKinds 5 = .ok (.iload 5, 2) := by decide +kernel
theorem dX8_hashKinds_7 : decode cX8_hashKinds 7 = .ok (.bipush 10, 2) := by decide +kernel
theorem dX8_hashKinds_9 : decode cX8_hashKinds 9 = .ok (.if_icmp .ge 81, 3) := by decide +kernel
theorem dX8_hashKinds_12 : decode cX8_hashKinds 12 = .ok (.lload_n 3, 1) := by decide +kernel
theorem dX8_hashKinds_13 : decode cX8_hashKinds 13 = .ok (.aload_n 0, 1) := by decide +kernel
theorem dX8_hashKinds_14 : decode cX8_hashKinds 14 = .ok (.iload 5, 2) := by decide +kernel
theorem dX8_hashKinds_16 : decode cX8_hashKinds 16 = .ok (.invokevirtual 505, 3) := by decide +kernel
theorem dX8_hashKinds_19 : decode cX8_hashKinds 19 = .ok (.i2l, 1) := by decide +kernel
theorem dX8_hashKinds_20 : decode cX8_hashKinds 20 = .ok (.invokestatic 402, 3) := by decide +kernel
theorem dX8_hashKinds_23 : decode cX8_hashKinds 23 = .ok (.lstore_n 3, 1) := by decide +kernel
theorem dX8_hashKinds_24 : decode cX8_hashKinds 24 = .ok (.lload_n 3, 1) := by decide +kernel
theorem dX8_hashKinds_25 : decode cX8_hashKinds 25 = .ok (.aload_n 0, 1) := by decide +kernel
theorem dX8_hashKinds_26 : decode cX8_hashKinds 26 = .ok (.iload 5, 2) := by decide +kernel
theorem dX8_hashKinds_28 : decode cX8_hashKinds 28 = .ok (.invokevirtual 508, 3) := by decide +kernel
theorem dX8_hashKinds_31 : decode cX8_hashKinds 31 = .ok (.i2l, 1) := by decide +kernel
theorem dX8_hashKinds_32 : decode cX8_hashKinds 32 = .ok (.invokestatic 402, 3) := by decide +kernel
theorem dX8_hashKinds_35 : decode cX8_hashKinds 35 = .ok (.lstore_n 3, 1) := by decide +kernel
theorem dX8_hashKinds_36 : decode cX8_hashKinds 36 = .ok (.lload_n 3, 1) := by decide +kernel
theorem dX8_hashKinds_37 : decode cX8_hashKinds 37 = .ok (.aload_n 0, 1) := by decide +kernel
theorem dX8_hashKinds_38 : decode cX8_hashKinds 38 = .ok (.iload 5, 2) := by decide +kernel
theorem dX8_hashKinds_40 : decode cX8_hashKinds 40 = .ok (.invokevirtual 511, 3) := by decide +kernel
theorem dX8_hashKinds_43 : decode cX8_hashKinds 43 = .ok (.i2l, 1) := by decide +kernel
theorem dX8_hashKinds_44 : decode cX8_hashKinds 44 = .ok (.invokestatic 402, 3) := by decide +kernel
theorem dX8_hashKinds_47 : decode cX8_hashKinds 47 = .ok (.lstore_n 3, 1) := by decide +kernel
theorem dX8_hashKinds_48 : decode cX8_hashKinds 48 = .ok (.lload_n 3, 1) := by decide +kernel
theorem dX8_hashKinds_49 : decode cX8_hashKinds 49 = .ok (.aload_n 0, 1) := by decide +kernel
theorem dX8_hashKinds_50 : decode cX8_hashKinds 50 = .ok (.iload 5, 2) := by decide +kernel
theorem dX8_hashKinds_52 : decode cX8_hashKinds 52 = .ok (.invokevirtual 514, 3) := by decide +kernel
theorem dX8_hashKinds_55 : decode cX8_hashKinds 55 = .ok (.i2l, 1) := by decide +kernel
theorem dX8_hashKinds_56 : decode cX8_hashKinds 56 = .ok (.invokestatic 402, 3) := by decide +kernel
theorem dX8_hashKinds_59 : decode cX8_hashKinds 59 = .ok (.lstore_n 3, 1) := by decide +kernel
theorem dX8_hashKinds_60 : decode cX8_hashKinds 60 = .ok (.lload_n 3, 1) := by decide +kernel
theorem dX8_hashKinds_61 : decode cX8_hashKinds 61 = .ok (.aload_n 0, 1) := by decide +kernel
theorem dX8_hashKinds_62 : decode cX8_hashKinds 62 = .ok (.iload 5, 2) := by decide +kernel
theorem dX8_hashKinds_64 : decode cX8_hashKinds 64 = .ok (.invokevirtual 517, 3) := by decide +kernel
theorem dX8_hashKinds_67 : decode cX8_hashKinds 67 = .ok (.i2l, 1) := by decide +kernel
theorem dX8_hashKinds_68 : decode cX8_hashKinds 68 = .ok (.invokestatic 402, 3) := by decide +kernel
theorem dX8_hashKinds_71 : decode cX8_hashKinds 71 = .ok (.lstore_n 3, 1) := by decide +kernel
theorem dX8_hashKinds_72 : decode cX8_hashKinds 72 = .ok (.lload_n 3, 1) := by decide +kernel
theorem dX8_hashKinds_73 : decode cX8_hashKinds 73 = .ok (.aload_n 0, 1) := by decide +kernel
theorem dX8_hashKinds_74 : decode cX8_hashKinds 74 = .ok (.iload 5, 2) := by decide +kernel
theorem dX8_hashKinds_76 : decode cX8_hashKinds 76 = .ok (.invokevirtual 520, 3) := by decide +kernel
theorem dX8_hashKinds_79 : decode cX8_hashKinds 79 = .ok (.i2l, 1) := by decide +kernel
theorem dX8_hashKinds_80 : decode cX8_hashKinds 80 = .ok (.invokestatic 402, 3) := by decide +kernel
theorem dX8_hashKinds_83 : decode cX8_hashKinds 83 = .ok (.lstore_n 3, 1) := by decide +kernel
theorem dX8_hashKinds_84 : decode cX8_hashKinds 84 = .ok (.iinc 5 1, 3) := by decide +kernel
theorem dX8_hashKinds_87 : decode cX8_hashKinds 87 = .ok (.goto (-82), 3) := by decide +kernel
theorem dX8_hashKinds_90 : decode cX8_hashKinds 90 = .ok (.lload_n 3, 1) := by decide +kernel
theorem dX8_hashKinds_91 : decode cX8_hashKinds 91 = .ok (.aload_n 0, 1) := by decide +kernel
theorem dX8_hashKinds_92 : decode cX8_hashKinds 92 = .ok (.invokevirtual 523, 3) := by decide +kernel
theorem dX8_hashKinds_95 : decode cX8_hashKinds 95 = .ok (.i2l, 1) := by decide +kernel
theorem dX8_hashKinds_96 : decode cX8_hashKinds 96 = .ok (.invokestatic 402, 3) := by decide +kernel
theorem dX8_hashKinds_99 : decode cX8_hashKinds 99 = .ok (.lstore_n 3, 1) := by decide +kernel
theorem dX8_hashKinds_100 : decode cX8_hashKinds 100 = .ok (.lload_n 3, 1) := by decide +kernel
theorem dX8_hashKinds_101 : decode cX8_hashKinds 101 = .ok (.aload_n 0, 1) := by decide +kernel
theorem dX8_hashKinds_102 : decode cX8_hashKinds 102 = .ok (.iconst 0, 1) := by decide +kernel
theorem dX8_hashKinds_103 : decode cX8_hashKinds 103 = .ok (.invokevirtual 526, 3) := by decide +kernel
theorem dX8_hashKinds_106 : decode cX8_hashKinds 106 = .ok (.i2l, 1) := by decide +kernel
theorem dX8_hashKinds_107 : decode cX8_hashKinds 107 = .ok (.invokestatic 402, 3) := by decide +kernel
theorem dX8_hashKinds_110 : decode cX8_hashKinds 110 = .ok (.lstore_n 3, 1) := by decide +kernel
theorem dX8_hashKinds_111 : decode cX8_hashKinds 111 = .ok (.lload_n 3, 1) := by decide +kernel
theorem dX8_hashKinds_112 : decode cX8_hashKinds 112 = .ok (.aload_n 0, 1) := by decide +kernel
theorem dX8_hashKinds_113 : decode cX8_hashKinds 113 = .ok (.iconst 1, 1) := by decide +kernel
theorem dX8_hashKinds_114 : decode cX8_hashKinds 114 = .ok (.invokevirtual 526, 3) := by decide +kernel
theorem dX8_hashKinds_117 : decode cX8_hashKinds 117 = .ok (.i2l, 1) := by decide +kernel
theorem dX8_hashKinds_118 : decode cX8_hashKinds 118 = .ok (.invokestatic 402, 3) := by decide +kernel
theorem dX8_hashKinds_121 : decode cX8_hashKinds 121 = .ok (.lreturn, 1) := by decide +kernel
set_option maxRecDepth 20000 in
theorem ggX8_hashTrips_X8_trips : GoodIn wsX8_hashTrips wsX8_trips := goodIn_r _ [6, 1, 28, 29, 30, 31, 32, 33, 34, 35, 36, 37, 38, 39, 40, 41, 42, 43, 44, 45] rfl (by decide +kernel)
set_option maxRecDepth 20000 in
theorem gX8_hashTrips_X8_trips : GoodIn wsX8_hashTrips (wsV RX8 529 RX8 yX8_trips wsX8_trips) := goodIn_app (goodIn_r _ [2, 3, 4, 5] rfl (by decide +kernel)) ggX8_hashTrips_X8_trips
set_option maxRecDepth 20000 in
theorem ggX8_hashTrips_X8_hashOn : GoodIn wsX8_hashTrips wsX8_hashOn := goodIn_r _ [9, 10] rfl (by decide +kernel)
set_option maxRecDepth 20000 in
theorem gX8_hashTrips_X8_hashOn : GoodIn wsX8_hashTrips (va_wsS RX8 402 yX8_hashOn wsX8_hashOn) := goodIn_app (goodIn_r _ [7, 8, 5] rfl (by decide +kernel)) ggX8_hashTrips_X8_hashOn
set_option maxRecDepth 20000 in
theorem ggX8_hashTrips_X8_tripTicks : GoodIn wsX8_hashTrips wsX8_tripTicks := goodIn_ca (goodIn_r _ [14, 1, 15, 16, 17, 5, 18, 19, 20, 28, 29, 30, 31, 32, 33, 34, 35, 36, 37, 38, 39, 40, 41, 42, 43, 44, 45] rfl (by decide +kernel)) (goodIn_sub (fun _ h => List.mem_cons_of_mem _ (List.mem_append_right _ h)) (by decide +kernel))
set_option maxRecDepth 20000 in
theorem gX8_hashTrips_X8_tripTicks : GoodIn wsX8_hashTrips (wsV RX8 532 RX8 yX8_tripTicks wsX8_tripTicks) := goodIn_app (goodIn_r _ [11, 12, 13, 5] rfl (by decide +kernel)) ggX8_hashTrips_X8_tripTicks
set_option maxRecDepth 20000 in
theorem ggX8_hashTrips_X8_wasFetch : GoodIn wsX8_hashTrips wsX8_wasFetch := goodIn_ca (goodIn_r _ [24, 1, 15, 16, 17, 5, 18, 19, 20, 28, 29, 30, 31, 32, 33, 34, 35, 36, 37, 38, 39, 40, 41, 42, 43, 44, 45] rfl (by decide +kernel)) (goodIn_sub (fun _ h => List.mem_cons_of_mem _ (List.mem_append_right _ h)) (by decide +kernel))
set_option maxRecDepth 20000 in
theorem gX8_hashTrips_X8_wasFetch : GoodIn wsX8_hashTrips (wsV RX8 535 RX8 yX8_wasFetch wsX8_wasFetch) := goodIn_app (goodIn_r _ [21, 22, 23, 5] rfl (by decide +kernel)) ggX8_hashTrips_X8_wasFetch
set_option maxRecDepth 20000 in
theorem ggX8_hashTrips_X8_hashOn_ : GoodIn wsX8_hashTrips wsX8_hashOn_ := goodIn_r _ [27, 7, 8, 5, 9, 10] rfl (by decide +kernel)
set_option maxRecDepth 20000 in
theorem gX8_hashTrips_X8_hashOn_ : GoodIn wsX8_hashTrips (va_wsS RX8 479 yX8_hashOn_ wsX8_hashOn_) := goodIn_app (goodIn_r _ [25, 26, 5] rfl (by decide +kernel)) ggX8_hashTrips_X8_hashOn_
theorem dX8_hashTrips_0 : decode cX8_hashTrips 0 = .ok (.lload_n 1, 1) := by decide +kernel
theorem dX8_hashTrips_1 : decode cX8_hashTrips 1 = .ok (.aload_n 0, 1) := by decide +kernel
theorem dX8_hashTrips_2 : decode cX8_hashTrips 2 = .ok (.invokevirtual 529, 3) := by decide +kernel
theorem dX8_hashTrips_5 : decode cX8_hashTrips 5 = .ok (.i2l, 1) := by decide +kernel
theorem dX8_hashTrips_6 : decode cX8_hashTrips 6 = .ok (.invokestatic 402, 3) := by decide +kernel
theorem dX8_hashTrips_9 : decode cX8_hashTrips 9 = .ok (.lstore_n 3, 1) := by decide +kernel
theorem dX8_hashTrips_10 : decode cX8_hashTrips 10 = .ok (.iconst 0, 1) := by decide +kernel
theorem dX8_hashTrips_11 : decode cX8_hashTrips 11 = .ok (.istore 5, 2) := by decide +kernel
theorem dX8_hashTrips_13 : decode cX8_hashTrips 13 = .ok (.iload 5, 2) := by decide +kernel
theorem dX8_hashTrips_15 : decode cX8_hashTrips 15 = .ok (.aload_n 0, 1) := by decide +kernel
theorem dX8_hashTrips_16 : decode cX8_hashTrips 16 = .ok (.getfield 12, 3) := by decide +kernel
theorem dX8_hashTrips_19 : decode cX8_hashTrips 19 = .ok (.getfield 232, 3) := by decide +kernel
theorem dX8_hashTrips_22 : decode cX8_hashTrips 22 = .ok (.getfield 304, 3) := by decide +kernel
theorem dX8_hashTrips_25 : decode cX8_hashTrips 25 = .ok (.if_icmp .ge 32, 3) := by decide +kernel
theorem dX8_hashTrips_28 : decode cX8_hashTrips 28 = .ok (.lload_n 3, 1) := by decide +kernel
theorem dX8_hashTrips_29 : decode cX8_hashTrips 29 = .ok (.aload_n 0, 1) := by decide +kernel
theorem dX8_hashTrips_30 : decode cX8_hashTrips 30 = .ok (.iload 5, 2) := by decide +kernel
theorem dX8_hashTrips_32 : decode cX8_hashTrips 32 = .ok (.invokevirtual 532, 3) := by decide +kernel
theorem dX8_hashTrips_35 : decode cX8_hashTrips 35 = .ok (.i2l, 1) := by decide +kernel
theorem dX8_hashTrips_36 : decode cX8_hashTrips 36 = .ok (.invokestatic 402, 3) := by decide +kernel
theorem dX8_hashTrips_39 : decode cX8_hashTrips 39 = .ok (.lstore_n 3, 1) := by decide +kernel
theorem dX8_hashTrips_40 : decode cX8_hashTrips 40 = .ok (.lload_n 3, 1) := by decide +kernel
theorem dX8_hashTrips_41 : decode cX8_hashTrips 41 = .ok (.aload_n 0, 1) := by decide +kernel
theorem dX8_hashTrips_42 : decode cX8_hashTrips 42 = .ok (.iload 5, 2) := by decide +kernel
theorem dX8_hashTrips_44 : decode cX8_hashTrips 44 = .ok (.invokevirtual 535, 3) := by decide +kernel
theorem dX8_hashTrips_47 : decode cX8_hashTrips 47 = .ok (.invokestatic 479, 3) := by decide +kernel
theorem dX8_hashTrips_50 : decode cX8_hashTrips 50 = .ok (.lstore_n 3, 1) := by decide +kernel
theorem dX8_hashTrips_51 : decode cX8_hashTrips 51 = .ok (.iinc 5 1, 3) := by decide +kernel
theorem dX8_hashTrips_54 : decode cX8_hashTrips 54 = .ok (.goto (-41), 3) := by decide +kernel
theorem dX8_hashTrips_57 : decode cX8_hashTrips 57 = .ok (.lload_n 3, 1) := by decide +kernel
theorem dX8_hashTrips_58 : decode cX8_hashTrips 58 = .ok (.lreturn, 1) := by decide +kernel
set_option maxRecDepth 20000 in
theorem ggX8_hashOrders_X8_orders : GoodIn wsX8_hashOrders wsX8_orders := goodIn_r _ [6, 1, 81, 82, 83, 84, 85, 86, 87, 88, 89, 90, 91, 92, 93] rfl (by decide +kernel)
set_option maxRecDepth 20000 in
theorem gX8_hashOrders_X8_orders : GoodIn wsX8_hashOrders (wsV RX8 538 RX8 yX8_orders wsX8_orders) := goodIn_app (goodIn_r _ [2, 3, 4, 5] rfl (by decide +kernel)) ggX8_hashOrders_X8_orders
set_option maxRecDepth 20000 in
theorem ggX8_hashOrders_X8_hashOn : GoodIn wsX8_hashOrders wsX8_hashOn := goodIn_r _ [9, 10] rfl (by decide +kernel)
set_option maxRecDepth 20000 in
theorem gX8_hashOrders_X8_hashOn : GoodIn wsX8_hashOrders (va_wsS RX8 402 yX8_hashOn wsX8_hashOn) := goodIn_app (goodIn_r _ [7, 8, 5] rfl (by decide +kernel)) ggX8_hashOrders_X8_hashOn
set_option maxRecDepth 20000 in
theorem ggX8_hashOrders_X8_wanted : GoodIn wsX8_hashOrders wsX8_wanted := goodIn_ca (goodIn_r _ [14, 1, 15, 16, 17, 5, 18, 19, 20, 21, 22, 23, 24, 25, 26, 27, 28, 29, 81, 82, 83, 84, 85, 86, 87, 88, 89, 90, 91, 92, 93] rfl (by decide +kernel)) (goodIn_sub (fun _ h => List.mem_cons_of_mem _ (List.mem_append_right _ h)) (by decide +kernel))
set_option maxRecDepth 20000 in
theorem gX8_hashOrders_X8_wanted : GoodIn wsX8_hashOrders (wsV RX8 541 RX8 yX8_wanted wsX8_wanted) := goodIn_app (goodIn_r _ [11, 12, 13, 5] rfl (by decide +kernel)) ggX8_hashOrders_X8_wanted
set_option maxRecDepth 20000 in
theorem ggX8_hashOrders_X6_isServable : GoodIn wsX8_hashOrders wsX6_isServable := goodIn_r _ [33, 34, 35, 36, 37, 31, 38, 39, 25, 26, 27, 28, 29, 40, 41, 42, 43, 44, 87, 88, 89, 90, 91, 94, 95, 96, 97, 98, 99, 92, 93] rfl (by decide +kernel)
set_option maxRecDepth 20000 in
theorem gX8_hashOrders_X6_isServable_n329 : GoodIn wsX8_hashOrders (wsX6_isServable) := ggX8_hashOrders_X6_isServable
set_option maxRecDepth 20000 in
theorem ggX8_hashOrders_X8_hashOn_ : GoodIn wsX8_hashOrders wsX8_hashOn_ := goodIn_r _ [47, 7, 8, 5, 9, 10] rfl (by decide +kernel)
set_option maxRecDepth 20000 in
theorem gX8_hashOrders_X8_hashOn_ : GoodIn wsX8_hashOrders (va_wsS RX8 479 yX8_hashOn_ wsX8_hashOn_) := goodIn_app (goodIn_r _ [45, 46, 5] rfl (by decide +kernel)) ggX8_hashOrders_X8_hashOn_
set_option maxRecDepth 20000 in
theorem ggX8_hashOrders_X6_choice : GoodIn wsX8_hashOrders wsX6_choice := goodIn_r _ [50, 51, 52, 53, 31, 54, 34, 39, 25, 26, 27, 28, 29, 40, 41, 42, 43, 44, 55, 56, 57, 58, 59, 60, 61, 35, 36, 37, 38, 87, 88, 89, 90, 91, 94, 95, 96, 97, 98, 99, 92, 93] rfl (by decide +kernel)
set_option maxRecDepth 20000 in
theorem gX8_hashOrders_X6_choice_n332 : GoodIn wsX8_hashOrders (wsX6_choice) := ggX8_hashOrders_X6_choice
set_option maxRecDepth 20000 in
theorem ggX8_hashOrders_J6_bitCount_0f7a4 : GoodIn wsX8_hashOrders wsJ6_bitCount_0f7a4 := goodIn_r _ [58, 59, 60, 61] rfl (by decide +kernel)
set_option maxRecDepth 20000 in
theorem gX8_hashOrders_J6_bitCount_0f7a4 : GoodIn wsX8_hashOrders (va_wsS RX8 335 yJ6_bitCount_0f7a4 wsJ6_bitCount_0f7a4) := goodIn_app (goodIn_r _ [62, 56, 57] rfl (by decide +kernel)) ggX8_hashOrders_J6_bitCount_0f7a4
set_option maxRecDepth 20000 in
theorem ggX8_hashOrders_X8_fewestFound : GoodIn wsX8_hashOrders wsX8_fewestFound := goodIn_r _ [66, 67, 1, 25, 26, 27, 28, 29, 68, 69, 5, 70, 71, 72, 73, 74, 41, 75, 76, 77, 40, 42, 43, 44, 78, 79, 80, 81, 82, 83, 84, 85, 86, 87, 88, 89, 90, 91, 92, 93, 94, 95, 96, 97, 98, 99] rfl (by decide +kernel)
set_option maxRecDepth 20000 in
theorem gX8_hashOrders_X8_fewestFound : GoodIn wsX8_hashOrders (wsV RX8 340 RX8 yX8_fewestFound wsX8_fewestFound) := goodIn_app (goodIn_r _ [63, 64, 65, 5] rfl (by decide +kernel)) ggX8_hashOrders_X8_fewestFound
theorem dX8_hashOrders_0 : decode cX8_hashOrders 0 = .ok (.lload_n 1, 1) := by decide +kernel
theorem dX8_hashOrders_1 : decode cX8_hashOrders 1 = .ok (.aload_n 0, 1) := by decide +kernel
theorem dX8_hashOrders_2 : decode cX8_hashOrders 2 = .ok (.invokevirtual 538, 3) := by decide +kernel
theorem dX8_hashOrders_5 : decode cX8_hashOrders 5 = .ok (.i2l, 1) := by decide +kernel
theorem dX8_hashOrders_6 : decode cX8_hashOrders 6 = .ok (.invokestatic 402, 3) := by decide +kernel
theorem dX8_hashOrders_9 : decode cX8_hashOrders 9 = .ok (.lstore_n 3, 1) := by decide +kernel
theorem dX8_hashOrders_10 : decode cX8_hashOrders 10 = .ok (.iconst 0, 1) := by decide +kernel
theorem dX8_hashOrders_11 : decode cX8_hashOrders 11 = .ok (.istore 5, 2) := by decide +kernel
theorem dX8_hashOrders_13 : decode cX8_hashOrders 13 = .ok (.iload 5, 2) := by decide +kernel
theorem dX8_hashOrders_15 : decode cX8_hashOrders 15 = .ok (.aload_n 0, 1) := by decide +kernel
theorem dX8_hashOrders_16 : decode cX8_hashOrders 16 = .ok (.getfield 12, 3) := by decide +kernel
theorem dX8_hashOrders_19 : decode cX8_hashOrders 19 = .ok (.getfield 179, 3) := by decide +kernel
theorem dX8_hashOrders_22 : decode cX8_hashOrders 22 = .ok (.getfield 183, 3) := by decide +kernel
theorem dX8_hashOrders_25 : decode cX8_hashOrders 25 = .ok (.if_icmp .ge 104, 3) := by decide +kernel
theorem dX8_hashOrders_28 : decode cX8_hashOrders 28 = .ok (.iconst 0, 1) := by decide +kernel
theorem dX8_hashOrders_29 : decode cX8_hashOrders 29 = .ok (.istore 6, 2) := by decide +kernel
theorem dX8_hashOrders_31 : decode cX8_hashOrders 31 = .ok (.iload 6, 2) := by decide +kernel
theorem dX8_hashOrders_33 : decode cX8_hashOrders 33 = .ok (.bipush 10, 2) := by decide +kernel
theorem dX8_hashOrders_35 : decode cX8_hashOrders 35 = .ok (.if_icmp .ge 23, 3) := by decide +kernel
theorem dX8_hashOrders_38 : decode cX8_hashOrders 38 = .ok (.lload_n 3, 1) := by decide +kernel
theorem dX8_hashOrders_39 : decode cX8_hashOrders 39 = .ok (.aload_n 0, 1) := by decide +kernel
theorem dX8_hashOrders_40 : decode cX8_hashOrders 40 = .ok (.iload 5, 2) := by decide +kernel
theorem dX8_hashOrders_42 : decode cX8_hashOrders 42 = .ok (.iload 6, 2) := by decide +kernel
theorem dX8_hashOrders_44 : decode cX8_hashOrders 44 = .ok (.invokevirtual 541, 3) := by decide +kernel
theorem dX8_hashOrders_47 : decode cX8_hashOrders 47 = .ok (.i2l, 1) := by decide +kernel
theorem dX8_hashOrders_48 : decode cX8_hashOrders 48 = .ok (.invokestatic 402, 3) := by decide +kernel
theorem dX8_hashOrders_51 : decode cX8_hashOrders 51 = .ok (.lstore_n 3, 1) := by decide +kernel
theorem dX8_hashOrders_52 : decode cX8_hashOrders 52 = .ok (.iinc 6 1, 3) := by decide +kernel
theorem dX8_hashOrders_55 : decode cX8_hashOrders 55 = .ok (.goto (-24), 3) := by decide +kernel
theorem dX8_hashOrders_58 : decode cX8_hashOrders 58 = .ok (.aload_n 0, 1) := by decide +kernel
theorem dX8_hashOrders_59 : decode cX8_hashOrders 59 = .ok (.getfield 12, 3) := by decide +kernel
theorem dX8_hashOrders_62 : decode cX8_hashOrders 62 = .ok (.iload 5, 2) := by decide +kernel
theorem dX8_hashOrders_64 : decode cX8_hashOrders 64 = .ok (.invokevirtual 329, 3) := by decide +kernel
theorem dX8_hashOrders_67 : decode cX8_hashOrders 67 = .ok (.istore 6, 2) := by decide +kernel
theorem dX8_hashOrders_69 : decode cX8_hashOrders 69 = .ok (.lload_n 3, 1) := by decide +kernel
theorem dX8_hashOrders_70 : decode cX8_hashOrders 70 = .ok (.iload 6, 2) := by decide +kernel
theorem dX8_hashOrders_72 : decode cX8_hashOrders 72 = .ok (.invokestatic 479, 3) := by decide +kernel
theorem dX8_hashOrders_75 : decode cX8_hashOrders 75 = .ok (.lstore_n 3, 1) := by decide +kernel
theorem dX8_hashOrders_76 : decode cX8_hashOrders 76 = .ok (.iload 6, 2) := by decide +kernel
theorem dX8_hashOrders_78 : decode cX8_hashOrders 78 = .ok (.ifCond .eq 45, 3) := by decide +kernel
theorem dX8_hashOrders_81 : decode cX8_hashOrders 81 = .ok (.aload_n 0, 1) := by decide +kernel
theorem dX8_hashOrders_82 : decode cX8_hashOrders 82 = .ok (.getfield 12, 3) := by decide +kernel
theorem dX8_hashOrders_85 : decode cX8_hashOrders 85 = .ok (.iload 5, 2) := by decide +kernel
theorem dX8_hashOrders_87 : decode cX8_hashOrders 87 = .ok (.invokevirtual 332, 3) := by decide +kernel
theorem dX8_hashOrders_90 : decode cX8_hashOrders 90 = .ok (.istore 7, 2) := by decide +kernel
theorem dX8_hashOrders_92 : decode cX8_hashOrders 92 = .ok (.lload_n 3, 1) := by decide +kernel
theorem dX8_hashOrders_93 : decode cX8_hashOrders 93 = .ok (.iload 7, 2) := by decide +kernel
theorem dX8_hashOrders_95 : decode cX8_hashOrders 95 = .ok (.invokestatic 335, 3) := by decide +kernel
theorem dX8_hashOrders_98 : decode cX8_hashOrders 98 = .ok (.i2l, 1) := by decide +kernel
theorem dX8_hashOrders_99 : decode cX8_hashOrders 99 = .ok (.invokestatic 402, 3) := by decide +kernel
theorem dX8_hashOrders_102 : decode cX8_hashOrders 102 = .ok (.lstore_n 3, 1) := by decide +kernel
theorem dX8_hashOrders_103 : decode cX8_hashOrders 103 = .ok (.lload_n 3, 1) := by decide +kernel
theorem dX8_hashOrders_104 : decode cX8_hashOrders 104 = .ok (.aload_n 0, 1) := by decide +kernel
theorem dX8_hashOrders_105 : decode cX8_hashOrders 105 = .ok (.iload 5, 2) := by decide +kernel
theorem dX8_hashOrders_107 : decode cX8_hashOrders 107 = .ok (.invokevirtual 340, 3) := by decide +kernel
theorem dX8_hashOrders_110 : decode cX8_hashOrders 110 = .ok (.i2l, 1) := by decide +kernel
theorem dX8_hashOrders_111 : decode cX8_hashOrders 111 = .ok (.invokestatic 402, 3) := by decide +kernel
theorem dX8_hashOrders_114 : decode cX8_hashOrders 114 = .ok (.lstore_n 3, 1) := by decide +kernel
theorem dX8_hashOrders_115 : decode cX8_hashOrders 115 = .ok (.lload_n 3, 1) := by decide +kernel
theorem dX8_hashOrders_116 : decode cX8_hashOrders 116 = .ok (.iload 7, 2) := by decide +kernel
theorem dX8_hashOrders_118 : decode cX8_hashOrders 118 = .ok (.i2l, 1) := by decide +kernel
theorem dX8_hashOrders_119 : decode cX8_hashOrders 119 = .ok (.invokestatic 402, 3) := by decide +kernel
theorem dX8_hashOrders_122 : decode cX8_hashOrders 122 = .ok (.lstore_n 3, 1) := by decide +kernel
theorem dX8_hashOrders_123 : decode cX8_hashOrders 123 = .ok (.iinc 5 1, 3) := by decide +kernel
theorem dX8_hashOrders_126 : decode cX8_hashOrders 126 = .ok (.goto (-113), 3) := by decide +kernel
theorem dX8_hashOrders_129 : decode cX8_hashOrders 129 = .ok (.lload_n 3, 1) := by decide +kernel
theorem dX8_hashOrders_130 : decode cX8_hashOrders 130 = .ok (.lreturn, 1) := by decide +kernel
set_option maxRecDepth 20000 in
theorem ggX8_hashAccounts_X8_ticks : GoodIn wsX8_hashAccounts wsX8_ticks := goodIn_r _ [6, 1, 75, 76, 77, 78, 79, 80, 81, 82, 83, 84, 85, 86, 87, 88, 89, 90, 91, 92] rfl (by decide +kernel)
set_option maxRecDepth 20000 in
theorem gX8_hashAccounts_X8_ticks : GoodIn wsX8_hashAccounts (wsV RX8 544 RX8 yX8_ticks wsX8_ticks) := goodIn_app (goodIn_r _ [2, 3, 4, 5] rfl (by decide +kernel)) ggX8_hashAccounts_X8_ticks
set_option maxRecDepth 20000 in
theorem ggX8_hashAccounts_X8_hashOn : GoodIn wsX8_hashAccounts wsX8_hashOn := goodIn_r _ [9, 10] rfl (by decide +kernel)
set_option maxRecDepth 20000 in
theorem gX8_hashAccounts_X8_hashOn : GoodIn wsX8_hashAccounts (va_wsS RX8 402 yX8_hashOn wsX8_hashOn) := goodIn_app (goodIn_r _ [7, 8, 5] rfl (by decide +kernel)) ggX8_hashAccounts_X8_hashOn
set_option maxRecDepth 20000 in
theorem ggX8_hashAccounts_X8_fetches : GoodIn wsX8_hashAccounts wsX8_fetches := goodIn_r _ [14, 1, 75, 76, 77, 78, 79, 80, 81, 82, 83, 84, 85, 86, 87, 88, 89, 90, 91, 92] rfl (by decide +kernel)
set_option maxRecDepth 20000 in
theorem gX8_hashAccounts_X8_fetches : GoodIn wsX8_hashAccounts (wsV RX8 547 RX8 yX8_fetches wsX8_fetches) := goodIn_app (goodIn_r _ [11, 12, 13, 5] rfl (by decide +kernel)) ggX8_hashAccounts_X8_fetches
set_option maxRecDepth 20000 in
theorem ggX8_hashAccounts_X8_served : GoodIn wsX8_hashAccounts wsX8_served := goodIn_r _ [18, 1, 75, 76, 77, 78, 79, 80, 81, 82, 83, 84, 85] rfl (by decide +kernel)
set_option maxRecDepth 20000 in
theorem gX8_hashAccounts_X8_served : GoodIn wsX8_hashAccounts (wsV RX8 550 RX8 yX8_served wsX8_served) := goodIn_app (goodIn_r _ [15, 16, 17, 5] rfl (by decide +kernel)) ggX8_hashAccounts_X8_served
set_option maxRecDepth 20000 in
theorem ggX8_hashAccounts_X6_findHeaviest : GoodIn wsX8_hashAccounts wsX6_findHeaviest := goodIn_r _ [22, 23, 24, 25, 26, 20, 27, 28, 29, 30, 31, 32, 33, 81, 82, 83, 84, 85, 93, 94, 95, 96, 97, 98, 99, 100, 101, 102] rfl (by decide +kernel)
set_option maxRecDepth 20000 in
theorem gX8_hashAccounts_X6_findHeaviest_n368 : GoodIn wsX8_hashAccounts (wsX6_findHeaviest) := ggX8_hashAccounts_X6_findHeaviest
set_option maxRecDepth 20000 in
theorem ggX8_hashAccounts_X7_mostUsed : GoodIn wsX8_hashAccounts wsX7_mostUsed := goodIn_r _ [36, 37, 38, 93, 94, 95, 96, 97, 98] rfl (by decide +kernel)
set_option maxRecDepth 20000 in
theorem gX8_hashAccounts_X7_mostUsed_n371 : GoodIn wsX8_hashAccounts (wsX7_mostUsed) := ggX8_hashAccounts_X7_mostUsed
set_option maxRecDepth 20000 in
theorem ggX8_hashAccounts_X8_usedWays : GoodIn wsX8_hashAccounts wsX8_usedWays := goodIn_r _ [42, 1, 43, 30, 44, 45, 37, 46, 38, 47, 48, 49, 75, 76, 77, 78, 79, 80, 81, 82, 83, 84, 85, 93, 94, 95, 96, 97, 98] rfl (by decide +kernel)
set_option maxRecDepth 20000 in
theorem gX8_hashAccounts_X8_usedWays : GoodIn wsX8_hashAccounts (wsV RX8 553 RX8 yX8_usedWays wsX8_usedWays) := goodIn_app (goodIn_r _ [39, 40, 41, 5] rfl (by decide +kernel)) ggX8_hashAccounts_X8_usedWays
set_option maxRecDepth 20000 in
theorem ggX8_hashAccounts_X8_savedStates : GoodIn wsX8_hashAccounts wsX8_savedStates := goodIn_r _ [53, 54, 75, 76, 77, 78, 79, 80, 103, 104, 105] rfl (by decide +kernel)
set_option maxRecDepth 20000 in
theorem gX8_hashAccounts_X8_savedStates : GoodIn wsX8_hashAccounts (wsV RX8 556 RX8 yX8_savedStates wsX8_savedStates) := goodIn_app (goodIn_r _ [50, 51, 52, 5] rfl (by decide +kernel)) ggX8_hashAccounts_X8_savedStates
set_option maxRecDepth 20000 in
theorem ggX8_hashAccounts_X8_meanTicks : GoodIn wsX8_hashAccounts wsX8_meanTicks := goodIn_r _ [58, 1, 59, 60, 5, 61, 75, 76, 77, 78, 79, 80, 81, 82, 83, 84, 85, 86, 87, 88, 89, 90, 91, 92] rfl (by decide +kernel)
set_option maxRecDepth 20000 in
theorem gX8_hashAccounts_X8_meanTicks : GoodIn wsX8_hashAccounts (wsV RX8 559 RX8 yX8_meanTicks wsX8_meanTicks) := goodIn_app (goodIn_r _ [55, 56, 57, 5] rfl (by decide +kernel)) ggX8_hashAccounts_X8_meanTicks
set_option maxRecDepth 20000 in
theorem ggX8_hashAccounts_X8_bitsOf : GoodIn wsX8_hashAccounts wsX8_bitsOf := goodIn_r _ [64, 65, 66, 67] rfl (by decide +kernel)
set_option maxRecDepth 20000 in
theorem gX8_hashAccounts_X8_bitsOf : GoodIn wsX8_hashAccounts (va_wsS RX8 563 yX8_bitsOf wsX8_bitsOf) := goodIn_app (goodIn_r _ [62, 63, 5] rfl (by decide +kernel)) ggX8_hashAccounts_X8_bitsOf
set_option maxRecDepth 20000 in
theorem ggX8_hashAccounts_X8_meanWay : GoodIn wsX8_hashAccounts wsX8_meanWay := goodIn_r _ [71, 1, 43, 30, 44, 45, 37, 46, 38, 47, 48, 49, 72, 73, 74, 59, 60, 5, 61, 75, 76, 77, 78, 79, 80, 81, 82, 83, 84, 85, 93, 94, 95, 96, 97, 98] rfl (by decide +kernel)
set_option maxRecDepth 20000 in
theorem gX8_hashAccounts_X8_meanWay : GoodIn wsX8_hashAccounts (wsV RX8 567 RX8 yX8_meanWay wsX8_meanWay) := goodIn_app (goodIn_r _ [68, 69, 70, 5] rfl (by decide +kernel)) ggX8_hashAccounts_X8_meanWay
theorem dX8_hashAccounts_0 : decode cX8_hashAccounts 0 = .ok (.lload_n 1, 1) := by decide +kernel
theorem dX8_hashAccounts_1 : decode cX8_hashAccounts 1 = .ok (.aload_n 0, 1) := by decide +kernel
theorem dX8_hashAccounts_2 : decode cX8_hashAccounts 2 = .ok (.invokevirtual 544, 3) := by decide +kernel
theorem dX8_hashAccounts_5 : decode cX8_hashAccounts 5 = .ok (.i2l, 1) := by decide +kernel
theorem dX8_hashAccounts_6 : decode cX8_hashAccounts 6 = .ok (.invokestatic 402, 3) := by decide +kernel
theorem dX8_hashAccounts_9 : decode cX8_hashAccounts 9 = .ok (.lstore_n 3, 1) := by decide +kernel
theorem dX8_hashAccounts_10 : decode cX8_hashAccounts 10 = .ok (.lload_n 3, 1) := by decide +kernel
theorem dX8_hashAccounts_11 : decode cX8_hashAccounts 11 = .ok (.aload_n 0, 1) := by decide +kernel
theorem dX8_hashAccounts_12 : decode cX8_hashAccounts 12 = .ok (.invokevirtual 547, 3) := by decide +kernel
theorem dX8_hashAccounts_15 : decode cX8_hashAccounts 15 = .ok (.i2l, 1) := by decide +kernel
theorem dX8_hashAccounts_16 : decode cX8_hashAccounts 16 = .ok (.invokestatic 402, 3) := by decide +kernel
theorem dX8_hashAccounts_19 : decode cX8_hashAccounts 19 = .ok (.lstore_n 3, 1) := by decide +kernel
theorem dX8_hashAccounts_20 : decode cX8_hashAccounts 20 = .ok (.lload_n 3, 1) := by decide +kernel
theorem dX8_hashAccounts_21 : decode cX8_hashAccounts 21 = .ok (.aload_n 0, 1) := by decide +kernel
theorem dX8_hashAccounts_22 : decode cX8_hashAccounts 22 = .ok (.invokevirtual 550, 3) := by decide +kernel
theorem dX8_hashAccounts_25 : decode cX8_hashAccounts 25 = .ok (.i2l, 1) := by decide +kernel
theorem dX8_hashAccounts_26 : decode cX8_hashAccounts 26 = .ok (.invokestatic 402, 3) := by decide +kernel
theorem dX8_hashAccounts_29 : decode cX8_hashAccounts 29 = .ok (.lstore_n 3, 1) := by decide +kernel
theorem dX8_hashAccounts_30 : decode cX8_hashAccounts 30 = .ok (.lload_n 3, 1) := by decide +kernel
theorem dX8_hashAccounts_31 : decode cX8_hashAccounts 31 = .ok (.aload_n 0, 1) := by decide +kernel
theorem dX8_hashAccounts_32 : decode cX8_hashAccounts 32 = .ok (.getfield 12, 3) := by decide +kernel
theorem dX8_hashAccounts_35 : decode cX8_hashAccounts 35 = .ok (.invokevirtual 368, 3) := by decide +kernel
theorem dX8_hashAccounts_38 : decode cX8_hashAccounts 38 = .ok (.iconst 1, 1) := by decide +kernel
theorem dX8_hashAccounts_39 : decode cX8_hashAccounts 39 = .ok (.iadd, 1) := by decide +kernel
theorem dX8_hashAccounts_40 : decode cX8_hashAccounts 40 = .ok (.i2l, 1) := by decide +kernel
theorem dX8_hashAccounts_41 : decode cX8_hashAccounts 41 = .ok (.invokestatic 402, 3) := by decide +kernel
theorem dX8_hashAccounts_44 : decode cX8_hashAccounts 44 = .ok (.lstore_n 3, 1) := by decide +kernel
theorem dX8_hashAccounts_45 : decode cX8_hashAccounts 45 = .ok (.lload_n 3, 1) := by decide +kernel
theorem dX8_hashAccounts_46 : decode cX8_hashAccounts 46 = .ok (.aload_n 0, 1) := by decide +kernel
theorem dX8_hashAccounts_47 : decode cX8_hashAccounts 47 = .ok (.getfield 12, 3) := by decide +kernel
theorem dX8_hashAccounts_50 : decode cX8_hashAccounts 50 = .ok (.getfield 44, 3) := by decide +kernel
theorem dX8_hashAccounts_53 : decode cX8_hashAccounts 53 = .ok (.iconst 0, 1) := by decide +kernel
theorem dX8_hashAccounts_54 : decode cX8_hashAccounts 54 = .ok (.invokevirtual 371, 3) := by decide +kernel
theorem dX8_hashAccounts_57 : decode cX8_hashAccounts 57 = .ok (.iconst 1, 1) := by decide +kernel
theorem dX8_hashAccounts_58 : decode cX8_hashAccounts 58 = .ok (.iadd, 1) := by decide +kernel
theorem dX8_hashAccounts_59 : decode cX8_hashAccounts 59 = .ok (.i2l, 1) := by decide +kernel
theorem dX8_hashAccounts_60 : decode cX8_hashAccounts 60 = .ok (.invokestatic 402, 3) := by decide +kernel
theorem dX8_hashAccounts_63 : decode cX8_hashAccounts 63 = .ok (.lstore_n 3, 1) := by decide +kernel
theorem dX8_hashAccounts_64 : decode cX8_hashAccounts 64 = .ok (.lload_n 3, 1) := by decide +kernel
theorem dX8_hashAccounts_65 : decode cX8_hashAccounts 65 = .ok (.aload_n 0, 1) := by decide +kernel
theorem dX8_hashAccounts_66 : decode cX8_hashAccounts 66 = .ok (.invokevirtual 553, 3) := by decide +kernel
theorem dX8_hashAccounts_69 : decode cX8_hashAccounts 69 = .ok (.i2l, 1) := by decide +kernel
theorem dX8_hashAccounts_70 : decode cX8_hashAccounts 70 = .ok (.invokestatic 402, 3) := by decide +kernel
theorem dX8_hashAccounts_73 : decode cX8_hashAccounts 73 = .ok (.lstore_n 3, 1) := by decide +kernel
theorem dX8_hashAccounts_74 : decode cX8_hashAccounts 74 = .ok (.lload_n 3, 1) := by decide +kernel
theorem dX8_hashAccounts_75 : decode cX8_hashAccounts 75 = .ok (.aload_n 0, 1) := by decide +kernel
theorem dX8_hashAccounts_76 : decode cX8_hashAccounts 76 = .ok (.invokevirtual 556, 3) := by decide +kernel
theorem dX8_hashAccounts_79 : decode cX8_hashAccounts 79 = .ok (.i2l, 1) := by decide +kernel
theorem dX8_hashAccounts_80 : decode cX8_hashAccounts 80 = .ok (.invokestatic 402, 3) := by decide +kernel
theorem dX8_hashAccounts_83 : decode cX8_hashAccounts 83 = .ok (.lstore_n 3, 1) := by decide +kernel
theorem dX8_hashAccounts_84 : decode cX8_hashAccounts 84 = .ok (.lload_n 3, 1) := by decide +kernel
theorem dX8_hashAccounts_85 : decode cX8_hashAccounts 85 = .ok (.aload_n 0, 1) := by decide +kernel
theorem dX8_hashAccounts_86 : decode cX8_hashAccounts 86 = .ok (.invokevirtual 559, 3) := by decide +kernel
theorem dX8_hashAccounts_89 : decode cX8_hashAccounts 89 = .ok (.invokestatic 563, 3) := by decide +kernel
theorem dX8_hashAccounts_92 : decode cX8_hashAccounts 92 = .ok (.invokestatic 402, 3) := by decide +kernel
theorem dX8_hashAccounts_95 : decode cX8_hashAccounts 95 = .ok (.lstore_n 3, 1) := by decide +kernel
theorem dX8_hashAccounts_96 : decode cX8_hashAccounts 96 = .ok (.lload_n 3, 1) := by decide +kernel
theorem dX8_hashAccounts_97 : decode cX8_hashAccounts 97 = .ok (.aload_n 0, 1) := by decide +kernel
theorem dX8_hashAccounts_98 : decode cX8_hashAccounts 98 = .ok (.invokevirtual 567, 3) := by decide +kernel
theorem dX8_hashAccounts_101 : decode cX8_hashAccounts 101 = .ok (.invokestatic 563, 3) := by decide +kernel
theorem dX8_hashAccounts_104 : decode cX8_hashAccounts 104 = .ok (.invokestatic 402, 3) := by decide +kernel
theorem dX8_hashAccounts_107 : decode cX8_hashAccounts 107 = .ok (.lreturn, 1) := by decide +kernel
set_option maxRecDepth 20000 in
theorem ggX8_hashTexts_X8_hashOn_ : GoodIn wsX8_hashTexts wsX8_hashOn_ := goodIn_r _ [6, 7, 8, 5, 9, 10] rfl (by decide +kernel)
set_option maxRecDepth 20000 in
theorem gX8_hashTexts_X8_hashOn_ : GoodIn wsX8_hashTexts (va_wsS RX8 479 yX8_hashOn_ wsX8_hashOn_) := goodIn_app (goodIn_r _ [3, 4, 5] rfl (by decide +kernel)) ggX8_hashTexts_X8_hashOn_
set_option maxRecDepth 20000 in
theorem ggX8_hashTexts_X8_hashOn : GoodIn wsX8_hashTexts wsX8_hashOn := goodIn_r _ [9, 10] rfl (by decide +kernel)
set_option maxRecDepth 20000 in
theorem gX8_hashTexts_X8_hashOn : GoodIn wsX8_hashTexts (va_wsS RX8 402 yX8_hashOn wsX8_hashOn) := goodIn_app (goodIn_r _ [7, 8, 5] rfl (by decide +kernel)) ggX8_hashTexts_X8_hashOn
theorem dX8_hashTexts_0 : decode cX8_hashTexts 0 = .ok (.lload_n 1, 1) := by decide +kernel
theorem dX8_hashTexts_1 : decode cX8_hashTexts 1 = .ok (.lstore_n 3, 1) := by decide +kernel
theorem dX8_hashTexts_2 : decode cX8_hashTexts 2 = .ok (.iconst 0, 1) := by decide +kernel
theorem dX8_hashTexts_3 : decode cX8_hashTexts 3 = .ok (.istore 5, 2) := by decide +kernel
theorem dX8_hashTexts_5 : decode cX8_hashTexts 5 = .ok (.iload 5, 2) := by decide +kernel
theorem dX8_hashTexts_7 : decode cX8_hashTexts 7 = .ok (.iconst 2, 1) := by decide +kernel
theorem dX8_hashTexts_8 : decode cX8_hashTexts 8 = .ok (.if_icmp .ge 32, 3) := by decide +kernel
theorem dX8_hashTexts_11 : decode cX8_hashTexts 11 = .ok (.lload_n 3, 1) := by decide +kernel
theorem dX8_hashTexts_12 : decode cX8_hashTexts 12 = .ok (.aload_n 0, 1) := by decide +kernel
theorem dX8_hashTexts_13 : decode cX8_hashTexts 13 = .ok (.getfield 22, 3) := by decide +kernel
theorem dX8_hashTexts_16 : decode cX8_hashTexts 16 = .ok (.getfield 259, 3) := by decide +kernel
theorem dX8_hashTexts_19 : decode cX8_hashTexts 19 = .ok (.iload 5, 2) := by decide +kernel
theorem dX8_hashTexts_21 : decode cX8_hashTexts 21 = .ok (.aaload, 1) := by decide +kernel
theorem dX8_hashTexts_22 : decode cX8_hashTexts 22 = .ok (.ifnull 7, 3) := by decide +kernel
theorem dX8_hashTexts_25 : decode cX8_hashTexts 25 = .ok (.iconst 1, 1) := by decide +kernel
theorem dX8_hashTexts_26 : decode cX8_hashTexts 26 = .ok (.goto 4, 3) := by decide +kernel
theorem dX8_hashTexts_29 : decode cX8_hashTexts 29 = .ok (.iconst 0, 1) := by decide +kernel
theorem dX8_hashTexts_30 : decode cX8_hashTexts 30 = .ok (.invokestatic 479, 3) := by decide +kernel
theorem dX8_hashTexts_33 : decode cX8_hashTexts 33 = .ok (.lstore_n 3, 1) := by decide +kernel
theorem dX8_hashTexts_34 : decode cX8_hashTexts 34 = .ok (.iinc 5 1, 3) := by decide +kernel
theorem dX8_hashTexts_37 : decode cX8_hashTexts 37 = .ok (.goto (-32), 3) := by decide +kernel
theorem dX8_hashTexts_40 : decode cX8_hashTexts 40 = .ok (.lload_n 3, 1) := by decide +kernel
theorem dX8_hashTexts_41 : decode cX8_hashTexts 41 = .ok (.aload_n 0, 1) := by decide +kernel
theorem dX8_hashTexts_42 : decode cX8_hashTexts 42 = .ok (.getfield 29, 3) := by decide +kernel
theorem dX8_hashTexts_45 : decode cX8_hashTexts 45 = .ok (.getfield 200, 3) := by decide +kernel
theorem dX8_hashTexts_48 : decode cX8_hashTexts 48 = .ok (.i2l, 1) := by decide +kernel
theorem dX8_hashTexts_49 : decode cX8_hashTexts 49 = .ok (.invokestatic 402, 3) := by decide +kernel
theorem dX8_hashTexts_52 : decode cX8_hashTexts 52 = .ok (.lstore_n 3, 1) := by decide +kernel
theorem dX8_hashTexts_53 : decode cX8_hashTexts 53 = .ok (.iconst 0, 1) := by decide +kernel
theorem dX8_hashTexts_54 : decode cX8_hashTexts 54 = .ok (.istore 5, 2) := by decide +kernel
theorem dX8_hashTexts_56 : decode cX8_hashTexts 56 = .ok (.iload 5, 2) := by decide +kernel
theorem dX8_hashTexts_58 : decode cX8_hashTexts 58 = .ok (.aload_n 0, 1) := by decide +kernel
theorem dX8_hashTexts_59 : decode cX8_hashTexts 59 = .ok (.getfield 29, 3) := by decide +kernel
theorem dX8_hashTexts_62 : decode cX8_hashTexts 62 = .ok (.getfield 200, 3) := by decide +kernel
theorem dX8_hashTexts_65 : decode cX8_hashTexts 65 = .ok (.if_icmp .ge 25, 3) := by decide +kernel
theorem dX8_hashTexts_68 : decode cX8_hashTexts 68 = .ok (.lload_n 3, 1) := by decide +kernel
theorem dX8_hashTexts_69 : decode cX8_hashTexts 69 = .ok (.aload_n 0, 1) := by decide +kernel
theorem dX8_hashTexts_70 : decode cX8_hashTexts 70 = .ok (.getfield 29, 3) := by decide +kernel
theorem dX8_hashTexts_73 : decode cX8_hashTexts 73 = .ok (.getfield 246, 3) := by decide +kernel
theorem dX8_hashTexts_76 : decode cX8_hashTexts 76 = .ok (.iload 5, 2) := by decide +kernel
theorem dX8_hashTexts_78 : decode cX8_hashTexts 78 = .ok (.iaload, 1) := by decide +kernel
theorem dX8_hashTexts_79 : decode cX8_hashTexts 79 = .ok (.i2l, 1) := by decide +kernel
theorem dX8_hashTexts_80 : decode cX8_hashTexts 80 = .ok (.invokestatic 402, 3) := by decide +kernel
theorem dX8_hashTexts_83 : decode cX8_hashTexts 83 = .ok (.lstore_n 3, 1) := by decide +kernel
theorem dX8_hashTexts_84 : decode cX8_hashTexts 84 = .ok (.iinc 5 1, 3) := by decide +kernel
theorem dX8_hashTexts_87 : decode cX8_hashTexts 87 = .ok (.goto (-31), 3) := by decide +kernel
theorem dX8_hashTexts_90 : decode cX8_hashTexts 90 = .ok (.lload_n 3, 1) := by decide +kernel
theorem dX8_hashTexts_91 : decode cX8_hashTexts 91 = .ok (.lreturn, 1) := by decide +kernel
theorem dX8_bitsOf_0 : decode cX8_bitsOf 0 = .ok (.dload_n 0, 1) := by decide +kernel
theorem dX8_bitsOf_1 : decode cX8_bitsOf 1 = .ok (.dconst 0, 1) := by decide +kernel
theorem dX8_bitsOf_2 : decode cX8_bitsOf 2 = .ok (.dcmp .l, 1) := by decide +kernel
theorem dX8_bitsOf_3 : decode cX8_bitsOf 3 = .ok (.ifCond .gt 5, 3) := by decide +kernel
theorem dX8_bitsOf_6 : decode cX8_bitsOf 6 = .ok (.lconst 0, 1) := by decide +kernel
theorem dX8_bitsOf_7 : decode cX8_bitsOf 7 = .ok (.lreturn, 1) := by decide +kernel
theorem dX8_bitsOf_8 : decode cX8_bitsOf 8 = .ok (.dload_n 0, 1) := by decide +kernel
theorem dX8_bitsOf_9 : decode cX8_bitsOf 9 = .ok (.dstore_n 2, 1) := by decide +kernel
theorem dX8_bitsOf_10 : decode cX8_bitsOf 10 = .ok (.ldc2_w 570, 3) := by decide +kernel
theorem dX8_bitsOf_13 : decode cX8_bitsOf 13 = .ok (.lstore 4, 2) := by decide +kernel
theorem dX8_bitsOf_15 : decode cX8_bitsOf 15 = .ok (.iconst 0, 1) := by decide +kernel
theorem dX8_bitsOf_16 : decode cX8_bitsOf 16 = .ok (.istore 6, 2) := by decide +kernel
theorem dX8_bitsOf_18 : decode cX8_bitsOf 18 = .ok (.iload 6, 2) := by decide +kernel
theorem dX8_bitsOf_20 : decode cX8_bitsOf 20 = .ok (.sipush 1023, 3) := by decide +kernel
theorem dX8_bitsOf_23 : decode cX8_bitsOf 23 = .ok (.if_icmp .ge 29, 3) := by decide +kernel
theorem dX8_bitsOf_26 : decode cX8_bitsOf 26 = .ok (.dload_n 2, 1) := by decide +kernel
theorem dX8_bitsOf_27 : decode cX8_bitsOf 27 = .ok (.ldc2_w 572, 3) := by decide +kernel
theorem dX8_bitsOf_30 : decode cX8_bitsOf 30 = .ok (.dcmp .l, 1) := by decide +kernel
theorem dX8_bitsOf_31 : decode cX8_bitsOf 31 = .ok (.ifCond .lt 21, 3) := by decide +kernel
theorem dX8_bitsOf_34 : decode cX8_bitsOf 34 = .ok (.dload_n 2, 1) := by decide +kernel
theorem dX8_bitsOf_35 : decode cX8_bitsOf 35 = .ok (.ldc2_w 572, 3) := by decide +kernel
theorem dX8_bitsOf_38 : decode cX8_bitsOf 38 = .ok (.ddiv, 1) := by decide +kernel
theorem dX8_bitsOf_39 : decode cX8_bitsOf 39 = .ok (.dstore_n 2, 1) := by decide +kernel
theorem dX8_bitsOf_40 : decode cX8_bitsOf 40 = .ok (.lload 4, 2) := by decide +kernel
theorem dX8_bitsOf_42 : decode cX8_bitsOf 42 = .ok (.lconst 1, 1) := by decide +kernel
theorem dX8_bitsOf_43 : decode cX8_bitsOf 43 = .ok (.ladd, 1) := by decide +kernel
theorem dX8_bitsOf_44 : decode cX8_bitsOf 44 = .ok (.lstore 4, 2) := by decide +kernel
theorem dX8_bitsOf_46 : decode cX8_bitsOf 46 = .ok (.iinc 6 1, 3) := by decide +kernel
theorem dX8_bitsOf_49 : decode cX8_bitsOf 49 = .ok (.goto (-31), 3) := by decide +kernel
theorem dX8_bitsOf_52 : decode cX8_bitsOf 52 = .ok (.iconst 0, 1) := by decide +kernel
theorem dX8_bitsOf_53 : decode cX8_bitsOf 53 = .ok (.istore 6, 2) := by decide +kernel
theorem dX8_bitsOf_55 : decode cX8_bitsOf 55 = .ok (.iload 6, 2) := by decide +kernel
theorem dX8_bitsOf_57 : decode cX8_bitsOf 57 = .ok (.sipush 1022, 3) := by decide +kernel
theorem dX8_bitsOf_60 : decode cX8_bitsOf 60 = .ok (.if_icmp .ge 27, 3) := by decide +kernel
theorem dX8_bitsOf_63 : decode cX8_bitsOf 63 = .ok (.dload_n 2, 1) := by decide +kernel
theorem dX8_bitsOf_64 : decode cX8_bitsOf 64 = .ok (.dconst 1, 1) := by decide +kernel
theorem dX8_bitsOf_65 : decode cX8_bitsOf 65 = .ok (.dcmp .g, 1) := by decide +kernel
theorem dX8_bitsOf_66 : decode cX8_bitsOf 66 = .ok (.ifCond .ge 21, 3) := by decide +kernel
theorem dX8_bitsOf_69 : decode cX8_bitsOf 69 = .ok (.dload_n 2, 1) := by decide +kernel
theorem dX8_bitsOf_70 : decode cX8_bitsOf 70 = .ok (.ldc2_w 572, 3) := by decide +kernel
theorem dX8_bitsOf_73 : decode cX8_bitsOf 73 = .ok (.dmul, 1) := by decide +kernel
theorem dX8_bitsOf_74 : decode cX8_bitsOf 74 = .ok (.dstore_n 2, 1) := by decide +kernel
theorem dX8_bitsOf_75 : decode cX8_bitsOf 75 = .ok (.lload 4, 2) := by decide +kernel
theorem dX8_bitsOf_77 : decode cX8_bitsOf 77 = .ok (.lconst 1, 1) := by decide +kernel
theorem dX8_bitsOf_78 : decode cX8_bitsOf 78 = .ok (.lsub, 1) := by decide +kernel
theorem dX8_bitsOf_79 : decode cX8_bitsOf 79 = .ok (.lstore 4, 2) := by decide +kernel
theorem dX8_bitsOf_81 : decode cX8_bitsOf 81 = .ok (.iinc 6 1, 3) := by decide +kernel
theorem dX8_bitsOf_84 : decode cX8_bitsOf 84 = .ok (.goto (-29), 3) := by decide +kernel
theorem dX8_bitsOf_87 : decode cX8_bitsOf 87 = .ok (.lload 4, 2) := by decide +kernel
theorem dX8_bitsOf_89 : decode cX8_bitsOf 89 = .ok (.bipush 52, 2) := by decide +kernel
theorem dX8_bitsOf_91 : decode cX8_bitsOf 91 = .ok (.lshl, 1) := by decide +kernel
theorem dX8_bitsOf_92 : decode cX8_bitsOf 92 = .ok (.dload_n 2, 1) := by decide +kernel
theorem dX8_bitsOf_93 : decode cX8_bitsOf 93 = .ok (.dconst 1, 1) := by decide +kernel
theorem dX8_bitsOf_94 : decode cX8_bitsOf 94 = .ok (.dsub, 1) := by decide +kernel
theorem dX8_bitsOf_95 : decode cX8_bitsOf 95 = .ok (.ldc2_w 574, 3) := by decide +kernel
theorem dX8_bitsOf_98 : decode cX8_bitsOf 98 = .ok (.dmul, 1) := by decide +kernel
theorem dX8_bitsOf_99 : decode cX8_bitsOf 99 = .ok (.d2l, 1) := by decide +kernel
theorem dX8_bitsOf_100 : decode cX8_bitsOf 100 = .ok (.ladd, 1) := by decide +kernel
theorem dX8_bitsOf_101 : decode cX8_bitsOf 101 = .ok (.lreturn, 1) := by decide +kernel
