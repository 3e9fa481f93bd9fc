set_option maxRecDepth 20000 in
theorem ggL_addShelf_X8_addShelf : GoodIn wsL_addShelf wsX8_addShelf := goodIn_ca (goodIn_ca (goodIn_r _ [7, 8, 9, 10, 11, 12, 13, 14, 6, 15, 16, 17, 18, 19, 20, 21, 22, 23, 24, 25, 26, 27, 28, 29, 30, 31, 32, 33, 34, 35, 36, 37, 38, 39, 40, 41, 42, 43, 44, 45, 46, 47, 48, 49, 50, 51, 52, 53, 54, 55, 56, 57, 58, 59, 60, 61, 62, 63, 64, 65, 66, 67, 68, 69, 70, 71, 72, 73, 74, 75, 76, 77, 78, 79, 80, 81, 82, 83, 84, 85, 86, 87, 88, 89, 90, 91, 92, 93, 94, 95, 96, 97, 98, 99, 100, 101, 102, 103, 104, 105, 106, 107, 108, 109, 110, 111, 112, 113, 114, 115, 116, 117, 118, 119, 120, 121, 122, 123, 124, 125, 126, 127, 128, 129, 130, 131, 132, 133, 134, 135, 136, 137, 138, 139, 140, 141, 142, 143, 144, 145, 146, 147, 148, 149, 150, 151, 152, 153, 154, 155, 156, 157, 158, 159, 160, 161, 162] rfl (by decide +kernel)) (goodIn_sub (fun _ h => List.mem_cons_of_mem _ (List.mem_append_left _ (List.mem_append_right _ h))) (by decide +kernel))) (goodIn_sub (fun _ h => List.mem_cons_of_mem _ (List.mem_append_right _ h)) (by decide +kernel))
set_option maxRecDepth 20000 in
theorem gL_addShelf_X8_addShelf : GoodIn wsL_addShelf (wsV RL 7 RX8 yX8_addShelf wsX8_addShelf) := goodIn_app (goodIn_r _ [3, 4, 5, 6] rfl (by decide +kernel)) ggL_addShelf_X8_addShelf
theorem dL_addShelf_0 : decode cL_addShelf 0 = .ok (.aload_n 2, 1) := by decide +kernel
theorem dL_addShelf_1 : decode cL_addShelf 1 = .ok (.iconst 0, 1) := by decide +kernel
theorem dL_addShelf_2 : decode cL_addShelf 2 = .ok (.aload_n 0, 1) := by decide +kernel
theorem dL_addShelf_3 : decode cL_addShelf 3 = .ok (.iload_n 1, 1) := by decide +kernel
theorem dL_addShelf_4 : decode cL_addShelf 4 = .ok (.invokevirtual 7, 3) := by decide +kernel
theorem dL_addShelf_7 : decode cL_addShelf 7 = .ok (.i2l, 1) := by decide +kernel
theorem dL_addShelf_8 : decode cL_addShelf 8 = .ok (.lastore, 1) := by decide +kernel
theorem dL_addShelf_9 : decode cL_addShelf 9 = .ok (.goto 9, 3) := by decide +kernel
theorem dL_addShelf_12 : decode cL_addShelf 12 = .ok (.astore_n 3, 1) := by decide +kernel
theorem dL_addShelf_13 : decode cL_addShelf 13 = .ok (.iconst 1, 1) := by decide +kernel
theorem dL_addShelf_14 : decode cL_addShelf 14 = .ok (.ireturn, 1) := by decide +kernel
theorem dL_addShelf_15 : decode cL_addShelf 15 = .ok (.astore_n 3, 1) := by decide +kernel
theorem dL_addShelf_16 : decode cL_addShelf 16 = .ok (.iconst 2, 1) := by decide +kernel
theorem dL_addShelf_17 : decode cL_addShelf 17 = .ok (.ireturn, 1) := by decide +kernel
theorem dL_addShelf_18 : decode cL_addShelf 18 = .ok (.iconst 0, 1) := by decide +kernel
theorem dL_addShelf_19 : decode cL_addShelf 19 = .ok (.ireturn, 1) := by decide +kernel
set_option maxRecDepth 20000 in
theorem ggL_scrap_X8_scrap : GoodIn wsL_scrap wsX8_scrap := goodIn_ca (goodIn_ca (goodIn_r _ [7, 8, 9, 10, 11, 12, 13, 14, 6, 15, 16, 17, 18, 19, 20, 21, 22, 23, 24, 25, 26, 27, 28, 29, 30, 31, 32, 33, 34, 35, 36, 37, 38, 39, 40, 41, 42, 43, 44, 45, 46, 47, 48, 49, 50, 51, 52, 53, 54, 55, 56, 57, 58, 59, 60, 61, 62, 63, 64, 65, 66, 67, 68, 69, 70, 71, 72, 73, 74, 75, 76, 77, 78, 79, 80, 81, 82, 83, 84, 85, 86, 87, 88, 89, 90, 91, 92, 93, 94, 95, 96, 97, 98, 99, 100, 101, 102, 103, 104, 105, 106, 107, 108, 109, 110, 111, 112, 113, 114, 115, 116, 117, 118, 119, 120, 121, 122, 123, 124, 125, 126, 127, 128, 129, 130, 131, 132, 133, 134, 135, 136, 137, 138, 139, 140, 141, 142, 143, 144, 145, 146, 147, 148, 149] rfl (by decide +kernel)) (goodIn_sub (fun _ h => List.mem_cons_of_mem _ (List.mem_append_left _ (List.mem_append_right _ h))) (by decide +kernel))) (goodIn_sub (fun _ h => List.mem_cons_of_mem _ (List.mem_append_right _ h)) (by decide +kernel))
set_option maxRecDepth 20000 in
theorem gL_scrap_X8_scrap : GoodIn wsL_scrap (wsV RL 17 RX8 yX8_scrap wsX8_scrap) := goodIn_app (goodIn_r _ [3, 4, 5, 6] rfl (by decide +kernel)) ggL_scrap_X8_scrap
theorem dL_scrap_0 : decode cL_scrap 0 = .ok (.aload_n 2, 1) := by decide +kernel
theorem dL_scrap_1 : decode cL_scrap 1 = .ok (.iconst 0, 1) := by decide +kernel
theorem dL_scrap_2 : decode cL_scrap 2 = .ok (.aload_n 0, 1) := by decide +kernel
theorem dL_scrap_3 : decode cL_scrap 3 = .ok (.iload_n 1, 1) := by decide +kernel
theorem dL_scrap_4 : decode cL_scrap 4 = .ok (.invokevirtual 17, 3) := by decide +kernel
theorem dL_scrap_7 : decode cL_scrap 7 = .ok (.i2l, 1) := by decide +kernel
theorem dL_scrap_8 : decode cL_scrap 8 = .ok (.lastore, 1) := by decide +kernel
theorem dL_scrap_9 : decode cL_scrap 9 = .ok (.goto 9, 3) := by decide +kernel
theorem dL_scrap_12 : decode cL_scrap 12 = .ok (.astore_n 3, 1) := by decide +kernel
theorem dL_scrap_13 : decode cL_scrap 13 = .ok (.iconst 1, 1) := by decide +kernel
theorem dL_scrap_14 : decode cL_scrap 14 = .ok (.ireturn, 1) := by decide +kernel
theorem dL_scrap_15 : decode cL_scrap 15 = .ok (.astore_n 3, 1) := by decide +kernel
theorem dL_scrap_16 : decode cL_scrap 16 = .ok (.iconst 2, 1) := by decide +kernel
theorem dL_scrap_17 : decode cL_scrap 17 = .ok (.ireturn, 1) := by decide +kernel
theorem dL_scrap_18 : decode cL_scrap 18 = .ok (.iconst 0, 1) := by decide +kernel
theorem dL_scrap_19 : decode cL_scrap 19 = .ok (.ireturn, 1) := by decide +kernel
set_option maxRecDepth 20000 in
theorem ggL_fetch_X8_fetch : GoodIn wsL_fetch wsX8_fetch := goodIn_ca (goodIn_ca (goodIn_r _ [7, 8, 9, 10, 11, 12, 6, 13, 14, 15, 16, 17, 18, 19, 20, 21, 22, 23, 24, 25, 26, 27, 28, 29, 30, 31, 32, 33, 34, 35, 36, 37, 38, 39, 40, 41, 42, 43, 44, 45, 46, 47, 48, 49, 50, 51, 52, 53, 54, 55, 56, 57, 58, 59, 60, 61, 62, 63, 64, 65, 66, 67, 68, 69, 70, 71, 72, 73, 74, 75, 76, 77, 78, 79, 80, 81, 82, 83, 84, 85, 86, 87, 88, 89, 90, 91, 92, 93, 94, 95, 96, 97, 98, 99, 100, 101, 102, 103, 104, 105, 106, 107, 108, 109, 110, 111, 112, 113, 114, 115, 116, 117, 118, 119, 120, 121, 122, 123, 124, 125, 126, 127, 128, 129, 130, 131, 132, 133, 134, 135, 136, 137, 138, 139, 140, 141, 142, 143, 144, 145, 146, 147, 148, 149, 150, 151, 152, 153, 154, 155, 156, 157, 158, 159, 160, 161, 162] rfl (by decide +kernel)) (goodIn_sub (fun _ h => List.mem_cons_of_mem _ (List.mem_append_left _ (List.mem_append_right _ h))) (by decide +kernel))) (goodIn_sub (fun _ h => List.mem_cons_of_mem _ (List.mem_append_right _ h)) (by decide +kernel))
set_option maxRecDepth 20000 in
theorem gL_fetch_X8_fetch : GoodIn wsL_fetch (wsV RL 22 RX8 yX8_fetch wsX8_fetch) := goodIn_app (goodIn_r _ [3, 4, 5, 6] rfl (by decide +kernel)) ggL_fetch_X8_fetch
theorem dL_fetch_0 : decode cL_fetch 0 = .ok (.aload_n 2, 1) := by decide +kernel
theorem dL_fetch_1 : decode cL_fetch 1 = .ok (.iconst 0, 1) := by decide +kernel
theorem dL_fetch_2 : decode cL_fetch 2 = .ok (.aload_n 0, 1) := by decide +kernel
theorem dL_fetch_3 : decode cL_fetch 3 = .ok (.iload_n 1, 1) := by decide +kernel
theorem dL_fetch_4 : decode cL_fetch 4 = .ok (.invokevirtual 22, 3) := by decide +kernel
theorem dL_fetch_7 : decode cL_fetch 7 = .ok (.i2l, 1) := by decide +kernel
theorem dL_fetch_8 : decode cL_fetch 8 = .ok (.lastore, 1) := by decide +kernel
theorem dL_fetch_9 : decode cL_fetch 9 = .ok (.goto 9, 3) := by decide +kernel
theorem dL_fetch_12 : decode cL_fetch 12 = .ok (.astore_n 3, 1) := by decide +kernel
theorem dL_fetch_13 : decode cL_fetch 13 = .ok (.iconst 1, 1) := by decide +kernel
theorem dL_fetch_14 : decode cL_fetch 14 = .ok (.ireturn, 1) := by decide +kernel
theorem dL_fetch_15 : decode cL_fetch 15 = .ok (.astore_n 3, 1) := by decide +kernel
theorem dL_fetch_16 : decode cL_fetch 16 = .ok (.iconst 2, 1) := by decide +kernel
theorem dL_fetch_17 : decode cL_fetch 17 = .ok (.ireturn, 1) := by decide +kernel
theorem dL_fetch_18 : decode cL_fetch 18 = .ok (.iconst 0, 1) := by decide +kernel
theorem dL_fetch_19 : decode cL_fetch 19 = .ok (.ireturn, 1) := by decide +kernel
set_option maxRecDepth 20000 in
theorem ggL_stow_X8_stow : GoodIn wsL_stow wsX8_stow := goodIn_ca (goodIn_r _ [6, 7, 8, 9, 10, 11, 5, 12, 13, 14, 15, 16, 17, 18, 19, 20, 21, 22, 23, 24, 25, 26, 27, 28, 29, 30, 31, 32, 33, 34, 35, 36, 37, 38, 39, 40, 41, 42, 43, 44, 45, 46, 47, 48, 49, 50, 51, 52, 53, 54, 55, 56, 57, 58, 59, 60, 61, 62, 63, 64, 65, 66, 67, 68, 69, 70, 71, 72, 73, 74, 75, 76, 77, 78, 79, 80, 81, 82, 83, 84, 85, 86, 87, 88, 89, 90, 91, 92, 93, 94, 95, 96, 97, 98, 99, 100, 101, 102, 103, 104, 105, 106, 107, 108, 109, 110, 111, 112, 113, 114, 115, 116, 117, 118, 119, 120, 121, 122, 123, 124, 125, 126, 127, 128, 129, 130, 131, 132, 133, 134, 135, 136, 137, 138, 139, 140, 141, 142, 143, 144, 145, 146, 147, 148, 149, 150, 151, 152, 153, 154, 155, 156, 157, 158, 159, 160, 161, 162, 163, 164, 165, 166, 167, 168] rfl (by decide +kernel)) (goodIn_sub (fun _ h => List.mem_cons_of_mem _ (List.mem_append_right _ h)) (by decide +kernel))
set_option maxRecDepth 20000 in
theorem gL_stow_X8_stow : GoodIn wsL_stow (wsV RL 25 RX8 yX8_stow wsX8_stow) := goodIn_app (goodIn_r _ [2, 3, 4, 5] rfl (by decide +kernel)) ggL_stow_X8_stow
theorem dL_stow_0 : decode cL_stow 0 = .ok (.aload_n 1, 1) := by decide +kernel
theorem dL_stow_1 : decode cL_stow 1 = .ok (.iconst 0, 1) := by decide +kernel
theorem dL_stow_2 : decode cL_stow 2 = .ok (.aload_n 0, 1) := by decide +kernel
theorem dL_stow_3 : decode cL_stow 3 = .ok (.invokevirtual 25, 3) := by decide +kernel
theorem dL_stow_6 : decode cL_stow 6 = .ok (.i2l, 1) := by decide +kernel
theorem dL_stow_7 : decode cL_stow 7 = .ok (.lastore, 1) := by decide +kernel
theorem dL_stow_8 : decode cL_stow 8 = .ok (.goto 6, 3) := by decide +kernel
theorem dL_stow_11 : decode cL_stow 11 = .ok (.astore_n 2, 1) := by decide +kernel
theorem dL_stow_12 : decode cL_stow 12 = .ok (.iconst 1, 1) := by decide +kernel
theorem dL_stow_13 : decode cL_stow 13 = .ok (.ireturn, 1) := by decide +kernel
theorem dL_stow_14 : decode cL_stow 14 = .ok (.iconst 0, 1) := by decide +kernel
theorem dL_stow_15 : decode cL_stow 15 = .ok (.ireturn, 1) := by decide +kernel
set_option maxRecDepth 20000 in
theorem ggL_stowAt_X8_stowAt : GoodIn wsL_stowAt wsX8_stowAt := goodIn_ca (goodIn_ca (goodIn_r _ [7, 8, 9, 10, 11, 12, 13, 14, 6, 15, 16, 17, 18, 19, 20, 21, 22, 23, 24, 25, 26, 27, 28, 29, 30, 31, 32, 33, 34, 35, 36, 37, 38, 39, 40, 41, 42, 43, 44, 45, 46, 47, 48, 49, 50, 51, 52, 53, 54, 55, 56, 57, 58, 59, 60, 61, 62, 63, 64, 65, 66, 67, 68, 69, 70, 71, 72, 73, 74, 75, 76, 77, 78, 79, 80, 81, 82, 83, 84, 85, 86, 87, 88, 89, 90, 91, 92, 93, 94, 95, 96, 97, 98, 99, 100, 101, 102, 103, 104, 105, 106, 107, 108, 109, 110, 111, 112, 113, 114, 115, 116, 117, 118, 119, 120, 121, 122, 123, 124, 125, 126, 127, 128, 129, 130, 131, 132, 133, 134, 135, 136, 137, 138, 139, 140, 141, 142, 143, 144, 145, 146, 147, 148, 149, 150, 151, 152, 153, 154, 155, 156, 157, 158, 159, 160, 161, 162, 163, 164, 165, 166, 167] rfl (by decide +kernel)) (goodIn_sub (fun _ h => List.mem_cons_of_mem _ (List.mem_append_left _ (List.mem_append_right _ h))) (by decide +kernel))) (goodIn_sub (fun _ h => List.mem_cons_of_mem _ (List.mem_append_right _ h)) (by decide +kernel))
set_option maxRecDepth 20000 in
theorem gL_stowAt_X8_stowAt : GoodIn wsL_stowAt (wsV RL 29 RX8 yX8_stowAt wsX8_stowAt) := goodIn_app (goodIn_r _ [3, 4, 5, 6] rfl (by decide +kernel)) ggL_stowAt_X8_stowAt
theorem dL_stowAt_0 : decode cL_stowAt 0 = .ok (.aload_n 3, 1) := by decide +kernel
theorem dL_stowAt_1 : decode cL_stowAt 1 = .ok (.iconst 0, 1) := by decide +kernel
theorem dL_stowAt_2 : decode cL_stowAt 2 = .ok (.aload_n 0, 1) := by decide +kernel
theorem dL_stowAt_3 : decode cL_stowAt 3 = .ok (.iload_n 1, 1) := by decide +kernel
theorem dL_stowAt_4 : decode cL_stowAt 4 = .ok (.iload_n 2, 1) := by decide +kernel
theorem dL_stowAt_5 : decode cL_stowAt 5 = .ok (.invokevirtual 29, 3) := by decide +kernel
theorem dL_stowAt_8 : decode cL_stowAt 8 = .ok (.i2l, 1) := by decide +kernel
theorem dL_stowAt_9 : decode cL_stowAt 9 = .ok (.lastore, 1) := by decide +kernel
theorem dL_stowAt_10 : decode cL_stowAt 10 = .ok (.goto 11, 3) := by decide +kernel
theorem dL_stowAt_13 : decode cL_stowAt 13 = .ok (.astore 4, 2) := by decide +kernel
theorem dL_stowAt_15 : decode cL_stowAt 15 = .ok (.iconst 1, 1) := by decide +kernel
theorem dL_stowAt_16 : decode cL_stowAt 16 = .ok (.ireturn, 1) := by decide +kernel
theorem dL_stowAt_17 : decode cL_stowAt 17 = .ok (.astore 4, 2) := by decide +kernel
theorem dL_stowAt_19 : decode cL_stowAt 19 = .ok (.iconst 2, 1) := by decide +kernel
theorem dL_stowAt_20 : decode cL_stowAt 20 = .ok (.ireturn, 1) := by decide +kernel
theorem dL_stowAt_21 : decode cL_stowAt 21 = .ok (.iconst 0, 1) := by decide +kernel
theorem dL_stowAt_22 : decode cL_stowAt 22 = .ok (.ireturn, 1) := by decide +kernel
set_option maxRecDepth 20000 in
theorem ggL_pack_X8_pack : GoodIn wsL_pack wsX8_pack := goodIn_ca (goodIn_r _ [6, 7, 8, 9, 10, 11, 12, 5, 13, 14, 15, 16, 17, 18, 19, 20, 21, 22, 23, 24, 25, 26, 27, 28, 29, 30, 31, 32, 33, 34, 35, 36, 37, 38, 39, 40, 41, 42, 43, 44, 45, 46, 47, 48, 49, 50, 51, 52, 53, 54, 55, 56, 57, 58, 59, 60, 61, 62, 63, 64, 65, 66, 67, 68, 69, 70, 71, 72, 73, 74, 75, 76, 77, 78, 79, 80, 81, 82, 83, 84, 85, 86, 87, 88, 89, 90, 91, 92, 93, 94, 95, 96, 97, 98, 99, 100, 101, 102, 103, 104, 105, 106, 107, 108, 109, 110, 111, 112, 113, 114, 115, 116, 117, 118, 119, 120, 121, 122, 123, 124, 125, 126, 127, 128, 129, 130, 131, 132, 133, 134, 135, 136, 137, 138, 139, 140, 141, 142, 143, 144, 145, 146, 147, 148, 149, 150, 151, 152, 153, 154, 155, 156, 157, 158, 159, 160, 161, 162, 163] rfl (by decide +kernel)) (goodIn_sub (fun _ h => List.mem_cons_of_mem _ (List.mem_append_right _ h)) (by decide +kernel))
set_option maxRecDepth 20000 in
theorem gL_pack_X8_pack : GoodIn wsL_pack (wsV RL 33 RX8 yX8_pack wsX8_pack) := goodIn_app (goodIn_r _ [2, 3, 4, 5] rfl (by decide +kernel)) ggL_pack_X8_pack
theorem dL_pack_0 : decode cL_pack 0 = .ok (.aload_n 1, 1) := by decide +kernel
theorem dL_pack_1 : decode cL_pack 1 = .ok (.iconst 0, 1) := by decide +kernel
theorem dL_pack_2 : decode cL_pack 2 = .ok (.aload_n 0, 1) := by decide +kernel
theorem dL_pack_3 : decode cL_pack 3 = .ok (.invokevirtual 33, 3) := by decide +kernel
theorem dL_pack_6 : decode cL_pack 6 = .ok (.i2l, 1) := by decide +kernel
theorem dL_pack_7 : decode cL_pack 7 = .ok (.lastore, 1) := by decide +kernel
theorem dL_pack_8 : decode cL_pack 8 = .ok (.goto 6, 3) := by decide +kernel
theorem dL_pack_11 : decode cL_pack 11 = .ok (.astore_n 2, 1) := by decide +kernel
theorem dL_pack_12 : decode cL_pack 12 = .ok (.iconst 1, 1) := by decide +kernel
theorem dL_pack_13 : decode cL_pack 13 = .ok (.ireturn, 1) := by decide +kernel
theorem dL_pack_14 : decode cL_pack 14 = .ok (.iconst 0, 1) := by decide +kernel
theorem dL_pack_15 : decode cL_pack 15 = .ok (.ireturn, 1) := by decide +kernel
set_option maxRecDepth 20000 in
theorem ggL_fill_X8_fill : GoodIn wsL_fill wsX8_fill := goodIn_ca (goodIn_ca (goodIn_ca (goodIn_r _ [8, 9, 10, 11, 12, 13, 14, 15, 7, 16, 17, 18, 19, 20, 21, 22, 23, 24, 25, 26, 27, 28, 29, 30, 31, 32, 33, 34, 35, 36, 37, 38, 39, 40, 41, 42, 43, 44, 45, 46, 47, 48, 49, 50, 51, 52, 53, 54, 55, 56, 57, 58, 59, 60, 61, 62, 63, 64, 65, 66, 67, 68, 69, 70, 71, 72, 73, 74, 75, 76, 77, 78, 79, 80, 81, 82, 83, 84, 85, 86, 87, 88, 89, 90, 91, 92, 93, 94, 95, 96, 97, 98, 99, 100, 101, 102, 103, 104, 105, 106, 107, 108, 109, 110, 111, 112, 113, 114, 115, 116, 117, 118, 119, 120, 121, 122, 123, 124, 125, 126, 127, 128, 129, 130, 131, 132, 133, 134, 135, 136, 137, 138, 139, 140, 141, 142, 143, 144, 145, 146, 147, 148, 149, 150, 151, 152, 153, 154, 155, 156, 157, 158, 159] rfl (by decide +kernel)) (goodIn_sub (fun _ h => List.mem_cons_of_mem _ (List.mem_append_left _ (List.mem_append_left _ (List.mem_append_right _ h)))) (by decide +kernel))) (goodIn_sub (fun _ h => List.mem_cons_of_mem _ (List.mem_append_left _ (List.mem_append_right _ h))) (by decide +kernel))) (goodIn_sub (fun _ h => List.mem_cons_of_mem _ (List.mem_append_right _ h)) (by decide +kernel))
set_option maxRecDepth 20000 in
theorem gL_fill_X8_fill : GoodIn wsL_fill (wsV RL 36 RX8 yX8_fill wsX8_fill) := goodIn_app (goodIn_r _ [4, 5, 6, 7] rfl (by decide +kernel)) ggL_fill_X8_fill
theorem dL_fill_0 : decode cL_fill 0 = .ok (.aload_n 3, 1) := by decide +kernel
theorem dL_fill_1 : decode cL_fill 1 = .ok (.iconst 0, 1) := by decide +kernel
theorem dL_fill_2 : decode cL_fill 2 = .ok (.aload_n 0, 1) := by decide +kernel
theorem dL_fill_3 : decode cL_fill 3 = .ok (.iload_n 1, 1) := by decide +kernel
theorem dL_fill_4 : decode cL_fill 4 = .ok (.iload_n 2, 1) := by decide +kernel
theorem dL_fill_5 : decode cL_fill 5 = .ok (.invokevirtual 36, 3) := by decide +kernel
theorem dL_fill_8 : decode cL_fill 8 = .ok (.i2l, 1) := by decide +kernel
theorem dL_fill_9 : decode cL_fill 9 = .ok (.lastore, 1) := by decide +kernel
theorem dL_fill_10 : decode cL_fill 10 = .ok (.goto 15, 3) := by decide +kernel
theorem dL_fill_13 : decode cL_fill 13 = .ok (.astore 4, 2) := by decide +kernel
theorem dL_fill_15 : decode cL_fill 15 = .ok (.iconst 1, 1) := by decide +kernel
theorem dL_fill_16 : decode cL_fill 16 = .ok (.ireturn, 1) := by decide +kernel
theorem dL_fill_17 : decode cL_fill 17 = .ok (.astore 4, 2) := by decide +kernel
theorem dL_fill_19 : decode cL_fill 19 = .ok (.iconst 2, 1) := by decide +kernel
theorem dL_fill_20 : decode cL_fill 20 = .ok (.ireturn, 1) := by decide +kernel
theorem dL_fill_21 : decode cL_fill 21 = .ok (.astore 4, 2) := by decide +kernel
theorem dL_fill_23 : decode cL_fill 23 = .ok (.iconst 3, 1) := by decide +kernel
theorem dL_fill_24 : decode cL_fill 24 = .ok (.ireturn, 1) := by decide +kernel
theorem dL_fill_25 : decode cL_fill 25 = .ok (.iconst 0, 1) := by decide +kernel
theorem dL_fill_26 : decode cL_fill 26 = .ok (.ireturn, 1) := by decide +kernel
set_option maxRecDepth 20000 in
theorem ggL_take_X8_take : GoodIn wsL_take wsX8_take := goodIn_ca (goodIn_ca (goodIn_ca (goodIn_r _ [8, 9, 10, 11, 12, 13, 14, 15, 7, 16, 17, 18, 19, 20, 21, 22, 23, 24, 25, 26, 27, 28, 29, 30, 31, 32, 33, 34, 35, 36, 37, 38, 39, 40, 41, 42, 43, 44, 45, 46, 47, 48, 49, 50, 51, 52, 53, 54, 55, 56, 57, 58, 59, 60, 61, 62, 63, 64, 65, 66, 67, 68, 69, 70, 71, 72, 73, 74, 75, 76, 77, 78, 79, 80, 81, 82, 83, 84, 85, 86, 87, 88, 89, 90, 91, 92, 93, 94, 95, 96, 97, 98, 99, 100, 101, 102, 103, 104, 105, 106, 107, 108, 109, 110, 111, 112, 113, 114, 115, 116, 117, 118, 119, 120, 121, 122, 123, 124, 125, 126, 127, 128, 129, 130, 131, 132, 133, 134, 135, 136, 137, 138, 139, 140, 141, 142, 143, 144, 145, 146, 147, 148, 149, 150, 151, 152, 153, 154, 155, 156] rfl (by decide +kernel)) (goodIn_sub (fun _ h => List.mem_cons_of_mem _ (List.mem_append_left _ (List.mem_append_left _ (List.mem_append_right _ h)))) (by decide +kernel))) (goodIn_sub (fun _ h => List.mem_cons_of_mem _ (List.mem_append_left _ (List.mem_append_right _ h))) (by decide +kernel))) (goodIn_sub (fun _ h => List.mem_cons_of_mem _ (List.mem_append_right _ h)) (by decide +kernel))
set_option maxRecDepth 20000 in
theorem gL_take_X8_take : GoodIn wsL_take (wsV RL 39 RX8 yX8_take wsX8_take) := goodIn_app (goodIn_r _ [4, 5, 6, 7] rfl (by decide +kernel)) ggL_take_X8_take
theorem dL_take_0 : decode cL_take 0 = .ok (.aload_n 3, 1) := by decide +kernel
theorem dL_take_1 : decode cL_take 1 = .ok (.iconst 0, 1) := by decide +kernel
theorem dL_take_2 : decode cL_take 2 = .ok (.aload_n 0, 1) := by decide +kernel
theorem dL_take_3 : decode cL_take 3 = .ok (.iload_n 1, 1) := by decide +kernel
theorem dL_take_4 : decode cL_take 4 = .ok (.iload_n 2, 1) := by decide +kernel
theorem dL_take_5 : decode cL_take 5 = .ok (.invokevirtual 39, 3) := by decide +kernel
theorem dL_take_8 : decode cL_take 8 = .ok (.i2l, 1) := by decide +kernel
theorem dL_take_9 : decode cL_take 9 = .ok (.lastore, 1) := by decide +kernel
theorem dL_take_10 : decode cL_take 10 = .ok (.goto 15, 3) := by decide +kernel
theorem dL_take_13 : decode cL_take 13 = .ok (.astore 4, 2) := by decide +kernel
theorem dL_take_15 : decode cL_take 15 = .ok (.iconst 1, 1) := by decide +kernel
theorem dL_take_16 : decode cL_take 16 = .ok (.ireturn, 1) := by decide +kernel
theorem dL_take_17 : decode cL_take 17 = .ok (.astore 4, 2) := by decide +kernel
theorem dL_take_19 : decode cL_take 19 = .ok (.iconst 2, 1) := by decide +kernel
theorem dL_take_20 : decode cL_take 20 = .ok (.ireturn, 1) := by decide +kernel
theorem dL_take_21 : decode cL_take 21 = .ok (.astore 4, 2) := by decide +kernel
theorem dL_take_23 : decode cL_take 23 = .ok (.iconst 3, 1) := by decide +kernel
theorem dL_take_24 : decode cL_take 24 = .ok (.ireturn, 1) := by decide +kernel
theorem dL_take_25 : decode cL_take 25 = .ok (.iconst 0, 1) := by decide +kernel
theorem dL_take_26 : decode cL_take 26 = .ok (.ireturn, 1) := by decide +kernel
set_option maxRecDepth 20000 in
theorem ggL_accept_X8_accept : GoodIn wsL_accept wsX8_accept := goodIn_ca (goodIn_ca (goodIn_r _ [7, 8, 9, 10, 11, 12, 13, 14, 15, 16, 17, 18, 19, 20, 21, 22, 23, 24, 25, 26, 27, 28, 29, 30, 31, 32, 33, 34, 35, 36, 37, 38, 39, 40, 41, 42, 43, 44, 45, 46, 47, 48, 49, 50, 51, 52, 53, 54, 55, 56, 57, 58, 59, 60, 61, 62, 63, 64, 65, 66, 67, 68, 69, 70, 71, 72, 73, 74, 75, 76, 77, 78, 79, 80, 81, 82, 83, 84, 85, 86, 87, 88, 89, 90, 91, 92, 93, 94, 95, 96, 97, 98, 99, 100, 101, 102, 103, 104, 105, 106, 107, 108, 109, 110, 111, 112, 113, 114, 115, 116, 117, 118, 119, 120, 121, 122, 123, 124, 125, 126, 127, 128, 129, 130, 131, 132, 133, 134, 135, 136, 137, 138, 139, 140, 141, 142, 143, 144, 145, 146, 147, 148, 149, 150, 151, 152, 153, 154, 155, 156, 157, 158, 159, 160, 161, 162, 163, 164, 165, 166, 167, 168, 169, 170, 171, 172, 173, 174, 175, 176, 177, 178, 179, 180, 181] rfl (by decide +kernel)) (goodIn_sub (fun _ h => List.mem_cons_of_mem _ (List.mem_append_left _ (List.mem_append_right _ h))) (by decide +kernel))) (goodIn_sub (fun _ h => List.mem_cons_of_mem _ (List.mem_append_right _ h)) (by decide +kernel))
set_option maxRecDepth 20000 in
theorem gL_accept_X8_accept : GoodIn wsL_accept (wsV RL 42 RX8 yX8_accept wsX8_accept) := goodIn_app (goodIn_r _ [3, 4, 5, 6] rfl (by decide +kernel)) ggL_accept_X8_accept
theorem dL_accept_0 : decode cL_accept 0 = .ok (.aload_n 1, 1) := by decide +kernel
theorem dL_accept_1 : decode cL_accept 1 = .ok (.iconst 0, 1) := by decide +kernel
theorem dL_accept_2 : decode cL_accept 2 = .ok (.aload_n 0, 1) := by decide +kernel
theorem dL_accept_3 : decode cL_accept 3 = .ok (.invokevirtual 42, 3) := by decide +kernel
theorem dL_accept_6 : decode cL_accept 6 = .ok (.i2l, 1) := by decide +kernel
theorem dL_accept_7 : decode cL_accept 7 = .ok (.lastore, 1) := by decide +kernel
theorem dL_accept_8 : decode cL_accept 8 = .ok (.goto 9, 3) := by decide +kernel
theorem dL_accept_11 : decode cL_accept 11 = .ok (.astore_n 2, 1) := by decide +kernel
theorem dL_accept_12 : decode cL_accept 12 = .ok (.iconst 1, 1) := by decide +kernel
theorem dL_accept_13 : decode cL_accept 13 = .ok (.ireturn, 1) := by decide +kernel
theorem dL_accept_14 : decode cL_accept 14 = .ok (.astore_n 2, 1) := by decide +kernel
theorem dL_accept_15 : decode cL_accept 15 = .ok (.iconst 2, 1) := by decide +kernel
theorem dL_accept_16 : decode cL_accept 16 = .ok (.ireturn, 1) := by decide +kernel
theorem dL_accept_17 : decode cL_accept 17 = .ok (.iconst 0, 1) := by decide +kernel
theorem dL_accept_18 : decode cL_accept 18 = .ok (.ireturn, 1) := by decide +kernel
set_option maxRecDepth 20000 in
theorem ggL_cancel_X8_cancel : GoodIn wsL_cancel wsX8_cancel := goodIn_ca (goodIn_r _ [6, 7, 8, 9, 10, 11, 5, 12, 13, 14, 15, 16, 17, 18, 19, 20, 21, 22, 23, 24, 25, 26, 27, 28, 29, 30, 31, 32, 33, 34, 35, 36, 37, 38, 39, 40, 41, 42, 43, 44, 45, 46, 47, 48, 49, 50, 51, 52, 53, 54, 55, 56, 57, 58, 59, 60, 61, 62, 63, 64, 65, 66, 67, 68, 69, 70, 71, 72, 73, 74, 75, 76, 77, 78, 79, 80, 81, 82, 83, 84, 85, 86, 87, 88, 89, 90, 91, 92, 93, 94, 95, 96, 97, 98, 99, 100, 101, 102, 103, 104, 105, 106, 107, 108, 109, 110, 111, 112, 113, 114, 115, 116, 117, 118, 119, 120, 121, 122, 123, 124, 125, 126, 127, 128, 129, 130, 131, 132, 133, 134, 135, 136, 137, 138, 139, 140, 141, 142, 143, 144, 145, 146] rfl (by decide +kernel)) (goodIn_sub (fun _ h => List.mem_cons_of_mem _ (List.mem_append_right _ h)) (by decide +kernel))
set_option maxRecDepth 20000 in
theorem gL_cancel_X8_cancel : GoodIn wsL_cancel (wsV RL 45 RX8 yX8_cancel wsX8_cancel) := goodIn_app (goodIn_r _ [2, 3, 4, 5] rfl (by decide +kernel)) ggL_cancel_X8_cancel
theorem dL_cancel_0 : decode cL_cancel 0 = .ok (.aload_n 2, 1) := by decide +kernel
theorem dL_cancel_1 : decode cL_cancel 1 = .ok (.iconst 0, 1) := by decide +kernel
theorem dL_cancel_2 : decode cL_cancel 2 = .ok (.aload_n 0, 1) := by decide +kernel
theorem dL_cancel_3 : decode cL_cancel 3 = .ok (.iload_n 1, 1) := by decide +kernel
theorem dL_cancel_4 : decode cL_cancel 4 = .ok (.invokevirtual 45, 3) := by decide +kernel
theorem dL_cancel_7 : decode cL_cancel 7 = .ok (.i2l, 1) := by decide +kernel
theorem dL_cancel_8 : decode cL_cancel 8 = .ok (.lastore, 1) := by decide +kernel
theorem dL_cancel_9 : decode cL_cancel 9 = .ok (.goto 6, 3) := by decide +kernel
theorem dL_cancel_12 : decode cL_cancel 12 = .ok (.astore_n 3, 1) := by decide +kernel
theorem dL_cancel_13 : decode cL_cancel 13 = .ok (.iconst 1, 1) := by decide +kernel
theorem dL_cancel_14 : decode cL_cancel 14 = .ok (.ireturn, 1) := by decide +kernel
theorem dL_cancel_15 : decode cL_cancel 15 = .ok (.iconst 0, 1) := by decide +kernel
theorem dL_cancel_16 : decode cL_cancel 16 = .ok (.ireturn, 1) := by decide +kernel
set_option maxRecDepth 20000 in
theorem ggL_serve_X8_serve : GoodIn wsL_serve wsX8_serve := goodIn_ca (goodIn_ca (goodIn_r _ [7, 8, 9, 10, 11, 12, 6, 13, 14, 15, 16, 17, 18, 19, 20, 21, 22, 23, 24, 25, 26, 27, 28, 29, 30, 31, 32, 33, 34, 35, 36, 37, 38, 39, 40, 41, 42, 43, 44, 45, 46, 47, 48, 49, 50, 51, 52, 53, 54, 55, 56, 57, 58, 59, 60, 61, 62, 63, 64, 65, 66, 67, 68, 69, 70, 71, 72, 73, 74, 75, 76, 77, 78, 79, 80, 81, 82, 83, 84, 85, 86, 87, 88, 89, 90, 91, 92, 93, 94, 95, 96, 97, 98, 99, 100, 101, 102, 103, 104, 105, 106, 107, 108, 109, 110, 111, 112, 113, 114, 115, 116, 117, 118, 119, 120, 121, 122, 123, 124, 125, 126, 127, 128, 129, 130, 131, 132, 133, 134, 135, 136, 137, 138, 139, 140, 141, 142, 143, 144, 145, 146, 147, 148, 149, 150, 151, 152, 153, 154, 155, 156, 157, 158, 159, 160, 161, 162, 163, 164, 165, 166, 167, 168, 169, 170, 171, 172, 173, 174, 175, 176, 177, 178, 179, 180, 181, 182, 183, 184, 185, 186, 187, 188, 189, 190, 191, 192, 193, 194, 195, 196, 197, 198, 199, 200, 201, 202, 203, 204, 205, 206, 207, 208, 209, 210, 211, 212, 213, 214, 215, 216, 217, 218, 219, 220, 221, 222, 223, 224, 225, 226, 227, 228, 229, 230, 231, 232, 233] rfl (by decide +kernel)) (goodIn_sub (fun _ h => List.mem_cons_of_mem _ (List.mem_append_left _ (List.mem_append_right _ h))) (by decide +kernel))) (goodIn_sub (fun _ h => List.mem_cons_of_mem _ (List.mem_append_right _ h)) (by decide +kernel))
set_option maxRecDepth 20000 in
theorem gL_serve_X8_serve : GoodIn wsL_serve (wsV RL 48 RX8 yX8_serve wsX8_serve) := goodIn_app (goodIn_r _ [3, 4, 5, 6] rfl (by decide +kernel)) ggL_serve_X8_serve
theorem dL_serve_0 : decode cL_serve 0 = .ok (.aload_n 2, 1) := by decide +kernel
theorem dL_serve_1 : decode cL_serve 1 = .ok (.iconst 0, 1) := by decide +kernel
theorem dL_serve_2 : decode cL_serve 2 = .ok (.aload_n 0, 1) := by decide +kernel
theorem dL_serve_3 : decode cL_serve 3 = .ok (.iload_n 1, 1) := by decide +kernel
theorem dL_serve_4 : decode cL_serve 4 = .ok (.invokevirtual 48, 3) := by decide +kernel
theorem dL_serve_7 : decode cL_serve 7 = .ok (.i2l, 1) := by decide +kernel
theorem dL_serve_8 : decode cL_serve 8 = .ok (.lastore, 1) := by decide +kernel
theorem dL_serve_9 : decode cL_serve 9 = .ok (.goto 9, 3) := by decide +kernel
theorem dL_serve_12 : decode cL_serve 12 = .ok (.astore_n 3, 1) := by decide +kernel
theorem dL_serve_13 : decode cL_serve 13 = .ok (.iconst 1, 1) := by decide +kernel
theorem dL_serve_14 : decode cL_serve 14 = .ok (.ireturn, 1) := by decide +kernel
theorem dL_serve_15 : decode cL_serve 15 = .ok (.astore_n 3, 1) := by decide +kernel
theorem dL_serve_16 : decode cL_serve 16 = .ok (.iconst 2, 1) := by decide +kernel
theorem dL_serve_17 : decode cL_serve 17 = .ok (.ireturn, 1) := by decide +kernel
theorem dL_serve_18 : decode cL_serve 18 = .ok (.iconst 0, 1) := by decide +kernel
theorem dL_serve_19 : decode cL_serve 19 = .ok (.ireturn, 1) := by decide +kernel
set_option maxRecDepth 20000 in
theorem ggL_serveAll_X8_serveAll : GoodIn wsL_serveAll wsX8_serveAll := goodIn_ca (goodIn_r _ [6, 7, 8, 9, 10, 11, 5, 12, 13, 14, 15, 16, 17, 18, 19, 20, 21, 22, 23, 24, 25, 26, 27, 28, 29, 30, 31, 32, 33, 34, 35, 36, 37, 38, 39, 40, 41, 42, 43, 44, 45, 46, 47, 48, 49, 50, 51, 52, 53, 54, 55, 56, 57, 58, 59, 60, 61, 62, 63, 64, 65, 66, 67, 68, 69, 70, 71, 72, 73, 74, 75, 76, 77, 78, 79, 80, 81, 82, 83, 84, 85, 86, 87, 88, 89, 90, 91, 92, 93, 94, 95, 96, 97, 98, 99, 100, 101, 102, 103, 104, 105, 106, 107, 108, 109, 110, 111, 112, 113, 114, 115, 116, 117, 118, 119, 120, 121, 122, 123, 124, 125, 126, 127, 128, 129, 130, 131, 132, 133, 134, 135, 136, 137, 138, 139, 140, 141, 142, 143, 144, 145, 146, 147, 148, 149, 150, 151, 152, 153, 154, 155, 156, 157, 158, 159, 160, 161, 162, 163, 164, 165, 166, 167, 168, 169, 170, 171, 172, 173, 174, 175, 176, 177, 178, 179, 180, 181, 182, 183, 184, 185, 186, 187, 188, 189, 190, 191, 192, 193, 194, 195, 196, 197, 198, 199, 200, 201, 202, 203, 204, 205, 206, 207, 208, 209, 210, 211, 212, 213, 214, 215, 216, 217, 218, 219, 220, 221, 222, 223, 224, 225, 226, 227, 228, 229, 230, 231] rfl (by decide +kernel)) (goodIn_sub (fun _ h => List.mem_cons_of_mem _ (List.mem_append_right _ h)) (by decide +kernel))
set_option maxRecDepth 20000 in
theorem gL_serveAll_X8_serveAll : GoodIn wsL_serveAll (wsV RL 51 RX8 yX8_serveAll wsX8_serveAll) := goodIn_app (goodIn_r _ [2, 3, 4, 5] rfl (by decide +kernel)) ggL_serveAll_X8_serveAll
theorem dL_serveAll_0 : decode cL_serveAll 0 = .ok (.aload_n 1, 1) := by decide +kernel
theorem dL_serveAll_1 : decode cL_serveAll 1 = .ok (.iconst 0, 1) := by decide +kernel
theorem dL_serveAll_2 : decode cL_serveAll 2 = .ok (.aload_n 0, 1) := by decide +kernel
theorem dL_serveAll_3 : decode cL_serveAll 3 = .ok (.invokevirtual 51, 3) := by decide +kernel
theorem dL_serveAll_6 : decode cL_serveAll 6 = .ok (.i2l, 1) := by decide +kernel
theorem dL_serveAll_7 : decode cL_serveAll 7 = .ok (.lastore, 1) := by decide +kernel
theorem dL_serveAll_8 : decode cL_serveAll 8 = .ok (.goto 6, 3) := by decide +kernel
theorem dL_serveAll_11 : decode cL_serveAll 11 = .ok (.astore_n 2, 1) := by decide +kernel
theorem dL_serveAll_12 : decode cL_serveAll 12 = .ok (.iconst 1, 1) := by decide +kernel
theorem dL_serveAll_13 : decode cL_serveAll 13 = .ok (.ireturn, 1) := by decide +kernel
theorem dL_serveAll_14 : decode cL_serveAll 14 = .ok (.iconst 0, 1) := by decide +kernel
theorem dL_serveAll_15 : decode cL_serveAll 15 = .ok (.ireturn, 1) := by decide +kernel
set_option maxRecDepth 20000 in
theorem ggL_changeLeast_X8_changeLeast : GoodIn wsL_changeLeast wsX8_changeLeast := goodIn_ca (goodIn_ca (goodIn_r _ [7, 8, 9, 10, 11, 12, 13, 14, 6, 15, 16, 17, 18, 19, 20, 21, 22, 23, 24, 25, 26, 27, 28, 29, 30, 31, 32, 33, 34, 35, 36, 37, 38, 39, 40, 41, 42, 43, 44, 45, 46, 47, 48, 49, 50, 51, 52, 53, 54, 55, 56, 57, 58, 59, 60, 61, 62, 63, 64, 65, 66, 67, 68, 69, 70, 71, 72, 73, 74, 75, 76, 77, 78, 79, 80, 81, 82, 83, 84, 85, 86, 87, 88, 89, 90, 91, 92, 93, 94, 95, 96, 97, 98, 99, 100, 101, 102, 103, 104, 105, 106, 107, 108, 109, 110, 111, 112, 113, 114, 115, 116, 117, 118, 119, 120, 121, 122, 123, 124, 125, 126, 127, 128, 129, 130, 131, 132, 133, 134, 135, 136, 137, 138, 139] rfl (by decide +kernel)) (goodIn_sub (fun _ h => List.mem_cons_of_mem _ (List.mem_append_left _ (List.mem_append_right _ h))) (by decide +kernel))) (goodIn_sub (fun _ h => List.mem_cons_of_mem _ (List.mem_append_right _ h)) (by decide +kernel))
set_option maxRecDepth 20000 in
theorem gL_changeLeast_X8_changeLeast : GoodIn wsL_changeLeast (wsV RL 54 RX8 yX8_changeLeast wsX8_changeLeast) := goodIn_app (goodIn_r _ [3, 4, 5, 6] rfl (by decide +kernel)) ggL_changeLeast_X8_changeLeast
theorem dL_changeLeast_0 : decode cL_changeLeast 0 = .ok (.aload_n 3, 1) := by decide +kernel
theorem dL_changeLeast_1 : decode cL_changeLeast 1 = .ok (.iconst 0, 1) := by decide +kernel
theorem dL_changeLeast_2 : decode cL_changeLeast 2 = .ok (.aload_n 0, 1) := by decide +kernel
theorem dL_changeLeast_3 : decode cL_changeLeast 3 = .ok (.iload_n 1, 1) := by decide +kernel
theorem dL_changeLeast_4 : decode cL_changeLeast 4 = .ok (.iload_n 2, 1) := by decide +kernel
theorem dL_changeLeast_5 : decode cL_changeLeast 5 = .ok (.invokevirtual 54, 3) := by decide +kernel
theorem dL_changeLeast_8 : decode cL_changeLeast 8 = .ok (.i2l, 1) := by decide +kernel
theorem dL_changeLeast_9 : decode cL_changeLeast 9 = .ok (.lastore, 1) := by decide +kernel
theorem dL_changeLeast_10 : decode cL_changeLeast 10 = .ok (.goto 11, 3) := by decide +kernel
theorem dL_changeLeast_13 : decode cL_changeLeast 13 = .ok (.astore 4, 2) := by decide +kernel
theorem dL_changeLeast_15 : decode cL_changeLeast 15 = .ok (.iconst 1, 1) := by decide +kernel
theorem dL_changeLeast_16 : decode cL_changeLeast 16 = .ok (.ireturn, 1) := by decide +kernel
theorem dL_changeLeast_17 : decode cL_changeLeast 17 = .ok (.astore 4, 2) := by decide +kernel
theorem dL_changeLeast_19 : decode cL_changeLeast 19 = .ok (.iconst 2, 1) := by decide +kernel
theorem dL_changeLeast_20 : decode cL_changeLeast 20 = .ok (.ireturn, 1) := by decide +kernel
theorem dL_changeLeast_21 : decode cL_changeLeast 21 = .ok (.iconst 0, 1) := by decide +kernel
theorem dL_changeLeast_22 : decode cL_changeLeast 22 = .ok (.ireturn, 1) := by decide +kernel
set_option maxRecDepth 20000 in
theorem ggL_changeWeight_X8_changeWeight : GoodIn wsL_changeWeight wsX8_changeWeight := goodIn_ca (goodIn_ca (goodIn_ca (goodIn_r _ [8, 9, 10, 11, 12, 13, 14, 15, 16, 17, 7, 18, 19, 20, 21, 22, 23, 24, 25, 26, 27, 28, 29, 30, 31, 32, 33, 34, 35, 36, 37, 38, 39, 40, 41, 42, 43, 44, 45, 46, 47, 48, 49, 50, 51, 52, 53, 54, 55, 56, 57, 58, 59, 60, 61, 62, 63, 64, 65, 66, 67, 68, 69, 70, 71, 72, 73, 74, 75, 76, 77, 78, 79, 80, 81, 82, 83, 84, 85, 86, 87, 88, 89, 90, 91, 92, 93, 94, 95, 96, 97, 98, 99, 100, 101, 102, 103, 104, 105, 106, 107, 108, 109, 110, 111, 112, 113, 114, 115, 116, 117, 118, 119, 120, 121, 122, 123, 124, 125, 126, 127, 128, 129, 130, 131, 132, 133, 134, 135, 136, 137, 138, 139, 140, 141, 142, 143, 144, 145, 146, 147, 148, 149, 150, 151, 152] rfl (by decide +kernel)) (goodIn_sub (fun _ h => List.mem_cons_of_mem _ (List.mem_append_left _ (List.mem_append_left _ (List.mem_append_right _ h)))) (by decide +kernel))) (goodIn_sub (fun _ h => List.mem_cons_of_mem _ (List.mem_append_left _ (List.mem_append_right _ h))) (by decide +kernel))) (goodIn_sub (fun _ h => List.mem_cons_of_mem _ (List.mem_append_right _ h)) (by decide +kernel))
set_option maxRecDepth 20000 in
theorem gL_changeWeight_X8_changeWeight : GoodIn wsL_changeWeight (wsV RL 57 RX8 yX8_changeWeight wsX8_changeWeight) := goodIn_app (goodIn_r _ [4, 5, 6, 7] rfl (by decide +kernel)) ggL_changeWeight_X8_changeWeight
theorem dL_changeWeight_0 : decode cL_changeWeight 0 = .ok (.aload_n 3, 1) := by decide +kernel
theorem dL_changeWeight_1 : decode cL_changeWeight 1 = .ok (.iconst 0, 1) := by decide +kernel
theorem dL_changeWeight_2 : decode cL_changeWeight 2 = .ok (.aload_n 0, 1) := by decide +kernel
theorem dL_changeWeight_3 : decode cL_changeWeight 3 = .ok (.iload_n 1, 1) := by decide +kernel
theorem dL_changeWeight_4 : decode cL_changeWeight 4 = .ok (.iload_n 2, 1) := by decide +kernel
theorem dL_changeWeight_5 : decode cL_changeWeight 5 = .ok (.invokevirtual 57, 3) := by decide +kernel
theorem dL_changeWeight_8 : decode cL_changeWeight 8 = .ok (.i2l, 1) := by decide +kernel
theorem dL_changeWeight_9 : decode cL_changeWeight 9 = .ok (.lastore, 1) := by decide +kernel
theorem dL_changeWeight_10 : decode cL_changeWeight 10 = .ok (.goto 15, 3) := by decide +kernel
theorem dL_changeWeight_13 : decode cL_changeWeight 13 = .ok (.astore 4, 2) := by decide +kernel
theorem dL_changeWeight_15 : decode cL_changeWeight 15 = .ok (.iconst 1, 1) := by decide +kernel
theorem dL_changeWeight_16 : decode cL_changeWeight 16 = .ok (.ireturn, 1) := by decide +kernel
theorem dL_changeWeight_17 : decode cL_changeWeight 17 = .ok (.astore 4, 2) := by decide +kernel
theorem dL_changeWeight_19 : decode cL_changeWeight 19 = .ok (.iconst 2, 1) := by decide +kernel
theorem dL_changeWeight_20 : decode cL_changeWeight 20 = .ok (.ireturn, 1) := by decide +kernel
theorem dL_changeWeight_21 : decode cL_changeWeight 21 = .ok (.astore 4, 2) := by decide +kernel
theorem dL_changeWeight_23 : decode cL_changeWeight 23 = .ok (.iconst 3, 1) := by decide +kernel
theorem dL_changeWeight_24 : decode cL_changeWeight 24 = .ok (.ireturn, 1) := by decide +kernel
theorem dL_changeWeight_25 : decode cL_changeWeight 25 = .ok (.iconst 0, 1) := by decide +kernel
theorem dL_changeWeight_26 : decode cL_changeWeight 26 = .ok (.ireturn, 1) := by decide +kernel
set_option maxRecDepth 20000 in
theorem ggL_append_X8_append : GoodIn wsL_append wsX8_append := goodIn_ca (goodIn_ca (goodIn_r _ [7, 8, 9, 10, 11, 12, 13, 14, 15, 16, 17, 18, 19, 20, 21] rfl (by decide +kernel)) (goodIn_sub (fun _ h => List.mem_cons_of_mem _ (List.mem_append_left _ (List.mem_append_right _ h))) (by decide +kernel))) (goodIn_sub (fun _ h => List.mem_cons_of_mem _ (List.mem_append_right _ h)) (by decide +kernel))
set_option maxRecDepth 20000 in
theorem gL_append_X8_append : GoodIn wsL_append (wsV RL 60 RX8 yX8_append wsX8_append) := goodIn_app (goodIn_r _ [3, 4, 5, 6] rfl (by decide +kernel)) ggL_append_X8_append
theorem dL_append_0 : decode cL_append 0 = .ok (.aload_n 2, 1) := by decide +kernel
theorem dL_append_1 : decode cL_append 1 = .ok (.iconst 0, 1) := by decide +kernel
theorem dL_append_2 : decode cL_append 2 = .ok (.aload_n 0, 1) := by decide +kernel
theorem dL_append_3 : decode cL_append 3 = .ok (.iload_n 1, 1) := by decide +kernel
theorem dL_append_4 : decode cL_append 4 = .ok (.invokevirtual 60, 3) := by decide +kernel
theorem dL_append_7 : decode cL_append 7 = .ok (.i2l, 1) := by decide +kernel
theorem dL_append_8 : decode cL_append 8 = .ok (.lastore, 1) := by decide +kernel
theorem dL_append_9 : decode cL_append 9 = .ok (.goto 9, 3) := by decide +kernel
theorem dL_append_12 : decode cL_append 12 = .ok (.astore_n 3, 1) := by decide +kernel
theorem dL_append_13 : decode cL_append 13 = .ok (.iconst 1, 1) := by decide +kernel
theorem dL_append_14 : decode cL_append 14 = .ok (.ireturn, 1) := by decide +kernel
theorem dL_append_15 : decode cL_append 15 = .ok (.astore_n 3, 1) := by decide +kernel
theorem dL_append_16 : decode cL_append 16 = .ok (.iconst 2, 1) := by decide +kernel
theorem dL_append_17 : decode cL_append 17 = .ok (.ireturn, 1) := by decide +kernel
theorem dL_append_18 : decode cL_append 18 = .ok (.iconst 0, 1) := by decide +kernel
theorem dL_append_19 : decode cL_append 19 = .ok (.ireturn, 1) := by decide +kernel
set_option maxRecDepth 20000 in
theorem ggL_keep_X8_keep : GoodIn wsL_keep wsX8_keep := goodIn_ca (goodIn_r _ [6, 7, 8, 9, 10, 11, 5, 12, 13, 14, 15, 16, 17, 18, 19, 20, 21, 22, 23, 24, 25, 26, 27, 28, 29, 30, 31, 32, 33, 34, 35, 36, 37, 38, 39, 40, 41, 42, 43, 44, 45, 46, 47, 48, 49, 50, 51, 52, 53, 54, 55, 56, 57, 58, 59, 60, 61, 62, 63, 64, 65, 66, 67, 68, 69, 70, 71, 72, 73, 74, 75, 76, 77, 78, 79, 80, 81, 82, 83, 84, 85, 86, 87, 88, 89, 90, 91, 92, 93, 94, 95, 96, 97, 98, 99, 100, 101, 102, 103, 104, 105, 106, 107, 108, 109, 110, 111, 112, 113, 114, 115, 116, 117, 118, 119, 120, 121, 122, 123, 124, 125, 126, 127, 128, 129, 130, 131] rfl (by decide +kernel)) (goodIn_sub (fun _ h => List.mem_cons_of_mem _ (List.mem_append_right _ h)) (by decide +kernel))
set_option maxRecDepth 20000 in
theorem gL_keep_X8_keep : GoodIn wsL_keep (wsV RL 63 RX8 yX8_keep wsX8_keep) := goodIn_app (goodIn_r _ [2, 3, 4, 5] rfl (by decide +kernel)) ggL_keep_X8_keep
theorem dL_keep_0 : decode cL_keep 0 = .ok (.aload_n 0, 1) := by decide +kernel
theorem dL_keep_1 : decode cL_keep 1 = .ok (.iload_n 1, 1) := by decide +kernel
theorem dL_keep_2 : decode cL_keep 2 = .ok (.invokevirtual 63, 3) := by decide +kernel
theorem dL_keep_5 : decode cL_keep 5 = .ok (.goto 6, 3) := by decide +kernel
theorem dL_keep_8 : decode cL_keep 8 = .ok (.astore_n 2, 1) := by decide +kernel
theorem dL_keep_9 : decode cL_keep 9 = .ok (.iconst 1, 1) := by decide +kernel
theorem dL_keep_10 : decode cL_keep 10 = .ok (.ireturn, 1) := by decide +kernel
theorem dL_keep_11 : decode cL_keep 11 = .ok (.iconst 0, 1) := by decide +kernel
theorem dL_keep_12 : decode cL_keep 12 = .ok (.ireturn, 1) := by decide +kernel
set_option maxRecDepth 20000 in
theorem ggL_goBack_X8_goBack : GoodIn wsL_goBack wsX8_goBack := goodIn_ca (goodIn_ca (goodIn_r _ [7, 8, 9, 10, 11, 12, 13, 14, 6, 15, 16, 17, 18, 19, 20, 21, 22, 23, 24, 25, 26, 27, 28, 29, 30, 31, 32, 33, 34, 35, 36, 37, 38, 39, 40, 41, 42, 43, 44, 45, 46, 47, 48, 49, 50, 51, 52, 53, 54, 55, 56, 57, 58, 59, 60, 61, 62, 63, 64, 65, 66, 67, 68, 69, 70, 71, 72, 73, 74, 75, 76, 77, 78, 79, 80, 81, 82, 83, 84, 85, 86, 87, 88, 89, 90, 91, 92, 93, 94, 95, 96, 97, 98, 99, 100, 101, 102, 103, 104, 105, 106, 107, 108, 109, 110, 111, 112, 113, 114, 115, 116, 117, 118, 119, 120, 121, 122, 123, 124, 125, 126, 127, 128, 129, 130, 131, 132, 133, 134, 135, 136, 137, 138, 139] rfl (by decide +kernel)) (goodIn_sub (fun _ h => List.mem_cons_of_mem _ (List.mem_append_left _ (List.mem_append_right _ h))) (by decide +kernel))) (goodIn_sub (fun _ h => List.mem_cons_of_mem _ (List.mem_append_right _ h)) (by decide +kernel))
set_option maxRecDepth 20000 in
theorem gL_goBack_X8_goBack : GoodIn wsL_goBack (wsV RL 67 RX8 yX8_goBack wsX8_goBack) := goodIn_app (goodIn_r _ [3, 4, 5, 6] rfl (by decide +kernel)) ggL_goBack_X8_goBack
theorem dL_goBack_0 : decode cL_goBack 0 = .ok (.aload_n 0, 1) := by decide +kernel
theorem dL_goBack_1 : decode cL_goBack 1 = .ok (.iload_n 1, 1) := by decide +kernel
theorem dL_goBack_2 : decode cL_goBack 2 = .ok (.invokevirtual 67, 3) := by decide +kernel
theorem dL_goBack_5 : decode cL_goBack 5 = .ok (.goto 9, 3) := by decide +kernel
theorem dL_goBack_8 : decode cL_goBack 8 = .ok (.astore_n 2, 1) := by decide +kernel
theorem dL_goBack_9 : decode cL_goBack 9 = .ok (.iconst 1, 1) := by decide +kernel
theorem dL_goBack_10 : decode cL_goBack 10 = .ok (.ireturn, 1) := by decide +kernel
theorem dL_goBack_11 : decode cL_goBack 11 = .ok (.astore_n 2, 1) := by decide +kernel
theorem dL_goBack_12 : decode cL_goBack 12 = .ok (.iconst 2, 1) := by decide +kernel
theorem dL_goBack_13 : decode cL_goBack 13 = .ok (.ireturn, 1) := by decide +kernel
theorem dL_goBack_14 : decode cL_goBack 14 = .ok (.iconst 0, 1) := by decide +kernel
theorem dL_goBack_15 : decode cL_goBack 15 = .ok (.ireturn, 1) := by decide +kernel
set_option maxRecDepth 20000 in
theorem ggL_undo_X8_undo : GoodIn wsL_undo wsX8_undo := goodIn_ca (goodIn_r _ [6, 7, 8, 9, 10, 11, 12, 13, 14, 15, 16, 17, 18, 19, 20, 21, 22, 23, 24, 25, 26, 27, 28, 29, 30, 31, 32, 33, 34, 35, 36, 37, 38, 39, 40, 41, 42, 43, 44, 45, 46, 47, 48, 49, 50, 51, 52, 53, 54, 55, 56, 57, 58, 59, 60, 61, 62, 63, 64, 65, 66, 67, 68, 69, 70, 71, 72, 73, 74, 75, 76, 77, 78, 79, 80, 81, 82, 83, 84, 85, 86, 87, 88, 89, 90, 91, 92, 93, 94, 95, 96, 97, 98, 99] rfl (by decide +kernel)) (goodIn_sub (fun _ h => List.mem_cons_of_mem _ (List.mem_append_right _ h)) (by decide +kernel))
set_option maxRecDepth 20000 in
theorem gL_undo_X8_undo : GoodIn wsL_undo (wsV RL 70 RX8 yX8_undo wsX8_undo) := goodIn_app (goodIn_r _ [2, 3, 4, 5] rfl (by decide +kernel)) ggL_undo_X8_undo
theorem dL_undo_0 : decode cL_undo 0 = .ok (.aload_n 0, 1) := by decide +kernel
theorem dL_undo_1 : decode cL_undo 1 = .ok (.invokevirtual 70, 3) := by decide +kernel
theorem dL_undo_4 : decode cL_undo 4 = .ok (.goto 6, 3) := by decide +kernel
theorem dL_undo_7 : decode cL_undo 7 = .ok (.astore_n 1, 1) := by decide +kernel
theorem dL_undo_8 : decode cL_undo 8 = .ok (.iconst 1, 1) := by decide +kernel
theorem dL_undo_9 : decode cL_undo 9 = .ok (.ireturn, 1) := by decide +kernel
theorem dL_undo_10 : decode cL_undo 10 = .ok (.iconst 0, 1) := by decide +kernel
theorem dL_undo_11 : decode cL_undo 11 = .ok (.ireturn, 1) := by decide +kernel
set_option maxRecDepth 20000 in
theorem ggL_heightOf_X8_heightOf : GoodIn wsL_heightOf wsX8_heightOf := goodIn_ca (goodIn_r _ [6, 7, 8, 9, 10, 5, 11, 12, 13, 14, 15, 16, 17, 18, 19, 20, 21, 22, 23, 24, 25, 26, 27, 28, 29, 30] rfl (by decide +kernel)) (goodIn_sub (fun _ h => List.mem_cons_of_mem _ (List.mem_append_right _ h)) (by decide +kernel))
set_option maxRecDepth 20000 in
theorem gL_heightOf_X8_heightOf : GoodIn wsL_heightOf (wsV RL 73 RX8 yX8_heightOf wsX8_heightOf) := goodIn_app (goodIn_r _ [2, 3, 4, 5] rfl (by decide +kernel)) ggL_heightOf_X8_heightOf
theorem dL_heightOf_0 : decode cL_heightOf 0 = .ok (.aload_n 2, 1) := by decide +kernel
theorem dL_heightOf_1 : decode cL_heightOf 1 = .ok (.iconst 0, 1) := by decide +kernel
theorem dL_heightOf_2 : decode cL_heightOf 2 = .ok (.aload_n 0, 1) := by decide +kernel
theorem dL_heightOf_3 : decode cL_heightOf 3 = .ok (.iload_n 1, 1) := by decide +kernel
theorem dL_heightOf_4 : decode cL_heightOf 4 = .ok (.invokevirtual 73, 3) := by decide +kernel
theorem dL_heightOf_7 : decode cL_heightOf 7 = .ok (.i2l, 1) := by decide +kernel
theorem dL_heightOf_8 : decode cL_heightOf 8 = .ok (.lastore, 1) := by decide +kernel
theorem dL_heightOf_9 : decode cL_heightOf 9 = .ok (.goto 6, 3) := by decide +kernel
theorem dL_heightOf_12 : decode cL_heightOf 12 = .ok (.astore_n 3, 1) := by decide +kernel
theorem dL_heightOf_13 : decode cL_heightOf 13 = .ok (.iconst 1, 1) := by decide +kernel
theorem dL_heightOf_14 : decode cL_heightOf 14 = .ok (.ireturn, 1) := by decide +kernel
theorem dL_heightOf_15 : decode cL_heightOf 15 = .ok (.iconst 0, 1) := by decide +kernel
theorem dL_heightOf_16 : decode cL_heightOf 16 = .ok (.ireturn, 1) := by decide +kernel
set_option maxRecDepth 20000 in
theorem ggL_sideOf_X8_sideOf : GoodIn wsL_sideOf wsX8_sideOf := goodIn_ca (goodIn_r _ [6, 7, 8, 9, 10, 5, 11, 12, 13, 14, 15, 16, 17, 18, 19, 20, 21, 22, 23, 24, 25, 26, 27, 28, 29, 30] rfl (by decide +kernel)) (goodIn_sub (fun _ h => List.mem_cons_of_mem _ (List.mem_append_right _ h)) (by decide +kernel))
set_option maxRecDepth 20000 in
theorem gL_sideOf_X8_sideOf : GoodIn wsL_sideOf (wsV RL 76 RX8 yX8_sideOf wsX8_sideOf) := goodIn_app (goodIn_r _ [2, 3, 4, 5] rfl (by decide +kernel)) ggL_sideOf_X8_sideOf
theorem dL_sideOf_0 : decode cL_sideOf 0 = .ok (.aload_n 2, 1) := by decide +kernel
theorem dL_sideOf_1 : decode cL_sideOf 1 = .ok (.iconst 0, 1) := by decide +kernel
theorem dL_sideOf_2 : decode cL_sideOf 2 = .ok (.aload_n 0, 1) := by decide +kernel
theorem dL_sideOf_3 : decode cL_sideOf 3 = .ok (.iload_n 1, 1) := by decide +kernel
theorem dL_sideOf_4 : decode cL_sideOf 4 = .ok (.invokevirtual 76, 3) := by decide +kernel
theorem dL_sideOf_7 : decode cL_sideOf 7 = .ok (.i2l, 1) := by decide +kernel
theorem dL_sideOf_8 : decode cL_sideOf 8 = .ok (.lastore, 1) := by decide +kernel
theorem dL_sideOf_9 : decode cL_sideOf 9 = .ok (.goto 6, 3) := by decide +kernel
theorem dL_sideOf_12 : decode cL_sideOf 12 = .ok (.astore_n 3, 1) := by decide +kernel
theorem dL_sideOf_13 : decode cL_sideOf 13 = .ok (.iconst 1, 1) := by decide +kernel
theorem dL_sideOf_14 : decode cL_sideOf 14 = .ok (.ireturn, 1) := by decide +kernel
theorem dL_sideOf_15 : decode cL_sideOf 15 = .ok (.iconst 0, 1) := by decide +kernel
theorem dL_sideOf_16 : decode cL_sideOf 16 = .ok (.ireturn, 1) := by decide +kernel
set_option maxRecDepth 20000 in
theorem ggL_slotOf_X8_slotOf : GoodIn wsL_slotOf wsX8_slotOf := goodIn_ca (goodIn_r _ [6, 7, 8, 9, 10, 5, 11, 12, 13, 14, 15, 16, 17, 18, 19, 20, 21, 22, 23, 24, 25, 26, 27, 28, 29, 30] rfl (by decide +kernel)) (goodIn_sub (fun _ h => List.mem_cons_of_mem _ (List.mem_append_right _ h)) (by decide +kernel))
set_option maxRecDepth 20000 in
theorem gL_slotOf_X8_slotOf : GoodIn wsL_slotOf (wsV RL 79 RX8 yX8_slotOf wsX8_slotOf) := goodIn_app (goodIn_r _ [2, 3, 4, 5] rfl (by decide +kernel)) ggL_slotOf_X8_slotOf
theorem dL_slotOf_0 : decode cL_slotOf 0 = .ok (.aload_n 2, 1) := by decide +kernel
theorem dL_slotOf_1 : decode cL_slotOf 1 = .ok (.iconst 0, 1) := by decide +kernel
theorem dL_slotOf_2 : decode cL_slotOf 2 = .ok (.aload_n 0, 1) := by decide +kernel
theorem dL_slotOf_3 : decode cL_slotOf 3 = .ok (.iload_n 1, 1) := by decide +kernel
theorem dL_slotOf_4 : decode cL_slotOf 4 = .ok (.invokevirtual 79, 3) := by decide +kernel
theorem dL_slotOf_7 : decode cL_slotOf 7 = .ok (.i2l, 1) := by decide +kernel
theorem dL_slotOf_8 : decode cL_slotOf 8 = .ok (.lastore, 1) := by decide +kernel
theorem dL_slotOf_9 : decode cL_slotOf 9 = .ok (.goto 6, 3) := by decide +kernel
theorem dL_slotOf_12 : decode cL_slotOf 12 = .ok (.astore_n 3, 1) := by decide +kernel
theorem dL_slotOf_13 : decode cL_slotOf 13 = .ok (.iconst 1, 1) := by decide +kernel
theorem dL_slotOf_14 : decode cL_slotOf 14 = .ok (.ireturn, 1) := by decide +kernel
theorem dL_slotOf_15 : decode cL_slotOf 15 = .ok (.iconst 0, 1) := by decide +kernel
theorem dL_slotOf_16 : decode cL_slotOf 16 = .ok (.ireturn, 1) := by decide +kernel
set_option maxRecDepth 20000 in
theorem ggL_isAtWindow_X8_isAtWindow : GoodIn wsL_isAtWindow wsX8_isAtWindow := goodIn_ca (goodIn_r _ [6, 7, 8, 9, 10, 5, 11, 12, 13, 14, 15, 16, 17, 18, 19, 20, 21, 22, 23, 24, 25, 26, 27, 28, 29, 30] rfl (by decide +kernel)) (goodIn_sub (fun _ h => List.mem_cons_of_mem _ (List.mem_append_right _ h)) (by decide +kernel))
set_option maxRecDepth 20000 in
theorem gL_isAtWindow_X8_isAtWindow : GoodIn wsL_isAtWindow (wsV RL 82 RX8 yX8_isAtWindow wsX8_isAtWindow) := goodIn_app (goodIn_r _ [2, 3, 4, 5] rfl (by decide +kernel)) ggL_isAtWindow_X8_isAtWindow
theorem dL_isAtWindow_0 : decode cL_isAtWindow 0 = .ok (.aload_n 2, 1) := by decide +kernel
theorem dL_isAtWindow_1 : decode cL_isAtWindow 1 = .ok (.iconst 0, 1) := by decide +kernel
theorem dL_isAtWindow_2 : decode cL_isAtWindow 2 = .ok (.aload_n 0, 1) := by decide +kernel
theorem dL_isAtWindow_3 : decode cL_isAtWindow 3 = .ok (.iload_n 1, 1) := by decide +kernel
theorem dL_isAtWindow_4 : decode cL_isAtWindow 4 = .ok (.invokevirtual 82, 3) := by decide +kernel
theorem dL_isAtWindow_7 : decode cL_isAtWindow 7 = .ok (.ifCond .eq 7, 3) := by decide +kernel
theorem dL_isAtWindow_10 : decode cL_isAtWindow 10 = .ok (.lconst 1, 1) := by decide +kernel
theorem dL_isAtWindow_11 : decode cL_isAtWindow 11 = .ok (.goto 4, 3) := by decide +kernel
theorem dL_isAtWindow_14 : decode cL_isAtWindow 14 = .ok (.lconst 0, 1) := by decide +kernel
theorem dL_isAtWindow_15 : decode cL_isAtWindow 15 = .ok (.lastore, 1) := by decide +kernel
theorem dL_isAtWindow_16 : decode cL_isAtWindow 16 = .ok (.goto 6, 3) := by decide +kernel
theorem dL_isAtWindow_19 : decode cL_isAtWindow 19 = .ok (.astore_n 3, 1) := by decide +kernel
theorem dL_isAtWindow_20 : decode cL_isAtWindow 20 = .ok (.iconst 1, 1) := by decide +kernel
theorem dL_isAtWindow_21 : decode cL_isAtWindow 21 = .ok (.ireturn, 1) := by decide +kernel
theorem dL_isAtWindow_22 : decode cL_isAtWindow 22 = .ok (.iconst 0, 1) := by decide +kernel
theorem dL_isAtWindow_23 : decode cL_isAtWindow 23 = .ok (.ireturn, 1) := by decide +kernel
set_option maxRecDepth 20000 in
theorem ggL_thingsIn_X8_thingsIn : GoodIn wsL_thingsIn wsX8_thingsIn := goodIn_ca (goodIn_r _ [6, 7, 8, 9, 10, 5, 11, 12, 13, 14, 15, 16, 17, 18, 19, 20, 21, 22, 23, 24, 25, 26, 27, 28, 29, 30, 31, 32, 33, 34, 35, 36, 37, 38, 39] rfl (by decide +kernel)) (goodIn_sub (fun _ h => List.mem_cons_of_mem _ (List.mem_append_right _ h)) (by decide +kernel))
set_option maxRecDepth 20000 in
theorem gL_thingsIn_X8_thingsIn : GoodIn wsL_thingsIn (wsV RL 86 RX8 yX8_thingsIn wsX8_thingsIn) := goodIn_app (goodIn_r _ [2, 3, 4, 5] rfl (by decide +kernel)) ggL_thingsIn_X8_thingsIn
theorem dL_thingsIn_0 : decode cL_thingsIn 0 = .ok (.aload_n 3, 1) := by decide +kernel
theorem dL_thingsIn_1 : decode cL_thingsIn 1 = .ok (.iconst 0, 1) := by decide +kernel
theorem dL_thingsIn_2 : decode cL_thingsIn 2 = .ok (.aload_n 0, 1) := by decide +kernel
theorem dL_thingsIn_3 : decode cL_thingsIn 3 = .ok (.iload_n 1, 1) := by decide +kernel
theorem dL_thingsIn_4 : decode cL_thingsIn 4 = .ok (.iload_n 2, 1) := by decide +kernel
theorem dL_thingsIn_5 : decode cL_thingsIn 5 = .ok (.invokevirtual 86, 3) := by decide +kernel
theorem dL_thingsIn_8 : decode cL_thingsIn 8 = .ok (.i2l, 1) := by decide +kernel
theorem dL_thingsIn_9 : decode cL_thingsIn 9 = .ok (.lastore, 1) := by decide +kernel
theorem dL_thingsIn_10 : decode cL_thingsIn 10 = .ok (.goto 7, 3) := by decide +kernel
theorem dL_thingsIn_13 : decode cL_thingsIn 13 = .ok (.astore 4, 2) := by decide +kernel
theorem dL_thingsIn_15 : decode cL_thingsIn 15 = .ok (.iconst 1, 1) := by decide +kernel
theorem dL_thingsIn_16 : decode cL_thingsIn 16 = .ok (.ireturn, 1) := by decide +kernel
theorem dL_thingsIn_17 : decode cL_thingsIn 17 = .ok (.iconst 0, 1) := by decide +kernel
theorem dL_thingsIn_18 : decode cL_thingsIn 18 = .ok (.ireturn, 1) := by decide +kernel
set_option maxRecDepth 20000 in
theorem ggL_weightOf_X8_weightOf : GoodIn wsL_weightOf wsX8_weightOf := goodIn_ca (goodIn_r _ [6, 7, 8, 9, 10, 5, 11, 12, 13, 14, 15, 16, 17, 18, 19, 20, 21, 22, 23, 24, 25, 26, 27, 28, 29, 30, 31, 32, 33, 34, 35, 36, 37, 38, 39, 40, 41, 42, 43, 44, 45] rfl (by decide +kernel)) (goodIn_sub (fun _ h => List.mem_cons_of_mem _ (List.mem_append_right _ h)) (by decide +kernel))
set_option maxRecDepth 20000 in
theorem gL_weightOf_X8_weightOf : GoodIn wsL_weightOf (wsV RL 89 RX8 yX8_weightOf wsX8_weightOf) := goodIn_app (goodIn_r _ [2, 3, 4, 5] rfl (by decide +kernel)) ggL_weightOf_X8_weightOf
theorem dL_weightOf_0 : decode cL_weightOf 0 = .ok (.aload_n 2, 1) := by decide +kernel
theorem dL_weightOf_1 : decode cL_weightOf 1 = .ok (.iconst 0, 1) := by decide +kernel
theorem dL_weightOf_2 : decode cL_weightOf 2 = .ok (.aload_n 0, 1) := by decide +kernel
theorem dL_weightOf_3 : decode cL_weightOf 3 = .ok (.iload_n 1, 1) := by decide +kernel
theorem dL_weightOf_4 : decode cL_weightOf 4 = .ok (.invokevirtual 89, 3) := by decide +kernel
theorem dL_weightOf_7 : decode cL_weightOf 7 = .ok (.i2l, 1) := by decide +kernel
theorem dL_weightOf_8 : decode cL_weightOf 8 = .ok (.lastore, 1) := by decide +kernel
theorem dL_weightOf_9 : decode cL_weightOf 9 = .ok (.goto 6, 3) := by decide +kernel
theorem dL_weightOf_12 : decode cL_weightOf 12 = .ok (.astore_n 3, 1) := by decide +kernel
theorem dL_weightOf_13 : decode cL_weightOf 13 = .ok (.iconst 1, 1) := by decide +kernel
theorem dL_weightOf_14 : decode cL_weightOf 14 = .ok (.ireturn, 1) := by decide +kernel
theorem dL_weightOf_15 : decode cL_weightOf 15 = .ok (.iconst 0, 1) := by decide +kernel
theorem dL_weightOf_16 : decode cL_weightOf 16 = .ok (.ireturn, 1) := by decide +kernel
set_option maxRecDepth 20000 in
theorem ggL_fetchesOf_X8_fetchesOf : GoodIn wsL_fetchesOf wsX8_fetchesOf := goodIn_ca (goodIn_r _ [6, 7, 8, 9, 10, 5, 11, 12, 13, 14, 15, 16, 17, 18, 19, 20, 21, 22, 23, 24, 25, 26, 27, 28, 29, 30] rfl (by decide +kernel)) (goodIn_sub (fun _ h => List.mem_cons_of_mem _ (List.mem_append_right _ h)) (by decide +kernel))
set_option maxRecDepth 20000 in
theorem gL_fetchesOf_X8_fetchesOf : GoodIn wsL_fetchesOf (wsV RL 92 RX8 yX8_fetchesOf wsX8_fetchesOf) := goodIn_app (goodIn_r _ [2, 3, 4, 5] rfl (by decide +kernel)) ggL_fetchesOf_X8_fetchesOf
theorem dL_fetchesOf_0 : decode cL_fetchesOf 0 = .ok (.aload_n 2, 1) := by decide +kernel
theorem dL_fetchesOf_1 : decode cL_fetchesOf 1 = .ok (.iconst 0, 1) := by decide +kernel
theorem dL_fetchesOf_2 : decode cL_fetchesOf 2 = .ok (.aload_n 0, 1) := by decide +kernel
theorem dL_fetchesOf_3 : decode cL_fetchesOf 3 = .ok (.iload_n 1, 1) := by decide +kernel
theorem dL_fetchesOf_4 : decode cL_fetchesOf 4 = .ok (.invokevirtual 92, 3) := by decide +kernel
theorem dL_fetchesOf_7 : decode cL_fetchesOf 7 = .ok (.i2l, 1) := by decide +kernel
theorem dL_fetchesOf_8 : decode cL_fetchesOf 8 = .ok (.lastore, 1) := by decide +kernel
theorem dL_fetchesOf_9 : decode cL_fetchesOf 9 = .ok (.goto 6, 3) := by decide +kernel
theorem dL_fetchesOf_12 : decode cL_fetchesOf 12 = .ok (.astore_n 3, 1) := by decide +kernel
theorem dL_fetchesOf_13 : decode cL_fetchesOf 13 = .ok (.iconst 1, 1) := by decide +kernel
theorem dL_fetchesOf_14 : decode cL_fetchesOf 14 = .ok (.ireturn, 1) := by decide +kernel
theorem dL_fetchesOf_15 : decode cL_fetchesOf 15 = .ok (.iconst 0, 1) := by decide +kernel
theorem dL_fetchesOf_16 : decode cL_fetchesOf 16 = .ok (.ireturn, 1) := by decide +kernel
set_option maxRecDepth 20000 in
theorem ggL_atWindow_X8_atWindow : GoodIn wsL_atWindow wsX8_atWindow := goodIn_ca (goodIn_r _ [6, 7, 8, 9, 10, 5, 11, 12, 13, 14, 15, 16, 17, 18, 19, 20, 21, 22, 23, 24, 25, 26, 27, 28, 29, 30] rfl (by decide +kernel)) (goodIn_sub (fun _ h => List.mem_cons_of_mem _ (List.mem_append_right _ h)) (by decide +kernel))
set_option maxRecDepth 20000 in
theorem gL_atWindow_X8_atWindow : GoodIn wsL_atWindow (wsV RL 95 RX8 yX8_atWindow wsX8_atWindow) := goodIn_app (goodIn_r _ [2, 3, 4, 5] rfl (by decide +kernel)) ggL_atWindow_X8_atWindow
theorem dL_atWindow_0 : decode cL_atWindow 0 = .ok (.aload_n 1, 1) := by decide +kernel
theorem dL_atWindow_1 : decode cL_atWindow 1 = .ok (.iconst 0, 1) := by decide +kernel
theorem dL_atWindow_2 : decode cL_atWindow 2 = .ok (.aload_n 0, 1) := by decide +kernel
theorem dL_atWindow_3 : decode cL_atWindow 3 = .ok (.invokevirtual 95, 3) := by decide +kernel
theorem dL_atWindow_6 : decode cL_atWindow 6 = .ok (.i2l, 1) := by decide +kernel
theorem dL_atWindow_7 : decode cL_atWindow 7 = .ok (.lastore, 1) := by decide +kernel
theorem dL_atWindow_8 : decode cL_atWindow 8 = .ok (.goto 6, 3) := by decide +kernel
theorem dL_atWindow_11 : decode cL_atWindow 11 = .ok (.astore_n 2, 1) := by decide +kernel
theorem dL_atWindow_12 : decode cL_atWindow 12 = .ok (.iconst 1, 1) := by decide +kernel
theorem dL_atWindow_13 : decode cL_atWindow 13 = .ok (.ireturn, 1) := by decide +kernel
theorem dL_atWindow_14 : decode cL_atWindow 14 = .ok (.iconst 0, 1) := by decide +kernel
theorem dL_atWindow_15 : decode cL_atWindow 15 = .ok (.ireturn, 1) := by decide +kernel
set_option maxRecDepth 20000 in
theorem ggL_isFree_X8_isFree : GoodIn wsL_isFree wsX8_isFree := goodIn_ca (goodIn_r _ [6, 7, 8, 9, 10, 5, 11, 12, 13, 14, 15, 16, 17, 18, 19, 20, 21, 22, 23, 24, 25, 26, 27, 28, 29, 30, 31, 32, 33, 34, 35, 36, 37, 38, 39, 40, 41, 42] rfl (by decide +kernel)) (goodIn_sub (fun _ h => List.mem_cons_of_mem _ (List.mem_append_right _ h)) (by decide +kernel))
set_option maxRecDepth 20000 in
theorem gL_isFree_X8_isFree : GoodIn wsL_isFree (wsV RL 98 RX8 yX8_isFree wsX8_isFree) := goodIn_app (goodIn_r _ [2, 3, 4, 5] rfl (by decide +kernel)) ggL_isFree_X8_isFree
theorem dL_isFree_0 : decode cL_isFree 0 = .ok (.aload_n 3, 1) := by decide +kernel
theorem dL_isFree_1 : decode cL_isFree 1 = .ok (.iconst 0, 1) := by decide +kernel
theorem dL_isFree_2 : decode cL_isFree 2 = .ok (.aload_n 0, 1) := by decide +kernel
theorem dL_isFree_3 : decode cL_isFree 3 = .ok (.iload_n 1, 1) := by decide +kernel
theorem dL_isFree_4 : decode cL_isFree 4 = .ok (.iload_n 2, 1) := by decide +kernel
theorem dL_isFree_5 : decode cL_isFree 5 = .ok (.invokevirtual 98, 3) := by decide +kernel
theorem dL_isFree_8 : decode cL_isFree 8 = .ok (.ifCond .eq 7, 3) := by decide +kernel
theorem dL_isFree_11 : decode cL_isFree 11 = .ok (.lconst 1, 1) := by decide +kernel
theorem dL_isFree_12 : decode cL_isFree 12 = .ok (.goto 4, 3) := by decide +kernel
theorem dL_isFree_15 : decode cL_isFree 15 = .ok (.lconst 0, 1) := by decide +kernel
theorem dL_isFree_16 : decode cL_isFree 16 = .ok (.lastore, 1) := by decide +kernel
theorem dL_isFree_17 : decode cL_isFree 17 = .ok (.goto 7, 3) := by decide +kernel
theorem dL_isFree_20 : decode cL_isFree 20 = .ok (.astore 4, 2) := by decide +kernel
theorem dL_isFree_22 : decode cL_isFree 22 = .ok (.iconst 1, 1) := by decide +kernel
theorem dL_isFree_23 : decode cL_isFree 23 = .ok (.ireturn, 1) := by decide +kernel
theorem dL_isFree_24 : decode cL_isFree 24 = .ok (.iconst 0, 1) := by decide +kernel
theorem dL_isFree_25 : decode cL_isFree 25 = .ok (.ireturn, 1) := by decide +kernel
set_option maxRecDepth 20000 in
theorem ggL_shelfAt_X8_shelfAt : GoodIn wsL_shelfAt wsX8_shelfAt := goodIn_ca (goodIn_ca (goodIn_r _ [7, 8, 9, 10, 11, 12, 13, 6, 14, 15, 16, 17, 18, 19, 20, 21, 22, 23, 24, 25, 26, 27, 28, 29, 30, 31, 32, 33, 34, 35, 36, 37, 38, 39, 40, 41, 42, 43, 44, 45] rfl (by decide +kernel)) (goodIn_sub (fun _ h => List.mem_cons_of_mem _ (List.mem_append_left _ (List.mem_append_right _ h))) (by decide +kernel))) (goodIn_sub (fun _ h => List.mem_cons_of_mem _ (List.mem_append_right _ h)) (by decide +kernel))
set_option maxRecDepth 20000 in
theorem gL_shelfAt_X8_shelfAt : GoodIn wsL_shelfAt (wsV RL 102 RX8 yX8_shelfAt wsX8_shelfAt) := goodIn_app (goodIn_r _ [3, 4, 5, 6] rfl (by decide +kernel)) ggL_shelfAt_X8_shelfAt
theorem dL_shelfAt_0 : decode cL_shelfAt 0 = .ok (.aload_n 3, 1) := by decide +kernel
theorem dL_shelfAt_1 : decode cL_shelfAt 1 = .ok (.iconst 0, 1) := by decide +kernel
theorem dL_shelfAt_2 : decode cL_shelfAt 2 = .ok (.aload_n 0, 1) := by decide +kernel
theorem dL_shelfAt_3 : decode cL_shelfAt 3 = .ok (.iload_n 1, 1) := by decide +kernel
theorem dL_shelfAt_4 : decode cL_shelfAt 4 = .ok (.iload_n 2, 1) := by decide +kernel
theorem dL_shelfAt_5 : decode cL_shelfAt 5 = .ok (.invokevirtual 102, 3) := by decide +kernel
theorem dL_shelfAt_8 : decode cL_shelfAt 8 = .ok (.i2l, 1) := by decide +kernel
theorem dL_shelfAt_9 : decode cL_shelfAt 9 = .ok (.lastore, 1) := by decide +kernel
theorem dL_shelfAt_10 : decode cL_shelfAt 10 = .ok (.goto 11, 3) := by decide +kernel
theorem dL_shelfAt_13 : decode cL_shelfAt 13 = .ok (.astore 4, 2) := by decide +kernel
theorem dL_shelfAt_15 : decode cL_shelfAt 15 = .ok (.iconst 1, 1) := by decide +kernel
theorem dL_shelfAt_16 : decode cL_shelfAt 16 = .ok (.ireturn, 1) := by decide +kernel
theorem dL_shelfAt_17 : decode cL_shelfAt 17 = .ok (.astore 4, 2) := by decide +kernel
theorem dL_shelfAt_19 : decode cL_shelfAt 19 = .ok (.iconst 2, 1) := by decide +kernel
theorem dL_shelfAt_20 : decode cL_shelfAt 20 = .ok (.ireturn, 1) := by decide +kernel
theorem dL_shelfAt_21 : decode cL_shelfAt 21 = .ok (.iconst 0, 1) := by decide +kernel
theorem dL_shelfAt_22 : decode cL_shelfAt 22 = .ok (.ireturn, 1) := by decide +kernel
set_option maxRecDepth 20000 in
theorem ggL_firstPlace_X8_firstPlace : GoodIn wsL_firstPlace wsX8_firstPlace := goodIn_ca (goodIn_ca (goodIn_r _ [7, 8, 9, 10, 11, 12, 13, 6, 14, 15, 16, 17, 18, 19, 20, 21, 22, 23, 24, 25, 26, 27, 28, 29, 30, 31, 32, 33, 34, 35, 36, 37, 38, 39, 40, 41, 42, 43, 44, 45, 46, 47, 48, 49, 50, 51, 52, 53, 54] rfl (by decide +kernel)) (goodIn_sub (fun _ h => List.mem_cons_of_mem _ (List.mem_append_left _ (List.mem_append_right _ h))) (by decide +kernel))) (goodIn_sub (fun _ h => List.mem_cons_of_mem _ (List.mem_append_right _ h)) (by decide +kernel))
set_option maxRecDepth 20000 in
theorem gL_firstPlace_X8_firstPlace : GoodIn wsL_firstPlace (wsV RL 105 RX8 yX8_firstPlace wsX8_firstPlace) := goodIn_app (goodIn_r _ [3, 4, 5, 6] rfl (by decide +kernel)) ggL_firstPlace_X8_firstPlace
theorem dL_firstPlace_0 : decode cL_firstPlace 0 = .ok (.aload_n 2, 1) := by decide +kernel
theorem dL_firstPlace_1 : decode cL_firstPlace 1 = .ok (.iconst 0, 1) := by decide +kernel
theorem dL_firstPlace_2 : decode cL_firstPlace 2 = .ok (.aload_n 0, 1) := by decide +kernel
theorem dL_firstPlace_3 : decode cL_firstPlace 3 = .ok (.iload_n 1, 1) := by decide +kernel
theorem dL_firstPlace_4 : decode cL_firstPlace 4 = .ok (.invokevirtual 105, 3) := by decide +kernel
theorem dL_firstPlace_7 : decode cL_firstPlace 7 = .ok (.i2l, 1) := by decide +kernel
theorem dL_firstPlace_8 : decode cL_firstPlace 8 = .ok (.lastore, 1) := by decide +kernel
theorem dL_firstPlace_9 : decode cL_firstPlace 9 = .ok (.goto 9, 3) := by decide +kernel
theorem dL_firstPlace_12 : decode cL_firstPlace 12 = .ok (.astore_n 3, 1) := by decide +kernel
theorem dL_firstPlace_13 : decode cL_firstPlace 13 = .ok (.iconst 1, 1) := by decide +kernel
theorem dL_firstPlace_14 : decode cL_firstPlace 14 = .ok (.ireturn, 1) := by decide +kernel
theorem dL_firstPlace_15 : decode cL_firstPlace 15 = .ok (.astore_n 3, 1) := by decide +kernel
theorem dL_firstPlace_16 : decode cL_firstPlace 16 = .ok (.iconst 2, 1) := by decide +kernel
theorem dL_firstPlace_17 : decode cL_firstPlace 17 = .ok (.ireturn, 1) := by decide +kernel
theorem dL_firstPlace_18 : decode cL_firstPlace 18 = .ok (.iconst 0, 1) := by decide +kernel
theorem dL_firstPlace_19 : decode cL_firstPlace 19 = .ok (.ireturn, 1) := by decide +kernel
set_option maxRecDepth 20000 in
theorem ggL_longestGap_X8_longestGap : GoodIn wsL_longestGap wsX8_longestGap := goodIn_ca (goodIn_r _ [6, 7, 8, 9, 10, 5, 11, 12, 13, 14, 15, 16, 17, 18, 19, 20, 21, 22, 23, 24, 25, 26, 27, 28, 29, 30, 31, 32, 33, 34, 35, 36, 37, 38, 39, 40, 41, 42, 43, 44, 45, 46, 47, 48, 49, 50, 51, 52] rfl (by decide +kernel)) (goodIn_sub (fun _ h => List.mem_cons_of_mem _ (List.mem_append_right _ h)) (by decide +kernel))
set_option maxRecDepth 20000 in
theorem gL_longestGap_X8_longestGap : GoodIn wsL_longestGap (wsV RL 108 RX8 yX8_longestGap wsX8_longestGap) := goodIn_app (goodIn_r _ [2, 3, 4, 5] rfl (by decide +kernel)) ggL_longestGap_X8_longestGap
theorem dL_longestGap_0 : decode cL_longestGap 0 = .ok (.aload_n 2, 1) := by decide +kernel
theorem dL_longestGap_1 : decode cL_longestGap 1 = .ok (.iconst 0, 1) := by decide +kernel
theorem dL_longestGap_2 : decode cL_longestGap 2 = .ok (.aload_n 0, 1) := by decide +kernel
theorem dL_longestGap_3 : decode cL_longestGap 3 = .ok (.iload_n 1, 1) := by decide +kernel
theorem dL_longestGap_4 : decode cL_longestGap 4 = .ok (.invokevirtual 108, 3) := by decide +kernel
theorem dL_longestGap_7 : decode cL_longestGap 7 = .ok (.i2l, 1) := by decide +kernel
theorem dL_longestGap_8 : decode cL_longestGap 8 = .ok (.lastore, 1) := by decide +kernel
theorem dL_longestGap_9 : decode cL_longestGap 9 = .ok (.goto 6, 3) := by decide +kernel
theorem dL_longestGap_12 : decode cL_longestGap 12 = .ok (.astore_n 3, 1) := by decide +kernel
theorem dL_longestGap_13 : decode cL_longestGap 13 = .ok (.iconst 1, 1) := by decide +kernel
theorem dL_longestGap_14 : decode cL_longestGap 14 = .ok (.ireturn, 1) := by decide +kernel
theorem dL_longestGap_15 : decode cL_longestGap 15 = .ok (.iconst 0, 1) := by decide +kernel
theorem dL_longestGap_16 : decode cL_longestGap 16 = .ok (.ireturn, 1) := by decide +kernel
set_option maxRecDepth 20000 in
theorem ggL_wouldPack_X8_wouldPack : GoodIn wsL_wouldPack wsX8_wouldPack := goodIn_ca (goodIn_r _ [6, 7, 8, 9, 10, 11, 5, 12, 13, 14, 15, 16, 17, 18, 19, 20, 21, 22, 23, 24, 25, 26, 27, 28, 29, 30, 31, 32, 33, 34, 35, 36, 37, 38, 39, 40, 41, 42, 43, 44, 45, 46, 47, 48, 49, 50, 51, 52, 53, 54, 55, 56, 57, 58, 59] rfl (by decide +kernel)) (goodIn_sub (fun _ h => List.mem_cons_of_mem _ (List.mem_append_right _ h)) (by decide +kernel))
set_option maxRecDepth 20000 in
theorem gL_wouldPack_X8_wouldPack : GoodIn wsL_wouldPack (wsV RL 111 RX8 yX8_wouldPack wsX8_wouldPack) := goodIn_app (goodIn_r _ [2, 3, 4, 5] rfl (by decide +kernel)) ggL_wouldPack_X8_wouldPack
theorem dL_wouldPack_0 : decode cL_wouldPack 0 = .ok (.aload_n 1, 1) := by decide +kernel
theorem dL_wouldPack_1 : decode cL_wouldPack 1 = .ok (.iconst 0, 1) := by decide +kernel
theorem dL_wouldPack_2 : decode cL_wouldPack 2 = .ok (.aload_n 0, 1) := by decide +kernel
theorem dL_wouldPack_3 : decode cL_wouldPack 3 = .ok (.invokevirtual 111, 3) := by decide +kernel
theorem dL_wouldPack_6 : decode cL_wouldPack 6 = .ok (.i2l, 1) := by decide +kernel
theorem dL_wouldPack_7 : decode cL_wouldPack 7 = .ok (.lastore, 1) := by decide +kernel
theorem dL_wouldPack_8 : decode cL_wouldPack 8 = .ok (.goto 6, 3) := by decide +kernel
theorem dL_wouldPack_11 : decode cL_wouldPack 11 = .ok (.astore_n 2, 1) := by decide +kernel
theorem dL_wouldPack_12 : decode cL_wouldPack 12 = .ok (.iconst 1, 1) := by decide +kernel
theorem dL_wouldPack_13 : decode cL_wouldPack 13 = .ok (.ireturn, 1) := by decide +kernel
theorem dL_wouldPack_14 : decode cL_wouldPack 14 = .ok (.iconst 0, 1) := by decide +kernel
theorem dL_wouldPack_15 : decode cL_wouldPack 15 = .ok (.ireturn, 1) := by decide +kernel
set_option maxRecDepth 20000 in
theorem ggL_sideWeight_X8_sideWeight : GoodIn wsL_sideWeight wsX8_sideWeight := goodIn_ca (goodIn_r _ [6, 7, 8, 9, 10, 5, 11, 12, 13, 14, 15, 16, 17, 18, 19, 20, 21, 22, 23, 24, 25, 26, 27, 28, 29, 30, 31, 32, 33, 34, 35, 36, 37, 38, 39, 40, 41, 42, 43, 44, 45, 46, 47, 48, 49] rfl (by decide +kernel)) (goodIn_sub (fun _ h => List.mem_cons_of_mem _ (List.mem_append_right _ h)) (by decide +kernel))
set_option maxRecDepth 20000 in
theorem gL_sideWeight_X8_sideWeight : GoodIn wsL_sideWeight (wsV RL 114 RX8 yX8_sideWeight wsX8_sideWeight) := goodIn_app (goodIn_r _ [2, 3, 4, 5] rfl (by decide +kernel)) ggL_sideWeight_X8_sideWeight
theorem dL_sideWeight_0 : decode cL_sideWeight 0 = .ok (.aload_n 2, 1) := by decide +kernel
theorem dL_sideWeight_1 : decode cL_sideWeight 1 = .ok (.iconst 0, 1) := by decide +kernel
theorem dL_sideWeight_2 : decode cL_sideWeight 2 = .ok (.aload_n 0, 1) := by decide +kernel
theorem dL_sideWeight_3 : decode cL_sideWeight 3 = .ok (.iload_n 1, 1) := by decide +kernel
theorem dL_sideWeight_4 : decode cL_sideWeight 4 = .ok (.invokevirtual 114, 3) := by decide +kernel
theorem dL_sideWeight_7 : decode cL_sideWeight 7 = .ok (.i2l, 1) := by decide +kernel
theorem dL_sideWeight_8 : decode cL_sideWeight 8 = .ok (.lastore, 1) := by decide +kernel
theorem dL_sideWeight_9 : decode cL_sideWeight 9 = .ok (.goto 6, 3) := by decide +kernel
theorem dL_sideWeight_12 : decode cL_sideWeight 12 = .ok (.astore_n 3, 1) := by decide +kernel
theorem dL_sideWeight_13 : decode cL_sideWeight 13 = .ok (.iconst 1, 1) := by decide +kernel
theorem dL_sideWeight_14 : decode cL_sideWeight 14 = .ok (.ireturn, 1) := by decide +kernel
theorem dL_sideWeight_15 : decode cL_sideWeight 15 = .ok (.iconst 0, 1) := by decide +kernel
theorem dL_sideWeight_16 : decode cL_sideWeight 16 = .ok (.ireturn, 1) := by decide +kernel
set_option maxRecDepth 20000 in
theorem ggL_tripTicks_X8_tripTicks : GoodIn wsL_tripTicks wsX8_tripTicks := goodIn_ca (goodIn_r _ [6, 7, 8, 9, 10, 5, 11, 12, 13, 14, 15, 16, 17, 18, 19, 20, 21, 22, 23, 24, 25, 26, 27, 28, 29, 30, 31] rfl (by decide +kernel)) (goodIn_sub (fun _ h => List.mem_cons_of_mem _ (List.mem_append_right _ h)) (by decide +kernel))
set_option maxRecDepth 20000 in
theorem gL_tripTicks_X8_tripTicks : GoodIn wsL_tripTicks (wsV RL 117 RX8 yX8_tripTicks wsX8_tripTicks) := goodIn_app (goodIn_r _ [2, 3, 4, 5] rfl (by decide +kernel)) ggL_tripTicks_X8_tripTicks
theorem dL_tripTicks_0 : decode cL_tripTicks 0 = .ok (.aload_n 2, 1) := by decide +kernel
theorem dL_tripTicks_1 : decode cL_tripTicks 1 = .ok (.iconst 0, 1) := by decide +kernel
theorem dL_tripTicks_2 : decode cL_tripTicks 2 = .ok (.aload_n 0, 1) := by decide +kernel
theorem dL_tripTicks_3 : decode cL_tripTicks 3 = .ok (.iload_n 1, 1) := by decide +kernel
theorem dL_tripTicks_4 : decode cL_tripTicks 4 = .ok (.invokevirtual 117, 3) := by decide +kernel
theorem dL_tripTicks_7 : decode cL_tripTicks 7 = .ok (.i2l, 1) := by decide +kernel
theorem dL_tripTicks_8 : decode cL_tripTicks 8 = .ok (.lastore, 1) := by decide +kernel
theorem dL_tripTicks_9 : decode cL_tripTicks 9 = .ok (.goto 6, 3) := by decide +kernel
theorem dL_tripTicks_12 : decode cL_tripTicks 12 = .ok (.astore_n 3, 1) := by decide +kernel
theorem dL_tripTicks_13 : decode cL_tripTicks 13 = .ok (.iconst 1, 1) := by decide +kernel
theorem dL_tripTicks_14 : decode cL_tripTicks 14 = .ok (.ireturn, 1) := by decide +kernel
theorem dL_tripTicks_15 : decode cL_tripTicks 15 = .ok (.iconst 0, 1) := by decide +kernel
theorem dL_tripTicks_16 : decode cL_tripTicks 16 = .ok (.ireturn, 1) := by decide +kernel
set_option maxRecDepth 20000 in
theorem ggL_wasFetch_X8_wasFetch : GoodIn wsL_wasFetch wsX8_wasFetch := goodIn_ca (goodIn_r _ [6, 7, 8, 9, 10, 5, 11, 12, 13, 14, 15, 16, 17, 18, 19, 20, 21, 22, 23, 24, 25, 26, 27, 28, 29, 30, 31] rfl (by decide +kernel)) (goodIn_sub (fun _ h => List.mem_cons_of_mem _ (List.mem_append_right _ h)) (by decide +kernel))
set_option maxRecDepth 20000 in
theorem gL_wasFetch_X8_wasFetch : GoodIn wsL_wasFetch (wsV RL 120 RX8 yX8_wasFetch wsX8_wasFetch) := goodIn_app (goodIn_r _ [2, 3, 4, 5] rfl (by decide +kernel)) ggL_wasFetch_X8_wasFetch
theorem dL_wasFetch_0 : decode cL_wasFetch 0 = .ok (.aload_n 2, 1) := by decide +kernel
theorem dL_wasFetch_1 : decode cL_wasFetch 1 = .ok (.iconst 0, 1) := by decide +kernel
theorem dL_wasFetch_2 : decode cL_wasFetch 2 = .ok (.aload_n 0, 1) := by decide +kernel
theorem dL_wasFetch_3 : decode cL_wasFetch 3 = .ok (.iload_n 1, 1) := by decide +kernel
theorem dL_wasFetch_4 : decode cL_wasFetch 4 = .ok (.invokevirtual 120, 3) := by decide +kernel
theorem dL_wasFetch_7 : decode cL_wasFetch 7 = .ok (.ifCond .eq 7, 3) := by decide +kernel
theorem dL_wasFetch_10 : decode cL_wasFetch 10 = .ok (.lconst 1, 1) := by decide +kernel
theorem dL_wasFetch_11 : decode cL_wasFetch 11 = .ok (.goto 4, 3) := by decide +kernel
theorem dL_wasFetch_14 : decode cL_wasFetch 14 = .ok (.lconst 0, 1) := by decide +kernel
theorem dL_wasFetch_15 : decode cL_wasFetch 15 = .ok (.lastore, 1) := by decide +kernel
theorem dL_wasFetch_16 : decode cL_wasFetch 16 = .ok (.goto 6, 3) := by decide +kernel
theorem dL_wasFetch_19 : decode cL_wasFetch 19 = .ok (.astore_n 3, 1) := by decide +kernel
theorem dL_wasFetch_20 : decode cL_wasFetch 20 = .ok (.iconst 1, 1) := by decide +kernel
theorem dL_wasFetch_21 : decode cL_wasFetch 21 = .ok (.ireturn, 1) := by decide +kernel
theorem dL_wasFetch_22 : decode cL_wasFetch 22 = .ok (.iconst 0, 1) := by decide +kernel
theorem dL_wasFetch_23 : decode cL_wasFetch 23 = .ok (.ireturn, 1) := by decide +kernel
set_option maxRecDepth 20000 in
theorem ggL_weightOfKind_X8_weightOfKind : GoodIn wsL_weightOfKind wsX8_weightOfKind := goodIn_ca (goodIn_r _ [6, 7, 8, 9, 10, 5, 11, 12, 13, 14, 15, 16, 17, 18, 19, 20, 21, 22, 23, 24, 25, 26, 27, 28] rfl (by decide +kernel)) (goodIn_sub (fun _ h => List.mem_cons_of_mem _ (List.mem_append_right _ h)) (by decide +kernel))
set_option maxRecDepth 20000 in
theorem gL_weightOfKind_X8_weightOfKind : GoodIn wsL_weightOfKind (wsV RL 123 RX8 yX8_weightOfKind wsX8_weightOfKind) := goodIn_app (goodIn_r _ [2, 3, 4, 5] rfl (by decide +kernel)) ggL_weightOfKind_X8_weightOfKind
theorem dL_weightOfKind_0 : decode cL_weightOfKind 0 = .ok (.aload_n 2, 1) := by decide +kernel
theorem dL_weightOfKind_1 : decode cL_weightOfKind 1 = .ok (.iconst 0, 1) := by decide +kernel
theorem dL_weightOfKind_2 : decode cL_weightOfKind 2 = .ok (.aload_n 0, 1) := by decide +kernel
theorem dL_weightOfKind_3 : decode cL_weightOfKind 3 = .ok (.iload_n 1, 1) := by decide +kernel
theorem dL_weightOfKind_4 : decode cL_weightOfKind 4 = .ok (.invokevirtual 123, 3) := by decide +kernel
theorem dL_weightOfKind_7 : decode cL_weightOfKind 7 = .ok (.i2l, 1) := by decide +kernel
theorem dL_weightOfKind_8 : decode cL_weightOfKind 8 = .ok (.lastore, 1) := by decide +kernel
theorem dL_weightOfKind_9 : decode cL_weightOfKind 9 = .ok (.goto 6, 3) := by decide +kernel
theorem dL_weightOfKind_12 : decode cL_weightOfKind 12 = .ok (.astore_n 3, 1) := by decide +kernel
theorem dL_weightOfKind_13 : decode cL_weightOfKind 13 = .ok (.iconst 1, 1) := by decide +kernel
theorem dL_weightOfKind_14 : decode cL_weightOfKind 14 = .ok (.ireturn, 1) := by decide +kernel
theorem dL_weightOfKind_15 : decode cL_weightOfKind 15 = .ok (.iconst 0, 1) := by decide +kernel
theorem dL_weightOfKind_16 : decode cL_weightOfKind 16 = .ok (.ireturn, 1) := by decide +kernel
set_option maxRecDepth 20000 in
theorem ggL_stockByShelves_X8_stockByShelves : GoodIn wsL_stockByShelves wsX8_stockByShelves := goodIn_ca (goodIn_r _ [6, 7, 8, 9, 10, 5, 11, 12, 13, 14, 15, 16, 17, 18, 19, 20, 21, 22, 23, 24, 25, 26, 27, 28, 29, 30, 31, 32, 33, 34, 35, 36, 37, 38, 39, 40] rfl (by decide +kernel)) (goodIn_sub (fun _ h => List.mem_cons_of_mem _ (List.mem_append_right _ h)) (by decide +kernel))
set_option maxRecDepth 20000 in
theorem gL_stockByShelves_X8_stockByShelves : GoodIn wsL_stockByShelves (wsV RL 126 RX8 yX8_stockByShelves wsX8_stockByShelves) := goodIn_app (goodIn_r _ [2, 3, 4, 5] rfl (by decide +kernel)) ggL_stockByShelves_X8_stockByShelves
theorem dL_stockByShelves_0 : decode cL_stockByShelves 0 = .ok (.aload_n 2, 1) := by decide +kernel
theorem dL_stockByShelves_1 : decode cL_stockByShelves 1 = .ok (.iconst 0, 1) := by decide +kernel
theorem dL_stockByShelves_2 : decode cL_stockByShelves 2 = .ok (.aload_n 0, 1) := by decide +kernel
theorem dL_stockByShelves_3 : decode cL_stockByShelves 3 = .ok (.iload_n 1, 1) := by decide +kernel
theorem dL_stockByShelves_4 : decode cL_stockByShelves 4 = .ok (.invokevirtual 126, 3) := by decide +kernel
theorem dL_stockByShelves_7 : decode cL_stockByShelves 7 = .ok (.i2l, 1) := by decide +kernel
theorem dL_stockByShelves_8 : decode cL_stockByShelves 8 = .ok (.lastore, 1) := by decide +kernel
theorem dL_stockByShelves_9 : decode cL_stockByShelves 9 = .ok (.goto 6, 3) := by decide +kernel
theorem dL_stockByShelves_12 : decode cL_stockByShelves 12 = .ok (.astore_n 3, 1) := by decide +kernel
theorem dL_stockByShelves_13 : decode cL_stockByShelves 13 = .ok (.iconst 1, 1) := by decide +kernel
theorem dL_stockByShelves_14 : decode cL_stockByShelves 14 = .ok (.ireturn, 1) := by decide +kernel
theorem dL_stockByShelves_15 : decode cL_stockByShelves 15 = .ok (.iconst 0, 1) := by decide +kernel
theorem dL_stockByShelves_16 : decode cL_stockByShelves 16 = .ok (.ireturn, 1) := by decide +kernel
set_option maxRecDepth 20000 in
theorem ggL_stockByAccount_X8_stockByAccount : GoodIn wsL_stockByAccount wsX8_stockByAccount := goodIn_ca (goodIn_r _ [6, 7, 8, 9, 10, 5, 11, 12, 13, 14, 15, 16, 17, 18, 19, 20, 21, 22, 23, 24, 25, 26, 27, 28] rfl (by decide +kernel)) (goodIn_sub (fun _ h => List.mem_cons_of_mem _ (List.mem_append_right _ h)) (by decide +kernel))
set_option maxRecDepth 20000 in
theorem gL_stockByAccount_X8_stockByAccount : GoodIn wsL_stockByAccount (wsV RL 129 RX8 yX8_stockByAccount wsX8_stockByAccount) := goodIn_app (goodIn_r _ [2, 3, 4, 5] rfl (by decide +kernel)) ggL_stockByAccount_X8_stockByAccount
theorem dL_stockByAccount_0 : decode cL_stockByAccount 0 = .ok (.aload_n 2, 1) := by decide +kernel
theorem dL_stockByAccount_1 : decode cL_stockByAccount 1 = .ok (.iconst 0, 1) := by decide +kernel
theorem dL_stockByAccount_2 : decode cL_stockByAccount 2 = .ok (.aload_n 0, 1) := by decide +kernel
theorem dL_stockByAccount_3 : decode cL_stockByAccount 3 = .ok (.iload_n 1, 1) := by decide +kernel
theorem dL_stockByAccount_4 : decode cL_stockByAccount 4 = .ok (.invokevirtual 129, 3) := by decide +kernel
theorem dL_stockByAccount_7 : decode cL_stockByAccount 7 = .ok (.i2l, 1) := by decide +kernel
theorem dL_stockByAccount_8 : decode cL_stockByAccount 8 = .ok (.lastore, 1) := by decide +kernel
theorem dL_stockByAccount_9 : decode cL_stockByAccount 9 = .ok (.goto 6, 3) := by decide +kernel
theorem dL_stockByAccount_12 : decode cL_stockByAccount 12 = .ok (.astore_n 3, 1) := by decide +kernel
theorem dL_stockByAccount_13 : decode cL_stockByAccount 13 = .ok (.iconst 1, 1) := by decide +kernel
theorem dL_stockByAccount_14 : decode cL_stockByAccount 14 = .ok (.ireturn, 1) := by decide +kernel
theorem dL_stockByAccount_15 : decode cL_stockByAccount 15 = .ok (.iconst 0, 1) := by decide +kernel
theorem dL_stockByAccount_16 : decode cL_stockByAccount 16 = .ok (.ireturn, 1) := by decide +kernel
set_option maxRecDepth 20000 in
theorem ggL_shelvesWith_X8_shelvesWith : GoodIn wsL_shelvesWith wsX8_shelvesWith := goodIn_ca (goodIn_r _ [6, 7, 8, 9, 10, 5, 11, 12, 13, 14, 15, 16, 17, 18, 19, 20, 21, 22, 23, 24, 25, 26, 27, 28, 29, 30, 31, 32, 33, 34, 35, 36, 37, 38, 39, 40] rfl (by decide +kernel)) (goodIn_sub (fun _ h => List.mem_cons_of_mem _ (List.mem_append_right _ h)) (by decide +kernel))
set_option maxRecDepth 20000 in
theorem gL_shelvesWith_X8_shelvesWith : GoodIn wsL_shelvesWith (wsV RL 132 RX8 yX8_shelvesWith wsX8_shelvesWith) := goodIn_app (goodIn_r _ [2, 3, 4, 5] rfl (by decide +kernel)) ggL_shelvesWith_X8_shelvesWith
theorem dL_shelvesWith_0 : decode cL_shelvesWith 0 = .ok (.aload_n 2, 1) := by decide +kernel
theorem dL_shelvesWith_1 : decode cL_shelvesWith 1 = .ok (.iconst 0, 1) := by decide +kernel
theorem dL_shelvesWith_2 : decode cL_shelvesWith 2 = .ok (.aload_n 0, 1) := by decide +kernel
theorem dL_shelvesWith_3 : decode cL_shelvesWith 3 = .ok (.iload_n 1, 1) := by decide +kernel
theorem dL_shelvesWith_4 : decode cL_shelvesWith 4 = .ok (.invokevirtual 132, 3) := by decide +kernel
theorem dL_shelvesWith_7 : decode cL_shelvesWith 7 = .ok (.i2l, 1) := by decide +kernel
theorem dL_shelvesWith_8 : decode cL_shelvesWith 8 = .ok (.lastore, 1) := by decide +kernel
theorem dL_shelvesWith_9 : decode cL_shelvesWith 9 = .ok (.goto 6, 3) := by decide +kernel
theorem dL_shelvesWith_12 : decode cL_shelvesWith 12 = .ok (.astore_n 3, 1) := by decide +kernel
theorem dL_shelvesWith_13 : decode cL_shelvesWith 13 = .ok (.iconst 1, 1) := by decide +kernel
theorem dL_shelvesWith_14 : decode cL_shelvesWith 14 = .ok (.ireturn, 1) := by decide +kernel
theorem dL_shelvesWith_15 : decode cL_shelvesWith 15 = .ok (.iconst 0, 1) := by decide +kernel
theorem dL_shelvesWith_16 : decode cL_shelvesWith 16 = .ok (.ireturn, 1) := by decide +kernel
set_option maxRecDepth 20000 in
theorem ggL_leastOf_X8_leastOf : GoodIn wsL_leastOf wsX8_leastOf := goodIn_ca (goodIn_r _ [6, 7, 8, 9, 10, 5, 11, 12, 13, 14, 15, 16, 17, 18, 19, 20, 21, 22, 23, 24, 25, 26, 27, 28] rfl (by decide +kernel)) (goodIn_sub (fun _ h => List.mem_cons_of_mem _ (List.mem_append_right _ h)) (by decide +kernel))
set_option maxRecDepth 20000 in
theorem gL_leastOf_X8_leastOf : GoodIn wsL_leastOf (wsV RL 135 RX8 yX8_leastOf wsX8_leastOf) := goodIn_app (goodIn_r _ [2, 3, 4, 5] rfl (by decide +kernel)) ggL_leastOf_X8_leastOf
theorem dL_leastOf_0 : decode cL_leastOf 0 = .ok (.aload_n 2, 1) := by decide +kernel
theorem dL_leastOf_1 : decode cL_leastOf 1 = .ok (.iconst 0, 1) := by decide +kernel
theorem dL_leastOf_2 : decode cL_leastOf 2 = .ok (.aload_n 0, 1) := by decide +kernel
theorem dL_leastOf_3 : decode cL_leastOf 3 = .ok (.iload_n 1, 1) := by decide +kernel
theorem dL_leastOf_4 : decode cL_leastOf 4 = .ok (.invokevirtual 135, 3) := by decide +kernel
theorem dL_leastOf_7 : decode cL_leastOf 7 = .ok (.i2l, 1) := by decide +kernel
theorem dL_leastOf_8 : decode cL_leastOf 8 = .ok (.lastore, 1) := by decide +kernel
theorem dL_leastOf_9 : decode cL_leastOf 9 = .ok (.goto 6, 3) := by decide +kernel
theorem dL_leastOf_12 : decode cL_leastOf 12 = .ok (.astore_n 3, 1) := by decide +kernel
theorem dL_leastOf_13 : decode cL_leastOf 13 = .ok (.iconst 1, 1) := by decide +kernel
theorem dL_leastOf_14 : decode cL_leastOf 14 = .ok (.ireturn, 1) := by decide +kernel
theorem dL_leastOf_15 : decode cL_leastOf 15 = .ok (.iconst 0, 1) := by decide +kernel
theorem dL_leastOf_16 : decode cL_leastOf 16 = .ok (.ireturn, 1) := by decide +kernel
set_option maxRecDepth 20000 in
theorem ggL_missingOf_X8_missingOf : GoodIn wsL_missingOf wsX8_missingOf := goodIn_ca (goodIn_r _ [6, 7, 8, 9, 10, 5, 11, 12, 13, 14, 15, 16, 17, 18, 19, 20, 21, 22, 23, 24, 25, 26, 27, 28, 29, 30, 31, 32, 33, 34, 35, 36, 37, 38, 39, 40, 41, 42, 43, 44, 45, 46, 47, 48, 49, 50, 51, 52, 53, 54] rfl (by decide +kernel)) (goodIn_sub (fun _ h => List.mem_cons_of_mem _ (List.mem_append_right _ h)) (by decide +kernel))
set_option maxRecDepth 20000 in
theorem gL_missingOf_X8_missingOf : GoodIn wsL_missingOf (wsV RL 138 RX8 yX8_missingOf wsX8_missingOf) := goodIn_app (goodIn_r _ [2, 3, 4, 5] rfl (by decide +kernel)) ggL_missingOf_X8_missingOf
theorem dL_missingOf_0 : decode cL_missingOf 0 = .ok (.aload_n 2, 1) := by decide +kernel
theorem dL_missingOf_1 : decode cL_missingOf 1 = .ok (.iconst 0, 1) := by decide +kernel
theorem dL_missingOf_2 : decode cL_missingOf 2 = .ok (.aload_n 0, 1) := by decide +kernel
theorem dL_missingOf_3 : decode cL_missingOf 3 = .ok (.iload_n 1, 1) := by decide +kernel
theorem dL_missingOf_4 : decode cL_missingOf 4 = .ok (.invokevirtual 138, 3) := by decide +kernel
theorem dL_missingOf_7 : decode cL_missingOf 7 = .ok (.i2l, 1) := by decide +kernel
theorem dL_missingOf_8 : decode cL_missingOf 8 = .ok (.lastore, 1) := by decide +kernel
theorem dL_missingOf_9 : decode cL_missingOf 9 = .ok (.goto 6, 3) := by decide +kernel
theorem dL_missingOf_12 : decode cL_missingOf 12 = .ok (.astore_n 3, 1) := by decide +kernel
theorem dL_missingOf_13 : decode cL_missingOf 13 = .ok (.iconst 1, 1) := by decide +kernel
theorem dL_missingOf_14 : decode cL_missingOf 14 = .ok (.ireturn, 1) := by decide +kernel
theorem dL_missingOf_15 : decode cL_missingOf 15 = .ok (.iconst 0, 1) := by decide +kernel
theorem dL_missingOf_16 : decode cL_missingOf 16 = .ok (.ireturn, 1) := by decide +kernel
set_option maxRecDepth 20000 in
theorem ggL_wanted_X8_wanted : GoodIn wsL_wanted wsX8_wanted := goodIn_ca (goodIn_r _ [6, 7, 8, 9, 10, 5, 11, 12, 13, 14, 15, 16, 17, 18, 19, 20, 21, 22, 23, 24, 25, 26, 27, 28, 29, 30, 31, 32, 33, 34, 35] rfl (by decide +kernel)) (goodIn_sub (fun _ h => List.mem_cons_of_mem _ (List.mem_append_right _ h)) (by decide +kernel))
set_option maxRecDepth 20000 in
theorem gL_wanted_X8_wanted : GoodIn wsL_wanted (wsV RL 141 RX8 yX8_wanted wsX8_wanted) := goodIn_app (goodIn_r _ [2, 3, 4, 5] rfl (by decide +kernel)) ggL_wanted_X8_wanted
theorem dL_wanted_0 : decode cL_wanted 0 = .ok (.aload_n 3, 1) := by decide +kernel
theorem dL_wanted_1 : decode cL_wanted 1 = .ok (.iconst 0, 1) := by decide +kernel
theorem dL_wanted_2 : decode cL_wanted 2 = .ok (.aload_n 0, 1) := by decide +kernel
theorem dL_wanted_3 : decode cL_wanted 3 = .ok (.iload_n 1, 1) := by decide +kernel
theorem dL_wanted_4 : decode cL_wanted 4 = .ok (.iload_n 2, 1) := by decide +kernel
theorem dL_wanted_5 : decode cL_wanted 5 = .ok (.invokevirtual 141, 3) := by decide +kernel
theorem dL_wanted_8 : decode cL_wanted 8 = .ok (.i2l, 1) := by decide +kernel
theorem dL_wanted_9 : decode cL_wanted 9 = .ok (.lastore, 1) := by decide +kernel
theorem dL_wanted_10 : decode cL_wanted 10 = .ok (.goto 7, 3) := by decide +kernel
theorem dL_wanted_13 : decode cL_wanted 13 = .ok (.astore 4, 2) := by decide +kernel
theorem dL_wanted_15 : decode cL_wanted 15 = .ok (.iconst 1, 1) := by decide +kernel
theorem dL_wanted_16 : decode cL_wanted 16 = .ok (.ireturn, 1) := by decide +kernel
theorem dL_wanted_17 : decode cL_wanted 17 = .ok (.iconst 0, 1) := by decide +kernel
theorem dL_wanted_18 : decode cL_wanted 18 = .ok (.ireturn, 1) := by decide +kernel
set_option maxRecDepth 20000 in
theorem ggL_thingsOf_X8_thingsOf : GoodIn wsL_thingsOf wsX8_thingsOf := goodIn_ca (goodIn_r _ [6, 7, 8, 9, 10, 5, 11, 12, 13, 14, 15, 16, 17, 18, 19, 20, 21, 22, 23, 24, 25, 26, 27, 28, 29, 30, 31, 32, 33, 34, 35] rfl (by decide +kernel)) (goodIn_sub (fun _ h => List.mem_cons_of_mem _ (List.mem_append_right _ h)) (by decide +kernel))
set_option maxRecDepth 20000 in
theorem gL_thingsOf_X8_thingsOf : GoodIn wsL_thingsOf (wsV RL 144 RX8 yX8_thingsOf wsX8_thingsOf) := goodIn_app (goodIn_r _ [2, 3, 4, 5] rfl (by decide +kernel)) ggL_thingsOf_X8_thingsOf
theorem dL_thingsOf_0 : decode cL_thingsOf 0 = .ok (.aload_n 2, 1) := by decide +kernel
theorem dL_thingsOf_1 : decode cL_thingsOf 1 = .ok (.iconst 0, 1) := by decide +kernel
theorem dL_thingsOf_2 : decode cL_thingsOf 2 = .ok (.aload_n 0, 1) := by decide +kernel
theorem dL_thingsOf_3 : decode cL_thingsOf 3 = .ok (.iload_n 1, 1) := by decide +kernel
theorem dL_thingsOf_4 : decode cL_thingsOf 4 = .ok (.invokevirtual 144, 3) := by decide +kernel
theorem dL_thingsOf_7 : decode cL_thingsOf 7 = .ok (.i2l, 1) := by decide +kernel
theorem dL_thingsOf_8 : decode cL_thingsOf 8 = .ok (.lastore, 1) := by decide +kernel
theorem dL_thingsOf_9 : decode cL_thingsOf 9 = .ok (.goto 6, 3) := by decide +kernel
theorem dL_thingsOf_12 : decode cL_thingsOf 12 = .ok (.astore_n 3, 1) := by decide +kernel
theorem dL_thingsOf_13 : decode cL_thingsOf 13 = .ok (.iconst 1, 1) := by decide +kernel
theorem dL_thingsOf_14 : decode cL_thingsOf 14 = .ok (.ireturn, 1) := by decide +kernel
theorem dL_thingsOf_15 : decode cL_thingsOf 15 = .ok (.iconst 0, 1) := by decide +kernel
theorem dL_thingsOf_16 : decode cL_thingsOf 16 = .ok (.ireturn, 1) := by decide +kernel
set_option maxRecDepth 20000 in
theorem ggL_canServe_X8_canServe : GoodIn wsL_canServe wsX8_canServe := goodIn_ca (goodIn_r _ [6, 7, 8, 9, 10, 5, 11, 12, 13, 14, 15, 16, 17, 18, 19, 20, 21, 22, 23, 24, 25, 26, 27, 28, 29, 30, 31, 32, 33, 34, 35, 36, 37, 38, 39, 40, 41, 42, 43, 44, 45, 46, 47, 48, 49, 50, 51, 52] rfl (by decide +kernel)) (goodIn_sub (fun _ h => List.mem_cons_of_mem _ (List.mem_append_right _ h)) (by decide +kernel))
set_option maxRecDepth 20000 in
theorem gL_canServe_X8_canServe : GoodIn wsL_canServe (wsV RL 147 RX8 yX8_canServe wsX8_canServe) := goodIn_app (goodIn_r _ [2, 3, 4, 5] rfl (by decide +kernel)) ggL_canServe_X8_canServe
theorem dL_canServe_0 : decode cL_canServe 0 = .ok (.aload_n 2, 1) := by decide +kernel
theorem dL_canServe_1 : decode cL_canServe 1 = .ok (.iconst 0, 1) := by decide +kernel
theorem dL_canServe_2 : decode cL_canServe 2 = .ok (.aload_n 0, 1) := by decide +kernel
theorem dL_canServe_3 : decode cL_canServe 3 = .ok (.iload_n 1, 1) := by decide +kernel
theorem dL_canServe_4 : decode cL_canServe 4 = .ok (.invokevirtual 147, 3) := by decide +kernel
theorem dL_canServe_7 : decode cL_canServe 7 = .ok (.ifCond .eq 7, 3) := by decide +kernel
theorem dL_canServe_10 : decode cL_canServe 10 = .ok (.lconst 1, 1) := by decide +kernel
theorem dL_canServe_11 : decode cL_canServe 11 = .ok (.goto 4, 3) := by decide +kernel
theorem dL_canServe_14 : decode cL_canServe 14 = .ok (.lconst 0, 1) := by decide +kernel
theorem dL_canServe_15 : decode cL_canServe 15 = .ok (.lastore, 1) := by decide +kernel
theorem dL_canServe_16 : decode cL_canServe 16 = .ok (.goto 6, 3) := by decide +kernel
theorem dL_canServe_19 : decode cL_canServe 19 = .ok (.astore_n 3, 1) := by decide +kernel
theorem dL_canServe_20 : decode cL_canServe 20 = .ok (.iconst 1, 1) := by decide +kernel
theorem dL_canServe_21 : decode cL_canServe 21 = .ok (.ireturn, 1) := by decide +kernel
theorem dL_canServe_22 : decode cL_canServe 22 = .ok (.iconst 0, 1) := by decide +kernel
theorem dL_canServe_23 : decode cL_canServe 23 = .ok (.ireturn, 1) := by decide +kernel
set_option maxRecDepth 20000 in
theorem ggL_fewestByTrying_X8_fewestByTrying : GoodIn wsL_fewestByTrying wsX8_fewestByTrying := goodIn_ca (goodIn_ca (goodIn_r _ [7, 8, 9, 10, 11, 6, 12, 13, 14, 15, 16, 17, 18, 19, 20, 21, 22, 23, 24, 25, 26, 27, 28, 29, 30, 31, 32, 33, 34, 35, 36, 37, 38, 39, 40, 41, 42, 43, 44, 45, 46, 47, 48, 49, 50, 51, 52, 53, 54, 55, 56, 57, 58, 59, 60, 61, 62, 63, 64, 65, 66, 67, 68, 69, 70, 71, 72, 73, 74] rfl (by decide +kernel)) (goodIn_sub (fun _ h => List.mem_cons_of_mem _ (List.mem_append_left _ (List.mem_append_right _ h))) (by decide +kernel))) (goodIn_sub (fun _ h => List.mem_cons_of_mem _ (List.mem_append_right _ h)) (by decide +kernel))
set_option maxRecDepth 20000 in
theorem gL_fewestByTrying_X8_fewestByTrying : GoodIn wsL_fewestByTrying (wsV RL 150 RX8 yX8_fewestByTrying wsX8_fewestByTrying) := goodIn_app (goodIn_r _ [3, 4, 5, 6] rfl (by decide +kernel)) ggL_fewestByTrying_X8_fewestByTrying
theorem dL_fewestByTrying_0 : decode cL_fewestByTrying 0 = .ok (.aload_n 2, 1) := by decide +kernel
theorem dL_fewestByTrying_1 : decode cL_fewestByTrying 1 = .ok (.iconst 0, 1) := by decide +kernel
theorem dL_fewestByTrying_2 : decode cL_fewestByTrying 2 = .ok (.aload_n 0, 1) := by decide +kernel
theorem dL_fewestByTrying_3 : decode cL_fewestByTrying 3 = .ok (.iload_n 1, 1) := by decide +kernel
theorem dL_fewestByTrying_4 : decode cL_fewestByTrying 4 = .ok (.invokevirtual 150, 3) := by decide +kernel
theorem dL_fewestByTrying_7 : decode cL_fewestByTrying 7 = .ok (.i2l, 1) := by decide +kernel
theorem dL_fewestByTrying_8 : decode cL_fewestByTrying 8 = .ok (.lastore, 1) := by decide +kernel
theorem dL_fewestByTrying_9 : decode cL_fewestByTrying 9 = .ok (.goto 9, 3) := by decide +kernel
theorem dL_fewestByTrying_12 : decode cL_fewestByTrying 12 = .ok (.astore_n 3, 1) := by decide +kernel
theorem dL_fewestByTrying_13 : decode cL_fewestByTrying 13 = .ok (.iconst 1, 1) := by decide +kernel
theorem dL_fewestByTrying_14 : decode cL_fewestByTrying 14 = .ok (.ireturn, 1) := by decide +kernel
theorem dL_fewestByTrying_15 : decode cL_fewestByTrying 15 = .ok (.astore_n 3, 1) := by decide +kernel
theorem dL_fewestByTrying_16 : decode cL_fewestByTrying 16 = .ok (.iconst 2, 1) := by decide +kernel
theorem dL_fewestByTrying_17 : decode cL_fewestByTrying 17 = .ok (.ireturn, 1) := by decide +kernel
theorem dL_fewestByTrying_18 : decode cL_fewestByTrying 18 = .ok (.iconst 0, 1) := by decide +kernel
theorem dL_fewestByTrying_19 : decode cL_fewestByTrying 19 = .ok (.ireturn, 1) := by decide +kernel
set_option maxRecDepth 20000 in
theorem ggL_fewestByGoing_X8_fewestByGoing : GoodIn wsL_fewestByGoing wsX8_fewestByGoing := goodIn_ca (goodIn_ca (goodIn_r _ [7, 8, 9, 10, 6, 11, 12, 13, 14, 15, 16, 17, 18, 19, 20, 21, 22, 23, 24, 25, 26, 27, 28, 29, 30, 31, 32, 33, 34, 35, 36, 37, 38, 39, 40, 41, 42, 43, 44, 45, 46, 47, 48, 49, 50, 51, 52, 53, 54, 55, 56, 57, 58, 59, 60, 61, 62, 63, 64, 65, 66, 67, 68, 69, 70, 71, 72, 73, 74, 75, 76, 77] rfl (by decide +kernel)) (goodIn_sub (fun _ h => List.mem_cons_of_mem _ (List.mem_append_left _ (List.mem_append_right _ h))) (by decide +kernel))) (goodIn_sub (fun _ h => List.mem_cons_of_mem _ (List.mem_append_right _ h)) (by decide +kernel))
set_option maxRecDepth 20000 in
theorem gL_fewestByGoing_X8_fewestByGoing : GoodIn wsL_fewestByGoing (wsV RL 153 RX8 yX8_fewestByGoing wsX8_fewestByGoing) := goodIn_app (goodIn_r _ [3, 4, 5, 6] rfl (by decide +kernel)) ggL_fewestByGoing_X8_fewestByGoing
theorem dL_fewestByGoing_0 : decode cL_fewestByGoing 0 = .ok (.aload_n 2, 1) := by decide +kernel
theorem dL_fewestByGoing_1 : decode cL_fewestByGoing 1 = .ok (.iconst 0, 1) := by decide +kernel
theorem dL_fewestByGoing_2 : decode cL_fewestByGoing 2 = .ok (.aload_n 0, 1) := by decide +kernel
theorem dL_fewestByGoing_3 : decode cL_fewestByGoing 3 = .ok (.iload_n 1, 1) := by decide +kernel
theorem dL_fewestByGoing_4 : decode cL_fewestByGoing 4 = .ok (.invokevirtual 153, 3) := by decide +kernel
theorem dL_fewestByGoing_7 : decode cL_fewestByGoing 7 = .ok (.i2l, 1) := by decide +kernel
theorem dL_fewestByGoing_8 : decode cL_fewestByGoing 8 = .ok (.lastore, 1) := by decide +kernel
theorem dL_fewestByGoing_9 : decode cL_fewestByGoing 9 = .ok (.goto 9, 3) := by decide +kernel
theorem dL_fewestByGoing_12 : decode cL_fewestByGoing 12 = .ok (.astore_n 3, 1) := by decide +kernel
theorem dL_fewestByGoing_13 : decode cL_fewestByGoing 13 = .ok (.iconst 1, 1) := by decide +kernel
theorem dL_fewestByGoing_14 : decode cL_fewestByGoing 14 = .ok (.ireturn, 1) := by decide +kernel
theorem dL_fewestByGoing_15 : decode cL_fewestByGoing 15 = .ok (.astore_n 3, 1) := by decide +kernel
theorem dL_fewestByGoing_16 : decode cL_fewestByGoing 16 = .ok (.iconst 2, 1) := by decide +kernel
theorem dL_fewestByGoing_17 : decode cL_fewestByGoing 17 = .ok (.ireturn, 1) := by decide +kernel
theorem dL_fewestByGoing_18 : decode cL_fewestByGoing 18 = .ok (.iconst 0, 1) := by decide +kernel
theorem dL_fewestByGoing_19 : decode cL_fewestByGoing 19 = .ok (.ireturn, 1) := by decide +kernel
set_option maxRecDepth 20000 in
theorem ggL_choiceFor_X8_choiceFor : GoodIn wsL_choiceFor wsX8_choiceFor := goodIn_ca (goodIn_ca (goodIn_r _ [7, 8, 9, 10, 11, 6, 12, 13, 14, 15, 16, 17, 18, 19, 20, 21, 22, 23, 24, 25, 26, 27, 28, 29, 30, 31, 32, 33, 34, 35, 36, 37, 38, 39, 40, 41, 42, 43, 44, 45, 46, 47, 48, 49, 50, 51, 52, 53, 54, 55, 56, 57, 58, 59, 60, 61, 62, 63, 64, 65, 66, 67, 68, 69, 70, 71, 72, 73] rfl (by decide +kernel)) (goodIn_sub (fun _ h => List.mem_cons_of_mem _ (List.mem_append_left _ (List.mem_append_right _ h))) (by decide +kernel))) (goodIn_sub (fun _ h => List.mem_cons_of_mem _ (List.mem_append_right _ h)) (by decide +kernel))
set_option maxRecDepth 20000 in
theorem gL_choiceFor_X8_choiceFor : GoodIn wsL_choiceFor (wsV RL 156 RX8 yX8_choiceFor wsX8_choiceFor) := goodIn_app (goodIn_r _ [3, 4, 5, 6] rfl (by decide +kernel)) ggL_choiceFor_X8_choiceFor
theorem dL_choiceFor_0 : decode cL_choiceFor 0 = .ok (.aload_n 2, 1) := by decide +kernel
theorem dL_choiceFor_1 : decode cL_choiceFor 1 = .ok (.iconst 0, 1) := by decide +kernel
theorem dL_choiceFor_2 : decode cL_choiceFor 2 = .ok (.aload_n 0, 1) := by decide +kernel
theorem dL_choiceFor_3 : decode cL_choiceFor 3 = .ok (.iload_n 1, 1) := by decide +kernel
theorem dL_choiceFor_4 : decode cL_choiceFor 4 = .ok (.invokevirtual 156, 3) := by decide +kernel
theorem dL_choiceFor_7 : decode cL_choiceFor 7 = .ok (.i2l, 1) := by decide +kernel
theorem dL_choiceFor_8 : decode cL_choiceFor 8 = .ok (.lastore, 1) := by decide +kernel
theorem dL_choiceFor_9 : decode cL_choiceFor 9 = .ok (.goto 9, 3) := by decide +kernel
theorem dL_choiceFor_12 : decode cL_choiceFor 12 = .ok (.astore_n 3, 1) := by decide +kernel
theorem dL_choiceFor_13 : decode cL_choiceFor 13 = .ok (.iconst 1, 1) := by decide +kernel
theorem dL_choiceFor_14 : decode cL_choiceFor 14 = .ok (.ireturn, 1) := by decide +kernel
theorem dL_choiceFor_15 : decode cL_choiceFor 15 = .ok (.astore_n 3, 1) := by decide +kernel
theorem dL_choiceFor_16 : decode cL_choiceFor 16 = .ok (.iconst 2, 1) := by decide +kernel
theorem dL_choiceFor_17 : decode cL_choiceFor 17 = .ok (.ireturn, 1) := by decide +kernel
theorem dL_choiceFor_18 : decode cL_choiceFor 18 = .ok (.iconst 0, 1) := by decide +kernel
theorem dL_choiceFor_19 : decode cL_choiceFor 19 = .ok (.ireturn, 1) := by decide +kernel
set_option maxRecDepth 20000 in
theorem ggL_ticksByServing_X8_ticksByServing : GoodIn wsL_ticksByServing wsX8_ticksByServing := goodIn_ca (goodIn_ca (goodIn_r _ [7, 8, 9, 10, 11, 12, 6, 13, 14, 15, 16, 17, 18, 19, 20, 21, 22, 23, 24, 25, 26, 27, 28, 29, 30, 31, 32, 33, 34, 35, 36, 37, 38, 39, 40, 41, 42, 43, 44, 45, 46, 47, 48, 49, 50, 51, 52, 53, 54, 55, 56, 57, 58, 59, 60, 61, 62, 63, 64, 65, 66, 67, 68, 69, 70, 71, 72, 73, 74, 75, 76, 77, 78, 79, 80, 81, 82, 83, 84, 85, 86, 87, 88, 89, 90, 91, 92, 93, 94, 95, 96, 97, 98, 99, 100, 101, 102, 103, 104, 105, 106, 107, 108, 109, 110, 111, 112, 113, 114, 115, 116, 117, 118, 119, 120, 121, 122, 123, 124, 125, 126, 127, 128, 129, 130, 131, 132, 133, 134, 135, 136, 137, 138, 139, 140, 141, 142, 143, 144, 145, 146, 147, 148, 149, 150, 151, 152, 153, 154, 155, 156, 157, 158, 159, 160, 161, 162, 163, 164, 165, 166, 167, 168, 169, 170, 171, 172, 173, 174, 175, 176, 177, 178, 179, 180, 181, 182, 183, 184, 185, 186, 187, 188, 189, 190, 191] rfl (by decide +kernel)) (goodIn_sub (fun _ h => List.mem_cons_of_mem _ (List.mem_append_left _ (List.mem_append_right _ h))) (by decide +kernel))) (goodIn_sub (fun _ h => List.mem_cons_of_mem _ (List.mem_append_right _ h)) (by decide +kernel))
set_option maxRecDepth 20000 in
theorem gL_ticksByServing_X8_ticksByServing : GoodIn wsL_ticksByServing (wsV RL 159 RX8 yX8_ticksByServing wsX8_ticksByServing) := goodIn_app (goodIn_r _ [3, 4, 5, 6] rfl (by decide +kernel)) ggL_ticksByServing_X8_ticksByServing
theorem dL_ticksByServing_0 : decode cL_ticksByServing 0 = .ok (.aload_n 2, 1) := by decide +kernel
theorem dL_ticksByServing_1 : decode cL_ticksByServing 1 = .ok (.iconst 0, 1) := by decide +kernel
theorem dL_ticksByServing_2 : decode cL_ticksByServing 2 = .ok (.aload_n 0, 1) := by decide +kernel
theorem dL_ticksByServing_3 : decode cL_ticksByServing 3 = .ok (.iload_n 1, 1) := by decide +kernel
theorem dL_ticksByServing_4 : decode cL_ticksByServing 4 = .ok (.invokevirtual 159, 3) := by decide +kernel
theorem dL_ticksByServing_7 : decode cL_ticksByServing 7 = .ok (.i2l, 1) := by decide +kernel
theorem dL_ticksByServing_8 : decode cL_ticksByServing 8 = .ok (.lastore, 1) := by decide +kernel
theorem dL_ticksByServing_9 : decode cL_ticksByServing 9 = .ok (.goto 9, 3) := by decide +kernel
theorem dL_ticksByServing_12 : decode cL_ticksByServing 12 = .ok (.astore_n 3, 1) := by decide +kernel
theorem dL_ticksByServing_13 : decode cL_ticksByServing 13 = .ok (.iconst 1, 1) := by decide +kernel
theorem dL_ticksByServing_14 : decode cL_ticksByServing 14 = .ok (.ireturn, 1) := by decide +kernel
theorem dL_ticksByServing_15 : decode cL_ticksByServing 15 = .ok (.astore_n 3, 1) := by decide +kernel
theorem dL_ticksByServing_16 : decode cL_ticksByServing 16 = .ok (.iconst 2, 1) := by decide +kernel
theorem dL_ticksByServing_17 : decode cL_ticksByServing 17 = .ok (.ireturn, 1) := by decide +kernel
theorem dL_ticksByServing_18 : decode cL_ticksByServing 18 = .ok (.iconst 0, 1) := by decide +kernel
theorem dL_ticksByServing_19 : decode cL_ticksByServing 19 = .ok (.ireturn, 1) := by decide +kernel
set_option maxRecDepth 20000 in
theorem ggL_ticksBySums_X8_ticksBySums : GoodIn wsL_ticksBySums wsX8_ticksBySums := goodIn_ca (goodIn_ca (goodIn_r _ [7, 8, 9, 10, 11, 12, 13, 6, 14, 15, 16, 17, 18, 19, 20, 21, 22, 23, 24, 25, 26, 27, 28, 29, 30, 31, 32, 33, 34, 35, 36, 37, 38, 39, 40, 41, 42, 43, 44, 45, 46, 47, 48, 49, 50, 51, 52, 53, 54, 55, 56, 57, 58, 59, 60, 61, 62, 63, 64, 65, 66, 67, 68, 69, 70, 71, 72, 73, 74, 75, 76, 77, 78, 79, 80, 81, 82, 83, 84, 85, 86, 87, 88, 89, 90, 91, 92, 93, 94] rfl (by decide +kernel)) (goodIn_sub (fun _ h => List.mem_cons_of_mem _ (List.mem_append_left _ (List.mem_append_right _ h))) (by decide +kernel))) (goodIn_sub (fun _ h => List.mem_cons_of_mem _ (List.mem_append_right _ h)) (by decide +kernel))
set_option maxRecDepth 20000 in
theorem gL_ticksBySums_X8_ticksBySums : GoodIn wsL_ticksBySums (wsV RL 162 RX8 yX8_ticksBySums wsX8_ticksBySums) := goodIn_app (goodIn_r _ [3, 4, 5, 6] rfl (by decide +kernel)) ggL_ticksBySums_X8_ticksBySums
theorem dL_ticksBySums_0 : decode cL_ticksBySums 0 = .ok (.aload_n 2, 1) := by decide +kernel
theorem dL_ticksBySums_1 : decode cL_ticksBySums 1 = .ok (.iconst 0, 1) := by decide +kernel
theorem dL_ticksBySums_2 : decode cL_ticksBySums 2 = .ok (.aload_n 0, 1) := by decide +kernel
theorem dL_ticksBySums_3 : decode cL_ticksBySums 3 = .ok (.iload_n 1, 1) := by decide +kernel
theorem dL_ticksBySums_4 : decode cL_ticksBySums 4 = .ok (.invokevirtual 162, 3) := by decide +kernel
theorem dL_ticksBySums_7 : decode cL_ticksBySums 7 = .ok (.i2l, 1) := by decide +kernel
theorem dL_ticksBySums_8 : decode cL_ticksBySums 8 = .ok (.lastore, 1) := by decide +kernel
theorem dL_ticksBySums_9 : decode cL_ticksBySums 9 = .ok (.goto 9, 3) := by decide +kernel
theorem dL_ticksBySums_12 : decode cL_ticksBySums 12 = .ok (.astore_n 3, 1) := by decide +kernel
theorem dL_ticksBySums_13 : decode cL_ticksBySums 13 = .ok (.iconst 1, 1) := by decide +kernel
theorem dL_ticksBySums_14 : decode cL_ticksBySums 14 = .ok (.ireturn, 1) := by decide +kernel
theorem dL_ticksBySums_15 : decode cL_ticksBySums 15 = .ok (.astore_n 3, 1) := by decide +kernel
theorem dL_ticksBySums_16 : decode cL_ticksBySums 16 = .ok (.iconst 2, 1) := by decide +kernel
theorem dL_ticksBySums_17 : decode cL_ticksBySums 17 = .ok (.ireturn, 1) := by decide +kernel
theorem dL_ticksBySums_18 : decode cL_ticksBySums 18 = .ok (.iconst 0, 1) := by decide +kernel
theorem dL_ticksBySums_19 : decode cL_ticksBySums 19 = .ok (.ireturn, 1) := by decide +kernel
set_option maxRecDepth 20000 in
theorem ggL_cheapestOrder_X8_cheapestOrder : GoodIn wsL_cheapestOrder wsX8_cheapestOrder := goodIn_ca (goodIn_r _ [6, 7, 8, 9, 10, 11, 5, 12, 13, 14, 15, 16, 17, 18, 19, 20, 21, 22, 23, 24, 25, 26, 27, 28, 29, 30, 31, 32, 33, 34, 35, 36, 37, 38, 39, 40, 41, 42, 43, 44, 45, 46, 47, 48, 49, 50, 51, 52, 53, 54, 55, 56, 57, 58, 59, 60, 61, 62, 63, 64, 65, 66, 67, 68, 69, 70, 71, 72, 73, 74, 75, 76, 77, 78, 79, 80, 81, 82, 83, 84, 85, 86, 87, 88, 89, 90, 91, 92, 93, 94, 95, 96, 97, 98, 99, 100, 101, 102, 103, 104, 105, 106, 107, 108, 109, 110, 111, 112, 113, 114, 115, 116, 117, 118, 119, 120, 121, 122, 123, 124, 125, 126, 127, 128, 129, 130, 131, 132, 133, 134, 135, 136, 137, 138, 139, 140, 141, 142, 143, 144, 145, 146, 147, 148, 149, 150, 151, 152, 153, 154, 155, 156, 157, 158, 159, 160, 161, 162, 163, 164, 165, 166, 167, 168, 169, 170, 171, 172, 173, 174, 175, 176, 177, 178, 179, 180, 181, 182, 183, 184] rfl (by decide +kernel)) (goodIn_sub (fun _ h => List.mem_cons_of_mem _ (List.mem_append_right _ h)) (by decide +kernel))
set_option maxRecDepth 20000 in
theorem gL_cheapestOrder_X8_cheapestOrder : GoodIn wsL_cheapestOrder (wsV RL 165 RX8 yX8_cheapestOrder wsX8_cheapestOrder) := goodIn_app (goodIn_r _ [2, 3, 4, 5] rfl (by decide +kernel)) ggL_cheapestOrder_X8_cheapestOrder
theorem dL_cheapestOrder_0 : decode cL_cheapestOrder 0 = .ok (.aload_n 1, 1) := by decide +kernel
theorem dL_cheapestOrder_1 : decode cL_cheapestOrder 1 = .ok (.iconst 0, 1) := by decide +kernel
theorem dL_cheapestOrder_2 : decode cL_cheapestOrder 2 = .ok (.aload_n 0, 1) := by decide +kernel
theorem dL_cheapestOrder_3 : decode cL_cheapestOrder 3 = .ok (.invokevirtual 165, 3) := by decide +kernel
theorem dL_cheapestOrder_6 : decode cL_cheapestOrder 6 = .ok (.i2l, 1) := by decide +kernel
theorem dL_cheapestOrder_7 : decode cL_cheapestOrder 7 = .ok (.lastore, 1) := by decide +kernel
theorem dL_cheapestOrder_8 : decode cL_cheapestOrder 8 = .ok (.goto 6, 3) := by decide +kernel
theorem dL_cheapestOrder_11 : decode cL_cheapestOrder 11 = .ok (.astore_n 2, 1) := by decide +kernel
theorem dL_cheapestOrder_12 : decode cL_cheapestOrder 12 = .ok (.iconst 1, 1) := by decide +kernel
theorem dL_cheapestOrder_13 : decode cL_cheapestOrder 13 = .ok (.ireturn, 1) := by decide +kernel
theorem dL_cheapestOrder_14 : decode cL_cheapestOrder 14 = .ok (.iconst 0, 1) := by decide +kernel
theorem dL_cheapestOrder_15 : decode cL_cheapestOrder 15 = .ok (.ireturn, 1) := by decide +kernel
set_option maxRecDepth 20000 in
theorem ggL_servable_X8_servable : GoodIn wsL_servable wsX8_servable := goodIn_ca (goodIn_r _ [6, 7, 8, 9, 10, 11, 5, 12, 13, 14, 15, 16, 17, 18, 19, 20, 21, 22, 23, 24, 25, 26, 27, 28, 29, 30, 31, 32, 33, 34, 35, 36, 37, 38, 39, 40, 41, 42, 43, 44, 45, 46, 47, 48, 49, 50, 51, 52, 53, 54, 55, 56, 57, 58, 59, 60, 61, 62, 63, 64, 65, 66, 67, 68, 69, 70, 71, 72, 73, 74, 75, 76, 77, 78, 79, 80, 81, 82, 83, 84, 85, 86, 87, 88, 89, 90, 91, 92, 93, 94, 95, 96, 97, 98, 99, 100, 101, 102, 103, 104, 105, 106, 107, 108, 109, 110, 111, 112, 113, 114, 115, 116, 117, 118, 119, 120, 121, 122, 123, 124, 125, 126, 127, 128, 129, 130, 131, 132, 133, 134, 135, 136, 137, 138, 139, 140, 141, 142, 143, 144, 145, 146, 147, 148, 149, 150, 151, 152, 153, 154, 155, 156, 157, 158, 159, 160, 161, 162, 163, 164, 165, 166, 167, 168, 169, 170, 171, 172, 173, 174, 175, 176, 177, 178, 179, 180, 181, 182, 183, 184, 185, 186, 187, 188, 189] rfl (by decide +kernel)) (goodIn_sub (fun _ h => List.mem_cons_of_mem _ (List.mem_append_right _ h)) (by decide +kernel))
set_option maxRecDepth 20000 in
theorem gL_servable_X8_servable : GoodIn wsL_servable (wsV RL 168 RX8 yX8_servable wsX8_servable) := goodIn_app (goodIn_r _ [2, 3, 4, 5] rfl (by decide +kernel)) ggL_servable_X8_servable
theorem dL_servable_0 : decode cL_servable 0 = .ok (.aload_n 1, 1) := by decide +kernel
theorem dL_servable_1 : decode cL_servable 1 = .ok (.iconst 0, 1) := by decide +kernel
theorem dL_servable_2 : decode cL_servable 2 = .ok (.aload_n 0, 1) := by decide +kernel
theorem dL_servable_3 : decode cL_servable 3 = .ok (.invokevirtual 168, 3) := by decide +kernel
theorem dL_servable_6 : decode cL_servable 6 = .ok (.i2l, 1) := by decide +kernel
theorem dL_servable_7 : decode cL_servable 7 = .ok (.lastore, 1) := by decide +kernel
theorem dL_servable_8 : decode cL_servable 8 = .ok (.goto 6, 3) := by decide +kernel
theorem dL_servable_11 : decode cL_servable 11 = .ok (.astore_n 2, 1) := by decide +kernel
theorem dL_servable_12 : decode cL_servable 12 = .ok (.iconst 1, 1) := by decide +kernel
theorem dL_servable_13 : decode cL_servable 13 = .ok (.ireturn, 1) := by decide +kernel
theorem dL_servable_14 : decode cL_servable 14 = .ok (.iconst 0, 1) := by decide +kernel
theorem dL_servable_15 : decode cL_servable 15 = .ok (.ireturn, 1) := by decide +kernel
set_option maxRecDepth 20000 in
theorem ggL_fetchTicks_X8_fetchTicks : GoodIn wsL_fetchTicks wsX8_fetchTicks := goodIn_ca (goodIn_ca (goodIn_r _ [7, 8, 9, 10, 11, 6, 12, 13, 14, 15, 16, 17, 18, 19, 20, 21, 22, 23, 24, 25, 26, 27, 28, 29, 30, 31, 32, 33, 34, 35, 36, 37, 38, 39, 40, 41, 42, 43, 44, 45, 46, 47, 48, 49, 50, 51, 52, 53, 54, 55, 56, 57] rfl (by decide +kernel)) (goodIn_sub (fun _ h => List.mem_cons_of_mem _ (List.mem_append_left _ (List.mem_append_right _ h))) (by decide +kernel))) (goodIn_sub (fun _ h => List.mem_cons_of_mem _ (List.mem_append_right _ h)) (by decide +kernel))
set_option maxRecDepth 20000 in
theorem gL_fetchTicks_X8_fetchTicks : GoodIn wsL_fetchTicks (wsV RL 171 RX8 yX8_fetchTicks wsX8_fetchTicks) := goodIn_app (goodIn_r _ [3, 4, 5, 6] rfl (by decide +kernel)) ggL_fetchTicks_X8_fetchTicks
theorem dL_fetchTicks_0 : decode cL_fetchTicks 0 = .ok (.aload_n 2, 1) := by decide +kernel
theorem dL_fetchTicks_1 : decode cL_fetchTicks 1 = .ok (.iconst 0, 1) := by decide +kernel
theorem dL_fetchTicks_2 : decode cL_fetchTicks 2 = .ok (.aload_n 0, 1) := by decide +kernel
theorem dL_fetchTicks_3 : decode cL_fetchTicks 3 = .ok (.iload_n 1, 1) := by decide +kernel
theorem dL_fetchTicks_4 : decode cL_fetchTicks 4 = .ok (.invokevirtual 171, 3) := by decide +kernel
theorem dL_fetchTicks_7 : decode cL_fetchTicks 7 = .ok (.i2l, 1) := by decide +kernel
theorem dL_fetchTicks_8 : decode cL_fetchTicks 8 = .ok (.lastore, 1) := by decide +kernel
theorem dL_fetchTicks_9 : decode cL_fetchTicks 9 = .ok (.goto 9, 3) := by decide +kernel
theorem dL_fetchTicks_12 : decode cL_fetchTicks 12 = .ok (.astore_n 3, 1) := by decide +kernel
theorem dL_fetchTicks_13 : decode cL_fetchTicks 13 = .ok (.iconst 1, 1) := by decide +kernel
theorem dL_fetchTicks_14 : decode cL_fetchTicks 14 = .ok (.ireturn, 1) := by decide +kernel
theorem dL_fetchTicks_15 : decode cL_fetchTicks 15 = .ok (.astore_n 3, 1) := by decide +kernel
theorem dL_fetchTicks_16 : decode cL_fetchTicks 16 = .ok (.iconst 2, 1) := by decide +kernel
theorem dL_fetchTicks_17 : decode cL_fetchTicks 17 = .ok (.ireturn, 1) := by decide +kernel
theorem dL_fetchTicks_18 : decode cL_fetchTicks 18 = .ok (.iconst 0, 1) := by decide +kernel
theorem dL_fetchTicks_19 : decode cL_fetchTicks 19 = .ok (.ireturn, 1) := by decide +kernel
set_option maxRecDepth 20000 in
theorem ggL_heaviest_X8_heaviest : GoodIn wsL_heaviest wsX8_heaviest := goodIn_ca (goodIn_r _ [6, 7, 8, 9, 10, 5, 11, 12, 13, 14, 15, 16, 17, 18, 19, 20, 21, 22, 23, 24, 25, 26, 27, 28, 29, 30, 31, 32, 33, 34, 35, 36, 37, 38, 39, 40, 41, 42, 43, 44, 45, 46, 47, 48, 49] rfl (by decide +kernel)) (goodIn_sub (fun _ h => List.mem_cons_of_mem _ (List.mem_append_right _ h)) (by decide +kernel))
set_option maxRecDepth 20000 in
theorem gL_heaviest_X8_heaviest : GoodIn wsL_heaviest (wsV RL 174 RX8 yX8_heaviest wsX8_heaviest) := goodIn_app (goodIn_r _ [2, 3, 4, 5] rfl (by decide +kernel)) ggL_heaviest_X8_heaviest
theorem dL_heaviest_0 : decode cL_heaviest 0 = .ok (.aload_n 1, 1) := by decide +kernel
theorem dL_heaviest_1 : decode cL_heaviest 1 = .ok (.iconst 0, 1) := by decide +kernel
theorem dL_heaviest_2 : decode cL_heaviest 2 = .ok (.aload_n 0, 1) := by decide +kernel
theorem dL_heaviest_3 : decode cL_heaviest 3 = .ok (.invokevirtual 174, 3) := by decide +kernel
theorem dL_heaviest_6 : decode cL_heaviest 6 = .ok (.i2l, 1) := by decide +kernel
theorem dL_heaviest_7 : decode cL_heaviest 7 = .ok (.lastore, 1) := by decide +kernel
theorem dL_heaviest_8 : decode cL_heaviest 8 = .ok (.goto 6, 3) := by decide +kernel
theorem dL_heaviest_11 : decode cL_heaviest 11 = .ok (.astore_n 2, 1) := by decide +kernel
theorem dL_heaviest_12 : decode cL_heaviest 12 = .ok (.iconst 1, 1) := by decide +kernel
theorem dL_heaviest_13 : decode cL_heaviest 13 = .ok (.ireturn, 1) := by decide +kernel
theorem dL_heaviest_14 : decode cL_heaviest 14 = .ok (.iconst 0, 1) := by decide +kernel
theorem dL_heaviest_15 : decode cL_heaviest 15 = .ok (.ireturn, 1) := by decide +kernel
set_option maxRecDepth 20000 in
theorem ggL_mostFetched_X8_mostFetched : GoodIn wsL_mostFetched wsX8_mostFetched := goodIn_ca (goodIn_r _ [6, 7, 8, 9, 10, 5, 11, 12, 13, 14, 15, 16, 17, 18, 19, 20, 21, 22, 23, 24, 25, 26, 27, 28, 29, 30, 31, 32, 33, 34, 35, 36] rfl (by decide +kernel)) (goodIn_sub (fun _ h => List.mem_cons_of_mem _ (List.mem_append_right _ h)) (by decide +kernel))
set_option maxRecDepth 20000 in
theorem gL_mostFetched_X8_mostFetched : GoodIn wsL_mostFetched (wsV RL 177 RX8 yX8_mostFetched wsX8_mostFetched) := goodIn_app (goodIn_r _ [2, 3, 4, 5] rfl (by decide +kernel)) ggL_mostFetched_X8_mostFetched
theorem dL_mostFetched_0 : decode cL_mostFetched 0 = .ok (.aload_n 1, 1) := by decide +kernel
theorem dL_mostFetched_1 : decode cL_mostFetched 1 = .ok (.iconst 0, 1) := by decide +kernel
theorem dL_mostFetched_2 : decode cL_mostFetched 2 = .ok (.aload_n 0, 1) := by decide +kernel
theorem dL_mostFetched_3 : decode cL_mostFetched 3 = .ok (.invokevirtual 177, 3) := by decide +kernel
theorem dL_mostFetched_6 : decode cL_mostFetched 6 = .ok (.i2l, 1) := by decide +kernel
theorem dL_mostFetched_7 : decode cL_mostFetched 7 = .ok (.lastore, 1) := by decide +kernel
theorem dL_mostFetched_8 : decode cL_mostFetched 8 = .ok (.goto 6, 3) := by decide +kernel
theorem dL_mostFetched_11 : decode cL_mostFetched 11 = .ok (.astore_n 2, 1) := by decide +kernel
theorem dL_mostFetched_12 : decode cL_mostFetched 12 = .ok (.iconst 1, 1) := by decide +kernel
theorem dL_mostFetched_13 : decode cL_mostFetched 13 = .ok (.ireturn, 1) := by decide +kernel
theorem dL_mostFetched_14 : decode cL_mostFetched 14 = .ok (.iconst 0, 1) := by decide +kernel
theorem dL_mostFetched_15 : decode cL_mostFetched 15 = .ok (.ireturn, 1) := by decide +kernel
