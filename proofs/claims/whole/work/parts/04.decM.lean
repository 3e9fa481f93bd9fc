theorem dX9_init_0 : decode cX9_init 0 = .ok (.aload_n 0, 1) := by decide +kernel
theorem dX9_init_1 : decode cX9_init 1 = .ok (.invokespecial 1, 3) := by decide +kernel
theorem dX9_init_4 : decode cX9_init 4 = .ok (.aload_n 0, 1) := by decide +kernel
theorem dX9_init_5 : decode cX9_init 5 = .ok (.sipush 304, 3) := by decide +kernel
theorem dX9_init_8 : decode cX9_init 8 = .ok (.newarray .int, 2) := by decide +kernel
theorem dX9_init_10 : decode cX9_init 10 = .ok (.putfield 7, 3) := by decide +kernel
theorem dX9_init_13 : decode cX9_init 13 = .ok (.aload_n 0, 1) := by decide +kernel
theorem dX9_init_14 : decode cX9_init 14 = .ok (.sipush 304, 3) := by decide +kernel
theorem dX9_init_17 : decode cX9_init 17 = .ok (.newarray .int, 2) := by decide +kernel
theorem dX9_init_19 : decode cX9_init 19 = .ok (.putfield 13, 3) := by decide +kernel
theorem dX9_init_22 : decode cX9_init 22 = .ok (.aload_n 0, 1) := by decide +kernel
theorem dX9_init_23 : decode cX9_init 23 = .ok (.sipush 1824, 3) := by decide +kernel
theorem dX9_init_26 : decode cX9_init 26 = .ok (.newarray .int, 2) := by decide +kernel
theorem dX9_init_28 : decode cX9_init 28 = .ok (.putfield 16, 3) := by decide +kernel
theorem dX9_init_31 : decode cX9_init 31 = .ok (.aload_n 0, 1) := by decide +kernel
theorem dX9_init_32 : decode cX9_init 32 = .ok (.sipush 608, 3) := by decide +kernel
theorem dX9_init_35 : decode cX9_init 35 = .ok (.newarray .int, 2) := by decide +kernel
theorem dX9_init_37 : decode cX9_init 37 = .ok (.putfield 19, 3) := by decide +kernel
theorem dX9_init_40 : decode cX9_init 40 = .ok (.aload_n 0, 1) := by decide +kernel
theorem dX9_init_41 : decode cX9_init 41 = .ok (.iconst 2, 1) := by decide +kernel
theorem dX9_init_42 : decode cX9_init 42 = .ok (.newarray .boolean, 2) := by decide +kernel
theorem dX9_init_44 : decode cX9_init 44 = .ok (.putfield 22, 3) := by decide +kernel
theorem dX9_init_47 : decode cX9_init 47 = .ok (.aload_n 0, 1) := by decide +kernel
theorem dX9_init_48 : decode cX9_init 48 = .ok (.bipush 60, 2) := by decide +kernel
theorem dX9_init_50 : decode cX9_init 50 = .ok (.newarray .int, 2) := by decide +kernel
theorem dX9_init_52 : decode cX9_init 52 = .ok (.putfield 26, 3) := by decide +kernel
theorem dX9_init_55 : decode cX9_init 55 = .ok (.aload_n 0, 1) := by decide +kernel
theorem dX9_init_56 : decode cX9_init 56 = .ok (.bipush 10, 2) := by decide +kernel
theorem dX9_init_58 : decode cX9_init 58 = .ok (.newarray .int, 2) := by decide +kernel
theorem dX9_init_60 : decode cX9_init 60 = .ok (.putfield 29, 3) := by decide +kernel
theorem dX9_init_63 : decode cX9_init 63 = .ok (.aload_n 0, 1) := by decide +kernel
theorem dX9_init_64 : decode cX9_init 64 = .ok (.bipush 10, 2) := by decide +kernel
theorem dX9_init_66 : decode cX9_init 66 = .ok (.newarray .int, 2) := by decide +kernel
theorem dX9_init_68 : decode cX9_init 68 = .ok (.putfield 32, 3) := by decide +kernel
theorem dX9_init_71 : decode cX9_init 71 = .ok (.aload_n 0, 1) := by decide +kernel
theorem dX9_init_72 : decode cX9_init 72 = .ok (.iconst 0, 1) := by decide +kernel
theorem dX9_init_73 : decode cX9_init 73 = .ok (.putfield 35, 3) := by decide +kernel
theorem dX9_init_76 : decode cX9_init 76 = .ok (.aload_n 0, 1) := by decide +kernel
theorem dX9_init_77 : decode cX9_init 77 = .ok (.getfield 7, 3) := by decide +kernel
theorem dX9_init_80 : decode cX9_init 80 = .ok (.iconst 1, 1) := by decide +kernel
theorem dX9_init_81 : decode cX9_init 81 = .ok (.iconst (-1), 1) := by decide +kernel
theorem dX9_init_82 : decode cX9_init 82 = .ok (.iastore, 1) := by decide +kernel
theorem dX9_init_83 : decode cX9_init 83 = .ok (.aload_n 0, 1) := by decide +kernel
theorem dX9_init_84 : decode cX9_init 84 = .ok (.getfield 7, 3) := by decide +kernel
theorem dX9_init_87 : decode cX9_init 87 = .ok (.iconst 3, 1) := by decide +kernel
theorem dX9_init_88 : decode cX9_init 88 = .ok (.iconst 1, 1) := by decide +kernel
theorem dX9_init_89 : decode cX9_init 89 = .ok (.iastore, 1) := by decide +kernel
theorem dX9_init_90 : decode cX9_init 90 = .ok (.iconst 0, 1) := by decide +kernel
theorem dX9_init_91 : decode cX9_init 91 = .ok (.istore_n 1, 1) := by decide +kernel
theorem dX9_init_92 : decode cX9_init 92 = .ok (.iload_n 1, 1) := by decide +kernel
theorem dX9_init_93 : decode cX9_init 93 = .ok (.bipush 10, 2) := by decide +kernel
theorem dX9_init_95 : decode cX9_init 95 = .ok (.if_icmp .ge 20, 3) := by decide +kernel
theorem dX9_init_98 : decode cX9_init 98 = .ok (.aload_n 0, 1) := by decide +kernel
theorem dX9_init_99 : decode cX9_init 99 = .ok (.getfield 7, 3) := by decide +kernel
theorem dX9_init_102 : decode cX9_init 102 = .ok (.sipush 177, 3) := by decide +kernel
theorem dX9_init_105 : decode cX9_init 105 = .ok (.iload_n 1, 1) := by decide +kernel
theorem dX9_init_106 : decode cX9_init 106 = .ok (.iadd, 1) := by decide +kernel
theorem dX9_init_107 : decode cX9_init 107 = .ok (.iconst 1, 1) := by decide +kernel
theorem dX9_init_108 : decode cX9_init 108 = .ok (.iastore, 1) := by decide +kernel
theorem dX9_init_109 : decode cX9_init 109 = .ok (.iinc 1 1, 3) := by decide +kernel
theorem dX9_init_112 : decode cX9_init 112 = .ok (.goto (-20), 3) := by decide +kernel
theorem dX9_init_115 : decode cX9_init 115 = .ok (.return_, 1) := by decide +kernel
theorem dX9_thrown_0 : decode cX9_thrown 0 = .ok (.aload_n 0, 1) := by decide +kernel
theorem dX9_thrown_1 : decode cX9_thrown 1 = .ok (.getfield 35, 3) := by decide +kernel
theorem dX9_thrown_4 : decode cX9_thrown 4 = .ok (.ireturn, 1) := by decide +kernel
theorem dX9_fails_0 : decode cX9_fails 0 = .ok (.aload_n 0, 1) := by decide +kernel
theorem dX9_fails_1 : decode cX9_fails 1 = .ok (.iload_n 1, 1) := by decide +kernel
theorem dX9_fails_2 : decode cX9_fails 2 = .ok (.putfield 35, 3) := by decide +kernel
theorem dX9_fails_5 : decode cX9_fails 5 = .ok (.iconst 0, 1) := by decide +kernel
theorem dX9_fails_6 : decode cX9_fails 6 = .ok (.ireturn, 1) := by decide +kernel
theorem dX9_in_0 : decode cX9_in 0 = .ok (.iload_n 0, 1) := by decide +kernel
theorem dX9_in_1 : decode cX9_in 1 = .ok (.iload_n 1, 1) := by decide +kernel
theorem dX9_in_2 : decode cX9_in 2 = .ok (.if_icmp .lt 12, 3) := by decide +kernel
theorem dX9_in_5 : decode cX9_in 5 = .ok (.iload_n 0, 1) := by decide +kernel
theorem dX9_in_6 : decode cX9_in 6 = .ok (.iload_n 2, 1) := by decide +kernel
theorem dX9_in_7 : decode cX9_in 7 = .ok (.if_icmp .gt 7, 3) := by decide +kernel
theorem dX9_in_10 : decode cX9_in 10 = .ok (.iconst 1, 1) := by decide +kernel
theorem dX9_in_11 : decode cX9_in 11 = .ok (.goto 4, 3) := by decide +kernel
theorem dX9_in_14 : decode cX9_in 14 = .ok (.iconst 0, 1) := by decide +kernel
theorem dX9_in_15 : decode cX9_in 15 = .ok (.ireturn, 1) := by decide +kernel
set_option maxRecDepth 20000 in
theorem ggX9_isShelf_X9_in : GoodIn wsX9_isShelf wsX9_in := goodIn_r _ [5] rfl (by decide +kernel)
set_option maxRecDepth 20000 in
theorem gX9_isShelf_X9_in : GoodIn wsX9_isShelf (va_wsS RX9 39 yX9_in wsX9_in) := goodIn_app (goodIn_r _ [2, 3, 4] rfl (by decide +kernel)) ggX9_isShelf_X9_in
theorem dX9_isShelf_0 : decode cX9_isShelf 0 = .ok (.iload_n 1, 1) := by decide +kernel
theorem dX9_isShelf_1 : decode cX9_isShelf 1 = .ok (.iconst 0, 1) := by decide +kernel
theorem dX9_isShelf_2 : decode cX9_isShelf 2 = .ok (.aload_n 0, 1) := by decide +kernel
theorem dX9_isShelf_3 : decode cX9_isShelf 3 = .ok (.getfield 7, 3) := by decide +kernel
theorem dX9_isShelf_6 : decode cX9_isShelf 6 = .ok (.iconst 0, 1) := by decide +kernel
theorem dX9_isShelf_7 : decode cX9_isShelf 7 = .ok (.iaload, 1) := by decide +kernel
theorem dX9_isShelf_8 : decode cX9_isShelf 8 = .ok (.iconst 1, 1) := by decide +kernel
theorem dX9_isShelf_9 : decode cX9_isShelf 9 = .ok (.isub, 1) := by decide +kernel
theorem dX9_isShelf_10 : decode cX9_isShelf 10 = .ok (.invokestatic 39, 3) := by decide +kernel
theorem dX9_isShelf_13 : decode cX9_isShelf 13 = .ok (.ireturn, 1) := by decide +kernel
set_option maxRecDepth 20000 in
theorem ggX9_isKind_X9_in : GoodIn wsX9_isKind wsX9_in := goodIn_r _ [4] rfl (by decide +kernel)
set_option maxRecDepth 20000 in
theorem gX9_isKind_X9_in : GoodIn wsX9_isKind (va_wsS RX9 39 yX9_in wsX9_in) := goodIn_app (goodIn_r _ [1, 2, 3] rfl (by decide +kernel)) ggX9_isKind_X9_in
theorem dX9_isKind_0 : decode cX9_isKind 0 = .ok (.iload_n 0, 1) := by decide +kernel
theorem dX9_isKind_1 : decode cX9_isKind 1 = .ok (.iconst 0, 1) := by decide +kernel
theorem dX9_isKind_2 : decode cX9_isKind 2 = .ok (.bipush 9, 2) := by decide +kernel
theorem dX9_isKind_4 : decode cX9_isKind 4 = .ok (.invokestatic 39, 3) := by decide +kernel
theorem dX9_isKind_7 : decode cX9_isKind 7 = .ok (.ireturn, 1) := by decide +kernel
set_option maxRecDepth 20000 in
theorem ggX9_isOrder_X9_in : GoodIn wsX9_isOrder wsX9_in := goodIn_r _ [5] rfl (by decide +kernel)
set_option maxRecDepth 20000 in
theorem gX9_isOrder_X9_in : GoodIn wsX9_isOrder (va_wsS RX9 39 yX9_in wsX9_in) := goodIn_app (goodIn_r _ [2, 3, 4] rfl (by decide +kernel)) ggX9_isOrder_X9_in
theorem dX9_isOrder_0 : decode cX9_isOrder 0 = .ok (.iload_n 1, 1) := by decide +kernel
theorem dX9_isOrder_1 : decode cX9_isOrder 1 = .ok (.iconst 0, 1) := by decide +kernel
theorem dX9_isOrder_2 : decode cX9_isOrder 2 = .ok (.aload_n 0, 1) := by decide +kernel
theorem dX9_isOrder_3 : decode cX9_isOrder 3 = .ok (.getfield 7, 3) := by decide +kernel
theorem dX9_isOrder_6 : decode cX9_isOrder 6 = .ok (.bipush 8, 2) := by decide +kernel
theorem dX9_isOrder_8 : decode cX9_isOrder 8 = .ok (.iaload, 1) := by decide +kernel
theorem dX9_isOrder_9 : decode cX9_isOrder 9 = .ok (.iconst 1, 1) := by decide +kernel
theorem dX9_isOrder_10 : decode cX9_isOrder 10 = .ok (.isub, 1) := by decide +kernel
theorem dX9_isOrder_11 : decode cX9_isOrder 11 = .ok (.invokestatic 39, 3) := by decide +kernel
theorem dX9_isOrder_14 : decode cX9_isOrder 14 = .ok (.ireturn, 1) := by decide +kernel
set_option maxRecDepth 20000 in
theorem ggX9_isSpot_X9_in : GoodIn wsX9_isSpot wsX9_in := goodIn_r _ [4] rfl (by decide +kernel)
set_option maxRecDepth 20000 in
theorem gX9_isSpot_X9_in : GoodIn wsX9_isSpot (va_wsS RX9 39 yX9_in wsX9_in) := goodIn_app (goodIn_r _ [1, 2, 3] rfl (by decide +kernel)) ggX9_isSpot_X9_in
theorem dX9_isSpot_0 : decode cX9_isSpot 0 = .ok (.iload_n 0, 1) := by decide +kernel
theorem dX9_isSpot_1 : decode cX9_isSpot 1 = .ok (.iconst 0, 1) := by decide +kernel
theorem dX9_isSpot_2 : decode cX9_isSpot 2 = .ok (.iconst 1, 1) := by decide +kernel
theorem dX9_isSpot_3 : decode cX9_isSpot 3 = .ok (.invokestatic 39, 3) := by decide +kernel
theorem dX9_isSpot_6 : decode cX9_isSpot 6 = .ok (.ifCond .eq 17, 3) := by decide +kernel
theorem dX9_isSpot_9 : decode cX9_isSpot 9 = .ok (.iload_n 1, 1) := by decide +kernel
theorem dX9_isSpot_10 : decode cX9_isSpot 10 = .ok (.iconst 0, 1) := by decide +kernel
theorem dX9_isSpot_11 : decode cX9_isSpot 11 = .ok (.bipush 19, 2) := by decide +kernel
theorem dX9_isSpot_13 : decode cX9_isSpot 13 = .ok (.invokestatic 39, 3) := by decide +kernel
theorem dX9_isSpot_16 : decode cX9_isSpot 16 = .ok (.ifCond .eq 7, 3) := by decide +kernel
theorem dX9_isSpot_19 : decode cX9_isSpot 19 = .ok (.iconst 1, 1) := by decide +kernel
theorem dX9_isSpot_20 : decode cX9_isSpot 20 = .ok (.goto 4, 3) := by decide +kernel
theorem dX9_isSpot_23 : decode cX9_isSpot 23 = .ok (.iconst 0, 1) := by decide +kernel
theorem dX9_isSpot_24 : decode cX9_isSpot 24 = .ok (.ireturn, 1) := by decide +kernel
theorem dX9_of_0 : decode cX9_of 0 = .ok (.aload_n 0, 1) := by decide +kernel
theorem dX9_of_1 : decode cX9_of 1 = .ok (.getfield 7, 3) := by decide +kernel
theorem dX9_of_4 : decode cX9_of 4 = .ok (.bipush 9, 2) := by decide +kernel
theorem dX9_of_6 : decode cX9_of 6 = .ok (.bipush 14, 2) := by decide +kernel
theorem dX9_of_8 : decode cX9_of 8 = .ok (.iload_n 1, 1) := by decide +kernel
theorem dX9_of_9 : decode cX9_of 9 = .ok (.imul, 1) := by decide +kernel
theorem dX9_of_10 : decode cX9_of 10 = .ok (.iadd, 1) := by decide +kernel
theorem dX9_of_11 : decode cX9_of 11 = .ok (.iload_n 2, 1) := by decide +kernel
theorem dX9_of_12 : decode cX9_of 12 = .ok (.iadd, 1) := by decide +kernel
theorem dX9_of_13 : decode cX9_of 13 = .ok (.iaload, 1) := by decide +kernel
theorem dX9_of_14 : decode cX9_of 14 = .ok (.ireturn, 1) := by decide +kernel
theorem dX9_lay_0 : decode cX9_lay 0 = .ok (.aload_n 0, 1) := by decide +kernel
theorem dX9_lay_1 : decode cX9_lay 1 = .ok (.getfield 7, 3) := by decide +kernel
theorem dX9_lay_4 : decode cX9_lay 4 = .ok (.bipush 9, 2) := by decide +kernel
theorem dX9_lay_6 : decode cX9_lay 6 = .ok (.bipush 14, 2) := by decide +kernel
theorem dX9_lay_8 : decode cX9_lay 8 = .ok (.iload_n 1, 1) := by decide +kernel
theorem dX9_lay_9 : decode cX9_lay 9 = .ok (.imul, 1) := by decide +kernel
theorem dX9_lay_10 : decode cX9_lay 10 = .ok (.iadd, 1) := by decide +kernel
theorem dX9_lay_11 : decode cX9_lay 11 = .ok (.iload_n 2, 1) := by decide +kernel
theorem dX9_lay_12 : decode cX9_lay 12 = .ok (.iadd, 1) := by decide +kernel
theorem dX9_lay_13 : decode cX9_lay 13 = .ok (.iload_n 3, 1) := by decide +kernel
theorem dX9_lay_14 : decode cX9_lay 14 = .ok (.iastore, 1) := by decide +kernel
theorem dX9_lay_15 : decode cX9_lay 15 = .ok (.return_, 1) := by decide +kernel
theorem dX9_hasWindow_0 : decode cX9_hasWindow 0 = .ok (.aload_n 0, 1) := by decide +kernel
theorem dX9_hasWindow_1 : decode cX9_hasWindow 1 = .ok (.getfield 7, 3) := by decide +kernel
theorem dX9_hasWindow_4 : decode cX9_hasWindow 4 = .ok (.iconst 1, 1) := by decide +kernel
theorem dX9_hasWindow_5 : decode cX9_hasWindow 5 = .ok (.iaload, 1) := by decide +kernel
theorem dX9_hasWindow_6 : decode cX9_hasWindow 6 = .ok (.iconst (-1), 1) := by decide +kernel
theorem dX9_hasWindow_7 : decode cX9_hasWindow 7 = .ok (.if_icmp .eq 7, 3) := by decide +kernel
theorem dX9_hasWindow_10 : decode cX9_hasWindow 10 = .ok (.iconst 1, 1) := by decide +kernel
theorem dX9_hasWindow_11 : decode cX9_hasWindow 11 = .ok (.goto 4, 3) := by decide +kernel
theorem dX9_hasWindow_14 : decode cX9_hasWindow 14 = .ok (.iconst 0, 1) := by decide +kernel
theorem dX9_hasWindow_15 : decode cX9_hasWindow 15 = .ok (.ireturn, 1) := by decide +kernel
theorem dX9_records_0 : decode cX9_records 0 = .ok (.aload_n 0, 1) := by decide +kernel
theorem dX9_records_1 : decode cX9_records 1 = .ok (.getfield 43, 3) := by decide +kernel
theorem dX9_records_4 : decode cX9_records 4 = .ok (.bipush 6, 2) := by decide +kernel
theorem dX9_records_6 : decode cX9_records 6 = .ok (.if_icmp .ne 44, 3) := by decide +kernel
theorem dX9_records_9 : decode cX9_records 9 = .ok (.iconst 0, 1) := by decide +kernel
theorem dX9_records_10 : decode cX9_records 10 = .ok (.istore_n 1, 1) := by decide +kernel
theorem dX9_records_11 : decode cX9_records 11 = .ok (.iload_n 1, 1) := by decide +kernel
theorem dX9_records_12 : decode cX9_records 12 = .ok (.sipush 1520, 3) := by decide +kernel
theorem dX9_records_15 : decode cX9_records 15 = .ok (.if_icmp .ge 25, 3) := by decide +kernel
theorem dX9_records_18 : decode cX9_records 18 = .ok (.aload_n 0, 1) := by decide +kernel
theorem dX9_records_19 : decode cX9_records 19 = .ok (.getfield 16, 3) := by decide +kernel
theorem dX9_records_22 : decode cX9_records 22 = .ok (.iload_n 1, 1) := by decide +kernel
theorem dX9_records_23 : decode cX9_records 23 = .ok (.aload_n 0, 1) := by decide +kernel
theorem dX9_records_24 : decode cX9_records 24 = .ok (.getfield 16, 3) := by decide +kernel
theorem dX9_records_27 : decode cX9_records 27 = .ok (.iload_n 1, 1) := by decide +kernel
theorem dX9_records_28 : decode cX9_records 28 = .ok (.sipush 304, 3) := by decide +kernel
theorem dX9_records_31 : decode cX9_records 31 = .ok (.iadd, 1) := by decide +kernel
theorem dX9_records_32 : decode cX9_records 32 = .ok (.iaload, 1) := by decide +kernel
theorem dX9_records_33 : decode cX9_records 33 = .ok (.iastore, 1) := by decide +kernel
theorem dX9_records_34 : decode cX9_records 34 = .ok (.iinc 1 1, 3) := by decide +kernel
theorem dX9_records_37 : decode cX9_records 37 = .ok (.goto (-26), 3) := by decide +kernel
theorem dX9_records_40 : decode cX9_records 40 = .ok (.aload_n 0, 1) := by decide +kernel
theorem dX9_records_41 : decode cX9_records 41 = .ok (.dup, 1) := by decide +kernel
theorem dX9_records_42 : decode cX9_records 42 = .ok (.getfield 43, 3) := by decide +kernel
theorem dX9_records_45 : decode cX9_records 45 = .ok (.iconst 1, 1) := by decide +kernel
theorem dX9_records_46 : decode cX9_records 46 = .ok (.isub, 1) := by decide +kernel
theorem dX9_records_47 : decode cX9_records 47 = .ok (.putfield 43, 3) := by decide +kernel
theorem dX9_records_50 : decode cX9_records 50 = .ok (.iconst 0, 1) := by decide +kernel
theorem dX9_records_51 : decode cX9_records 51 = .ok (.istore_n 1, 1) := by decide +kernel
theorem dX9_records_52 : decode cX9_records 52 = .ok (.iload_n 1, 1) := by decide +kernel
theorem dX9_records_53 : decode cX9_records 53 = .ok (.sipush 304, 3) := by decide +kernel
theorem dX9_records_56 : decode cX9_records 56 = .ok (.if_icmp .ge 30, 3) := by decide +kernel
theorem dX9_records_59 : decode cX9_records 59 = .ok (.aload_n 0, 1) := by decide +kernel
theorem dX9_records_60 : decode cX9_records 60 = .ok (.getfield 16, 3) := by decide +kernel
theorem dX9_records_63 : decode cX9_records 63 = .ok (.sipush 304, 3) := by decide +kernel
theorem dX9_records_66 : decode cX9_records 66 = .ok (.aload_n 0, 1) := by decide +kernel
theorem dX9_records_67 : decode cX9_records 67 = .ok (.getfield 43, 3) := by decide +kernel
theorem dX9_records_70 : decode cX9_records 70 = .ok (.imul, 1) := by decide +kernel
theorem dX9_records_71 : decode cX9_records 71 = .ok (.iload_n 1, 1) := by decide +kernel
theorem dX9_records_72 : decode cX9_records 72 = .ok (.iadd, 1) := by decide +kernel
theorem dX9_records_73 : decode cX9_records 73 = .ok (.aload_n 0, 1) := by decide +kernel
theorem dX9_records_74 : decode cX9_records 74 = .ok (.getfield 7, 3) := by decide +kernel
theorem dX9_records_77 : decode cX9_records 77 = .ok (.iload_n 1, 1) := by decide +kernel
theorem dX9_records_78 : decode cX9_records 78 = .ok (.iaload, 1) := by decide +kernel
theorem dX9_records_79 : decode cX9_records 79 = .ok (.iastore, 1) := by decide +kernel
theorem dX9_records_80 : decode cX9_records 80 = .ok (.iinc 1 1, 3) := by decide +kernel
theorem dX9_records_83 : decode cX9_records 83 = .ok (.goto (-31), 3) := by decide +kernel
theorem dX9_records_86 : decode cX9_records 86 = .ok (.aload_n 0, 1) := by decide +kernel
theorem dX9_records_87 : decode cX9_records 87 = .ok (.dup, 1) := by decide +kernel
theorem dX9_records_88 : decode cX9_records 88 = .ok (.getfield 43, 3) := by decide +kernel
theorem dX9_records_91 : decode cX9_records 91 = .ok (.iconst 1, 1) := by decide +kernel
theorem dX9_records_92 : decode cX9_records 92 = .ok (.iadd, 1) := by decide +kernel
theorem dX9_records_93 : decode cX9_records 93 = .ok (.putfield 43, 3) := by decide +kernel
theorem dX9_records_96 : decode cX9_records 96 = .ok (.return_, 1) := by decide +kernel
theorem dX9_putAside_0 : decode cX9_putAside 0 = .ok (.iconst 0, 1) := by decide +kernel
theorem dX9_putAside_1 : decode cX9_putAside 1 = .ok (.istore_n 1, 1) := by decide +kernel
theorem dX9_putAside_2 : decode cX9_putAside 2 = .ok (.iload_n 1, 1) := by decide +kernel
theorem dX9_putAside_3 : decode cX9_putAside 3 = .ok (.sipush 304, 3) := by decide +kernel
theorem dX9_putAside_6 : decode cX9_putAside 6 = .ok (.if_icmp .ge 21, 3) := by decide +kernel
theorem dX9_putAside_9 : decode cX9_putAside 9 = .ok (.aload_n 0, 1) := by decide +kernel
theorem dX9_putAside_10 : decode cX9_putAside 10 = .ok (.getfield 13, 3) := by decide +kernel
theorem dX9_putAside_13 : decode cX9_putAside 13 = .ok (.iload_n 1, 1) := by decide +kernel
theorem dX9_putAside_14 : decode cX9_putAside 14 = .ok (.aload_n 0, 1) := by decide +kernel
theorem dX9_putAside_15 : decode cX9_putAside 15 = .ok (.getfield 7, 3) := by decide +kernel
theorem dX9_putAside_18 : decode cX9_putAside 18 = .ok (.iload_n 1, 1) := by decide +kernel
theorem dX9_putAside_19 : decode cX9_putAside 19 = .ok (.iaload, 1) := by decide +kernel
theorem dX9_putAside_20 : decode cX9_putAside 20 = .ok (.iastore, 1) := by decide +kernel
theorem dX9_putAside_21 : decode cX9_putAside 21 = .ok (.iinc 1 1, 3) := by decide +kernel
theorem dX9_putAside_24 : decode cX9_putAside 24 = .ok (.goto (-22), 3) := by decide +kernel
theorem dX9_putAside_27 : decode cX9_putAside 27 = .ok (.return_, 1) := by decide +kernel
theorem dX9_takeBack_0 : decode cX9_takeBack 0 = .ok (.iconst 0, 1) := by decide +kernel
theorem dX9_takeBack_1 : decode cX9_takeBack 1 = .ok (.istore_n 1, 1) := by decide +kernel
theorem dX9_takeBack_2 : decode cX9_takeBack 2 = .ok (.iload_n 1, 1) := by decide +kernel
theorem dX9_takeBack_3 : decode cX9_takeBack 3 = .ok (.sipush 304, 3) := by decide +kernel
theorem dX9_takeBack_6 : decode cX9_takeBack 6 = .ok (.if_icmp .ge 21, 3) := by decide +kernel
theorem dX9_takeBack_9 : decode cX9_takeBack 9 = .ok (.aload_n 0, 1) := by decide +kernel
theorem dX9_takeBack_10 : decode cX9_takeBack 10 = .ok (.getfield 7, 3) := by decide +kernel
theorem dX9_takeBack_13 : decode cX9_takeBack 13 = .ok (.iload_n 1, 1) := by decide +kernel
theorem dX9_takeBack_14 : decode cX9_takeBack 14 = .ok (.aload_n 0, 1) := by decide +kernel
theorem dX9_takeBack_15 : decode cX9_takeBack 15 = .ok (.getfield 13, 3) := by decide +kernel
theorem dX9_takeBack_18 : decode cX9_takeBack 18 = .ok (.iload_n 1, 1) := by decide +kernel
theorem dX9_takeBack_19 : decode cX9_takeBack 19 = .ok (.iaload, 1) := by decide +kernel
theorem dX9_takeBack_20 : decode cX9_takeBack 20 = .ok (.iastore, 1) := by decide +kernel
theorem dX9_takeBack_21 : decode cX9_takeBack 21 = .ok (.iinc 1 1, 3) := by decide +kernel
theorem dX9_takeBack_24 : decode cX9_takeBack 24 = .ok (.goto (-22), 3) := by decide +kernel
theorem dX9_takeBack_27 : decode cX9_takeBack 27 = .ok (.return_, 1) := by decide +kernel
set_option maxRecDepth 20000 in
theorem ggX9_on_X9_of : GoodIn wsX9_on wsX9_of := goodIn_r _ [6, 1, 10, 11, 12, 13, 14, 15, 16, 17, 18, 19, 20, 21, 22] rfl (by decide +kernel)
set_option maxRecDepth 20000 in
theorem gX9_on_X9_of : GoodIn wsX9_on (wsV RX9 46 RX9 yX9_of wsX9_of) := goodIn_app (goodIn_r _ [2, 3, 4, 5] rfl (by decide +kernel)) ggX9_on_X9_of
set_option maxRecDepth 20000 in
theorem ggX9_on_X9_in : GoodIn wsX9_on wsX9_in := goodIn_r _ [9] rfl (by decide +kernel)
set_option maxRecDepth 20000 in
theorem gX9_on_X9_in : GoodIn wsX9_on (va_wsS RX9 39 yX9_in wsX9_in) := goodIn_app (goodIn_r _ [7, 8, 5] rfl (by decide +kernel)) ggX9_on_X9_in
theorem dX9_on_0 : decode cX9_on 0 = .ok (.iconst (-1), 1) := by decide +kernel
theorem dX9_on_1 : decode cX9_on 1 = .ok (.istore_n 3, 1) := by decide +kernel
theorem dX9_on_2 : decode cX9_on 2 = .ok (.iconst 0, 1) := by decide +kernel
theorem dX9_on_3 : decode cX9_on 3 = .ok (.istore 4, 2) := by decide +kernel
theorem dX9_on_5 : decode cX9_on 5 = .ok (.iload 4, 2) := by decide +kernel
theorem dX9_on_7 : decode cX9_on 7 = .ok (.aload_n 0, 1) := by decide +kernel
theorem dX9_on_8 : decode cX9_on 8 = .ok (.getfield 7, 3) := by decide +kernel
theorem dX9_on_11 : decode cX9_on 11 = .ok (.iconst 0, 1) := by decide +kernel
theorem dX9_on_12 : decode cX9_on 12 = .ok (.iaload, 1) := by decide +kernel
theorem dX9_on_13 : decode cX9_on 13 = .ok (.if_icmp .ge 75, 3) := by decide +kernel
theorem dX9_on_16 : decode cX9_on 16 = .ok (.iload 4, 2) := by decide +kernel
theorem dX9_on_18 : decode cX9_on 18 = .ok (.aload_n 0, 1) := by decide +kernel
theorem dX9_on_19 : decode cX9_on 19 = .ok (.getfield 7, 3) := by decide +kernel
theorem dX9_on_22 : decode cX9_on 22 = .ok (.iconst 1, 1) := by decide +kernel
theorem dX9_on_23 : decode cX9_on 23 = .ok (.iaload, 1) := by decide +kernel
theorem dX9_on_24 : decode cX9_on 24 = .ok (.if_icmp .eq 43, 3) := by decide +kernel
theorem dX9_on_27 : decode cX9_on 27 = .ok (.aload_n 0, 1) := by decide +kernel
theorem dX9_on_28 : decode cX9_on 28 = .ok (.iload 4, 2) := by decide +kernel
theorem dX9_on_30 : decode cX9_on 30 = .ok (.iconst 1, 1) := by decide +kernel
theorem dX9_on_31 : decode cX9_on 31 = .ok (.invokevirtual 46, 3) := by decide +kernel
theorem dX9_on_34 : decode cX9_on 34 = .ok (.iload_n 1, 1) := by decide +kernel
theorem dX9_on_35 : decode cX9_on 35 = .ok (.if_icmp .ne 32, 3) := by decide +kernel
theorem dX9_on_38 : decode cX9_on 38 = .ok (.iload_n 2, 1) := by decide +kernel
theorem dX9_on_39 : decode cX9_on 39 = .ok (.aload_n 0, 1) := by decide +kernel
theorem dX9_on_40 : decode cX9_on 40 = .ok (.iload 4, 2) := by decide +kernel
theorem dX9_on_42 : decode cX9_on 42 = .ok (.iconst 2, 1) := by decide +kernel
theorem dX9_on_43 : decode cX9_on 43 = .ok (.invokevirtual 46, 3) := by decide +kernel
theorem dX9_on_46 : decode cX9_on 46 = .ok (.isub, 1) := by decide +kernel
theorem dX9_on_47 : decode cX9_on 47 = .ok (.iconst 0, 1) := by decide +kernel
theorem dX9_on_48 : decode cX9_on 48 = .ok (.aload_n 0, 1) := by decide +kernel
theorem dX9_on_49 : decode cX9_on 49 = .ok (.iload 4, 2) := by decide +kernel
theorem dX9_on_51 : decode cX9_on 51 = .ok (.iconst 0, 1) := by decide +kernel
theorem dX9_on_52 : decode cX9_on 52 = .ok (.invokevirtual 46, 3) := by decide +kernel
theorem dX9_on_55 : decode cX9_on 55 = .ok (.iconst 1, 1) := by decide +kernel
theorem dX9_on_56 : decode cX9_on 56 = .ok (.isub, 1) := by decide +kernel
theorem dX9_on_57 : decode cX9_on 57 = .ok (.invokestatic 39, 3) := by decide +kernel
theorem dX9_on_60 : decode cX9_on 60 = .ok (.ifCond .eq 7, 3) := by decide +kernel
theorem dX9_on_63 : decode cX9_on 63 = .ok (.iconst 1, 1) := by decide +kernel
theorem dX9_on_64 : decode cX9_on 64 = .ok (.goto 4, 3) := by decide +kernel
theorem dX9_on_67 : decode cX9_on 67 = .ok (.iconst 0, 1) := by decide +kernel
theorem dX9_on_68 : decode cX9_on 68 = .ok (.istore 5, 2) := by decide +kernel
theorem dX9_on_70 : decode cX9_on 70 = .ok (.iload 5, 2) := by decide +kernel
theorem dX9_on_72 : decode cX9_on 72 = .ok (.ifCond .eq 8, 3) := by decide +kernel
theorem dX9_on_75 : decode cX9_on 75 = .ok (.iload 4, 2) := by decide +kernel
theorem dX9_on_77 : decode cX9_on 77 = .ok (.goto 4, 3) := by decide +kernel
theorem dX9_on_80 : decode cX9_on 80 = .ok (.iload_n 3, 1) := by decide +kernel
theorem dX9_on_81 : decode cX9_on 81 = .ok (.istore_n 3, 1) := by decide +kernel
theorem dX9_on_82 : decode cX9_on 82 = .ok (.iinc 4 1, 3) := by decide +kernel
theorem dX9_on_85 : decode cX9_on 85 = .ok (.goto (-80), 3) := by decide +kernel
theorem dX9_on_88 : decode cX9_on 88 = .ok (.iload_n 3, 1) := by decide +kernel
theorem dX9_on_89 : decode cX9_on 89 = .ok (.ireturn, 1) := by decide +kernel
set_option maxRecDepth 20000 in
theorem ggX9_fits_X9_on : GoodIn wsX9_fits wsX9_on := goodIn_r _ [5, 6, 7, 8, 9, 4, 10, 11, 12, 13, 14, 15, 16, 17, 18, 19, 20, 21, 22, 23, 24, 25, 26] rfl (by decide +kernel)
set_option maxRecDepth 20000 in
theorem gX9_fits_X9_on : GoodIn wsX9_fits (wsV RX9 50 RX9 yX9_on wsX9_on) := goodIn_app (goodIn_r _ [1, 2, 3, 4] rfl (by decide +kernel)) ggX9_fits_X9_on
theorem dX9_fits_0 : decode cX9_fits 0 = .ok (.iload_n 3, 1) := by decide +kernel
theorem dX9_fits_1 : decode cX9_fits 1 = .ok (.iload_n 1, 1) := by decide +kernel
theorem dX9_fits_2 : decode cX9_fits 2 = .ok (.iadd, 1) := by decide +kernel
theorem dX9_fits_3 : decode cX9_fits 3 = .ok (.bipush 20, 2) := by decide +kernel
theorem dX9_fits_5 : decode cX9_fits 5 = .ok (.if_icmp .gt 7, 3) := by decide +kernel
theorem dX9_fits_8 : decode cX9_fits 8 = .ok (.iconst 1, 1) := by decide +kernel
theorem dX9_fits_9 : decode cX9_fits 9 = .ok (.goto 4, 3) := by decide +kernel
theorem dX9_fits_12 : decode cX9_fits 12 = .ok (.iconst 0, 1) := by decide +kernel
theorem dX9_fits_13 : decode cX9_fits 13 = .ok (.istore 4, 2) := by decide +kernel
theorem dX9_fits_15 : decode cX9_fits 15 = .ok (.iload_n 3, 1) := by decide +kernel
theorem dX9_fits_16 : decode cX9_fits 16 = .ok (.istore 5, 2) := by decide +kernel
theorem dX9_fits_18 : decode cX9_fits 18 = .ok (.iload 5, 2) := by decide +kernel
theorem dX9_fits_20 : decode cX9_fits 20 = .ok (.iload_n 3, 1) := by decide +kernel
theorem dX9_fits_21 : decode cX9_fits 21 = .ok (.iload_n 1, 1) := by decide +kernel
theorem dX9_fits_22 : decode cX9_fits 22 = .ok (.iadd, 1) := by decide +kernel
theorem dX9_fits_23 : decode cX9_fits 23 = .ok (.if_icmp .ge 32, 3) := by decide +kernel
theorem dX9_fits_26 : decode cX9_fits 26 = .ok (.iload 4, 2) := by decide +kernel
theorem dX9_fits_28 : decode cX9_fits 28 = .ok (.ifCond .eq 27, 3) := by decide +kernel
theorem dX9_fits_31 : decode cX9_fits 31 = .ok (.aload_n 0, 1) := by decide +kernel
theorem dX9_fits_32 : decode cX9_fits 32 = .ok (.iload_n 2, 1) := by decide +kernel
theorem dX9_fits_33 : decode cX9_fits 33 = .ok (.iload 5, 2) := by decide +kernel
theorem dX9_fits_35 : decode cX9_fits 35 = .ok (.invokevirtual 50, 3) := by decide +kernel
theorem dX9_fits_38 : decode cX9_fits 38 = .ok (.iconst (-1), 1) := by decide +kernel
theorem dX9_fits_39 : decode cX9_fits 39 = .ok (.if_icmp .ne 7, 3) := by decide +kernel
theorem dX9_fits_42 : decode cX9_fits 42 = .ok (.iconst 1, 1) := by decide +kernel
theorem dX9_fits_43 : decode cX9_fits 43 = .ok (.goto 4, 3) := by decide +kernel
theorem dX9_fits_46 : decode cX9_fits 46 = .ok (.iconst 0, 1) := by decide +kernel
theorem dX9_fits_47 : decode cX9_fits 47 = .ok (.istore 4, 2) := by decide +kernel
theorem dX9_fits_49 : decode cX9_fits 49 = .ok (.iinc 5 1, 3) := by decide +kernel
theorem dX9_fits_52 : decode cX9_fits 52 = .ok (.goto (-34), 3) := by decide +kernel
theorem dX9_fits_55 : decode cX9_fits 55 = .ok (.iload 4, 2) := by decide +kernel
theorem dX9_fits_57 : decode cX9_fits 57 = .ok (.ireturn, 1) := by decide +kernel
set_option maxRecDepth 20000 in
theorem ggX9_place_X9_fits : GoodIn wsX9_place wsX9_fits := goodIn_r _ [5, 6, 7, 8, 4, 9, 10, 11, 12, 13, 14, 15, 16, 17, 18, 19, 20, 21, 22, 23, 24, 25, 26, 27, 28, 29, 30] rfl (by decide +kernel)
set_option maxRecDepth 20000 in
theorem gX9_place_X9_fits : GoodIn wsX9_place (wsV RX9 53 RX9 yX9_fits wsX9_fits) := goodIn_app (goodIn_r _ [1, 2, 3, 4] rfl (by decide +kernel)) ggX9_place_X9_fits
theorem dX9_place_0 : decode cX9_place 0 = .ok (.iconst 0, 1) := by decide +kernel
theorem dX9_place_1 : decode cX9_place 1 = .ok (.istore_n 2, 1) := by decide +kernel
theorem dX9_place_2 : decode cX9_place 2 = .ok (.iload_n 2, 1) := by decide +kernel
theorem dX9_place_3 : decode cX9_place 3 = .ok (.bipush 40, 2) := by decide +kernel
theorem dX9_place_5 : decode cX9_place 5 = .ok (.if_icmp .ge 34, 3) := by decide +kernel
theorem dX9_place_8 : decode cX9_place 8 = .ok (.aload_n 0, 1) := by decide +kernel
theorem dX9_place_9 : decode cX9_place 9 = .ok (.iload_n 1, 1) := by decide +kernel
theorem dX9_place_10 : decode cX9_place 10 = .ok (.iload_n 2, 1) := by decide +kernel
theorem dX9_place_11 : decode cX9_place 11 = .ok (.iconst 2, 1) := by decide +kernel
theorem dX9_place_12 : decode cX9_place 12 = .ok (.irem, 1) := by decide +kernel
theorem dX9_place_13 : decode cX9_place 13 = .ok (.iload_n 2, 1) := by decide +kernel
theorem dX9_place_14 : decode cX9_place 14 = .ok (.iconst 2, 1) := by decide +kernel
theorem dX9_place_15 : decode cX9_place 15 = .ok (.idiv, 1) := by decide +kernel
theorem dX9_place_16 : decode cX9_place 16 = .ok (.invokevirtual 53, 3) := by decide +kernel
theorem dX9_place_19 : decode cX9_place 19 = .ok (.ifCond .eq 14, 3) := by decide +kernel
theorem dX9_place_22 : decode cX9_place 22 = .ok (.bipush 20, 2) := by decide +kernel
theorem dX9_place_24 : decode cX9_place 24 = .ok (.iload_n 2, 1) := by decide +kernel
theorem dX9_place_25 : decode cX9_place 25 = .ok (.iconst 2, 1) := by decide +kernel
theorem dX9_place_26 : decode cX9_place 26 = .ok (.irem, 1) := by decide +kernel
theorem dX9_place_27 : decode cX9_place 27 = .ok (.imul, 1) := by decide +kernel
theorem dX9_place_28 : decode cX9_place 28 = .ok (.iload_n 2, 1) := by decide +kernel
theorem dX9_place_29 : decode cX9_place 29 = .ok (.iconst 2, 1) := by decide +kernel
theorem dX9_place_30 : decode cX9_place 30 = .ok (.idiv, 1) := by decide +kernel
theorem dX9_place_31 : decode cX9_place 31 = .ok (.iadd, 1) := by decide +kernel
theorem dX9_place_32 : decode cX9_place 32 = .ok (.ireturn, 1) := by decide +kernel
theorem dX9_place_33 : decode cX9_place 33 = .ok (.iinc 2 1, 3) := by decide +kernel
theorem dX9_place_36 : decode cX9_place 36 = .ok (.goto (-34), 3) := by decide +kernel
theorem dX9_place_39 : decode cX9_place 39 = .ok (.iconst (-1), 1) := by decide +kernel
theorem dX9_place_40 : decode cX9_place 40 = .ok (.ireturn, 1) := by decide +kernel
set_option maxRecDepth 20000 in
theorem ggX9_way_X9_of : GoodIn wsX9_way wsX9_of := goodIn_r _ [5, 6, 7, 8, 9, 10, 11, 12, 13, 14, 15, 16, 17, 18, 19] rfl (by decide +kernel)
set_option maxRecDepth 20000 in
theorem gX9_way_X9_of : GoodIn wsX9_way (wsV RX9 46 RX9 yX9_of wsX9_of) := goodIn_app (goodIn_r _ [1, 2, 3, 4] rfl (by decide +kernel)) ggX9_way_X9_of
theorem dX9_way_0 : decode cX9_way 0 = .ok (.aload_n 0, 1) := by decide +kernel
theorem dX9_way_1 : decode cX9_way 1 = .ok (.iload_n 1, 1) := by decide +kernel
theorem dX9_way_2 : decode cX9_way 2 = .ok (.iconst 2, 1) := by decide +kernel
theorem dX9_way_3 : decode cX9_way 3 = .ok (.invokevirtual 46, 3) := by decide +kernel
theorem dX9_way_6 : decode cX9_way 6 = .ok (.iconst 2, 1) := by decide +kernel
theorem dX9_way_7 : decode cX9_way 7 = .ok (.aload_n 0, 1) := by decide +kernel
theorem dX9_way_8 : decode cX9_way 8 = .ok (.iload_n 1, 1) := by decide +kernel
theorem dX9_way_9 : decode cX9_way 9 = .ok (.iconst 1, 1) := by decide +kernel
theorem dX9_way_10 : decode cX9_way 10 = .ok (.invokevirtual 46, 3) := by decide +kernel
theorem dX9_way_13 : decode cX9_way 13 = .ok (.imul, 1) := by decide +kernel
theorem dX9_way_14 : decode cX9_way 14 = .ok (.iadd, 1) := by decide +kernel
theorem dX9_way_15 : decode cX9_way 15 = .ok (.ireturn, 1) := by decide +kernel
set_option maxRecDepth 20000 in
theorem ggX9_puts_X9_lay : GoodIn wsX9_puts wsX9_lay := goodIn_r _ [5, 6, 7, 8, 9, 10, 11, 12, 13, 14, 15, 16, 17, 18, 19] rfl (by decide +kernel)
set_option maxRecDepth 20000 in
theorem gX9_puts_X9_lay : GoodIn wsX9_puts (wsV RX9 56 RX9 yX9_lay wsX9_lay) := goodIn_app (goodIn_r _ [1, 2, 3, 4] rfl (by decide +kernel)) ggX9_puts_X9_lay
theorem dX9_puts_0 : decode cX9_puts 0 = .ok (.aload_n 0, 1) := by decide +kernel
theorem dX9_puts_1 : decode cX9_puts 1 = .ok (.iload_n 1, 1) := by decide +kernel
theorem dX9_puts_2 : decode cX9_puts 2 = .ok (.iconst 1, 1) := by decide +kernel
theorem dX9_puts_3 : decode cX9_puts 3 = .ok (.iload_n 2, 1) := by decide +kernel
theorem dX9_puts_4 : decode cX9_puts 4 = .ok (.bipush 20, 2) := by decide +kernel
theorem dX9_puts_6 : decode cX9_puts 6 = .ok (.idiv, 1) := by decide +kernel
theorem dX9_puts_7 : decode cX9_puts 7 = .ok (.invokevirtual 56, 3) := by decide +kernel
theorem dX9_puts_10 : decode cX9_puts 10 = .ok (.aload_n 0, 1) := by decide +kernel
theorem dX9_puts_11 : decode cX9_puts 11 = .ok (.iload_n 1, 1) := by decide +kernel
theorem dX9_puts_12 : decode cX9_puts 12 = .ok (.iconst 2, 1) := by decide +kernel
theorem dX9_puts_13 : decode cX9_puts 13 = .ok (.iload_n 2, 1) := by decide +kernel
theorem dX9_puts_14 : decode cX9_puts 14 = .ok (.bipush 20, 2) := by decide +kernel
theorem dX9_puts_16 : decode cX9_puts 16 = .ok (.irem, 1) := by decide +kernel
theorem dX9_puts_17 : decode cX9_puts 17 = .ok (.invokevirtual 56, 3) := by decide +kernel
theorem dX9_puts_20 : decode cX9_puts 20 = .ok (.return_, 1) := by decide +kernel
set_option maxRecDepth 20000 in
theorem ggX9_freeMany_X9_on : GoodIn wsX9_freeMany wsX9_on := goodIn_r _ [5, 6, 7, 8, 9, 4, 10, 11, 12, 13, 14, 15, 16, 17, 18, 19, 20, 21, 22, 23, 24, 25, 26] rfl (by decide +kernel)
set_option maxRecDepth 20000 in
theorem gX9_freeMany_X9_on : GoodIn wsX9_freeMany (wsV RX9 50 RX9 yX9_on wsX9_on) := goodIn_app (goodIn_r _ [1, 2, 3, 4] rfl (by decide +kernel)) ggX9_freeMany_X9_on
theorem dX9_freeMany_0 : decode cX9_freeMany 0 = .ok (.iconst 0, 1) := by decide +kernel
theorem dX9_freeMany_1 : decode cX9_freeMany 1 = .ok (.istore_n 1, 1) := by decide +kernel
theorem dX9_freeMany_2 : decode cX9_freeMany 2 = .ok (.iconst 0, 1) := by decide +kernel
theorem dX9_freeMany_3 : decode cX9_freeMany 3 = .ok (.istore_n 2, 1) := by decide +kernel
theorem dX9_freeMany_4 : decode cX9_freeMany 4 = .ok (.iload_n 2, 1) := by decide +kernel
theorem dX9_freeMany_5 : decode cX9_freeMany 5 = .ok (.bipush 40, 2) := by decide +kernel
theorem dX9_freeMany_7 : decode cX9_freeMany 7 = .ok (.if_icmp .ge 33, 3) := by decide +kernel
theorem dX9_freeMany_10 : decode cX9_freeMany 10 = .ok (.iload_n 1, 1) := by decide +kernel
theorem dX9_freeMany_11 : decode cX9_freeMany 11 = .ok (.aload_n 0, 1) := by decide +kernel
theorem dX9_freeMany_12 : decode cX9_freeMany 12 = .ok (.iload_n 2, 1) := by decide +kernel
theorem dX9_freeMany_13 : decode cX9_freeMany 13 = .ok (.bipush 20, 2) := by decide +kernel
theorem dX9_freeMany_15 : decode cX9_freeMany 15 = .ok (.idiv, 1) := by decide +kernel
theorem dX9_freeMany_16 : decode cX9_freeMany 16 = .ok (.iload_n 2, 1) := by decide +kernel
theorem dX9_freeMany_17 : decode cX9_freeMany 17 = .ok (.bipush 20, 2) := by decide +kernel
theorem dX9_freeMany_19 : decode cX9_freeMany 19 = .ok (.irem, 1) := by decide +kernel
theorem dX9_freeMany_20 : decode cX9_freeMany 20 = .ok (.invokevirtual 50, 3) := by decide +kernel
theorem dX9_freeMany_23 : decode cX9_freeMany 23 = .ok (.iconst (-1), 1) := by decide +kernel
theorem dX9_freeMany_24 : decode cX9_freeMany 24 = .ok (.if_icmp .ne 7, 3) := by decide +kernel
theorem dX9_freeMany_27 : decode cX9_freeMany 27 = .ok (.iconst 1, 1) := by decide +kernel
theorem dX9_freeMany_28 : decode cX9_freeMany 28 = .ok (.goto 4, 3) := by decide +kernel
theorem dX9_freeMany_31 : decode cX9_freeMany 31 = .ok (.iconst 0, 1) := by decide +kernel
theorem dX9_freeMany_32 : decode cX9_freeMany 32 = .ok (.iadd, 1) := by decide +kernel
theorem dX9_freeMany_33 : decode cX9_freeMany 33 = .ok (.istore_n 1, 1) := by decide +kernel
theorem dX9_freeMany_34 : decode cX9_freeMany 34 = .ok (.iinc 2 1, 3) := by decide +kernel
theorem dX9_freeMany_37 : decode cX9_freeMany 37 = .ok (.goto (-33), 3) := by decide +kernel
theorem dX9_freeMany_40 : decode cX9_freeMany 40 = .ok (.iload_n 1, 1) := by decide +kernel
theorem dX9_freeMany_41 : decode cX9_freeMany 41 = .ok (.ireturn, 1) := by decide +kernel
set_option maxRecDepth 20000 in
theorem ggX9_gap_X9_on : GoodIn wsX9_gap wsX9_on := goodIn_r _ [5, 6, 7, 8, 9, 4, 10, 11, 12, 13, 14, 15, 16, 17, 18, 19, 20, 21, 22, 23, 24, 25, 26] rfl (by decide +kernel)
set_option maxRecDepth 20000 in
theorem gX9_gap_X9_on : GoodIn wsX9_gap (wsV RX9 50 RX9 yX9_on wsX9_on) := goodIn_app (goodIn_r _ [1, 2, 3, 4] rfl (by decide +kernel)) ggX9_gap_X9_on
theorem dX9_gap_0 : decode cX9_gap 0 = .ok (.iconst 0, 1) := by decide +kernel
theorem dX9_gap_1 : decode cX9_gap 1 = .ok (.istore_n 2, 1) := by decide +kernel
theorem dX9_gap_2 : decode cX9_gap 2 = .ok (.iconst 0, 1) := by decide +kernel
theorem dX9_gap_3 : decode cX9_gap 3 = .ok (.istore_n 3, 1) := by decide +kernel
theorem dX9_gap_4 : decode cX9_gap 4 = .ok (.iconst 0, 1) := by decide +kernel
theorem dX9_gap_5 : decode cX9_gap 5 = .ok (.istore 4, 2) := by decide +kernel
theorem dX9_gap_7 : decode cX9_gap 7 = .ok (.iload 4, 2) := by decide +kernel
theorem dX9_gap_9 : decode cX9_gap 9 = .ok (.bipush 20, 2) := by decide +kernel
theorem dX9_gap_11 : decode cX9_gap 11 = .ok (.if_icmp .ge 39, 3) := by decide +kernel
theorem dX9_gap_14 : decode cX9_gap 14 = .ok (.aload_n 0, 1) := by decide +kernel
theorem dX9_gap_15 : decode cX9_gap 15 = .ok (.iload_n 1, 1) := by decide +kernel
theorem dX9_gap_16 : decode cX9_gap 16 = .ok (.iload 4, 2) := by decide +kernel
theorem dX9_gap_18 : decode cX9_gap 18 = .ok (.invokevirtual 50, 3) := by decide +kernel
theorem dX9_gap_21 : decode cX9_gap 21 = .ok (.iconst (-1), 1) := by decide +kernel
theorem dX9_gap_22 : decode cX9_gap 22 = .ok (.if_icmp .ne 9, 3) := by decide +kernel
theorem dX9_gap_25 : decode cX9_gap 25 = .ok (.iload_n 3, 1) := by decide +kernel
theorem dX9_gap_26 : decode cX9_gap 26 = .ok (.iconst 1, 1) := by decide +kernel
theorem dX9_gap_27 : decode cX9_gap 27 = .ok (.iadd, 1) := by decide +kernel
theorem dX9_gap_28 : decode cX9_gap 28 = .ok (.goto 4, 3) := by decide +kernel
theorem dX9_gap_31 : decode cX9_gap 31 = .ok (.iconst 0, 1) := by decide +kernel
theorem dX9_gap_32 : decode cX9_gap 32 = .ok (.istore_n 3, 1) := by decide +kernel
theorem dX9_gap_33 : decode cX9_gap 33 = .ok (.iload_n 3, 1) := by decide +kernel
theorem dX9_gap_34 : decode cX9_gap 34 = .ok (.iload_n 2, 1) := by decide +kernel
theorem dX9_gap_35 : decode cX9_gap 35 = .ok (.if_icmp .le 7, 3) := by decide +kernel
theorem dX9_gap_38 : decode cX9_gap 38 = .ok (.iload_n 3, 1) := by decide +kernel
theorem dX9_gap_39 : decode cX9_gap 39 = .ok (.goto 4, 3) := by decide +kernel
theorem dX9_gap_42 : decode cX9_gap 42 = .ok (.iload_n 2, 1) := by decide +kernel
theorem dX9_gap_43 : decode cX9_gap 43 = .ok (.istore_n 2, 1) := by decide +kernel
theorem dX9_gap_44 : decode cX9_gap 44 = .ok (.iinc 4 1, 3) := by decide +kernel
theorem dX9_gap_47 : decode cX9_gap 47 = .ok (.goto (-40), 3) := by decide +kernel
theorem dX9_gap_50 : decode cX9_gap 50 = .ok (.iload_n 2, 1) := by decide +kernel
theorem dX9_gap_51 : decode cX9_gap 51 = .ok (.ireturn, 1) := by decide +kernel
theorem dX9_notesTrip_0 : decode cX9_notesTrip 0 = .ok (.bipush 15, 2) := by decide +kernel
theorem dX9_notesTrip_2 : decode cX9_notesTrip 2 = .ok (.istore_n 3, 1) := by decide +kernel
theorem dX9_notesTrip_3 : decode cX9_notesTrip 3 = .ok (.iload_n 3, 1) := by decide +kernel
theorem dX9_notesTrip_4 : decode cX9_notesTrip 4 = .ok (.iconst 1, 1) := by decide +kernel
theorem dX9_notesTrip_5 : decode cX9_notesTrip 5 = .ok (.if_icmp .le 31, 3) := by decide +kernel
theorem dX9_notesTrip_8 : decode cX9_notesTrip 8 = .ok (.aload_n 0, 1) := by decide +kernel
theorem dX9_notesTrip_9 : decode cX9_notesTrip 9 = .ok (.getfield 7, 3) := by decide +kernel
theorem dX9_notesTrip_12 : decode cX9_notesTrip 12 = .ok (.sipush 207, 3) := by decide +kernel
theorem dX9_notesTrip_15 : decode cX9_notesTrip 15 = .ok (.iload_n 3, 1) := by decide +kernel
theorem dX9_notesTrip_16 : decode cX9_notesTrip 16 = .ok (.iadd, 1) := by decide +kernel
theorem dX9_notesTrip_17 : decode cX9_notesTrip 17 = .ok (.aload_n 0, 1) := by decide +kernel
theorem dX9_notesTrip_18 : decode cX9_notesTrip 18 = .ok (.getfield 7, 3) := by decide +kernel
theorem dX9_notesTrip_21 : decode cX9_notesTrip 21 = .ok (.sipush 207, 3) := by decide +kernel
theorem dX9_notesTrip_24 : decode cX9_notesTrip 24 = .ok (.iload_n 3, 1) := by decide +kernel
theorem dX9_notesTrip_25 : decode cX9_notesTrip 25 = .ok (.iadd, 1) := by decide +kernel
theorem dX9_notesTrip_26 : decode cX9_notesTrip 26 = .ok (.iconst 2, 1) := by decide +kernel
theorem dX9_notesTrip_27 : decode cX9_notesTrip 27 = .ok (.isub, 1) := by decide +kernel
theorem dX9_notesTrip_28 : decode cX9_notesTrip 28 = .ok (.iaload, 1) := by decide +kernel
theorem dX9_notesTrip_29 : decode cX9_notesTrip 29 = .ok (.iastore, 1) := by decide +kernel
theorem dX9_notesTrip_30 : decode cX9_notesTrip 30 = .ok (.iinc 3 (-1), 3) := by decide +kernel
theorem dX9_notesTrip_33 : decode cX9_notesTrip 33 = .ok (.goto (-30), 3) := by decide +kernel
theorem dX9_notesTrip_36 : decode cX9_notesTrip 36 = .ok (.aload_n 0, 1) := by decide +kernel
theorem dX9_notesTrip_37 : decode cX9_notesTrip 37 = .ok (.getfield 7, 3) := by decide +kernel
theorem dX9_notesTrip_40 : decode cX9_notesTrip 40 = .ok (.sipush 207, 3) := by decide +kernel
theorem dX9_notesTrip_43 : decode cX9_notesTrip 43 = .ok (.iload_n 1, 1) := by decide +kernel
theorem dX9_notesTrip_44 : decode cX9_notesTrip 44 = .ok (.iastore, 1) := by decide +kernel
theorem dX9_notesTrip_45 : decode cX9_notesTrip 45 = .ok (.aload_n 0, 1) := by decide +kernel
theorem dX9_notesTrip_46 : decode cX9_notesTrip 46 = .ok (.getfield 7, 3) := by decide +kernel
theorem dX9_notesTrip_49 : decode cX9_notesTrip 49 = .ok (.sipush 208, 3) := by decide +kernel
theorem dX9_notesTrip_52 : decode cX9_notesTrip 52 = .ok (.iload_n 2, 1) := by decide +kernel
theorem dX9_notesTrip_53 : decode cX9_notesTrip 53 = .ok (.iastore, 1) := by decide +kernel
theorem dX9_notesTrip_54 : decode cX9_notesTrip 54 = .ok (.aload_n 0, 1) := by decide +kernel
theorem dX9_notesTrip_55 : decode cX9_notesTrip 55 = .ok (.getfield 7, 3) := by decide +kernel
theorem dX9_notesTrip_58 : decode cX9_notesTrip 58 = .ok (.bipush 7, 2) := by decide +kernel
theorem dX9_notesTrip_60 : decode cX9_notesTrip 60 = .ok (.dup2, 1) := by decide +kernel
theorem dX9_notesTrip_61 : decode cX9_notesTrip 61 = .ok (.iaload, 1) := by decide +kernel
theorem dX9_notesTrip_62 : decode cX9_notesTrip 62 = .ok (.aload_n 0, 1) := by decide +kernel
theorem dX9_notesTrip_63 : decode cX9_notesTrip 63 = .ok (.getfield 7, 3) := by decide +kernel
theorem dX9_notesTrip_66 : decode cX9_notesTrip 66 = .ok (.bipush 7, 2) := by decide +kernel
theorem dX9_notesTrip_68 : decode cX9_notesTrip 68 = .ok (.iaload, 1) := by decide +kernel
theorem dX9_notesTrip_69 : decode cX9_notesTrip 69 = .ok (.bipush 8, 2) := by decide +kernel
theorem dX9_notesTrip_71 : decode cX9_notesTrip 71 = .ok (.if_icmp .ge 7, 3) := by decide +kernel
theorem dX9_notesTrip_74 : decode cX9_notesTrip 74 = .ok (.iconst 1, 1) := by decide +kernel
theorem dX9_notesTrip_75 : decode cX9_notesTrip 75 = .ok (.goto 4, 3) := by decide +kernel
theorem dX9_notesTrip_78 : decode cX9_notesTrip 78 = .ok (.iconst 0, 1) := by decide +kernel
theorem dX9_notesTrip_79 : decode cX9_notesTrip 79 = .ok (.iadd, 1) := by decide +kernel
theorem dX9_notesTrip_80 : decode cX9_notesTrip 80 = .ok (.iastore, 1) := by decide +kernel
theorem dX9_notesTrip_81 : decode cX9_notesTrip 81 = .ok (.aload_n 0, 1) := by decide +kernel
theorem dX9_notesTrip_82 : decode cX9_notesTrip 82 = .ok (.getfield 7, 3) := by decide +kernel
theorem dX9_notesTrip_85 : decode cX9_notesTrip 85 = .ok (.iconst 4, 1) := by decide +kernel
theorem dX9_notesTrip_86 : decode cX9_notesTrip 86 = .ok (.dup2, 1) := by decide +kernel
theorem dX9_notesTrip_87 : decode cX9_notesTrip 87 = .ok (.iaload, 1) := by decide +kernel
theorem dX9_notesTrip_88 : decode cX9_notesTrip 88 = .ok (.iload_n 1, 1) := by decide +kernel
theorem dX9_notesTrip_89 : decode cX9_notesTrip 89 = .ok (.iadd, 1) := by decide +kernel
theorem dX9_notesTrip_90 : decode cX9_notesTrip 90 = .ok (.iastore, 1) := by decide +kernel
theorem dX9_notesTrip_91 : decode cX9_notesTrip 91 = .ok (.return_, 1) := by decide +kernel
set_option maxRecDepth 20000 in
theorem ggX9_wayTo_X9_of : GoodIn wsX9_wayTo wsX9_of := goodIn_r _ [6, 1, 11, 12, 13, 14, 15, 16, 17, 18, 19, 20, 21, 22, 23] rfl (by decide +kernel)
set_option maxRecDepth 20000 in
theorem gX9_wayTo_X9_of : GoodIn wsX9_wayTo (wsV RX9 46 RX9 yX9_of wsX9_of) := goodIn_app (goodIn_r _ [2, 3, 4, 5] rfl (by decide +kernel)) ggX9_wayTo_X9_of
set_option maxRecDepth 20000 in
theorem ggX9_wayTo_X9_way : GoodIn wsX9_wayTo wsX9_way := goodIn_r _ [10, 2, 3, 4, 5, 6, 1, 11, 12, 13, 14, 15, 16, 17, 18, 19, 20, 21, 22, 23] rfl (by decide +kernel)
set_option maxRecDepth 20000 in
theorem gX9_wayTo_X9_way : GoodIn wsX9_wayTo (wsV RX9 60 RX9 yX9_way wsX9_way) := goodIn_app (goodIn_r _ [7, 8, 9, 5] rfl (by decide +kernel)) ggX9_wayTo_X9_way
theorem dX9_wayTo_0 : decode cX9_wayTo 0 = .ok (.aload_n 0, 1) := by decide +kernel
theorem dX9_wayTo_1 : decode cX9_wayTo 1 = .ok (.getfield 7, 3) := by decide +kernel
theorem dX9_wayTo_4 : decode cX9_wayTo 4 = .ok (.iconst 2, 1) := by decide +kernel
theorem dX9_wayTo_5 : decode cX9_wayTo 5 = .ok (.iaload, 1) := by decide +kernel
theorem dX9_wayTo_6 : decode cX9_wayTo 6 = .ok (.aload_n 0, 1) := by decide +kernel
theorem dX9_wayTo_7 : decode cX9_wayTo 7 = .ok (.iload_n 1, 1) := by decide +kernel
theorem dX9_wayTo_8 : decode cX9_wayTo 8 = .ok (.iconst 2, 1) := by decide +kernel
theorem dX9_wayTo_9 : decode cX9_wayTo 9 = .ok (.invokevirtual 46, 3) := by decide +kernel
theorem dX9_wayTo_12 : decode cX9_wayTo 12 = .ok (.isub, 1) := by decide +kernel
theorem dX9_wayTo_13 : decode cX9_wayTo 13 = .ok (.istore_n 2, 1) := by decide +kernel
theorem dX9_wayTo_14 : decode cX9_wayTo 14 = .ok (.iload_n 2, 1) := by decide +kernel
theorem dX9_wayTo_15 : decode cX9_wayTo 15 = .ok (.ifCond .ge 8, 3) := by decide +kernel
theorem dX9_wayTo_18 : decode cX9_wayTo 18 = .ok (.iload_n 2, 1) := by decide +kernel
theorem dX9_wayTo_19 : decode cX9_wayTo 19 = .ok (.ineg, 1) := by decide +kernel
theorem dX9_wayTo_20 : decode cX9_wayTo 20 = .ok (.goto 4, 3) := by decide +kernel
theorem dX9_wayTo_23 : decode cX9_wayTo 23 = .ok (.iload_n 2, 1) := by decide +kernel
theorem dX9_wayTo_24 : decode cX9_wayTo 24 = .ok (.aload_n 0, 1) := by decide +kernel
theorem dX9_wayTo_25 : decode cX9_wayTo 25 = .ok (.iload_n 1, 1) := by decide +kernel
theorem dX9_wayTo_26 : decode cX9_wayTo 26 = .ok (.invokevirtual 60, 3) := by decide +kernel
theorem dX9_wayTo_29 : decode cX9_wayTo 29 = .ok (.iadd, 1) := by decide +kernel
theorem dX9_wayTo_30 : decode cX9_wayTo 30 = .ok (.ireturn, 1) := by decide +kernel
set_option maxRecDepth 20000 in
theorem ggX9_fetchesIt_X9_wayTo : GoodIn wsX9_fetchesIt wsX9_wayTo := goodIn_r _ [6, 1, 7, 8, 9, 5, 10, 11, 12, 13, 14, 23, 24, 25, 26, 27, 28, 29, 30, 31, 32, 33, 34, 35] rfl (by decide +kernel)
set_option maxRecDepth 20000 in
theorem gX9_fetchesIt_X9_wayTo : GoodIn wsX9_fetchesIt (wsV RX9 64 RX9 yX9_wayTo wsX9_wayTo) := goodIn_app (goodIn_r _ [2, 3, 4, 5] rfl (by decide +kernel)) ggX9_fetchesIt_X9_wayTo
set_option maxRecDepth 20000 in
theorem ggX9_fetchesIt_X9_of : GoodIn wsX9_fetchesIt wsX9_of := goodIn_r _ [10, 1, 23, 24, 25, 26, 27, 28, 29, 30, 31, 32, 33, 34, 35] rfl (by decide +kernel)
set_option maxRecDepth 20000 in
theorem gX9_fetchesIt_X9_of : GoodIn wsX9_fetchesIt (wsV RX9 46 RX9 yX9_of wsX9_of) := goodIn_app (goodIn_r _ [7, 8, 9, 5] rfl (by decide +kernel)) ggX9_fetchesIt_X9_of
set_option maxRecDepth 20000 in
theorem ggX9_fetchesIt_X9_lay : GoodIn wsX9_fetchesIt wsX9_lay := goodIn_r _ [18, 1, 23, 24, 25, 26, 27, 28, 29, 30, 31, 32, 33, 34, 35] rfl (by decide +kernel)
set_option maxRecDepth 20000 in
theorem gX9_fetchesIt_X9_lay : GoodIn wsX9_fetchesIt (wsV RX9 56 RX9 yX9_lay wsX9_lay) := goodIn_app (goodIn_r _ [15, 16, 17, 5] rfl (by decide +kernel)) ggX9_fetchesIt_X9_lay
set_option maxRecDepth 20000 in
theorem ggX9_fetchesIt_X9_notesTrip : GoodIn wsX9_fetchesIt wsX9_notesTrip := goodIn_r _ [22, 1, 23, 24, 25, 26, 27, 28, 29, 30, 31, 32, 33, 34, 35] rfl (by decide +kernel)
set_option maxRecDepth 20000 in
theorem gX9_fetchesIt_X9_notesTrip : GoodIn wsX9_fetchesIt (wsV RX9 67 RX9 yX9_notesTrip wsX9_notesTrip) := goodIn_app (goodIn_r _ [19, 20, 21, 5] rfl (by decide +kernel)) ggX9_fetchesIt_X9_notesTrip
theorem dX9_fetchesIt_0 : decode cX9_fetchesIt 0 = .ok (.aload_n 0, 1) := by decide +kernel
theorem dX9_fetchesIt_1 : decode cX9_fetchesIt 1 = .ok (.iload_n 1, 1) := by decide +kernel
theorem dX9_fetchesIt_2 : decode cX9_fetchesIt 2 = .ok (.invokevirtual 64, 3) := by decide +kernel
theorem dX9_fetchesIt_5 : decode cX9_fetchesIt 5 = .ok (.istore_n 2, 1) := by decide +kernel
theorem dX9_fetchesIt_6 : decode cX9_fetchesIt 6 = .ok (.aload_n 0, 1) := by decide +kernel
theorem dX9_fetchesIt_7 : decode cX9_fetchesIt 7 = .ok (.getfield 7, 3) := by decide +kernel
theorem dX9_fetchesIt_10 : decode cX9_fetchesIt 10 = .ok (.iconst 2, 1) := by decide +kernel
theorem dX9_fetchesIt_11 : decode cX9_fetchesIt 11 = .ok (.iconst 0, 1) := by decide +kernel
theorem dX9_fetchesIt_12 : decode cX9_fetchesIt 12 = .ok (.iastore, 1) := by decide +kernel
theorem dX9_fetchesIt_13 : decode cX9_fetchesIt 13 = .ok (.aload_n 0, 1) := by decide +kernel
theorem dX9_fetchesIt_14 : decode cX9_fetchesIt 14 = .ok (.getfield 7, 3) := by decide +kernel
theorem dX9_fetchesIt_17 : decode cX9_fetchesIt 17 = .ok (.iconst 1, 1) := by decide +kernel
theorem dX9_fetchesIt_18 : decode cX9_fetchesIt 18 = .ok (.iload_n 1, 1) := by decide +kernel
theorem dX9_fetchesIt_19 : decode cX9_fetchesIt 19 = .ok (.iastore, 1) := by decide +kernel
theorem dX9_fetchesIt_20 : decode cX9_fetchesIt 20 = .ok (.aload_n 0, 1) := by decide +kernel
theorem dX9_fetchesIt_21 : decode cX9_fetchesIt 21 = .ok (.getfield 7, 3) := by decide +kernel
theorem dX9_fetchesIt_24 : decode cX9_fetchesIt 24 = .ok (.iconst 5, 1) := by decide +kernel
theorem dX9_fetchesIt_25 : decode cX9_fetchesIt 25 = .ok (.dup2, 1) := by decide +kernel
theorem dX9_fetchesIt_26 : decode cX9_fetchesIt 26 = .ok (.iaload, 1) := by decide +kernel
theorem dX9_fetchesIt_27 : decode cX9_fetchesIt 27 = .ok (.iconst 1, 1) := by decide +kernel
theorem dX9_fetchesIt_28 : decode cX9_fetchesIt 28 = .ok (.iadd, 1) := by decide +kernel
theorem dX9_fetchesIt_29 : decode cX9_fetchesIt 29 = .ok (.iastore, 1) := by decide +kernel
theorem dX9_fetchesIt_30 : decode cX9_fetchesIt 30 = .ok (.aload_n 0, 1) := by decide +kernel
theorem dX9_fetchesIt_31 : decode cX9_fetchesIt 31 = .ok (.iload_n 1, 1) := by decide +kernel
theorem dX9_fetchesIt_32 : decode cX9_fetchesIt 32 = .ok (.iconst 3, 1) := by decide +kernel
theorem dX9_fetchesIt_33 : decode cX9_fetchesIt 33 = .ok (.aload_n 0, 1) := by decide +kernel
theorem dX9_fetchesIt_34 : decode cX9_fetchesIt 34 = .ok (.iload_n 1, 1) := by decide +kernel
theorem dX9_fetchesIt_35 : decode cX9_fetchesIt 35 = .ok (.iconst 3, 1) := by decide +kernel
theorem dX9_fetchesIt_36 : decode cX9_fetchesIt 36 = .ok (.invokevirtual 46, 3) := by decide +kernel
theorem dX9_fetchesIt_39 : decode cX9_fetchesIt 39 = .ok (.iconst 1, 1) := by decide +kernel
theorem dX9_fetchesIt_40 : decode cX9_fetchesIt 40 = .ok (.iadd, 1) := by decide +kernel
theorem dX9_fetchesIt_41 : decode cX9_fetchesIt 41 = .ok (.invokevirtual 56, 3) := by decide +kernel
theorem dX9_fetchesIt_44 : decode cX9_fetchesIt 44 = .ok (.aload_n 0, 1) := by decide +kernel
theorem dX9_fetchesIt_45 : decode cX9_fetchesIt 45 = .ok (.iload_n 2, 1) := by decide +kernel
theorem dX9_fetchesIt_46 : decode cX9_fetchesIt 46 = .ok (.iconst 1, 1) := by decide +kernel
theorem dX9_fetchesIt_47 : decode cX9_fetchesIt 47 = .ok (.invokevirtual 67, 3) := by decide +kernel
theorem dX9_fetchesIt_50 : decode cX9_fetchesIt 50 = .ok (.iload_n 2, 1) := by decide +kernel
theorem dX9_fetchesIt_51 : decode cX9_fetchesIt 51 = .ok (.ireturn, 1) := by decide +kernel
set_option maxRecDepth 20000 in
theorem ggX9_stows_X9_puts : GoodIn wsX9_stows wsX9_puts := goodIn_r _ [6, 7, 8, 9, 5, 10, 1, 23, 24, 25, 26, 27, 28, 29, 30, 31, 32, 33, 34, 35] rfl (by decide +kernel)
set_option maxRecDepth 20000 in
theorem gX9_stows_X9_puts : GoodIn wsX9_stows (wsV RX9 71 RX9 yX9_puts wsX9_puts) := goodIn_app (goodIn_r _ [2, 3, 4, 5] rfl (by decide +kernel)) ggX9_stows_X9_puts
set_option maxRecDepth 20000 in
theorem ggX9_stows_X9_of : GoodIn wsX9_stows wsX9_of := goodIn_r _ [14, 1, 23, 24, 25, 26, 27, 28, 29, 30, 31, 32, 33, 34, 35] rfl (by decide +kernel)
set_option maxRecDepth 20000 in
theorem gX9_stows_X9_of : GoodIn wsX9_stows (wsV RX9 46 RX9 yX9_of wsX9_of) := goodIn_app (goodIn_r _ [11, 12, 13, 5] rfl (by decide +kernel)) ggX9_stows_X9_of
set_option maxRecDepth 20000 in
theorem ggX9_stows_X9_way : GoodIn wsX9_stows wsX9_way := goodIn_r _ [18, 11, 12, 13, 5, 14, 1, 23, 24, 25, 26, 27, 28, 29, 30, 31, 32, 33, 34, 35] rfl (by decide +kernel)
set_option maxRecDepth 20000 in
theorem gX9_stows_X9_way : GoodIn wsX9_stows (wsV RX9 60 RX9 yX9_way wsX9_way) := goodIn_app (goodIn_r _ [15, 16, 17, 5] rfl (by decide +kernel)) ggX9_stows_X9_way
set_option maxRecDepth 20000 in
theorem ggX9_stows_X9_notesTrip : GoodIn wsX9_stows wsX9_notesTrip := goodIn_r _ [22, 1, 23, 24, 25, 26, 27, 28, 29, 30, 31, 32, 33, 34, 35] rfl (by decide +kernel)
set_option maxRecDepth 20000 in
theorem gX9_stows_X9_notesTrip : GoodIn wsX9_stows (wsV RX9 67 RX9 yX9_notesTrip wsX9_notesTrip) := goodIn_app (goodIn_r _ [19, 20, 21, 5] rfl (by decide +kernel)) ggX9_stows_X9_notesTrip
theorem dX9_stows_0 : decode cX9_stows 0 = .ok (.aload_n 0, 1) := by decide +kernel
theorem dX9_stows_1 : decode cX9_stows 1 = .ok (.getfield 7, 3) := by decide +kernel
theorem dX9_stows_4 : decode cX9_stows 4 = .ok (.iconst 1, 1) := by decide +kernel
theorem dX9_stows_5 : decode cX9_stows 5 = .ok (.iaload, 1) := by decide +kernel
theorem dX9_stows_6 : decode cX9_stows 6 = .ok (.istore_n 2, 1) := by decide +kernel
theorem dX9_stows_7 : decode cX9_stows 7 = .ok (.aload_n 0, 1) := by decide +kernel
theorem dX9_stows_8 : decode cX9_stows 8 = .ok (.iload_n 2, 1) := by decide +kernel
theorem dX9_stows_9 : decode cX9_stows 9 = .ok (.iload_n 1, 1) := by decide +kernel
theorem dX9_stows_10 : decode cX9_stows 10 = .ok (.invokevirtual 71, 3) := by decide +kernel
theorem dX9_stows_13 : decode cX9_stows 13 = .ok (.aload_n 0, 1) := by decide +kernel
theorem dX9_stows_14 : decode cX9_stows 14 = .ok (.getfield 7, 3) := by decide +kernel
theorem dX9_stows_17 : decode cX9_stows 17 = .ok (.iconst 1, 1) := by decide +kernel
theorem dX9_stows_18 : decode cX9_stows 18 = .ok (.iconst (-1), 1) := by decide +kernel
theorem dX9_stows_19 : decode cX9_stows 19 = .ok (.iastore, 1) := by decide +kernel
theorem dX9_stows_20 : decode cX9_stows 20 = .ok (.aload_n 0, 1) := by decide +kernel
theorem dX9_stows_21 : decode cX9_stows 21 = .ok (.getfield 7, 3) := by decide +kernel
theorem dX9_stows_24 : decode cX9_stows 24 = .ok (.iconst 2, 1) := by decide +kernel
theorem dX9_stows_25 : decode cX9_stows 25 = .ok (.aload_n 0, 1) := by decide +kernel
theorem dX9_stows_26 : decode cX9_stows 26 = .ok (.iload_n 2, 1) := by decide +kernel
theorem dX9_stows_27 : decode cX9_stows 27 = .ok (.iconst 2, 1) := by decide +kernel
theorem dX9_stows_28 : decode cX9_stows 28 = .ok (.invokevirtual 46, 3) := by decide +kernel
theorem dX9_stows_31 : decode cX9_stows 31 = .ok (.iastore, 1) := by decide +kernel
theorem dX9_stows_32 : decode cX9_stows 32 = .ok (.aload_n 0, 1) := by decide +kernel
theorem dX9_stows_33 : decode cX9_stows 33 = .ok (.aload_n 0, 1) := by decide +kernel
theorem dX9_stows_34 : decode cX9_stows 34 = .ok (.iload_n 2, 1) := by decide +kernel
theorem dX9_stows_35 : decode cX9_stows 35 = .ok (.invokevirtual 60, 3) := by decide +kernel
theorem dX9_stows_38 : decode cX9_stows 38 = .ok (.iconst 0, 1) := by decide +kernel
theorem dX9_stows_39 : decode cX9_stows 39 = .ok (.invokevirtual 67, 3) := by decide +kernel
theorem dX9_stows_42 : decode cX9_stows 42 = .ok (.aload_n 0, 1) := by decide +kernel
theorem dX9_stows_43 : decode cX9_stows 43 = .ok (.iload_n 2, 1) := by decide +kernel
theorem dX9_stows_44 : decode cX9_stows 44 = .ok (.invokevirtual 60, 3) := by decide +kernel
theorem dX9_stows_47 : decode cX9_stows 47 = .ok (.ireturn, 1) := by decide +kernel
set_option maxRecDepth 20000 in
theorem ggX9_stowPlace_X9_of : GoodIn wsX9_stowPlace wsX9_of := goodIn_r _ [6, 1, 22, 23, 24, 25, 26, 27, 28, 29, 30, 31, 32, 33, 34] rfl (by decide +kernel)
set_option maxRecDepth 20000 in
theorem gX9_stowPlace_X9_of : GoodIn wsX9_stowPlace (wsV RX9 46 RX9 yX9_of wsX9_of) := goodIn_app (goodIn_r _ [2, 3, 4, 5] rfl (by decide +kernel)) ggX9_stowPlace_X9_of
set_option maxRecDepth 20000 in
theorem ggX9_stowPlace_X9_place : GoodIn wsX9_stowPlace wsX9_place := goodIn_r _ [10, 11, 12, 13, 5, 14, 15, 16, 17, 18, 1, 2, 3, 4, 6, 19, 20, 21, 22, 23, 24, 25, 26, 27, 28, 29, 30, 31, 32, 33, 34] rfl (by decide +kernel)
set_option maxRecDepth 20000 in
theorem gX9_stowPlace_X9_place : GoodIn wsX9_stowPlace (wsV RX9 74 RX9 yX9_place wsX9_place) := goodIn_app (goodIn_r _ [7, 8, 9, 5] rfl (by decide +kernel)) ggX9_stowPlace_X9_place
theorem dX9_stowPlace_0 : decode cX9_stowPlace 0 = .ok (.aload_n 0, 1) := by decide +kernel
theorem dX9_stowPlace_1 : decode cX9_stowPlace 1 = .ok (.getfield 7, 3) := by decide +kernel
theorem dX9_stowPlace_4 : decode cX9_stowPlace 4 = .ok (.iconst 1, 1) := by decide +kernel
theorem dX9_stowPlace_5 : decode cX9_stowPlace 5 = .ok (.iaload, 1) := by decide +kernel
theorem dX9_stowPlace_6 : decode cX9_stowPlace 6 = .ok (.istore_n 1, 1) := by decide +kernel
theorem dX9_stowPlace_7 : decode cX9_stowPlace 7 = .ok (.aload_n 0, 1) := by decide +kernel
theorem dX9_stowPlace_8 : decode cX9_stowPlace 8 = .ok (.getfield 7, 3) := by decide +kernel
theorem dX9_stowPlace_11 : decode cX9_stowPlace 11 = .ok (.iconst 3, 1) := by decide +kernel
theorem dX9_stowPlace_12 : decode cX9_stowPlace 12 = .ok (.iaload, 1) := by decide +kernel
theorem dX9_stowPlace_13 : decode cX9_stowPlace 13 = .ok (.iconst 1, 1) := by decide +kernel
theorem dX9_stowPlace_14 : decode cX9_stowPlace 14 = .ok (.if_icmp .ne 22, 3) := by decide +kernel
theorem dX9_stowPlace_17 : decode cX9_stowPlace 17 = .ok (.bipush 20, 2) := by decide +kernel
theorem dX9_stowPlace_19 : decode cX9_stowPlace 19 = .ok (.aload_n 0, 1) := by decide +kernel
theorem dX9_stowPlace_20 : decode cX9_stowPlace 20 = .ok (.iload_n 1, 1) := by decide +kernel
theorem dX9_stowPlace_21 : decode cX9_stowPlace 21 = .ok (.iconst 1, 1) := by decide +kernel
theorem dX9_stowPlace_22 : decode cX9_stowPlace 22 = .ok (.invokevirtual 46, 3) := by decide +kernel
theorem dX9_stowPlace_25 : decode cX9_stowPlace 25 = .ok (.imul, 1) := by decide +kernel
theorem dX9_stowPlace_26 : decode cX9_stowPlace 26 = .ok (.aload_n 0, 1) := by decide +kernel
theorem dX9_stowPlace_27 : decode cX9_stowPlace 27 = .ok (.iload_n 1, 1) := by decide +kernel
theorem dX9_stowPlace_28 : decode cX9_stowPlace 28 = .ok (.iconst 2, 1) := by decide +kernel
theorem dX9_stowPlace_29 : decode cX9_stowPlace 29 = .ok (.invokevirtual 46, 3) := by decide +kernel
theorem dX9_stowPlace_32 : decode cX9_stowPlace 32 = .ok (.iadd, 1) := by decide +kernel
theorem dX9_stowPlace_33 : decode cX9_stowPlace 33 = .ok (.goto 13, 3) := by decide +kernel
theorem dX9_stowPlace_36 : decode cX9_stowPlace 36 = .ok (.aload_n 0, 1) := by decide +kernel
theorem dX9_stowPlace_37 : decode cX9_stowPlace 37 = .ok (.aload_n 0, 1) := by decide +kernel
theorem dX9_stowPlace_38 : decode cX9_stowPlace 38 = .ok (.iload_n 1, 1) := by decide +kernel
theorem dX9_stowPlace_39 : decode cX9_stowPlace 39 = .ok (.iconst 0, 1) := by decide +kernel
theorem dX9_stowPlace_40 : decode cX9_stowPlace 40 = .ok (.invokevirtual 46, 3) := by decide +kernel
theorem dX9_stowPlace_43 : decode cX9_stowPlace 43 = .ok (.invokevirtual 74, 3) := by decide +kernel
theorem dX9_stowPlace_46 : decode cX9_stowPlace 46 = .ok (.ireturn, 1) := by decide +kernel
set_option maxRecDepth 20000 in
theorem ggX9_isAhead_X9_of : GoodIn wsX9_isAhead wsX9_of := goodIn_r _ [5, 6, 7, 8, 9, 10, 11, 12, 13, 14, 15, 16, 17, 18, 19] rfl (by decide +kernel)
set_option maxRecDepth 20000 in
theorem gX9_isAhead_X9_of : GoodIn wsX9_isAhead (wsV RX9 46 RX9 yX9_of wsX9_of) := goodIn_app (goodIn_r _ [1, 2, 3, 4] rfl (by decide +kernel)) ggX9_isAhead_X9_of
theorem dX9_isAhead_0 : decode cX9_isAhead 0 = .ok (.aload_n 0, 1) := by decide +kernel
theorem dX9_isAhead_1 : decode cX9_isAhead 1 = .ok (.iload_n 2, 1) := by decide +kernel
theorem dX9_isAhead_2 : decode cX9_isAhead 2 = .ok (.iconst 3, 1) := by decide +kernel
theorem dX9_isAhead_3 : decode cX9_isAhead 3 = .ok (.invokevirtual 46, 3) := by decide +kernel
theorem dX9_isAhead_6 : decode cX9_isAhead 6 = .ok (.aload_n 0, 1) := by decide +kernel
theorem dX9_isAhead_7 : decode cX9_isAhead 7 = .ok (.iload_n 1, 1) := by decide +kernel
theorem dX9_isAhead_8 : decode cX9_isAhead 8 = .ok (.iconst 3, 1) := by decide +kernel
theorem dX9_isAhead_9 : decode cX9_isAhead 9 = .ok (.invokevirtual 46, 3) := by decide +kernel
theorem dX9_isAhead_12 : decode cX9_isAhead 12 = .ok (.isub, 1) := by decide +kernel
theorem dX9_isAhead_13 : decode cX9_isAhead 13 = .ok (.istore_n 3, 1) := by decide +kernel
theorem dX9_isAhead_14 : decode cX9_isAhead 14 = .ok (.iload_n 3, 1) := by decide +kernel
theorem dX9_isAhead_15 : decode cX9_isAhead 15 = .ok (.ifCond .lt 12, 3) := by decide +kernel
theorem dX9_isAhead_18 : decode cX9_isAhead 18 = .ok (.iload_n 3, 1) := by decide +kernel
theorem dX9_isAhead_19 : decode cX9_isAhead 19 = .ok (.ifCond .ne 12, 3) := by decide +kernel
theorem dX9_isAhead_22 : decode cX9_isAhead 22 = .ok (.iload_n 1, 1) := by decide +kernel
theorem dX9_isAhead_23 : decode cX9_isAhead 23 = .ok (.iload_n 2, 1) := by decide +kernel
theorem dX9_isAhead_24 : decode cX9_isAhead 24 = .ok (.if_icmp .ge 7, 3) := by decide +kernel
theorem dX9_isAhead_27 : decode cX9_isAhead 27 = .ok (.iconst 1, 1) := by decide +kernel
theorem dX9_isAhead_28 : decode cX9_isAhead 28 = .ok (.goto 4, 3) := by decide +kernel
theorem dX9_isAhead_31 : decode cX9_isAhead 31 = .ok (.iconst 0, 1) := by decide +kernel
theorem dX9_isAhead_32 : decode cX9_isAhead 32 = .ok (.ireturn, 1) := by decide +kernel
set_option maxRecDepth 20000 in
theorem ggX9_packs_X9_putAside : GoodIn wsX9_packs wsX9_putAside := goodIn_r _ [7, 2, 1, 39, 40, 41, 42, 43, 44, 45, 46, 47, 48, 49, 50, 51] rfl (by decide +kernel)
set_option maxRecDepth 20000 in
theorem gX9_packs_X9_putAside : GoodIn wsX9_packs (wsV RX9 77 RX9 yX9_putAside wsX9_putAside) := goodIn_app (goodIn_r _ [3, 4, 5, 6] rfl (by decide +kernel)) ggX9_packs_X9_putAside
set_option maxRecDepth 20000 in
theorem ggX9_packs_X9_lay : GoodIn wsX9_packs wsX9_lay := goodIn_r _ [11, 1, 39, 40, 41, 42, 43, 44, 45, 46, 47, 48, 49, 50, 51] rfl (by decide +kernel)
set_option maxRecDepth 20000 in
theorem gX9_packs_X9_lay : GoodIn wsX9_packs (wsV RX9 56 RX9 yX9_lay wsX9_lay) := goodIn_app (goodIn_r _ [8, 9, 10, 6] rfl (by decide +kernel)) ggX9_packs_X9_lay
set_option maxRecDepth 20000 in
theorem ggX9_packs_X9_isAhead : GoodIn wsX9_packs wsX9_isAhead := goodIn_r _ [15, 16, 17, 18, 6, 19, 1, 39, 40, 41, 42, 43, 44, 45, 46, 47, 48, 49, 50, 51] rfl (by decide +kernel)
set_option maxRecDepth 20000 in
theorem gX9_packs_X9_isAhead : GoodIn wsX9_packs (wsV RX9 80 RX9 yX9_isAhead wsX9_isAhead) := goodIn_app (goodIn_r _ [12, 13, 14, 6] rfl (by decide +kernel)) ggX9_packs_X9_isAhead
set_option maxRecDepth 20000 in
theorem ggX9_packs_X9_of : GoodIn wsX9_packs wsX9_of := goodIn_r _ [19, 1, 39, 40, 41, 42, 43, 44, 45, 46, 47, 48, 49, 50, 51] rfl (by decide +kernel)
set_option maxRecDepth 20000 in
theorem gX9_packs_X9_of : GoodIn wsX9_packs (wsV RX9 46 RX9 yX9_of wsX9_of) := goodIn_app (goodIn_r _ [16, 17, 18, 6] rfl (by decide +kernel)) ggX9_packs_X9_of
set_option maxRecDepth 20000 in
theorem ggX9_packs_X9_place : GoodIn wsX9_packs wsX9_place := goodIn_r _ [23, 24, 25, 26, 6, 27, 28, 29, 30, 31, 1, 16, 17, 18, 19, 32, 33, 34, 39, 40, 41, 42, 43, 44, 45, 46, 47, 48, 49, 50, 51] rfl (by decide +kernel)
set_option maxRecDepth 20000 in
theorem gX9_packs_X9_place : GoodIn wsX9_packs (wsV RX9 74 RX9 yX9_place wsX9_place) := goodIn_app (goodIn_r _ [20, 21, 22, 6] rfl (by decide +kernel)) ggX9_packs_X9_place
set_option maxRecDepth 20000 in
theorem ggX9_packs_X9_puts : GoodIn wsX9_packs wsX9_puts := goodIn_r _ [38, 8, 9, 10, 6, 11, 1, 39, 40, 41, 42, 43, 44, 45, 46, 47, 48, 49, 50, 51] rfl (by decide +kernel)
set_option maxRecDepth 20000 in
theorem gX9_packs_X9_puts : GoodIn wsX9_packs (wsV RX9 71 RX9 yX9_puts wsX9_puts) := goodIn_app (goodIn_r _ [35, 36, 37, 6] rfl (by decide +kernel)) ggX9_packs_X9_puts
theorem dX9_packs_0 : decode cX9_packs 0 = .ok (.aload_n 0, 1) := by decide +kernel
theorem dX9_packs_1 : decode cX9_packs 1 = .ok (.invokevirtual 77, 3) := by decide +kernel
theorem dX9_packs_4 : decode cX9_packs 4 = .ok (.iconst 0, 1) := by decide +kernel
theorem dX9_packs_5 : decode cX9_packs 5 = .ok (.istore_n 1, 1) := by decide +kernel
theorem dX9_packs_6 : decode cX9_packs 6 = .ok (.iconst 1, 1) := by decide +kernel
theorem dX9_packs_7 : decode cX9_packs 7 = .ok (.istore_n 2, 1) := by decide +kernel
theorem dX9_packs_8 : decode cX9_packs 8 = .ok (.iconst 0, 1) := by decide +kernel
theorem dX9_packs_9 : decode cX9_packs 9 = .ok (.istore_n 3, 1) := by decide +kernel
theorem dX9_packs_10 : decode cX9_packs 10 = .ok (.iload_n 3, 1) := by decide +kernel
theorem dX9_packs_11 : decode cX9_packs 11 = .ok (.aload_n 0, 1) := by decide +kernel
theorem dX9_packs_12 : decode cX9_packs 12 = .ok (.getfield 7, 3) := by decide +kernel
theorem dX9_packs_15 : decode cX9_packs 15 = .ok (.iconst 0, 1) := by decide +kernel
theorem dX9_packs_16 : decode cX9_packs 16 = .ok (.iaload, 1) := by decide +kernel
theorem dX9_packs_17 : decode cX9_packs 17 = .ok (.if_icmp .ge 16, 3) := by decide +kernel
theorem dX9_packs_20 : decode cX9_packs 20 = .ok (.aload_n 0, 1) := by decide +kernel
theorem dX9_packs_21 : decode cX9_packs 21 = .ok (.iload_n 3, 1) := by decide +kernel
theorem dX9_packs_22 : decode cX9_packs 22 = .ok (.iconst 1, 1) := by decide +kernel
theorem dX9_packs_23 : decode cX9_packs 23 = .ok (.iconst 2, 1) := by decide +kernel
theorem dX9_packs_24 : decode cX9_packs 24 = .ok (.invokevirtual 56, 3) := by decide +kernel
theorem dX9_packs_27 : decode cX9_packs 27 = .ok (.iinc 3 1, 3) := by decide +kernel
theorem dX9_packs_30 : decode cX9_packs 30 = .ok (.goto (-20), 3) := by decide +kernel
theorem dX9_packs_33 : decode cX9_packs 33 = .ok (.iconst 0, 1) := by decide +kernel
theorem dX9_packs_34 : decode cX9_packs 34 = .ok (.istore_n 3, 1) := by decide +kernel
theorem dX9_packs_35 : decode cX9_packs 35 = .ok (.iload_n 3, 1) := by decide +kernel
theorem dX9_packs_36 : decode cX9_packs 36 = .ok (.aload_n 0, 1) := by decide +kernel
theorem dX9_packs_37 : decode cX9_packs 37 = .ok (.getfield 7, 3) := by decide +kernel
theorem dX9_packs_40 : decode cX9_packs 40 = .ok (.iconst 0, 1) := by decide +kernel
theorem dX9_packs_41 : decode cX9_packs 41 = .ok (.iaload, 1) := by decide +kernel
theorem dX9_packs_42 : decode cX9_packs 42 = .ok (.if_icmp .ge 176, 3) := by decide +kernel
theorem dX9_packs_45 : decode cX9_packs 45 = .ok (.iload_n 2, 1) := by decide +kernel
theorem dX9_packs_46 : decode cX9_packs 46 = .ok (.ifCond .eq 172, 3) := by decide +kernel
theorem dX9_packs_49 : decode cX9_packs 49 = .ok (.iconst 0, 1) := by decide +kernel
theorem dX9_packs_50 : decode cX9_packs 50 = .ok (.istore 4, 2) := by decide +kernel
theorem dX9_packs_52 : decode cX9_packs 52 = .ok (.iload 4, 2) := by decide +kernel
theorem dX9_packs_54 : decode cX9_packs 54 = .ok (.aload_n 0, 1) := by decide +kernel
theorem dX9_packs_55 : decode cX9_packs 55 = .ok (.getfield 7, 3) := by decide +kernel
theorem dX9_packs_58 : decode cX9_packs 58 = .ok (.iconst 0, 1) := by decide +kernel
theorem dX9_packs_59 : decode cX9_packs 59 = .ok (.iaload, 1) := by decide +kernel
theorem dX9_packs_60 : decode cX9_packs 60 = .ok (.if_icmp .ge 152, 3) := by decide +kernel
theorem dX9_packs_63 : decode cX9_packs 63 = .ok (.iconst 0, 1) := by decide +kernel
theorem dX9_packs_64 : decode cX9_packs 64 = .ok (.istore 5, 2) := by decide +kernel
theorem dX9_packs_66 : decode cX9_packs 66 = .ok (.iconst 0, 1) := by decide +kernel
theorem dX9_packs_67 : decode cX9_packs 67 = .ok (.istore 6, 2) := by decide +kernel
theorem dX9_packs_69 : decode cX9_packs 69 = .ok (.iload 6, 2) := by decide +kernel
theorem dX9_packs_71 : decode cX9_packs 71 = .ok (.aload_n 0, 1) := by decide +kernel
theorem dX9_packs_72 : decode cX9_packs 72 = .ok (.getfield 7, 3) := by decide +kernel
theorem dX9_packs_75 : decode cX9_packs 75 = .ok (.iconst 0, 1) := by decide +kernel
theorem dX9_packs_76 : decode cX9_packs 76 = .ok (.iaload, 1) := by decide +kernel
theorem dX9_packs_77 : decode cX9_packs 77 = .ok (.if_icmp .ge 37, 3) := by decide +kernel
theorem dX9_packs_80 : decode cX9_packs 80 = .ok (.iload 5, 2) := by decide +kernel
theorem dX9_packs_82 : decode cX9_packs 82 = .ok (.iload 6, 2) := by decide +kernel
theorem dX9_packs_84 : decode cX9_packs 84 = .ok (.iload 4, 2) := by decide +kernel
theorem dX9_packs_86 : decode cX9_packs 86 = .ok (.if_icmp .eq 18, 3) := by decide +kernel
theorem dX9_packs_89 : decode cX9_packs 89 = .ok (.aload_n 0, 1) := by decide +kernel
theorem dX9_packs_90 : decode cX9_packs 90 = .ok (.iload 6, 2) := by decide +kernel
theorem dX9_packs_92 : decode cX9_packs 92 = .ok (.iload 4, 2) := by decide +kernel
theorem dX9_packs_94 : decode cX9_packs 94 = .ok (.invokevirtual 80, 3) := by decide +kernel
theorem dX9_packs_97 : decode cX9_packs 97 = .ok (.ifCond .eq 7, 3) := by decide +kernel
theorem dX9_packs_100 : decode cX9_packs 100 = .ok (.iconst 1, 1) := by decide +kernel
theorem dX9_packs_101 : decode cX9_packs 101 = .ok (.goto 4, 3) := by decide +kernel
theorem dX9_packs_104 : decode cX9_packs 104 = .ok (.iconst 0, 1) := by decide +kernel
theorem dX9_packs_105 : decode cX9_packs 105 = .ok (.iadd, 1) := by decide +kernel
theorem dX9_packs_106 : decode cX9_packs 106 = .ok (.istore 5, 2) := by decide +kernel
theorem dX9_packs_108 : decode cX9_packs 108 = .ok (.iinc 6 1, 3) := by decide +kernel
theorem dX9_packs_111 : decode cX9_packs 111 = .ok (.goto (-42), 3) := by decide +kernel
theorem dX9_packs_114 : decode cX9_packs 114 = .ok (.iload 5, 2) := by decide +kernel
theorem dX9_packs_116 : decode cX9_packs 116 = .ok (.iload_n 3, 1) := by decide +kernel
theorem dX9_packs_117 : decode cX9_packs 117 = .ok (.if_icmp .ne 89, 3) := by decide +kernel
theorem dX9_packs_120 : decode cX9_packs 120 = .ok (.aload_n 0, 1) := by decide +kernel
theorem dX9_packs_121 : decode cX9_packs 121 = .ok (.aload_n 0, 1) := by decide +kernel
theorem dX9_packs_122 : decode cX9_packs 122 = .ok (.iload 4, 2) := by decide +kernel
theorem dX9_packs_124 : decode cX9_packs 124 = .ok (.iconst 0, 1) := by decide +kernel
theorem dX9_packs_125 : decode cX9_packs 125 = .ok (.invokevirtual 46, 3) := by decide +kernel
theorem dX9_packs_128 : decode cX9_packs 128 = .ok (.invokevirtual 74, 3) := by decide +kernel
theorem dX9_packs_131 : decode cX9_packs 131 = .ok (.istore 6, 2) := by decide +kernel
theorem dX9_packs_133 : decode cX9_packs 133 = .ok (.bipush 9, 2) := by decide +kernel
theorem dX9_packs_135 : decode cX9_packs 135 = .ok (.bipush 14, 2) := by decide +kernel
theorem dX9_packs_137 : decode cX9_packs 137 = .ok (.iload 4, 2) := by decide +kernel
theorem dX9_packs_139 : decode cX9_packs 139 = .ok (.imul, 1) := by decide +kernel
theorem dX9_packs_140 : decode cX9_packs 140 = .ok (.iadd, 1) := by decide +kernel
theorem dX9_packs_141 : decode cX9_packs 141 = .ok (.istore 7, 2) := by decide +kernel
theorem dX9_packs_143 : decode cX9_packs 143 = .ok (.iload_n 2, 1) := by decide +kernel
theorem dX9_packs_144 : decode cX9_packs 144 = .ok (.ifCond .eq 13, 3) := by decide +kernel
theorem dX9_packs_147 : decode cX9_packs 147 = .ok (.iload 6, 2) := by decide +kernel
theorem dX9_packs_149 : decode cX9_packs 149 = .ok (.iconst (-1), 1) := by decide +kernel
theorem dX9_packs_150 : decode cX9_packs 150 = .ok (.if_icmp .eq 7, 3) := by decide +kernel
theorem dX9_packs_153 : decode cX9_packs 153 = .ok (.iconst 1, 1) := by decide +kernel
theorem dX9_packs_154 : decode cX9_packs 154 = .ok (.goto 4, 3) := by decide +kernel
theorem dX9_packs_157 : decode cX9_packs 157 = .ok (.iconst 0, 1) := by decide +kernel
theorem dX9_packs_158 : decode cX9_packs 158 = .ok (.istore_n 2, 1) := by decide +kernel
theorem dX9_packs_159 : decode cX9_packs 159 = .ok (.iload_n 1, 1) := by decide +kernel
theorem dX9_packs_160 : decode cX9_packs 160 = .ok (.iload 6, 2) := by decide +kernel
theorem dX9_packs_162 : decode cX9_packs 162 = .ok (.bipush 20, 2) := by decide +kernel
theorem dX9_packs_164 : decode cX9_packs 164 = .ok (.aload_n 0, 1) := by decide +kernel
theorem dX9_packs_165 : decode cX9_packs 165 = .ok (.getfield 13, 3) := by decide +kernel
theorem dX9_packs_168 : decode cX9_packs 168 = .ok (.iload 7, 2) := by decide +kernel
theorem dX9_packs_170 : decode cX9_packs 170 = .ok (.iconst 1, 1) := by decide +kernel
theorem dX9_packs_171 : decode cX9_packs 171 = .ok (.iadd, 1) := by decide +kernel
theorem dX9_packs_172 : decode cX9_packs 172 = .ok (.iaload, 1) := by decide +kernel
theorem dX9_packs_173 : decode cX9_packs 173 = .ok (.imul, 1) := by decide +kernel
theorem dX9_packs_174 : decode cX9_packs 174 = .ok (.aload_n 0, 1) := by decide +kernel
theorem dX9_packs_175 : decode cX9_packs 175 = .ok (.getfield 13, 3) := by decide +kernel
theorem dX9_packs_178 : decode cX9_packs 178 = .ok (.iload 7, 2) := by decide +kernel
theorem dX9_packs_180 : decode cX9_packs 180 = .ok (.iconst 2, 1) := by decide +kernel
theorem dX9_packs_181 : decode cX9_packs 181 = .ok (.iadd, 1) := by decide +kernel
theorem dX9_packs_182 : decode cX9_packs 182 = .ok (.iaload, 1) := by decide +kernel
theorem dX9_packs_183 : decode cX9_packs 183 = .ok (.iadd, 1) := by decide +kernel
theorem dX9_packs_184 : decode cX9_packs 184 = .ok (.if_icmp .ne 7, 3) := by decide +kernel
theorem dX9_packs_187 : decode cX9_packs 187 = .ok (.iconst 0, 1) := by decide +kernel
theorem dX9_packs_188 : decode cX9_packs 188 = .ok (.goto 4, 3) := by decide +kernel
theorem dX9_packs_191 : decode cX9_packs 191 = .ok (.iconst 1, 1) := by decide +kernel
theorem dX9_packs_192 : decode cX9_packs 192 = .ok (.iadd, 1) := by decide +kernel
theorem dX9_packs_193 : decode cX9_packs 193 = .ok (.istore_n 1, 1) := by decide +kernel
theorem dX9_packs_194 : decode cX9_packs 194 = .ok (.iload_n 2, 1) := by decide +kernel
theorem dX9_packs_195 : decode cX9_packs 195 = .ok (.ifCond .eq 11, 3) := by decide +kernel
theorem dX9_packs_198 : decode cX9_packs 198 = .ok (.aload_n 0, 1) := by decide +kernel
theorem dX9_packs_199 : decode cX9_packs 199 = .ok (.iload 4, 2) := by decide +kernel
theorem dX9_packs_201 : decode cX9_packs 201 = .ok (.iload 6, 2) := by decide +kernel
theorem dX9_packs_203 : decode cX9_packs 203 = .ok (.invokevirtual 71, 3) := by decide +kernel
theorem dX9_packs_206 : decode cX9_packs 206 = .ok (.iinc 4 1, 3) := by decide +kernel
theorem dX9_packs_209 : decode cX9_packs 209 = .ok (.goto (-157), 3) := by decide +kernel
theorem dX9_packs_212 : decode cX9_packs 212 = .ok (.iinc 3 1, 3) := by decide +kernel
theorem dX9_packs_215 : decode cX9_packs 215 = .ok (.goto (-180), 3) := by decide +kernel
theorem dX9_packs_218 : decode cX9_packs 218 = .ok (.iload_n 2, 1) := by decide +kernel
theorem dX9_packs_219 : decode cX9_packs 219 = .ok (.ifCond .eq 7, 3) := by decide +kernel
theorem dX9_packs_222 : decode cX9_packs 222 = .ok (.iload_n 1, 1) := by decide +kernel
theorem dX9_packs_223 : decode cX9_packs 223 = .ok (.goto 4, 3) := by decide +kernel
theorem dX9_packs_226 : decode cX9_packs 226 = .ok (.iconst (-1), 1) := by decide +kernel
theorem dX9_packs_227 : decode cX9_packs 227 = .ok (.ireturn, 1) := by decide +kernel
set_option maxRecDepth 20000 in
theorem ggX9_weight_X9_of : GoodIn wsX9_weight wsX9_of := goodIn_r _ [6, 1, 7, 8, 9, 10, 11, 12, 13, 14, 15, 16, 17, 18, 19] rfl (by decide +kernel)
set_option maxRecDepth 20000 in
theorem gX9_weight_X9_of : GoodIn wsX9_weight (wsV RX9 46 RX9 yX9_of wsX9_of) := goodIn_app (goodIn_r _ [2, 3, 4, 5] rfl (by decide +kernel)) ggX9_weight_X9_of
theorem dX9_weight_0 : decode cX9_weight 0 = .ok (.iconst 0, 1) := by decide +kernel
theorem dX9_weight_1 : decode cX9_weight 1 = .ok (.istore_n 2, 1) := by decide +kernel
theorem dX9_weight_2 : decode cX9_weight 2 = .ok (.iconst 0, 1) := by decide +kernel
theorem dX9_weight_3 : decode cX9_weight 3 = .ok (.istore_n 3, 1) := by decide +kernel
theorem dX9_weight_4 : decode cX9_weight 4 = .ok (.iload_n 3, 1) := by decide +kernel
theorem dX9_weight_5 : decode cX9_weight 5 = .ok (.bipush 10, 2) := by decide +kernel
theorem dX9_weight_7 : decode cX9_weight 7 = .ok (.if_icmp .ge 31, 3) := by decide +kernel
theorem dX9_weight_10 : decode cX9_weight 10 = .ok (.iload_n 2, 1) := by decide +kernel
theorem dX9_weight_11 : decode cX9_weight 11 = .ok (.aload_n 0, 1) := by decide +kernel
theorem dX9_weight_12 : decode cX9_weight 12 = .ok (.iload_n 1, 1) := by decide +kernel
theorem dX9_weight_13 : decode cX9_weight 13 = .ok (.iconst 4, 1) := by decide +kernel
theorem dX9_weight_14 : decode cX9_weight 14 = .ok (.iload_n 3, 1) := by decide +kernel
theorem dX9_weight_15 : decode cX9_weight 15 = .ok (.iadd, 1) := by decide +kernel
theorem dX9_weight_16 : decode cX9_weight 16 = .ok (.invokevirtual 46, 3) := by decide +kernel
theorem dX9_weight_19 : decode cX9_weight 19 = .ok (.aload_n 0, 1) := by decide +kernel
theorem dX9_weight_20 : decode cX9_weight 20 = .ok (.getfield 7, 3) := by decide +kernel
theorem dX9_weight_23 : decode cX9_weight 23 = .ok (.sipush 177, 3) := by decide +kernel
theorem dX9_weight_26 : decode cX9_weight 26 = .ok (.iload_n 3, 1) := by decide +kernel
theorem dX9_weight_27 : decode cX9_weight 27 = .ok (.iadd, 1) := by decide +kernel
theorem dX9_weight_28 : decode cX9_weight 28 = .ok (.iaload, 1) := by decide +kernel
theorem dX9_weight_29 : decode cX9_weight 29 = .ok (.imul, 1) := by decide +kernel
theorem dX9_weight_30 : decode cX9_weight 30 = .ok (.iadd, 1) := by decide +kernel
theorem dX9_weight_31 : decode cX9_weight 31 = .ok (.istore_n 2, 1) := by decide +kernel
theorem dX9_weight_32 : decode cX9_weight 32 = .ok (.iinc 3 1, 3) := by decide +kernel
theorem dX9_weight_35 : decode cX9_weight 35 = .ok (.goto (-31), 3) := by decide +kernel
theorem dX9_weight_38 : decode cX9_weight 38 = .ok (.iload_n 2, 1) := by decide +kernel
theorem dX9_weight_39 : decode cX9_weight 39 = .ok (.ireturn, 1) := by decide +kernel
set_option maxRecDepth 20000 in
theorem ggX9_stock_X9_of : GoodIn wsX9_stock wsX9_of := goodIn_r _ [6, 1, 7, 8, 9, 10, 11, 12, 13, 14, 15, 16, 17, 18, 19] rfl (by decide +kernel)
set_option maxRecDepth 20000 in
theorem gX9_stock_X9_of : GoodIn wsX9_stock (wsV RX9 46 RX9 yX9_of wsX9_of) := goodIn_app (goodIn_r _ [2, 3, 4, 5] rfl (by decide +kernel)) ggX9_stock_X9_of
theorem dX9_stock_0 : decode cX9_stock 0 = .ok (.iconst 0, 1) := by decide +kernel
theorem dX9_stock_1 : decode cX9_stock 1 = .ok (.istore_n 2, 1) := by decide +kernel
theorem dX9_stock_2 : decode cX9_stock 2 = .ok (.iconst 0, 1) := by decide +kernel
theorem dX9_stock_3 : decode cX9_stock 3 = .ok (.istore_n 3, 1) := by decide +kernel
theorem dX9_stock_4 : decode cX9_stock 4 = .ok (.iload_n 3, 1) := by decide +kernel
theorem dX9_stock_5 : decode cX9_stock 5 = .ok (.aload_n 0, 1) := by decide +kernel
theorem dX9_stock_6 : decode cX9_stock 6 = .ok (.getfield 7, 3) := by decide +kernel
theorem dX9_stock_9 : decode cX9_stock 9 = .ok (.iconst 0, 1) := by decide +kernel
theorem dX9_stock_10 : decode cX9_stock 10 = .ok (.iaload, 1) := by decide +kernel
theorem dX9_stock_11 : decode cX9_stock 11 = .ok (.if_icmp .ge 20, 3) := by decide +kernel
theorem dX9_stock_14 : decode cX9_stock 14 = .ok (.iload_n 2, 1) := by decide +kernel
theorem dX9_stock_15 : decode cX9_stock 15 = .ok (.aload_n 0, 1) := by decide +kernel
theorem dX9_stock_16 : decode cX9_stock 16 = .ok (.iload_n 3, 1) := by decide +kernel
theorem dX9_stock_17 : decode cX9_stock 17 = .ok (.iconst 4, 1) := by decide +kernel
theorem dX9_stock_18 : decode cX9_stock 18 = .ok (.iload_n 1, 1) := by decide +kernel
theorem dX9_stock_19 : decode cX9_stock 19 = .ok (.iadd, 1) := by decide +kernel
theorem dX9_stock_20 : decode cX9_stock 20 = .ok (.invokevirtual 46, 3) := by decide +kernel
theorem dX9_stock_23 : decode cX9_stock 23 = .ok (.iadd, 1) := by decide +kernel
theorem dX9_stock_24 : decode cX9_stock 24 = .ok (.istore_n 2, 1) := by decide +kernel
theorem dX9_stock_25 : decode cX9_stock 25 = .ok (.iinc 3 1, 3) := by decide +kernel
theorem dX9_stock_28 : decode cX9_stock 28 = .ok (.goto (-24), 3) := by decide +kernel
theorem dX9_stock_31 : decode cX9_stock 31 = .ok (.iload_n 2, 1) := by decide +kernel
theorem dX9_stock_32 : decode cX9_stock 32 = .ok (.ireturn, 1) := by decide +kernel
set_option maxRecDepth 20000 in
theorem ggX9_missing_X9_stock : GoodIn wsX9_missing wsX9_stock := goodIn_r _ [6, 1, 7, 8, 9, 5, 10, 11, 12, 13, 14, 15, 16, 17, 18, 19, 20, 21, 22, 23] rfl (by decide +kernel)
set_option maxRecDepth 20000 in
theorem gX9_missing_X9_stock : GoodIn wsX9_missing (wsV RX9 84 RX9 yX9_stock wsX9_stock) := goodIn_app (goodIn_r _ [2, 3, 4, 5] rfl (by decide +kernel)) ggX9_missing_X9_stock
theorem dX9_missing_0 : decode cX9_missing 0 = .ok (.aload_n 0, 1) := by decide +kernel
theorem dX9_missing_1 : decode cX9_missing 1 = .ok (.getfield 7, 3) := by decide +kernel
theorem dX9_missing_4 : decode cX9_missing 4 = .ok (.sipush 187, 3) := by decide +kernel
theorem dX9_missing_7 : decode cX9_missing 7 = .ok (.iload_n 1, 1) := by decide +kernel
theorem dX9_missing_8 : decode cX9_missing 8 = .ok (.iadd, 1) := by decide +kernel
theorem dX9_missing_9 : decode cX9_missing 9 = .ok (.iaload, 1) := by decide +kernel
theorem dX9_missing_10 : decode cX9_missing 10 = .ok (.aload_n 0, 1) := by decide +kernel
theorem dX9_missing_11 : decode cX9_missing 11 = .ok (.iload_n 1, 1) := by decide +kernel
theorem dX9_missing_12 : decode cX9_missing 12 = .ok (.invokevirtual 84, 3) := by decide +kernel
theorem dX9_missing_15 : decode cX9_missing 15 = .ok (.isub, 1) := by decide +kernel
theorem dX9_missing_16 : decode cX9_missing 16 = .ok (.istore_n 2, 1) := by decide +kernel
theorem dX9_missing_17 : decode cX9_missing 17 = .ok (.iload_n 2, 1) := by decide +kernel
theorem dX9_missing_18 : decode cX9_missing 18 = .ok (.ifCond .le 7, 3) := by decide +kernel
theorem dX9_missing_21 : decode cX9_missing 21 = .ok (.iload_n 2, 1) := by decide +kernel
theorem dX9_missing_22 : decode cX9_missing 22 = .ok (.goto 4, 3) := by decide +kernel
theorem dX9_missing_25 : decode cX9_missing 25 = .ok (.iconst 0, 1) := by decide +kernel
theorem dX9_missing_26 : decode cX9_missing 26 = .ok (.ireturn, 1) := by decide +kernel
theorem dX9_wants_0 : decode cX9_wants 0 = .ok (.aload_n 0, 1) := by decide +kernel
theorem dX9_wants_1 : decode cX9_wants 1 = .ok (.getfield 7, 3) := by decide +kernel
theorem dX9_wants_4 : decode cX9_wants 4 = .ok (.sipush 223, 3) := by decide +kernel
theorem dX9_wants_7 : decode cX9_wants 7 = .ok (.bipush 10, 2) := by decide +kernel
theorem dX9_wants_9 : decode cX9_wants 9 = .ok (.iload_n 1, 1) := by decide +kernel
theorem dX9_wants_10 : decode cX9_wants 10 = .ok (.imul, 1) := by decide +kernel
theorem dX9_wants_11 : decode cX9_wants 11 = .ok (.iadd, 1) := by decide +kernel
theorem dX9_wants_12 : decode cX9_wants 12 = .ok (.iload_n 2, 1) := by decide +kernel
theorem dX9_wants_13 : decode cX9_wants 13 = .ok (.iadd, 1) := by decide +kernel
theorem dX9_wants_14 : decode cX9_wants 14 = .ok (.iaload, 1) := by decide +kernel
theorem dX9_wants_15 : decode cX9_wants 15 = .ok (.ireturn, 1) := by decide +kernel
set_option maxRecDepth 20000 in
theorem ggX9_canBe_X9_wants : GoodIn wsX9_canBe wsX9_wants := goodIn_r _ [5, 6, 15, 16, 17, 18, 19, 20, 21, 22, 23, 24, 25, 26, 27] rfl (by decide +kernel)
set_option maxRecDepth 20000 in
theorem gX9_canBe_X9_wants : GoodIn wsX9_canBe (wsV RX9 87 RX9 yX9_wants wsX9_wants) := goodIn_app (goodIn_r _ [1, 2, 3, 4] rfl (by decide +kernel)) ggX9_canBe_X9_wants
set_option maxRecDepth 20000 in
theorem ggX9_canBe_X9_stock : GoodIn wsX9_canBe wsX9_stock := goodIn_r _ [10, 6, 11, 12, 13, 4, 14, 15, 16, 17, 18, 19, 20, 21, 22, 23, 24, 25, 26, 27] rfl (by decide +kernel)
set_option maxRecDepth 20000 in
theorem gX9_canBe_X9_stock : GoodIn wsX9_canBe (wsV RX9 84 RX9 yX9_stock wsX9_stock) := goodIn_app (goodIn_r _ [7, 8, 9, 4] rfl (by decide +kernel)) ggX9_canBe_X9_stock
theorem dX9_canBe_0 : decode cX9_canBe 0 = .ok (.iconst 1, 1) := by decide +kernel
theorem dX9_canBe_1 : decode cX9_canBe 1 = .ok (.istore_n 2, 1) := by decide +kernel
theorem dX9_canBe_2 : decode cX9_canBe 2 = .ok (.iconst 0, 1) := by decide +kernel
theorem dX9_canBe_3 : decode cX9_canBe 3 = .ok (.istore_n 3, 1) := by decide +kernel
theorem dX9_canBe_4 : decode cX9_canBe 4 = .ok (.iload_n 3, 1) := by decide +kernel
theorem dX9_canBe_5 : decode cX9_canBe 5 = .ok (.bipush 10, 2) := by decide +kernel
theorem dX9_canBe_7 : decode cX9_canBe 7 = .ok (.if_icmp .ge 33, 3) := by decide +kernel
theorem dX9_canBe_10 : decode cX9_canBe 10 = .ok (.iload_n 2, 1) := by decide +kernel
theorem dX9_canBe_11 : decode cX9_canBe 11 = .ok (.ifCond .eq 21, 3) := by decide +kernel
theorem dX9_canBe_14 : decode cX9_canBe 14 = .ok (.aload_n 0, 1) := by decide +kernel
theorem dX9_canBe_15 : decode cX9_canBe 15 = .ok (.iload_n 1, 1) := by decide +kernel
theorem dX9_canBe_16 : decode cX9_canBe 16 = .ok (.iload_n 3, 1) := by decide +kernel
theorem dX9_canBe_17 : decode cX9_canBe 17 = .ok (.invokevirtual 87, 3) := by decide +kernel
theorem dX9_canBe_20 : decode cX9_canBe 20 = .ok (.aload_n 0, 1) := by decide +kernel
theorem dX9_canBe_21 : decode cX9_canBe 21 = .ok (.iload_n 3, 1) := by decide +kernel
theorem dX9_canBe_22 : decode cX9_canBe 22 = .ok (.invokevirtual 84, 3) := by decide +kernel
theorem dX9_canBe_25 : decode cX9_canBe 25 = .ok (.if_icmp .gt 7, 3) := by decide +kernel
theorem dX9_canBe_28 : decode cX9_canBe 28 = .ok (.iconst 1, 1) := by decide +kernel
theorem dX9_canBe_29 : decode cX9_canBe 29 = .ok (.goto 4, 3) := by decide +kernel
theorem dX9_canBe_32 : decode cX9_canBe 32 = .ok (.iconst 0, 1) := by decide +kernel
theorem dX9_canBe_33 : decode cX9_canBe 33 = .ok (.istore_n 2, 1) := by decide +kernel
theorem dX9_canBe_34 : decode cX9_canBe 34 = .ok (.iinc 3 1, 3) := by decide +kernel
theorem dX9_canBe_37 : decode cX9_canBe 37 = .ok (.goto (-33), 3) := by decide +kernel
theorem dX9_canBe_40 : decode cX9_canBe 40 = .ok (.iload_n 2, 1) := by decide +kernel
theorem dX9_canBe_41 : decode cX9_canBe 41 = .ok (.ireturn, 1) := by decide +kernel
theorem dX9_bits_0 : decode cX9_bits 0 = .ok (.iconst 0, 1) := by decide +kernel
theorem dX9_bits_1 : decode cX9_bits 1 = .ok (.istore_n 1, 1) := by decide +kernel
theorem dX9_bits_2 : decode cX9_bits 2 = .ok (.iconst 0, 1) := by decide +kernel
theorem dX9_bits_3 : decode cX9_bits 3 = .ok (.istore_n 2, 1) := by decide +kernel
theorem dX9_bits_4 : decode cX9_bits 4 = .ok (.iload_n 2, 1) := by decide +kernel
theorem dX9_bits_5 : decode cX9_bits 5 = .ok (.bipush 12, 2) := by decide +kernel
theorem dX9_bits_7 : decode cX9_bits 7 = .ok (.if_icmp .ge 17, 3) := by decide +kernel
theorem dX9_bits_10 : decode cX9_bits 10 = .ok (.iload_n 1, 1) := by decide +kernel
theorem dX9_bits_11 : decode cX9_bits 11 = .ok (.iload_n 0, 1) := by decide +kernel
theorem dX9_bits_12 : decode cX9_bits 12 = .ok (.iload_n 2, 1) := by decide +kernel
theorem dX9_bits_13 : decode cX9_bits 13 = .ok (.ishr, 1) := by decide +kernel
theorem dX9_bits_14 : decode cX9_bits 14 = .ok (.iconst 1, 1) := by decide +kernel
theorem dX9_bits_15 : decode cX9_bits 15 = .ok (.iand, 1) := by decide +kernel
theorem dX9_bits_16 : decode cX9_bits 16 = .ok (.iadd, 1) := by decide +kernel
theorem dX9_bits_17 : decode cX9_bits 17 = .ok (.istore_n 1, 1) := by decide +kernel
theorem dX9_bits_18 : decode cX9_bits 18 = .ok (.iinc 2 1, 3) := by decide +kernel
theorem dX9_bits_21 : decode cX9_bits 21 = .ok (.goto (-17), 3) := by decide +kernel
theorem dX9_bits_24 : decode cX9_bits 24 = .ok (.iload_n 1, 1) := by decide +kernel
theorem dX9_bits_25 : decode cX9_bits 25 = .ok (.ireturn, 1) := by decide +kernel
set_option maxRecDepth 20000 in
theorem ggX9_canSet_X9_of : GoodIn wsX9_canSet wsX9_of := goodIn_r _ [6, 1, 11, 12, 13, 14, 15, 16, 17, 18, 19, 20, 21, 22, 23] rfl (by decide +kernel)
set_option maxRecDepth 20000 in
theorem gX9_canSet_X9_of : GoodIn wsX9_canSet (wsV RX9 46 RX9 yX9_of wsX9_of) := goodIn_app (goodIn_r _ [2, 3, 4, 5] rfl (by decide +kernel)) ggX9_canSet_X9_of
set_option maxRecDepth 20000 in
theorem ggX9_canSet_X9_wants : GoodIn wsX9_canSet wsX9_wants := goodIn_r _ [10, 1, 11, 12, 13, 14, 15, 16, 17, 18, 19, 20, 21, 22, 23] rfl (by decide +kernel)
set_option maxRecDepth 20000 in
theorem gX9_canSet_X9_wants : GoodIn wsX9_canSet (wsV RX9 87 RX9 yX9_wants wsX9_wants) := goodIn_app (goodIn_r _ [7, 8, 9, 5] rfl (by decide +kernel)) ggX9_canSet_X9_wants
theorem dX9_canSet_0 : decode cX9_canSet 0 = .ok (.iconst 1, 1) := by decide +kernel
theorem dX9_canSet_1 : decode cX9_canSet 1 = .ok (.istore_n 3, 1) := by decide +kernel
theorem dX9_canSet_2 : decode cX9_canSet 2 = .ok (.iconst 0, 1) := by decide +kernel
theorem dX9_canSet_3 : decode cX9_canSet 3 = .ok (.istore 4, 2) := by decide +kernel
theorem dX9_canSet_5 : decode cX9_canSet 5 = .ok (.iload 4, 2) := by decide +kernel
theorem dX9_canSet_7 : decode cX9_canSet 7 = .ok (.bipush 10, 2) := by decide +kernel
theorem dX9_canSet_9 : decode cX9_canSet 9 = .ok (.if_icmp .ge 83, 3) := by decide +kernel
theorem dX9_canSet_12 : decode cX9_canSet 12 = .ok (.iload_n 3, 1) := by decide +kernel
theorem dX9_canSet_13 : decode cX9_canSet 13 = .ok (.ifCond .eq 79, 3) := by decide +kernel
theorem dX9_canSet_16 : decode cX9_canSet 16 = .ok (.iconst 0, 1) := by decide +kernel
theorem dX9_canSet_17 : decode cX9_canSet 17 = .ok (.istore 5, 2) := by decide +kernel
theorem dX9_canSet_19 : decode cX9_canSet 19 = .ok (.iconst 0, 1) := by decide +kernel
theorem dX9_canSet_20 : decode cX9_canSet 20 = .ok (.istore 6, 2) := by decide +kernel
theorem dX9_canSet_22 : decode cX9_canSet 22 = .ok (.iload 6, 2) := by decide +kernel
theorem dX9_canSet_24 : decode cX9_canSet 24 = .ok (.aload_n 0, 1) := by decide +kernel
theorem dX9_canSet_25 : decode cX9_canSet 25 = .ok (.getfield 7, 3) := by decide +kernel
theorem dX9_canSet_28 : decode cX9_canSet 28 = .ok (.iconst 0, 1) := by decide +kernel
theorem dX9_canSet_29 : decode cX9_canSet 29 = .ok (.iaload, 1) := by decide +kernel
theorem dX9_canSet_30 : decode cX9_canSet 30 = .ok (.if_icmp .ge 38, 3) := by decide +kernel
theorem dX9_canSet_33 : decode cX9_canSet 33 = .ok (.iload 5, 2) := by decide +kernel
theorem dX9_canSet_35 : decode cX9_canSet 35 = .ok (.iload_n 2, 1) := by decide +kernel
theorem dX9_canSet_36 : decode cX9_canSet 36 = .ok (.iload 6, 2) := by decide +kernel
theorem dX9_canSet_38 : decode cX9_canSet 38 = .ok (.ishr, 1) := by decide +kernel
theorem dX9_canSet_39 : decode cX9_canSet 39 = .ok (.iconst 1, 1) := by decide +kernel
theorem dX9_canSet_40 : decode cX9_canSet 40 = .ok (.iand, 1) := by decide +kernel
theorem dX9_canSet_41 : decode cX9_canSet 41 = .ok (.iconst 1, 1) := by decide +kernel
theorem dX9_canSet_42 : decode cX9_canSet 42 = .ok (.if_icmp .ne 16, 3) := by decide +kernel
theorem dX9_canSet_45 : decode cX9_canSet 45 = .ok (.aload_n 0, 1) := by decide +kernel
theorem dX9_canSet_46 : decode cX9_canSet 46 = .ok (.iload 6, 2) := by decide +kernel
theorem dX9_canSet_48 : decode cX9_canSet 48 = .ok (.iconst 4, 1) := by decide +kernel
theorem dX9_canSet_49 : decode cX9_canSet 49 = .ok (.iload 4, 2) := by decide +kernel
theorem dX9_canSet_51 : decode cX9_canSet 51 = .ok (.iadd, 1) := by decide +kernel
theorem dX9_canSet_52 : decode cX9_canSet 52 = .ok (.invokevirtual 46, 3) := by decide +kernel
theorem dX9_canSet_55 : decode cX9_canSet 55 = .ok (.goto 4, 3) := by decide +kernel
theorem dX9_canSet_58 : decode cX9_canSet 58 = .ok (.iconst 0, 1) := by decide +kernel
theorem dX9_canSet_59 : decode cX9_canSet 59 = .ok (.iadd, 1) := by decide +kernel
theorem dX9_canSet_60 : decode cX9_canSet 60 = .ok (.istore 5, 2) := by decide +kernel
theorem dX9_canSet_62 : decode cX9_canSet 62 = .ok (.iinc 6 1, 3) := by decide +kernel
theorem dX9_canSet_65 : decode cX9_canSet 65 = .ok (.goto (-43), 3) := by decide +kernel
theorem dX9_canSet_68 : decode cX9_canSet 68 = .ok (.aload_n 0, 1) := by decide +kernel
theorem dX9_canSet_69 : decode cX9_canSet 69 = .ok (.iload_n 1, 1) := by decide +kernel
theorem dX9_canSet_70 : decode cX9_canSet 70 = .ok (.iload 4, 2) := by decide +kernel
theorem dX9_canSet_72 : decode cX9_canSet 72 = .ok (.invokevirtual 87, 3) := by decide +kernel
theorem dX9_canSet_75 : decode cX9_canSet 75 = .ok (.iload 5, 2) := by decide +kernel
theorem dX9_canSet_77 : decode cX9_canSet 77 = .ok (.if_icmp .gt 7, 3) := by decide +kernel
theorem dX9_canSet_80 : decode cX9_canSet 80 = .ok (.iconst 1, 1) := by decide +kernel
theorem dX9_canSet_81 : decode cX9_canSet 81 = .ok (.goto 4, 3) := by decide +kernel
theorem dX9_canSet_84 : decode cX9_canSet 84 = .ok (.iconst 0, 1) := by decide +kernel
theorem dX9_canSet_85 : decode cX9_canSet 85 = .ok (.istore_n 3, 1) := by decide +kernel
theorem dX9_canSet_86 : decode cX9_canSet 86 = .ok (.iinc 4 1, 3) := by decide +kernel
theorem dX9_canSet_89 : decode cX9_canSet 89 = .ok (.goto (-84), 3) := by decide +kernel
theorem dX9_canSet_92 : decode cX9_canSet 92 = .ok (.iload_n 3, 1) := by decide +kernel
theorem dX9_canSet_93 : decode cX9_canSet 93 = .ok (.ireturn, 1) := by decide +kernel
set_option maxRecDepth 20000 in
theorem ggX9_chosen_X9_canBe : GoodIn wsX9_chosen wsX9_canBe := goodIn_r _ [6, 7, 8, 9, 5, 10, 1, 11, 12, 13, 14, 15, 16, 17, 18, 26, 27, 28, 29, 30, 31, 32, 33, 34, 35, 36, 37, 38] rfl (by decide +kernel)
set_option maxRecDepth 20000 in
theorem gX9_chosen_X9_canBe : GoodIn wsX9_chosen (wsV RX9 90 RX9 yX9_canBe wsX9_canBe) := goodIn_app (goodIn_r _ [2, 3, 4, 5] rfl (by decide +kernel)) ggX9_chosen_X9_canBe
set_option maxRecDepth 20000 in
theorem ggX9_chosen_X9_bits : GoodIn wsX9_chosen wsX9_bits := goodIn_r _ [21] rfl (by decide +kernel)
set_option maxRecDepth 20000 in
theorem gX9_chosen_X9_bits : GoodIn wsX9_chosen (va_wsS RX9 94 yX9_bits wsX9_bits) := goodIn_app (goodIn_r _ [19, 20, 5] rfl (by decide +kernel)) ggX9_chosen_X9_bits
set_option maxRecDepth 20000 in
theorem ggX9_chosen_X9_canSet : GoodIn wsX9_chosen wsX9_canSet := goodIn_r _ [25, 1, 15, 16, 17, 5, 18, 7, 8, 9, 10, 26, 27, 28, 29, 30, 31, 32, 33, 34, 35, 36, 37, 38] rfl (by decide +kernel)
set_option maxRecDepth 20000 in
theorem gX9_chosen_X9_canSet : GoodIn wsX9_chosen (wsV RX9 97 RX9 yX9_canSet wsX9_canSet) := goodIn_app (goodIn_r _ [22, 23, 24, 5] rfl (by decide +kernel)) ggX9_chosen_X9_canSet
theorem dX9_chosen_0 : decode cX9_chosen 0 = .ok (.iconst 0, 1) := by decide +kernel
theorem dX9_chosen_1 : decode cX9_chosen 1 = .ok (.istore_n 2, 1) := by decide +kernel
theorem dX9_chosen_2 : decode cX9_chosen 2 = .ok (.aload_n 0, 1) := by decide +kernel
theorem dX9_chosen_3 : decode cX9_chosen 3 = .ok (.iload_n 1, 1) := by decide +kernel
theorem dX9_chosen_4 : decode cX9_chosen 4 = .ok (.invokevirtual 90, 3) := by decide +kernel
theorem dX9_chosen_7 : decode cX9_chosen 7 = .ok (.ifCond .eq 8, 3) := by decide +kernel
theorem dX9_chosen_10 : decode cX9_chosen 10 = .ok (.bipush 13, 2) := by decide +kernel
theorem dX9_chosen_12 : decode cX9_chosen 12 = .ok (.goto 4, 3) := by decide +kernel
theorem dX9_chosen_15 : decode cX9_chosen 15 = .ok (.iconst 0, 1) := by decide +kernel
theorem dX9_chosen_16 : decode cX9_chosen 16 = .ok (.istore_n 3, 1) := by decide +kernel
theorem dX9_chosen_17 : decode cX9_chosen 17 = .ok (.iconst 1, 1) := by decide +kernel
theorem dX9_chosen_18 : decode cX9_chosen 18 = .ok (.istore 4, 2) := by decide +kernel
theorem dX9_chosen_20 : decode cX9_chosen 20 = .ok (.iload 4, 2) := by decide +kernel
theorem dX9_chosen_22 : decode cX9_chosen 22 = .ok (.iconst 1, 1) := by decide +kernel
theorem dX9_chosen_23 : decode cX9_chosen 23 = .ok (.aload_n 0, 1) := by decide +kernel
theorem dX9_chosen_24 : decode cX9_chosen 24 = .ok (.getfield 7, 3) := by decide +kernel
theorem dX9_chosen_27 : decode cX9_chosen 27 = .ok (.iconst 0, 1) := by decide +kernel
theorem dX9_chosen_28 : decode cX9_chosen 28 = .ok (.iaload, 1) := by decide +kernel
theorem dX9_chosen_29 : decode cX9_chosen 29 = .ok (.ishl, 1) := by decide +kernel
theorem dX9_chosen_30 : decode cX9_chosen 30 = .ok (.if_icmp .ge 42, 3) := by decide +kernel
theorem dX9_chosen_33 : decode cX9_chosen 33 = .ok (.iload_n 3, 1) := by decide +kernel
theorem dX9_chosen_34 : decode cX9_chosen 34 = .ok (.iconst 1, 1) := by decide +kernel
theorem dX9_chosen_35 : decode cX9_chosen 35 = .ok (.if_icmp .le 37, 3) := by decide +kernel
theorem dX9_chosen_38 : decode cX9_chosen 38 = .ok (.iload 4, 2) := by decide +kernel
theorem dX9_chosen_40 : decode cX9_chosen 40 = .ok (.invokestatic 94, 3) := by decide +kernel
theorem dX9_chosen_43 : decode cX9_chosen 43 = .ok (.iload_n 3, 1) := by decide +kernel
theorem dX9_chosen_44 : decode cX9_chosen 44 = .ok (.if_icmp .ge 22, 3) := by decide +kernel
theorem dX9_chosen_47 : decode cX9_chosen 47 = .ok (.aload_n 0, 1) := by decide +kernel
theorem dX9_chosen_48 : decode cX9_chosen 48 = .ok (.iload_n 1, 1) := by decide +kernel
theorem dX9_chosen_49 : decode cX9_chosen 49 = .ok (.iload 4, 2) := by decide +kernel
theorem dX9_chosen_51 : decode cX9_chosen 51 = .ok (.invokevirtual 97, 3) := by decide +kernel
theorem dX9_chosen_54 : decode cX9_chosen 54 = .ok (.ifCond .eq 12, 3) := by decide +kernel
theorem dX9_chosen_57 : decode cX9_chosen 57 = .ok (.iload 4, 2) := by decide +kernel
theorem dX9_chosen_59 : decode cX9_chosen 59 = .ok (.istore_n 2, 1) := by decide +kernel
theorem dX9_chosen_60 : decode cX9_chosen 60 = .ok (.iload 4, 2) := by decide +kernel
theorem dX9_chosen_62 : decode cX9_chosen 62 = .ok (.invokestatic 94, 3) := by decide +kernel
theorem dX9_chosen_65 : decode cX9_chosen 65 = .ok (.istore_n 3, 1) := by decide +kernel
theorem dX9_chosen_66 : decode cX9_chosen 66 = .ok (.iinc 4 1, 3) := by decide +kernel
theorem dX9_chosen_69 : decode cX9_chosen 69 = .ok (.goto (-49), 3) := by decide +kernel
theorem dX9_chosen_72 : decode cX9_chosen 72 = .ok (.iload_n 2, 1) := by decide +kernel
theorem dX9_chosen_73 : decode cX9_chosen 73 = .ok (.ireturn, 1) := by decide +kernel
set_option maxRecDepth 20000 in
theorem ggX9_wantedMany_X9_wants : GoodIn wsX9_wantedMany wsX9_wants := goodIn_r _ [5, 6, 7, 8, 9, 10, 11, 12, 13, 14, 15, 16, 17, 18, 19] rfl (by decide +kernel)
set_option maxRecDepth 20000 in
theorem gX9_wantedMany_X9_wants : GoodIn wsX9_wantedMany (wsV RX9 87 RX9 yX9_wants wsX9_wants) := goodIn_app (goodIn_r _ [1, 2, 3, 4] rfl (by decide +kernel)) ggX9_wantedMany_X9_wants
theorem dX9_wantedMany_0 : decode cX9_wantedMany 0 = .ok (.iconst 0, 1) := by decide +kernel
theorem dX9_wantedMany_1 : decode cX9_wantedMany 1 = .ok (.istore_n 2, 1) := by decide +kernel
theorem dX9_wantedMany_2 : decode cX9_wantedMany 2 = .ok (.iconst 0, 1) := by decide +kernel
theorem dX9_wantedMany_3 : decode cX9_wantedMany 3 = .ok (.istore_n 3, 1) := by decide +kernel
theorem dX9_wantedMany_4 : decode cX9_wantedMany 4 = .ok (.iload_n 3, 1) := by decide +kernel
theorem dX9_wantedMany_5 : decode cX9_wantedMany 5 = .ok (.bipush 10, 2) := by decide +kernel
theorem dX9_wantedMany_7 : decode cX9_wantedMany 7 = .ok (.if_icmp .ge 18, 3) := by decide +kernel
theorem dX9_wantedMany_10 : decode cX9_wantedMany 10 = .ok (.iload_n 2, 1) := by decide +kernel
theorem dX9_wantedMany_11 : decode cX9_wantedMany 11 = .ok (.aload_n 0, 1) := by decide +kernel
theorem dX9_wantedMany_12 : decode cX9_wantedMany 12 = .ok (.iload_n 1, 1) := by decide +kernel
theorem dX9_wantedMany_13 : decode cX9_wantedMany 13 = .ok (.iload_n 3, 1) := by decide +kernel
theorem dX9_wantedMany_14 : decode cX9_wantedMany 14 = .ok (.invokevirtual 87, 3) := by decide +kernel
theorem dX9_wantedMany_17 : decode cX9_wantedMany 17 = .ok (.iadd, 1) := by decide +kernel
theorem dX9_wantedMany_18 : decode cX9_wantedMany 18 = .ok (.istore_n 2, 1) := by decide +kernel
theorem dX9_wantedMany_19 : decode cX9_wantedMany 19 = .ok (.iinc 3 1, 3) := by decide +kernel
theorem dX9_wantedMany_22 : decode cX9_wantedMany 22 = .ok (.goto (-18), 3) := by decide +kernel
theorem dX9_wantedMany_25 : decode cX9_wantedMany 25 = .ok (.iload_n 2, 1) := by decide +kernel
theorem dX9_wantedMany_26 : decode cX9_wantedMany 26 = .ok (.ireturn, 1) := by decide +kernel
theorem dX9_drops_0 : decode cX9_drops 0 = .ok (.aload_n 0, 1) := by decide +kernel
theorem dX9_drops_1 : decode cX9_drops 1 = .ok (.getfield 7, 3) := by decide +kernel
theorem dX9_drops_4 : decode cX9_drops 4 = .ok (.bipush 8, 2) := by decide +kernel
theorem dX9_drops_6 : decode cX9_drops 6 = .ok (.dup2, 1) := by decide +kernel
theorem dX9_drops_7 : decode cX9_drops 7 = .ok (.iaload, 1) := by decide +kernel
theorem dX9_drops_8 : decode cX9_drops 8 = .ok (.iconst 1, 1) := by decide +kernel
theorem dX9_drops_9 : decode cX9_drops 9 = .ok (.isub, 1) := by decide +kernel
theorem dX9_drops_10 : decode cX9_drops 10 = .ok (.iastore, 1) := by decide +kernel
theorem dX9_drops_11 : decode cX9_drops 11 = .ok (.bipush 10, 2) := by decide +kernel
theorem dX9_drops_13 : decode cX9_drops 13 = .ok (.iload_n 1, 1) := by decide +kernel
theorem dX9_drops_14 : decode cX9_drops 14 = .ok (.imul, 1) := by decide +kernel
theorem dX9_drops_15 : decode cX9_drops 15 = .ok (.istore_n 2, 1) := by decide +kernel
theorem dX9_drops_16 : decode cX9_drops 16 = .ok (.iload_n 2, 1) := by decide +kernel
theorem dX9_drops_17 : decode cX9_drops 17 = .ok (.bipush 10, 2) := by decide +kernel
theorem dX9_drops_19 : decode cX9_drops 19 = .ok (.aload_n 0, 1) := by decide +kernel
theorem dX9_drops_20 : decode cX9_drops 20 = .ok (.getfield 7, 3) := by decide +kernel
theorem dX9_drops_23 : decode cX9_drops 23 = .ok (.bipush 8, 2) := by decide +kernel
theorem dX9_drops_25 : decode cX9_drops 25 = .ok (.iaload, 1) := by decide +kernel
theorem dX9_drops_26 : decode cX9_drops 26 = .ok (.imul, 1) := by decide +kernel
theorem dX9_drops_27 : decode cX9_drops 27 = .ok (.if_icmp .ge 32, 3) := by decide +kernel
theorem dX9_drops_30 : decode cX9_drops 30 = .ok (.aload_n 0, 1) := by decide +kernel
theorem dX9_drops_31 : decode cX9_drops 31 = .ok (.getfield 7, 3) := by decide +kernel
theorem dX9_drops_34 : decode cX9_drops 34 = .ok (.sipush 223, 3) := by decide +kernel
theorem dX9_drops_37 : decode cX9_drops 37 = .ok (.iload_n 2, 1) := by decide +kernel
theorem dX9_drops_38 : decode cX9_drops 38 = .ok (.iadd, 1) := by decide +kernel
theorem dX9_drops_39 : decode cX9_drops 39 = .ok (.aload_n 0, 1) := by decide +kernel
theorem dX9_drops_40 : decode cX9_drops 40 = .ok (.getfield 7, 3) := by decide +kernel
theorem dX9_drops_43 : decode cX9_drops 43 = .ok (.sipush 223, 3) := by decide +kernel
theorem dX9_drops_46 : decode cX9_drops 46 = .ok (.iload_n 2, 1) := by decide +kernel
theorem dX9_drops_47 : decode cX9_drops 47 = .ok (.iadd, 1) := by decide +kernel
theorem dX9_drops_48 : decode cX9_drops 48 = .ok (.bipush 10, 2) := by decide +kernel
theorem dX9_drops_50 : decode cX9_drops 50 = .ok (.iadd, 1) := by decide +kernel
theorem dX9_drops_51 : decode cX9_drops 51 = .ok (.iaload, 1) := by decide +kernel
theorem dX9_drops_52 : decode cX9_drops 52 = .ok (.iastore, 1) := by decide +kernel
theorem dX9_drops_53 : decode cX9_drops 53 = .ok (.iinc 2 1, 3) := by decide +kernel
theorem dX9_drops_56 : decode cX9_drops 56 = .ok (.goto (-40), 3) := by decide +kernel
theorem dX9_drops_59 : decode cX9_drops 59 = .ok (.return_, 1) := by decide +kernel
set_option maxRecDepth 20000 in
theorem ggX9_gives_X9_of : GoodIn wsX9_gives wsX9_of := goodIn_r _ [7, 1, 12, 13, 14, 15, 16, 17, 18, 19, 20, 21, 22, 23, 24] rfl (by decide +kernel)
set_option maxRecDepth 20000 in
theorem gX9_gives_X9_of : GoodIn wsX9_gives (wsV RX9 46 RX9 yX9_of wsX9_of) := goodIn_app (goodIn_r _ [3, 4, 5, 6] rfl (by decide +kernel)) ggX9_gives_X9_of
set_option maxRecDepth 20000 in
theorem ggX9_gives_X9_lay : GoodIn wsX9_gives wsX9_lay := goodIn_r _ [11, 1, 12, 13, 14, 15, 16, 17, 18, 19, 20, 21, 22, 23, 24] rfl (by decide +kernel)
set_option maxRecDepth 20000 in
theorem gX9_gives_X9_lay : GoodIn wsX9_gives (wsV RX9 56 RX9 yX9_lay wsX9_lay) := goodIn_app (goodIn_r _ [8, 9, 10, 6] rfl (by decide +kernel)) ggX9_gives_X9_lay
theorem dX9_gives_0 : decode cX9_gives 0 = .ok (.aload_n 0, 1) := by decide +kernel
theorem dX9_gives_1 : decode cX9_gives 1 = .ok (.getfield 7, 3) := by decide +kernel
theorem dX9_gives_4 : decode cX9_gives 4 = .ok (.iconst 1, 1) := by decide +kernel
theorem dX9_gives_5 : decode cX9_gives 5 = .ok (.iaload, 1) := by decide +kernel
theorem dX9_gives_6 : decode cX9_gives 6 = .ok (.istore_n 1, 1) := by decide +kernel
theorem dX9_gives_7 : decode cX9_gives 7 = .ok (.iconst 0, 1) := by decide +kernel
theorem dX9_gives_8 : decode cX9_gives 8 = .ok (.istore_n 2, 1) := by decide +kernel
theorem dX9_gives_9 : decode cX9_gives 9 = .ok (.iload_n 2, 1) := by decide +kernel
theorem dX9_gives_10 : decode cX9_gives 10 = .ok (.bipush 10, 2) := by decide +kernel
theorem dX9_gives_12 : decode cX9_gives 12 = .ok (.if_icmp .ge 86, 3) := by decide +kernel
theorem dX9_gives_15 : decode cX9_gives 15 = .ok (.aload_n 0, 1) := by decide +kernel
theorem dX9_gives_16 : decode cX9_gives 16 = .ok (.iload_n 1, 1) := by decide +kernel
theorem dX9_gives_17 : decode cX9_gives 17 = .ok (.iconst 4, 1) := by decide +kernel
theorem dX9_gives_18 : decode cX9_gives 18 = .ok (.iload_n 2, 1) := by decide +kernel
theorem dX9_gives_19 : decode cX9_gives 19 = .ok (.iadd, 1) := by decide +kernel
theorem dX9_gives_20 : decode cX9_gives 20 = .ok (.invokevirtual 46, 3) := by decide +kernel
theorem dX9_gives_23 : decode cX9_gives 23 = .ok (.aload_n 0, 1) := by decide +kernel
theorem dX9_gives_24 : decode cX9_gives 24 = .ok (.getfield 32, 3) := by decide +kernel
theorem dX9_gives_27 : decode cX9_gives 27 = .ok (.iload_n 2, 1) := by decide +kernel
theorem dX9_gives_28 : decode cX9_gives 28 = .ok (.iaload, 1) := by decide +kernel
theorem dX9_gives_29 : decode cX9_gives 29 = .ok (.if_icmp .ge 14, 3) := by decide +kernel
theorem dX9_gives_32 : decode cX9_gives 32 = .ok (.aload_n 0, 1) := by decide +kernel
theorem dX9_gives_33 : decode cX9_gives 33 = .ok (.iload_n 1, 1) := by decide +kernel
theorem dX9_gives_34 : decode cX9_gives 34 = .ok (.iconst 4, 1) := by decide +kernel
theorem dX9_gives_35 : decode cX9_gives 35 = .ok (.iload_n 2, 1) := by decide +kernel
theorem dX9_gives_36 : decode cX9_gives 36 = .ok (.iadd, 1) := by decide +kernel
theorem dX9_gives_37 : decode cX9_gives 37 = .ok (.invokevirtual 46, 3) := by decide +kernel
theorem dX9_gives_40 : decode cX9_gives 40 = .ok (.goto 9, 3) := by decide +kernel
theorem dX9_gives_43 : decode cX9_gives 43 = .ok (.aload_n 0, 1) := by decide +kernel
theorem dX9_gives_44 : decode cX9_gives 44 = .ok (.getfield 32, 3) := by decide +kernel
theorem dX9_gives_47 : decode cX9_gives 47 = .ok (.iload_n 2, 1) := by decide +kernel
theorem dX9_gives_48 : decode cX9_gives 48 = .ok (.iaload, 1) := by decide +kernel
theorem dX9_gives_49 : decode cX9_gives 49 = .ok (.istore_n 3, 1) := by decide +kernel
theorem dX9_gives_50 : decode cX9_gives 50 = .ok (.aload_n 0, 1) := by decide +kernel
theorem dX9_gives_51 : decode cX9_gives 51 = .ok (.iload_n 1, 1) := by decide +kernel
theorem dX9_gives_52 : decode cX9_gives 52 = .ok (.iconst 4, 1) := by decide +kernel
theorem dX9_gives_53 : decode cX9_gives 53 = .ok (.iload_n 2, 1) := by decide +kernel
theorem dX9_gives_54 : decode cX9_gives 54 = .ok (.iadd, 1) := by decide +kernel
theorem dX9_gives_55 : decode cX9_gives 55 = .ok (.aload_n 0, 1) := by decide +kernel
theorem dX9_gives_56 : decode cX9_gives 56 = .ok (.iload_n 1, 1) := by decide +kernel
theorem dX9_gives_57 : decode cX9_gives 57 = .ok (.iconst 4, 1) := by decide +kernel
theorem dX9_gives_58 : decode cX9_gives 58 = .ok (.iload_n 2, 1) := by decide +kernel
theorem dX9_gives_59 : decode cX9_gives 59 = .ok (.iadd, 1) := by decide +kernel
theorem dX9_gives_60 : decode cX9_gives 60 = .ok (.invokevirtual 46, 3) := by decide +kernel
theorem dX9_gives_63 : decode cX9_gives 63 = .ok (.iload_n 3, 1) := by decide +kernel
theorem dX9_gives_64 : decode cX9_gives 64 = .ok (.isub, 1) := by decide +kernel
theorem dX9_gives_65 : decode cX9_gives 65 = .ok (.invokevirtual 56, 3) := by decide +kernel
theorem dX9_gives_68 : decode cX9_gives 68 = .ok (.aload_n 0, 1) := by decide +kernel
theorem dX9_gives_69 : decode cX9_gives 69 = .ok (.getfield 32, 3) := by decide +kernel
theorem dX9_gives_72 : decode cX9_gives 72 = .ok (.iload_n 2, 1) := by decide +kernel
theorem dX9_gives_73 : decode cX9_gives 73 = .ok (.dup2, 1) := by decide +kernel
theorem dX9_gives_74 : decode cX9_gives 74 = .ok (.iaload, 1) := by decide +kernel
theorem dX9_gives_75 : decode cX9_gives 75 = .ok (.iload_n 3, 1) := by decide +kernel
theorem dX9_gives_76 : decode cX9_gives 76 = .ok (.isub, 1) := by decide +kernel
theorem dX9_gives_77 : decode cX9_gives 77 = .ok (.iastore, 1) := by decide +kernel
theorem dX9_gives_78 : decode cX9_gives 78 = .ok (.aload_n 0, 1) := by decide +kernel
theorem dX9_gives_79 : decode cX9_gives 79 = .ok (.getfield 7, 3) := by decide +kernel
theorem dX9_gives_82 : decode cX9_gives 82 = .ok (.sipush 197, 3) := by decide +kernel
theorem dX9_gives_85 : decode cX9_gives 85 = .ok (.iload_n 2, 1) := by decide +kernel
theorem dX9_gives_86 : decode cX9_gives 86 = .ok (.iadd, 1) := by decide +kernel
theorem dX9_gives_87 : decode cX9_gives 87 = .ok (.dup2, 1) := by decide +kernel
theorem dX9_gives_88 : decode cX9_gives 88 = .ok (.iaload, 1) := by decide +kernel
theorem dX9_gives_89 : decode cX9_gives 89 = .ok (.iload_n 3, 1) := by decide +kernel
theorem dX9_gives_90 : decode cX9_gives 90 = .ok (.isub, 1) := by decide +kernel
theorem dX9_gives_91 : decode cX9_gives 91 = .ok (.iastore, 1) := by decide +kernel
theorem dX9_gives_92 : decode cX9_gives 92 = .ok (.iinc 2 1, 3) := by decide +kernel
theorem dX9_gives_95 : decode cX9_gives 95 = .ok (.goto (-86), 3) := by decide +kernel
theorem dX9_gives_98 : decode cX9_gives 98 = .ok (.return_, 1) := by decide +kernel
set_option maxRecDepth 20000 in
theorem ggX9_serves_X9_chosen : GoodIn wsX9_serves wsX9_chosen := goodIn_r _ [7, 2, 8, 9, 10, 6, 11, 12, 13, 14, 15, 16, 17, 18, 19, 20, 21, 22, 23, 24, 25, 26, 27, 28, 29, 30, 86, 87, 88, 89, 90, 91, 92, 93, 94, 95, 96, 97, 98] rfl (by decide +kernel)
set_option maxRecDepth 20000 in
theorem gX9_serves_X9_chosen : GoodIn wsX9_serves (wsV RX9 100 RX9 yX9_chosen wsX9_chosen) := goodIn_app (goodIn_r _ [3, 4, 5, 6] rfl (by decide +kernel)) ggX9_serves_X9_chosen
set_option maxRecDepth 20000 in
theorem ggX9_serves_X9_wants : GoodIn wsX9_serves wsX9_wants := goodIn_r _ [15, 2, 86, 87, 88, 89, 90, 91, 92, 93, 94, 95, 96, 97, 98] rfl (by decide +kernel)
set_option maxRecDepth 20000 in
theorem gX9_serves_X9_wants : GoodIn wsX9_serves (wsV RX9 87 RX9 yX9_wants wsX9_wants) := goodIn_app (goodIn_r _ [12, 13, 14, 6] rfl (by decide +kernel)) ggX9_serves_X9_wants
set_option maxRecDepth 20000 in
theorem ggX9_serves_X9_fetchesIt : GoodIn wsX9_serves wsX9_fetchesIt := goodIn_r _ [34, 2, 35, 36, 37, 6, 38, 20, 21, 22, 23, 39, 40, 41, 42, 43, 44, 45, 46, 47, 48, 49, 50, 86, 87, 88, 89, 90, 91, 92, 93, 94, 95, 96, 97, 98] rfl (by decide +kernel)
set_option maxRecDepth 20000 in
theorem gX9_serves_X9_fetchesIt : GoodIn wsX9_serves (wsV RX9 103 RX9 yX9_fetchesIt wsX9_fetchesIt) := goodIn_app (goodIn_r _ [31, 32, 33, 6] rfl (by decide +kernel)) ggX9_serves_X9_fetchesIt
set_option maxRecDepth 20000 in
theorem ggX9_serves_X9_gives : GoodIn wsX9_serves wsX9_gives := goodIn_r _ [54, 2, 1, 20, 21, 22, 6, 23, 43, 44, 45, 46, 86, 87, 88, 89, 90, 91, 92, 93, 94, 95, 96, 97, 98] rfl (by decide +kernel)
set_option maxRecDepth 20000 in
theorem gX9_serves_X9_gives : GoodIn wsX9_serves (wsV RX9 106 RX9 yX9_gives wsX9_gives) := goodIn_app (goodIn_r _ [51, 52, 53, 6] rfl (by decide +kernel)) ggX9_serves_X9_gives
set_option maxRecDepth 20000 in
theorem ggX9_serves_X9_stowPlace : GoodIn wsX9_serves wsX9_stowPlace := goodIn_r _ [58, 2, 20, 21, 22, 6, 23, 59, 60, 61, 62, 63, 64, 65, 66, 67, 68, 69, 70, 71, 72, 73, 86, 87, 88, 89, 90, 91, 92, 93, 94, 95, 96, 97, 98] rfl (by decide +kernel)
set_option maxRecDepth 20000 in
theorem gX9_serves_X9_stowPlace : GoodIn wsX9_serves (wsV RX9 109 RX9 yX9_stowPlace wsX9_stowPlace) := goodIn_app (goodIn_r _ [55, 56, 57, 6] rfl (by decide +kernel)) ggX9_serves_X9_stowPlace
set_option maxRecDepth 20000 in
theorem ggX9_serves_X9_stows : GoodIn wsX9_serves wsX9_stows := goodIn_r _ [77, 2, 78, 79, 80, 6, 81, 43, 44, 45, 46, 20, 21, 22, 23, 39, 40, 41, 42, 47, 48, 49, 50, 86, 87, 88, 89, 90, 91, 92, 93, 94, 95, 96, 97, 98] rfl (by decide +kernel)
set_option maxRecDepth 20000 in
theorem gX9_serves_X9_stows : GoodIn wsX9_serves (wsV RX9 113 RX9 yX9_stows wsX9_stows) := goodIn_app (goodIn_r _ [74, 75, 76, 6] rfl (by decide +kernel)) ggX9_serves_X9_stows
set_option maxRecDepth 20000 in
theorem ggX9_serves_X9_drops : GoodIn wsX9_serves wsX9_drops := goodIn_r _ [85, 2, 86, 87, 88, 89, 90, 91, 92, 93, 94, 95, 96, 97, 98] rfl (by decide +kernel)
set_option maxRecDepth 20000 in
theorem gX9_serves_X9_drops : GoodIn wsX9_serves (wsV RX9 116 RX9 yX9_drops wsX9_drops) := goodIn_app (goodIn_r _ [82, 83, 84, 6] rfl (by decide +kernel)) ggX9_serves_X9_drops
theorem dX9_serves_0 : decode cX9_serves 0 = .ok (.iconst 0, 1) := by decide +kernel
theorem dX9_serves_1 : decode cX9_serves 1 = .ok (.istore_n 2, 1) := by decide +kernel
theorem dX9_serves_2 : decode cX9_serves 2 = .ok (.aload_n 0, 1) := by decide +kernel
theorem dX9_serves_3 : decode cX9_serves 3 = .ok (.iload_n 1, 1) := by decide +kernel
theorem dX9_serves_4 : decode cX9_serves 4 = .ok (.invokevirtual 100, 3) := by decide +kernel
theorem dX9_serves_7 : decode cX9_serves 7 = .ok (.istore_n 3, 1) := by decide +kernel
theorem dX9_serves_8 : decode cX9_serves 8 = .ok (.iconst 0, 1) := by decide +kernel
theorem dX9_serves_9 : decode cX9_serves 9 = .ok (.istore 4, 2) := by decide +kernel
theorem dX9_serves_11 : decode cX9_serves 11 = .ok (.iload 4, 2) := by decide +kernel
theorem dX9_serves_13 : decode cX9_serves 13 = .ok (.bipush 10, 2) := by decide +kernel
theorem dX9_serves_15 : decode cX9_serves 15 = .ok (.if_icmp .ge 23, 3) := by decide +kernel
theorem dX9_serves_18 : decode cX9_serves 18 = .ok (.aload_n 0, 1) := by decide +kernel
theorem dX9_serves_19 : decode cX9_serves 19 = .ok (.getfield 32, 3) := by decide +kernel
theorem dX9_serves_22 : decode cX9_serves 22 = .ok (.iload 4, 2) := by decide +kernel
theorem dX9_serves_24 : decode cX9_serves 24 = .ok (.aload_n 0, 1) := by decide +kernel
theorem dX9_serves_25 : decode cX9_serves 25 = .ok (.iload_n 1, 1) := by decide +kernel
theorem dX9_serves_26 : decode cX9_serves 26 = .ok (.iload 4, 2) := by decide +kernel
theorem dX9_serves_28 : decode cX9_serves 28 = .ok (.invokevirtual 87, 3) := by decide +kernel
theorem dX9_serves_31 : decode cX9_serves 31 = .ok (.iastore, 1) := by decide +kernel
theorem dX9_serves_32 : decode cX9_serves 32 = .ok (.iinc 4 1, 3) := by decide +kernel
theorem dX9_serves_35 : decode cX9_serves 35 = .ok (.goto (-24), 3) := by decide +kernel
theorem dX9_serves_38 : decode cX9_serves 38 = .ok (.iconst 0, 1) := by decide +kernel
theorem dX9_serves_39 : decode cX9_serves 39 = .ok (.istore 4, 2) := by decide +kernel
theorem dX9_serves_41 : decode cX9_serves 41 = .ok (.iload 4, 2) := by decide +kernel
theorem dX9_serves_43 : decode cX9_serves 43 = .ok (.aload_n 0, 1) := by decide +kernel
theorem dX9_serves_44 : decode cX9_serves 44 = .ok (.getfield 7, 3) := by decide +kernel
theorem dX9_serves_47 : decode cX9_serves 47 = .ok (.iconst 0, 1) := by decide +kernel
theorem dX9_serves_48 : decode cX9_serves 48 = .ok (.iaload, 1) := by decide +kernel
theorem dX9_serves_49 : decode cX9_serves 49 = .ok (.if_icmp .ge 43, 3) := by decide +kernel
theorem dX9_serves_52 : decode cX9_serves 52 = .ok (.iload_n 3, 1) := by decide +kernel
theorem dX9_serves_53 : decode cX9_serves 53 = .ok (.iload 4, 2) := by decide +kernel
theorem dX9_serves_55 : decode cX9_serves 55 = .ok (.ishr, 1) := by decide +kernel
theorem dX9_serves_56 : decode cX9_serves 56 = .ok (.iconst 1, 1) := by decide +kernel
theorem dX9_serves_57 : decode cX9_serves 57 = .ok (.iand, 1) := by decide +kernel
theorem dX9_serves_58 : decode cX9_serves 58 = .ok (.iconst 1, 1) := by decide +kernel
theorem dX9_serves_59 : decode cX9_serves 59 = .ok (.if_icmp .ne 27, 3) := by decide +kernel
theorem dX9_serves_62 : decode cX9_serves 62 = .ok (.iload_n 2, 1) := by decide +kernel
theorem dX9_serves_63 : decode cX9_serves 63 = .ok (.aload_n 0, 1) := by decide +kernel
theorem dX9_serves_64 : decode cX9_serves 64 = .ok (.iload 4, 2) := by decide +kernel
theorem dX9_serves_66 : decode cX9_serves 66 = .ok (.invokevirtual 103, 3) := by decide +kernel
theorem dX9_serves_69 : decode cX9_serves 69 = .ok (.iadd, 1) := by decide +kernel
theorem dX9_serves_70 : decode cX9_serves 70 = .ok (.istore_n 2, 1) := by decide +kernel
theorem dX9_serves_71 : decode cX9_serves 71 = .ok (.aload_n 0, 1) := by decide +kernel
theorem dX9_serves_72 : decode cX9_serves 72 = .ok (.invokevirtual 106, 3) := by decide +kernel
theorem dX9_serves_75 : decode cX9_serves 75 = .ok (.iload_n 2, 1) := by decide +kernel
theorem dX9_serves_76 : decode cX9_serves 76 = .ok (.aload_n 0, 1) := by decide +kernel
theorem dX9_serves_77 : decode cX9_serves 77 = .ok (.aload_n 0, 1) := by decide +kernel
theorem dX9_serves_78 : decode cX9_serves 78 = .ok (.invokevirtual 109, 3) := by decide +kernel
theorem dX9_serves_81 : decode cX9_serves 81 = .ok (.invokevirtual 113, 3) := by decide +kernel
theorem dX9_serves_84 : decode cX9_serves 84 = .ok (.iadd, 1) := by decide +kernel
theorem dX9_serves_85 : decode cX9_serves 85 = .ok (.istore_n 2, 1) := by decide +kernel
theorem dX9_serves_86 : decode cX9_serves 86 = .ok (.iinc 4 1, 3) := by decide +kernel
theorem dX9_serves_89 : decode cX9_serves 89 = .ok (.goto (-48), 3) := by decide +kernel
theorem dX9_serves_92 : decode cX9_serves 92 = .ok (.aload_n 0, 1) := by decide +kernel
theorem dX9_serves_93 : decode cX9_serves 93 = .ok (.iload_n 1, 1) := by decide +kernel
theorem dX9_serves_94 : decode cX9_serves 94 = .ok (.invokevirtual 116, 3) := by decide +kernel
theorem dX9_serves_97 : decode cX9_serves 97 = .ok (.aload_n 0, 1) := by decide +kernel
theorem dX9_serves_98 : decode cX9_serves 98 = .ok (.getfield 7, 3) := by decide +kernel
theorem dX9_serves_101 : decode cX9_serves 101 = .ok (.bipush 6, 2) := by decide +kernel
theorem dX9_serves_103 : decode cX9_serves 103 = .ok (.dup2, 1) := by decide +kernel
theorem dX9_serves_104 : decode cX9_serves 104 = .ok (.iaload, 1) := by decide +kernel
theorem dX9_serves_105 : decode cX9_serves 105 = .ok (.iconst 1, 1) := by decide +kernel
theorem dX9_serves_106 : decode cX9_serves 106 = .ok (.iadd, 1) := by decide +kernel
theorem dX9_serves_107 : decode cX9_serves 107 = .ok (.iastore, 1) := by decide +kernel
theorem dX9_serves_108 : decode cX9_serves 108 = .ok (.iload_n 2, 1) := by decide +kernel
theorem dX9_serves_109 : decode cX9_serves 109 = .ok (.ireturn, 1) := by decide +kernel
set_option maxRecDepth 20000 in
theorem ggX9_firstServable_X9_canBe : GoodIn wsX9_firstServable wsX9_canBe := goodIn_r _ [6, 7, 8, 9, 5, 10, 1, 11, 12, 13, 14, 15, 16, 17, 18, 19, 20, 21, 22, 23, 24, 25, 26, 27, 28, 29, 30, 31] rfl (by decide +kernel)
set_option maxRecDepth 20000 in
theorem gX9_firstServable_X9_canBe : GoodIn wsX9_firstServable (wsV RX9 90 RX9 yX9_canBe wsX9_canBe) := goodIn_app (goodIn_r _ [2, 3, 4, 5] rfl (by decide +kernel)) ggX9_firstServable_X9_canBe
theorem dX9_firstServable_0 : decode cX9_firstServable 0 = .ok (.iconst (-1), 1) := by decide +kernel
theorem dX9_firstServable_1 : decode cX9_firstServable 1 = .ok (.istore_n 1, 1) := by decide +kernel
theorem dX9_firstServable_2 : decode cX9_firstServable 2 = .ok (.aload_n 0, 1) := by decide +kernel
theorem dX9_firstServable_3 : decode cX9_firstServable 3 = .ok (.getfield 7, 3) := by decide +kernel
theorem dX9_firstServable_6 : decode cX9_firstServable 6 = .ok (.bipush 8, 2) := by decide +kernel
theorem dX9_firstServable_8 : decode cX9_firstServable 8 = .ok (.iaload, 1) := by decide +kernel
theorem dX9_firstServable_9 : decode cX9_firstServable 9 = .ok (.iconst 1, 1) := by decide +kernel
theorem dX9_firstServable_10 : decode cX9_firstServable 10 = .ok (.isub, 1) := by decide +kernel
theorem dX9_firstServable_11 : decode cX9_firstServable 11 = .ok (.istore_n 2, 1) := by decide +kernel
theorem dX9_firstServable_12 : decode cX9_firstServable 12 = .ok (.iload_n 2, 1) := by decide +kernel
theorem dX9_firstServable_13 : decode cX9_firstServable 13 = .ok (.ifCond .lt 23, 3) := by decide +kernel
theorem dX9_firstServable_16 : decode cX9_firstServable 16 = .ok (.aload_n 0, 1) := by decide +kernel
theorem dX9_firstServable_17 : decode cX9_firstServable 17 = .ok (.iload_n 2, 1) := by decide +kernel
theorem dX9_firstServable_18 : decode cX9_firstServable 18 = .ok (.invokevirtual 90, 3) := by decide +kernel
theorem dX9_firstServable_21 : decode cX9_firstServable 21 = .ok (.ifCond .eq 7, 3) := by decide +kernel
theorem dX9_firstServable_24 : decode cX9_firstServable 24 = .ok (.iload_n 2, 1) := by decide +kernel
theorem dX9_firstServable_25 : decode cX9_firstServable 25 = .ok (.goto 4, 3) := by decide +kernel
theorem dX9_firstServable_28 : decode cX9_firstServable 28 = .ok (.iload_n 1, 1) := by decide +kernel
theorem dX9_firstServable_29 : decode cX9_firstServable 29 = .ok (.istore_n 1, 1) := by decide +kernel
theorem dX9_firstServable_30 : decode cX9_firstServable 30 = .ok (.iinc 2 (-1), 3) := by decide +kernel
theorem dX9_firstServable_33 : decode cX9_firstServable 33 = .ok (.goto (-21), 3) := by decide +kernel
theorem dX9_firstServable_36 : decode cX9_firstServable 36 = .ok (.iload_n 1, 1) := by decide +kernel
theorem dX9_firstServable_37 : decode cX9_firstServable 37 = .ok (.ireturn, 1) := by decide +kernel
set_option maxRecDepth 20000 in
theorem ggX9_servesAll_X9_firstServable : GoodIn wsX9_servesAll wsX9_firstServable := goodIn_r _ [5, 6, 7, 8, 9, 4, 10, 11, 12, 13, 14, 15, 16, 17, 18, 19, 20, 21, 22, 94, 95, 96, 97, 98, 99, 100, 101, 102, 103, 104, 105, 106] rfl (by decide +kernel)
set_option maxRecDepth 20000 in
theorem gX9_servesAll_X9_firstServable : GoodIn wsX9_servesAll (wsV RX9 120 RX9 yX9_firstServable wsX9_firstServable) := goodIn_app (goodIn_r _ [1, 2, 3, 4] rfl (by decide +kernel)) ggX9_servesAll_X9_firstServable
set_option maxRecDepth 20000 in
theorem ggX9_servesAll_X9_serves : GoodIn wsX9_servesAll wsX9_serves := goodIn_r _ [26, 27, 6, 28, 29, 30, 4, 31, 7, 8, 9, 10, 11, 12, 13, 14, 15, 16, 17, 18, 19, 20, 21, 22, 32, 33, 34, 35, 36, 37, 38, 39, 40, 41, 42, 43, 44, 45, 46, 47, 48, 49, 50, 51, 52, 53, 54, 55, 56, 57, 58, 59, 60, 61, 62, 63, 64, 65, 66, 67, 68, 69, 70, 71, 72, 73, 74, 75, 76, 77, 78, 79, 80, 81, 82, 83, 84, 85, 86, 87, 88, 89, 90, 91, 92, 93, 94, 95, 96, 97, 98, 99, 100, 101, 102, 103, 104, 105, 106] rfl (by decide +kernel)
set_option maxRecDepth 20000 in
theorem gX9_servesAll_X9_serves : GoodIn wsX9_servesAll (wsV RX9 123 RX9 yX9_serves wsX9_serves) := goodIn_app (goodIn_r _ [23, 24, 25, 4] rfl (by decide +kernel)) ggX9_servesAll_X9_serves
theorem dX9_servesAll_0 : decode cX9_servesAll 0 = .ok (.iconst 0, 1) := by decide +kernel
theorem dX9_servesAll_1 : decode cX9_servesAll 1 = .ok (.istore_n 1, 1) := by decide +kernel
theorem dX9_servesAll_2 : decode cX9_servesAll 2 = .ok (.aload_n 0, 1) := by decide +kernel
theorem dX9_servesAll_3 : decode cX9_servesAll 3 = .ok (.invokevirtual 120, 3) := by decide +kernel
theorem dX9_servesAll_6 : decode cX9_servesAll 6 = .ok (.istore_n 2, 1) := by decide +kernel
theorem dX9_servesAll_7 : decode cX9_servesAll 7 = .ok (.iload_n 2, 1) := by decide +kernel
theorem dX9_servesAll_8 : decode cX9_servesAll 8 = .ok (.iconst (-1), 1) := by decide +kernel
theorem dX9_servesAll_9 : decode cX9_servesAll 9 = .ok (.if_icmp .eq 19, 3) := by decide +kernel
theorem dX9_servesAll_12 : decode cX9_servesAll 12 = .ok (.iload_n 1, 1) := by decide +kernel
theorem dX9_servesAll_13 : decode cX9_servesAll 13 = .ok (.aload_n 0, 1) := by decide +kernel
theorem dX9_servesAll_14 : decode cX9_servesAll 14 = .ok (.iload_n 2, 1) := by decide +kernel
theorem dX9_servesAll_15 : decode cX9_servesAll 15 = .ok (.invokevirtual 123, 3) := by decide +kernel
theorem dX9_servesAll_18 : decode cX9_servesAll 18 = .ok (.iadd, 1) := by decide +kernel
theorem dX9_servesAll_19 : decode cX9_servesAll 19 = .ok (.istore_n 1, 1) := by decide +kernel
theorem dX9_servesAll_20 : decode cX9_servesAll 20 = .ok (.aload_n 0, 1) := by decide +kernel
theorem dX9_servesAll_21 : decode cX9_servesAll 21 = .ok (.invokevirtual 120, 3) := by decide +kernel
theorem dX9_servesAll_24 : decode cX9_servesAll 24 = .ok (.istore_n 2, 1) := by decide +kernel
theorem dX9_servesAll_25 : decode cX9_servesAll 25 = .ok (.goto (-18), 3) := by decide +kernel
theorem dX9_servesAll_28 : decode cX9_servesAll 28 = .ok (.iload_n 1, 1) := by decide +kernel
theorem dX9_servesAll_29 : decode cX9_servesAll 29 = .ok (.ireturn, 1) := by decide +kernel
set_option maxRecDepth 20000 in
theorem ggX9_servesAside_X9_putAside : GoodIn wsX9_servesAside wsX9_putAside := goodIn_r _ [5, 6, 7, 99, 100, 101, 102, 103, 104, 105, 106, 107, 108, 109, 110, 111] rfl (by decide +kernel)
set_option maxRecDepth 20000 in
theorem gX9_servesAside_X9_putAside : GoodIn wsX9_servesAside (wsV RX9 77 RX9 yX9_putAside wsX9_putAside) := goodIn_app (goodIn_r _ [1, 2, 3, 4] rfl (by decide +kernel)) ggX9_servesAside_X9_putAside
set_option maxRecDepth 20000 in
theorem ggX9_servesAside_X9_serves : GoodIn wsX9_servesAside wsX9_serves := goodIn_r _ [11, 12, 7, 13, 14, 15, 4, 16, 17, 18, 19, 20, 21, 22, 23, 24, 25, 26, 27, 28, 29, 30, 31, 32, 33, 34, 35, 36, 37, 38, 39, 40, 41, 42, 43, 44, 45, 46, 47, 48, 49, 50, 51, 52, 53, 54, 55, 56, 57, 58, 59, 60, 61, 62, 63, 64, 65, 66, 67, 68, 69, 70, 71, 72, 73, 74, 75, 76, 77, 78, 79, 80, 81, 82, 83, 84, 85, 86, 87, 88, 89, 90, 91, 92, 93, 94, 99, 100, 101, 102, 103, 104, 105, 106, 107, 108, 109, 110, 111] rfl (by decide +kernel)
set_option maxRecDepth 20000 in
theorem gX9_servesAside_X9_serves : GoodIn wsX9_servesAside (wsV RX9 123 RX9 yX9_serves wsX9_serves) := goodIn_app (goodIn_r _ [8, 9, 10, 4] rfl (by decide +kernel)) ggX9_servesAside_X9_serves
set_option maxRecDepth 20000 in
theorem ggX9_servesAside_X9_takeBack : GoodIn wsX9_servesAside wsX9_takeBack := goodIn_r _ [98, 7, 6, 99, 100, 101, 102, 103, 104, 105, 106, 107, 108, 109, 110, 111] rfl (by decide +kernel)
set_option maxRecDepth 20000 in
theorem gX9_servesAside_X9_takeBack : GoodIn wsX9_servesAside (wsV RX9 126 RX9 yX9_takeBack wsX9_takeBack) := goodIn_app (goodIn_r _ [95, 96, 97, 4] rfl (by decide +kernel)) ggX9_servesAside_X9_takeBack
theorem dX9_servesAside_0 : decode cX9_servesAside 0 = .ok (.aload_n 0, 1) := by decide +kernel
theorem dX9_servesAside_1 : decode cX9_servesAside 1 = .ok (.invokevirtual 77, 3) := by decide +kernel
theorem dX9_servesAside_4 : decode cX9_servesAside 4 = .ok (.aload_n 0, 1) := by decide +kernel
theorem dX9_servesAside_5 : decode cX9_servesAside 5 = .ok (.iload_n 1, 1) := by decide +kernel
theorem dX9_servesAside_6 : decode cX9_servesAside 6 = .ok (.invokevirtual 123, 3) := by decide +kernel
theorem dX9_servesAside_9 : decode cX9_servesAside 9 = .ok (.istore_n 2, 1) := by decide +kernel
theorem dX9_servesAside_10 : decode cX9_servesAside 10 = .ok (.aload_n 0, 1) := by decide +kernel
theorem dX9_servesAside_11 : decode cX9_servesAside 11 = .ok (.invokevirtual 126, 3) := by decide +kernel
theorem dX9_servesAside_14 : decode cX9_servesAside 14 = .ok (.iload_n 2, 1) := by decide +kernel
theorem dX9_servesAside_15 : decode cX9_servesAside 15 = .ok (.ireturn, 1) := by decide +kernel
set_option maxRecDepth 20000 in
theorem ggX9_cheapest_X9_hasWindow : GoodIn wsX9_cheapest wsX9_hasWindow := goodIn_r _ [6, 1, 107, 108, 109, 110, 111, 112, 113, 114, 115, 116, 117, 118, 119] rfl (by decide +kernel)
set_option maxRecDepth 20000 in
theorem gX9_cheapest_X9_hasWindow : GoodIn wsX9_cheapest (wsV RX9 129 RX9 yX9_hasWindow wsX9_hasWindow) := goodIn_app (goodIn_r _ [2, 3, 4, 5] rfl (by decide +kernel)) ggX9_cheapest_X9_hasWindow
set_option maxRecDepth 20000 in
theorem ggX9_cheapest_X9_canBe : GoodIn wsX9_cheapest wsX9_canBe := goodIn_r _ [10, 11, 12, 13, 5, 14, 1, 15, 16, 17, 18, 19, 20, 21, 22, 107, 108, 109, 110, 111, 112, 113, 114, 115, 116, 117, 118, 119] rfl (by decide +kernel)
set_option maxRecDepth 20000 in
theorem gX9_cheapest_X9_canBe : GoodIn wsX9_cheapest (wsV RX9 90 RX9 yX9_canBe wsX9_canBe) := goodIn_app (goodIn_r _ [7, 8, 9, 5] rfl (by decide +kernel)) ggX9_cheapest_X9_canBe
set_option maxRecDepth 20000 in
theorem ggX9_cheapest_X9_servesAside : GoodIn wsX9_cheapest wsX9_servesAside := goodIn_r _ [26, 27, 28, 29, 5, 30, 31, 1, 32, 33, 34, 35, 36, 37, 38, 39, 40, 7, 8, 9, 10, 11, 12, 13, 14, 15, 16, 17, 18, 19, 20, 21, 22, 41, 42, 43, 44, 45, 46, 47, 48, 49, 50, 51, 52, 53, 54, 55, 56, 57, 58, 59, 60, 61, 62, 63, 64, 65, 66, 67, 68, 69, 70, 71, 72, 73, 74, 75, 76, 77, 78, 79, 80, 81, 82, 83, 84, 85, 86, 87, 88, 89, 90, 91, 92, 93, 94, 95, 96, 97, 98, 99, 100, 101, 102, 103, 104, 105, 106, 107, 108, 109, 110, 111, 112, 113, 114, 115, 116, 117, 118, 119] rfl (by decide +kernel)
set_option maxRecDepth 20000 in
theorem gX9_cheapest_X9_servesAside : GoodIn wsX9_cheapest (wsV RX9 133 RX9 yX9_servesAside wsX9_servesAside) := goodIn_app (goodIn_r _ [23, 24, 25, 5] rfl (by decide +kernel)) ggX9_cheapest_X9_servesAside
theorem dX9_cheapest_0 : decode cX9_cheapest 0 = .ok (.iconst (-1), 1) := by decide +kernel
theorem dX9_cheapest_1 : decode cX9_cheapest 1 = .ok (.istore_n 1, 1) := by decide +kernel
theorem dX9_cheapest_2 : decode cX9_cheapest 2 = .ok (.iconst 0, 1) := by decide +kernel
theorem dX9_cheapest_3 : decode cX9_cheapest 3 = .ok (.istore_n 2, 1) := by decide +kernel
theorem dX9_cheapest_4 : decode cX9_cheapest 4 = .ok (.iconst 0, 1) := by decide +kernel
theorem dX9_cheapest_5 : decode cX9_cheapest 5 = .ok (.istore_n 3, 1) := by decide +kernel
theorem dX9_cheapest_6 : decode cX9_cheapest 6 = .ok (.iload_n 3, 1) := by decide +kernel
theorem dX9_cheapest_7 : decode cX9_cheapest 7 = .ok (.aload_n 0, 1) := by decide +kernel
theorem dX9_cheapest_8 : decode cX9_cheapest 8 = .ok (.getfield 7, 3) := by decide +kernel
theorem dX9_cheapest_11 : decode cX9_cheapest 11 = .ok (.bipush 8, 2) := by decide +kernel
theorem dX9_cheapest_13 : decode cX9_cheapest 13 = .ok (.iaload, 1) := by decide +kernel
theorem dX9_cheapest_14 : decode cX9_cheapest 14 = .ok (.if_icmp .ge 82, 3) := by decide +kernel
theorem dX9_cheapest_17 : decode cX9_cheapest 17 = .ok (.aload_n 0, 1) := by decide +kernel
theorem dX9_cheapest_18 : decode cX9_cheapest 18 = .ok (.invokevirtual 129, 3) := by decide +kernel
theorem dX9_cheapest_21 : decode cX9_cheapest 21 = .ok (.ifCond .ne 75, 3) := by decide +kernel
theorem dX9_cheapest_24 : decode cX9_cheapest 24 = .ok (.aload_n 0, 1) := by decide +kernel
theorem dX9_cheapest_25 : decode cX9_cheapest 25 = .ok (.iload_n 3, 1) := by decide +kernel
theorem dX9_cheapest_26 : decode cX9_cheapest 26 = .ok (.invokevirtual 90, 3) := by decide +kernel
theorem dX9_cheapest_29 : decode cX9_cheapest 29 = .ok (.ifCond .eq 11, 3) := by decide +kernel
theorem dX9_cheapest_32 : decode cX9_cheapest 32 = .ok (.aload_n 0, 1) := by decide +kernel
theorem dX9_cheapest_33 : decode cX9_cheapest 33 = .ok (.iload_n 3, 1) := by decide +kernel
theorem dX9_cheapest_34 : decode cX9_cheapest 34 = .ok (.invokevirtual 133, 3) := by decide +kernel
theorem dX9_cheapest_37 : decode cX9_cheapest 37 = .ok (.goto 4, 3) := by decide +kernel
theorem dX9_cheapest_40 : decode cX9_cheapest 40 = .ok (.iconst (-1), 1) := by decide +kernel
theorem dX9_cheapest_41 : decode cX9_cheapest 41 = .ok (.istore 4, 2) := by decide +kernel
theorem dX9_cheapest_43 : decode cX9_cheapest 43 = .ok (.iload 4, 2) := by decide +kernel
theorem dX9_cheapest_45 : decode cX9_cheapest 45 = .ok (.iconst (-1), 1) := by decide +kernel
theorem dX9_cheapest_46 : decode cX9_cheapest 46 = .ok (.if_icmp .eq 18, 3) := by decide +kernel
theorem dX9_cheapest_49 : decode cX9_cheapest 49 = .ok (.iload_n 1, 1) := by decide +kernel
theorem dX9_cheapest_50 : decode cX9_cheapest 50 = .ok (.iconst (-1), 1) := by decide +kernel
theorem dX9_cheapest_51 : decode cX9_cheapest 51 = .ok (.if_icmp .eq 9, 3) := by decide +kernel
theorem dX9_cheapest_54 : decode cX9_cheapest 54 = .ok (.iload 4, 2) := by decide +kernel
theorem dX9_cheapest_56 : decode cX9_cheapest 56 = .ok (.iload_n 2, 1) := by decide +kernel
theorem dX9_cheapest_57 : decode cX9_cheapest 57 = .ok (.if_icmp .ge 7, 3) := by decide +kernel
theorem dX9_cheapest_60 : decode cX9_cheapest 60 = .ok (.iconst 1, 1) := by decide +kernel
theorem dX9_cheapest_61 : decode cX9_cheapest 61 = .ok (.goto 4, 3) := by decide +kernel
theorem dX9_cheapest_64 : decode cX9_cheapest 64 = .ok (.iconst 0, 1) := by decide +kernel
theorem dX9_cheapest_65 : decode cX9_cheapest 65 = .ok (.istore 5, 2) := by decide +kernel
theorem dX9_cheapest_67 : decode cX9_cheapest 67 = .ok (.iload 5, 2) := by decide +kernel
theorem dX9_cheapest_69 : decode cX9_cheapest 69 = .ok (.ifCond .eq 7, 3) := by decide +kernel
theorem dX9_cheapest_72 : decode cX9_cheapest 72 = .ok (.iload_n 3, 1) := by decide +kernel
theorem dX9_cheapest_73 : decode cX9_cheapest 73 = .ok (.goto 4, 3) := by decide +kernel
theorem dX9_cheapest_76 : decode cX9_cheapest 76 = .ok (.iload_n 1, 1) := by decide +kernel
theorem dX9_cheapest_77 : decode cX9_cheapest 77 = .ok (.istore_n 1, 1) := by decide +kernel
theorem dX9_cheapest_78 : decode cX9_cheapest 78 = .ok (.iload 5, 2) := by decide +kernel
theorem dX9_cheapest_80 : decode cX9_cheapest 80 = .ok (.ifCond .eq 8, 3) := by decide +kernel
theorem dX9_cheapest_83 : decode cX9_cheapest 83 = .ok (.iload 4, 2) := by decide +kernel
theorem dX9_cheapest_85 : decode cX9_cheapest 85 = .ok (.goto 4, 3) := by decide +kernel
theorem dX9_cheapest_88 : decode cX9_cheapest 88 = .ok (.iload_n 2, 1) := by decide +kernel
theorem dX9_cheapest_89 : decode cX9_cheapest 89 = .ok (.istore_n 2, 1) := by decide +kernel
theorem dX9_cheapest_90 : decode cX9_cheapest 90 = .ok (.iinc 3 1, 3) := by decide +kernel
theorem dX9_cheapest_93 : decode cX9_cheapest 93 = .ok (.goto (-87), 3) := by decide +kernel
theorem dX9_cheapest_96 : decode cX9_cheapest 96 = .ok (.iload_n 1, 1) := by decide +kernel
theorem dX9_cheapest_97 : decode cX9_cheapest 97 = .ok (.ireturn, 1) := by decide +kernel
set_option maxRecDepth 20000 in
theorem ggX9_addShelf_X9_in : GoodIn wsX9_addShelf wsX9_in := goodIn_r _ [6] rfl (by decide +kernel)
set_option maxRecDepth 20000 in
theorem gX9_addShelf_X9_in : GoodIn wsX9_addShelf (va_wsS RX9 39 yX9_in wsX9_in) := goodIn_app (goodIn_r _ [3, 4, 5] rfl (by decide +kernel)) ggX9_addShelf_X9_in
set_option maxRecDepth 20000 in
theorem ggX9_addShelf_X9_fails : GoodIn wsX9_addShelf wsX9_fails := goodIn_r _ [10, 1, 45, 46, 47, 48, 49, 50, 51, 52, 53, 54, 55, 56, 57] rfl (by decide +kernel)
set_option maxRecDepth 20000 in
theorem gX9_addShelf_X9_fails : GoodIn wsX9_addShelf (wsV RX9 136 RX9 yX9_fails wsX9_fails) := goodIn_app (goodIn_r _ [7, 8, 9, 5] rfl (by decide +kernel)) ggX9_addShelf_X9_fails
set_option maxRecDepth 20000 in
theorem ggX9_addShelf_X9_hasWindow : GoodIn wsX9_addShelf wsX9_hasWindow := goodIn_r _ [14, 2, 45, 46, 47, 48, 49, 50, 51, 52, 53, 54, 55, 56, 57] rfl (by decide +kernel)
set_option maxRecDepth 20000 in
theorem gX9_addShelf_X9_hasWindow : GoodIn wsX9_addShelf (wsV RX9 129 RX9 yX9_hasWindow wsX9_hasWindow) := goodIn_app (goodIn_r _ [11, 12, 13, 5] rfl (by decide +kernel)) ggX9_addShelf_X9_hasWindow
set_option maxRecDepth 20000 in
theorem ggX9_addShelf_X9_place : GoodIn wsX9_addShelf wsX9_place := goodIn_r _ [18, 19, 20, 21, 5, 22, 23, 24, 25, 26, 2, 27, 28, 29, 30, 3, 4, 6, 45, 46, 47, 48, 49, 50, 51, 52, 53, 54, 55, 56, 57] rfl (by decide +kernel)
set_option maxRecDepth 20000 in
theorem gX9_addShelf_X9_place : GoodIn wsX9_addShelf (wsV RX9 74 RX9 yX9_place wsX9_place) := goodIn_app (goodIn_r _ [15, 16, 17, 5] rfl (by decide +kernel)) ggX9_addShelf_X9_place
set_option maxRecDepth 20000 in
theorem ggX9_addShelf_X9_records : GoodIn wsX9_addShelf wsX9_records := goodIn_r _ [34, 35, 36, 2, 45, 46, 47, 48, 49, 50, 51, 52, 53, 54, 55, 56, 57] rfl (by decide +kernel)
set_option maxRecDepth 20000 in
theorem gX9_addShelf_X9_records : GoodIn wsX9_addShelf (wsV RX9 139 RX9 yX9_records wsX9_records) := goodIn_app (goodIn_r _ [31, 32, 33, 5] rfl (by decide +kernel)) ggX9_addShelf_X9_records
set_option maxRecDepth 20000 in
theorem ggX9_addShelf_X9_lay : GoodIn wsX9_addShelf wsX9_lay := goodIn_r _ [40, 2, 45, 46, 47, 48, 49, 50, 51, 52, 53, 54, 55, 56, 57] rfl (by decide +kernel)
set_option maxRecDepth 20000 in
theorem gX9_addShelf_X9_lay : GoodIn wsX9_addShelf (wsV RX9 56 RX9 yX9_lay wsX9_lay) := goodIn_app (goodIn_r _ [37, 38, 39, 5] rfl (by decide +kernel)) ggX9_addShelf_X9_lay
set_option maxRecDepth 20000 in
theorem ggX9_addShelf_X9_puts : GoodIn wsX9_addShelf wsX9_puts := goodIn_r _ [44, 37, 38, 39, 5, 40, 2, 45, 46, 47, 48, 49, 50, 51, 52, 53, 54, 55, 56, 57] rfl (by decide +kernel)
set_option maxRecDepth 20000 in
theorem gX9_addShelf_X9_puts : GoodIn wsX9_addShelf (wsV RX9 71 RX9 yX9_puts wsX9_puts) := goodIn_app (goodIn_r _ [41, 42, 43, 5] rfl (by decide +kernel)) ggX9_addShelf_X9_puts
theorem dX9_addShelf_0 : decode cX9_addShelf 0 = .ok (.aload_n 0, 1) := by decide +kernel
theorem dX9_addShelf_1 : decode cX9_addShelf 1 = .ok (.iconst 0, 1) := by decide +kernel
theorem dX9_addShelf_2 : decode cX9_addShelf 2 = .ok (.putfield 35, 3) := by decide +kernel
theorem dX9_addShelf_5 : decode cX9_addShelf 5 = .ok (.iload_n 1, 1) := by decide +kernel
theorem dX9_addShelf_6 : decode cX9_addShelf 6 = .ok (.iconst 1, 1) := by decide +kernel
theorem dX9_addShelf_7 : decode cX9_addShelf 7 = .ok (.iconst 4, 1) := by decide +kernel
theorem dX9_addShelf_8 : decode cX9_addShelf 8 = .ok (.invokestatic 39, 3) := by decide +kernel
theorem dX9_addShelf_11 : decode cX9_addShelf 11 = .ok (.ifCond .ne 9, 3) := by decide +kernel
theorem dX9_addShelf_14 : decode cX9_addShelf 14 = .ok (.aload_n 0, 1) := by decide +kernel
theorem dX9_addShelf_15 : decode cX9_addShelf 15 = .ok (.iconst 1, 1) := by decide +kernel
theorem dX9_addShelf_16 : decode cX9_addShelf 16 = .ok (.invokevirtual 136, 3) := by decide +kernel
theorem dX9_addShelf_19 : decode cX9_addShelf 19 = .ok (.ireturn, 1) := by decide +kernel
theorem dX9_addShelf_20 : decode cX9_addShelf 20 = .ok (.aload_n 0, 1) := by decide +kernel
theorem dX9_addShelf_21 : decode cX9_addShelf 21 = .ok (.getfield 7, 3) := by decide +kernel
theorem dX9_addShelf_24 : decode cX9_addShelf 24 = .ok (.iconst 0, 1) := by decide +kernel
theorem dX9_addShelf_25 : decode cX9_addShelf 25 = .ok (.iaload, 1) := by decide +kernel
theorem dX9_addShelf_26 : decode cX9_addShelf 26 = .ok (.bipush 12, 2) := by decide +kernel
theorem dX9_addShelf_28 : decode cX9_addShelf 28 = .ok (.if_icmp .eq 19, 3) := by decide +kernel
theorem dX9_addShelf_31 : decode cX9_addShelf 31 = .ok (.aload_n 0, 1) := by decide +kernel
theorem dX9_addShelf_32 : decode cX9_addShelf 32 = .ok (.invokevirtual 129, 3) := by decide +kernel
theorem dX9_addShelf_35 : decode cX9_addShelf 35 = .ok (.ifCond .ne 12, 3) := by decide +kernel
theorem dX9_addShelf_38 : decode cX9_addShelf 38 = .ok (.aload_n 0, 1) := by decide +kernel
theorem dX9_addShelf_39 : decode cX9_addShelf 39 = .ok (.iload_n 1, 1) := by decide +kernel
theorem dX9_addShelf_40 : decode cX9_addShelf 40 = .ok (.invokevirtual 74, 3) := by decide +kernel
theorem dX9_addShelf_43 : decode cX9_addShelf 43 = .ok (.iconst (-1), 1) := by decide +kernel
theorem dX9_addShelf_44 : decode cX9_addShelf 44 = .ok (.if_icmp .ne 9, 3) := by decide +kernel
theorem dX9_addShelf_47 : decode cX9_addShelf 47 = .ok (.aload_n 0, 1) := by decide +kernel
theorem dX9_addShelf_48 : decode cX9_addShelf 48 = .ok (.iconst 2, 1) := by decide +kernel
theorem dX9_addShelf_49 : decode cX9_addShelf 49 = .ok (.invokevirtual 136, 3) := by decide +kernel
theorem dX9_addShelf_52 : decode cX9_addShelf 52 = .ok (.ireturn, 1) := by decide +kernel
theorem dX9_addShelf_53 : decode cX9_addShelf 53 = .ok (.aload_n 0, 1) := by decide +kernel
theorem dX9_addShelf_54 : decode cX9_addShelf 54 = .ok (.invokevirtual 139, 3) := by decide +kernel
theorem dX9_addShelf_57 : decode cX9_addShelf 57 = .ok (.aload_n 0, 1) := by decide +kernel
theorem dX9_addShelf_58 : decode cX9_addShelf 58 = .ok (.iload_n 1, 1) := by decide +kernel
theorem dX9_addShelf_59 : decode cX9_addShelf 59 = .ok (.invokevirtual 74, 3) := by decide +kernel
theorem dX9_addShelf_62 : decode cX9_addShelf 62 = .ok (.istore_n 2, 1) := by decide +kernel
theorem dX9_addShelf_63 : decode cX9_addShelf 63 = .ok (.aload_n 0, 1) := by decide +kernel
theorem dX9_addShelf_64 : decode cX9_addShelf 64 = .ok (.getfield 7, 3) := by decide +kernel
theorem dX9_addShelf_67 : decode cX9_addShelf 67 = .ok (.iconst 0, 1) := by decide +kernel
theorem dX9_addShelf_68 : decode cX9_addShelf 68 = .ok (.iaload, 1) := by decide +kernel
theorem dX9_addShelf_69 : decode cX9_addShelf 69 = .ok (.istore_n 3, 1) := by decide +kernel
theorem dX9_addShelf_70 : decode cX9_addShelf 70 = .ok (.aload_n 0, 1) := by decide +kernel
theorem dX9_addShelf_71 : decode cX9_addShelf 71 = .ok (.getfield 7, 3) := by decide +kernel
theorem dX9_addShelf_74 : decode cX9_addShelf 74 = .ok (.iconst 0, 1) := by decide +kernel
theorem dX9_addShelf_75 : decode cX9_addShelf 75 = .ok (.dup2, 1) := by decide +kernel
theorem dX9_addShelf_76 : decode cX9_addShelf 76 = .ok (.iaload, 1) := by decide +kernel
theorem dX9_addShelf_77 : decode cX9_addShelf 77 = .ok (.iconst 1, 1) := by decide +kernel
theorem dX9_addShelf_78 : decode cX9_addShelf 78 = .ok (.iadd, 1) := by decide +kernel
theorem dX9_addShelf_79 : decode cX9_addShelf 79 = .ok (.iastore, 1) := by decide +kernel
theorem dX9_addShelf_80 : decode cX9_addShelf 80 = .ok (.iconst 0, 1) := by decide +kernel
theorem dX9_addShelf_81 : decode cX9_addShelf 81 = .ok (.istore 4, 2) := by decide +kernel
theorem dX9_addShelf_83 : decode cX9_addShelf 83 = .ok (.iload 4, 2) := by decide +kernel
theorem dX9_addShelf_85 : decode cX9_addShelf 85 = .ok (.bipush 14, 2) := by decide +kernel
theorem dX9_addShelf_87 : decode cX9_addShelf 87 = .ok (.if_icmp .ge 17, 3) := by decide +kernel
theorem dX9_addShelf_90 : decode cX9_addShelf 90 = .ok (.aload_n 0, 1) := by decide +kernel
theorem dX9_addShelf_91 : decode cX9_addShelf 91 = .ok (.iload_n 3, 1) := by decide +kernel
theorem dX9_addShelf_92 : decode cX9_addShelf 92 = .ok (.iload 4, 2) := by decide +kernel
theorem dX9_addShelf_94 : decode cX9_addShelf 94 = .ok (.iconst 0, 1) := by decide +kernel
theorem dX9_addShelf_95 : decode cX9_addShelf 95 = .ok (.invokevirtual 56, 3) := by decide +kernel
theorem dX9_addShelf_98 : decode cX9_addShelf 98 = .ok (.iinc 4 1, 3) := by decide +kernel
theorem dX9_addShelf_101 : decode cX9_addShelf 101 = .ok (.goto (-18), 3) := by decide +kernel
theorem dX9_addShelf_104 : decode cX9_addShelf 104 = .ok (.aload_n 0, 1) := by decide +kernel
theorem dX9_addShelf_105 : decode cX9_addShelf 105 = .ok (.iload_n 3, 1) := by decide +kernel
theorem dX9_addShelf_106 : decode cX9_addShelf 106 = .ok (.iconst 0, 1) := by decide +kernel
theorem dX9_addShelf_107 : decode cX9_addShelf 107 = .ok (.iload_n 1, 1) := by decide +kernel
theorem dX9_addShelf_108 : decode cX9_addShelf 108 = .ok (.invokevirtual 56, 3) := by decide +kernel
theorem dX9_addShelf_111 : decode cX9_addShelf 111 = .ok (.aload_n 0, 1) := by decide +kernel
theorem dX9_addShelf_112 : decode cX9_addShelf 112 = .ok (.iload_n 3, 1) := by decide +kernel
theorem dX9_addShelf_113 : decode cX9_addShelf 113 = .ok (.iload_n 2, 1) := by decide +kernel
theorem dX9_addShelf_114 : decode cX9_addShelf 114 = .ok (.invokevirtual 71, 3) := by decide +kernel
theorem dX9_addShelf_117 : decode cX9_addShelf 117 = .ok (.iload_n 3, 1) := by decide +kernel
theorem dX9_addShelf_118 : decode cX9_addShelf 118 = .ok (.ireturn, 1) := by decide +kernel
set_option maxRecDepth 20000 in
theorem ggX9_isBare_X9_of : GoodIn wsX9_isBare wsX9_of := goodIn_r _ [5, 6, 7, 8, 9, 10, 11, 12, 13, 14, 15, 16, 17, 18, 19] rfl (by decide +kernel)
set_option maxRecDepth 20000 in
theorem gX9_isBare_X9_of : GoodIn wsX9_isBare (wsV RX9 46 RX9 yX9_of wsX9_of) := goodIn_app (goodIn_r _ [1, 2, 3, 4] rfl (by decide +kernel)) ggX9_isBare_X9_of
theorem dX9_isBare_0 : decode cX9_isBare 0 = .ok (.iconst 1, 1) := by decide +kernel
theorem dX9_isBare_1 : decode cX9_isBare 1 = .ok (.istore_n 2, 1) := by decide +kernel
theorem dX9_isBare_2 : decode cX9_isBare 2 = .ok (.iconst 0, 1) := by decide +kernel
theorem dX9_isBare_3 : decode cX9_isBare 3 = .ok (.istore_n 3, 1) := by decide +kernel
theorem dX9_isBare_4 : decode cX9_isBare 4 = .ok (.iload_n 3, 1) := by decide +kernel
theorem dX9_isBare_5 : decode cX9_isBare 5 = .ok (.bipush 10, 2) := by decide +kernel
theorem dX9_isBare_7 : decode cX9_isBare 7 = .ok (.if_icmp .ge 30, 3) := by decide +kernel
theorem dX9_isBare_10 : decode cX9_isBare 10 = .ok (.iload_n 2, 1) := by decide +kernel
theorem dX9_isBare_11 : decode cX9_isBare 11 = .ok (.ifCond .eq 18, 3) := by decide +kernel
theorem dX9_isBare_14 : decode cX9_isBare 14 = .ok (.aload_n 0, 1) := by decide +kernel
theorem dX9_isBare_15 : decode cX9_isBare 15 = .ok (.iload_n 1, 1) := by decide +kernel
theorem dX9_isBare_16 : decode cX9_isBare 16 = .ok (.iconst 4, 1) := by decide +kernel
theorem dX9_isBare_17 : decode cX9_isBare 17 = .ok (.iload_n 3, 1) := by decide +kernel
theorem dX9_isBare_18 : decode cX9_isBare 18 = .ok (.iadd, 1) := by decide +kernel
theorem dX9_isBare_19 : decode cX9_isBare 19 = .ok (.invokevirtual 46, 3) := by decide +kernel
theorem dX9_isBare_22 : decode cX9_isBare 22 = .ok (.ifCond .ne 7, 3) := by decide +kernel
theorem dX9_isBare_25 : decode cX9_isBare 25 = .ok (.iconst 1, 1) := by decide +kernel
theorem dX9_isBare_26 : decode cX9_isBare 26 = .ok (.goto 4, 3) := by decide +kernel
theorem dX9_isBare_29 : decode cX9_isBare 29 = .ok (.iconst 0, 1) := by decide +kernel
theorem dX9_isBare_30 : decode cX9_isBare 30 = .ok (.istore_n 2, 1) := by decide +kernel
theorem dX9_isBare_31 : decode cX9_isBare 31 = .ok (.iinc 3 1, 3) := by decide +kernel
theorem dX9_isBare_34 : decode cX9_isBare 34 = .ok (.goto (-30), 3) := by decide +kernel
theorem dX9_isBare_37 : decode cX9_isBare 37 = .ok (.iload_n 2, 1) := by decide +kernel
theorem dX9_isBare_38 : decode cX9_isBare 38 = .ok (.ireturn, 1) := by decide +kernel
set_option maxRecDepth 20000 in
theorem ggX9_scrap_X9_isShelf : GoodIn wsX9_scrap wsX9_isShelf := goodIn_r _ [7, 2, 8, 9, 6, 10, 29, 30, 31, 32, 33, 34, 35, 36, 37, 38, 39, 40, 41] rfl (by decide +kernel)
set_option maxRecDepth 20000 in
theorem gX9_scrap_X9_isShelf : GoodIn wsX9_scrap (wsV RX9 142 RX9 yX9_isShelf wsX9_isShelf) := goodIn_app (goodIn_r _ [3, 4, 5, 6] rfl (by decide +kernel)) ggX9_scrap_X9_isShelf
set_option maxRecDepth 20000 in
theorem ggX9_scrap_X9_fails : GoodIn wsX9_scrap wsX9_fails := goodIn_r _ [14, 1, 29, 30, 31, 32, 33, 34, 35, 36, 37, 38, 39, 40, 41] rfl (by decide +kernel)
set_option maxRecDepth 20000 in
theorem gX9_scrap_X9_fails : GoodIn wsX9_scrap (wsV RX9 136 RX9 yX9_fails wsX9_fails) := goodIn_app (goodIn_r _ [11, 12, 13, 6] rfl (by decide +kernel)) ggX9_scrap_X9_fails
set_option maxRecDepth 20000 in
theorem ggX9_scrap_X9_isBare : GoodIn wsX9_scrap wsX9_isBare := goodIn_r _ [18, 19, 20, 21, 6, 22, 2, 29, 30, 31, 32, 33, 34, 35, 36, 37, 38, 39, 40, 41] rfl (by decide +kernel)
set_option maxRecDepth 20000 in
theorem gX9_scrap_X9_isBare : GoodIn wsX9_scrap (wsV RX9 145 RX9 yX9_isBare wsX9_isBare) := goodIn_app (goodIn_r _ [15, 16, 17, 6] rfl (by decide +kernel)) ggX9_scrap_X9_isBare
set_option maxRecDepth 20000 in
theorem ggX9_scrap_X9_records : GoodIn wsX9_scrap wsX9_records := goodIn_r _ [26, 27, 28, 2, 29, 30, 31, 32, 33, 34, 35, 36, 37, 38, 39, 40, 41] rfl (by decide +kernel)
set_option maxRecDepth 20000 in
theorem gX9_scrap_X9_records : GoodIn wsX9_scrap (wsV RX9 139 RX9 yX9_records wsX9_records) := goodIn_app (goodIn_r _ [23, 24, 25, 6] rfl (by decide +kernel)) ggX9_scrap_X9_records
set_option maxRecDepth 20000 in
theorem ggX9_scrap_X9_of : GoodIn wsX9_scrap wsX9_of := goodIn_r _ [22, 2, 29, 30, 31, 32, 33, 34, 35, 36, 37, 38, 39, 40, 41] rfl (by decide +kernel)
set_option maxRecDepth 20000 in
theorem gX9_scrap_X9_of : GoodIn wsX9_scrap (wsV RX9 46 RX9 yX9_of wsX9_of) := goodIn_app (goodIn_r _ [19, 20, 21, 6] rfl (by decide +kernel)) ggX9_scrap_X9_of
theorem dX9_scrap_0 : decode cX9_scrap 0 = .ok (.aload_n 0, 1) := by decide +kernel
theorem dX9_scrap_1 : decode cX9_scrap 1 = .ok (.iconst 0, 1) := by decide +kernel
theorem dX9_scrap_2 : decode cX9_scrap 2 = .ok (.putfield 35, 3) := by decide +kernel
theorem dX9_scrap_5 : decode cX9_scrap 5 = .ok (.aload_n 0, 1) := by decide +kernel
theorem dX9_scrap_6 : decode cX9_scrap 6 = .ok (.iload_n 1, 1) := by decide +kernel
theorem dX9_scrap_7 : decode cX9_scrap 7 = .ok (.invokevirtual 142, 3) := by decide +kernel
theorem dX9_scrap_10 : decode cX9_scrap 10 = .ok (.ifCond .ne 9, 3) := by decide +kernel
theorem dX9_scrap_13 : decode cX9_scrap 13 = .ok (.aload_n 0, 1) := by decide +kernel
theorem dX9_scrap_14 : decode cX9_scrap 14 = .ok (.iconst 1, 1) := by decide +kernel
theorem dX9_scrap_15 : decode cX9_scrap 15 = .ok (.invokevirtual 136, 3) := by decide +kernel
theorem dX9_scrap_18 : decode cX9_scrap 18 = .ok (.ireturn, 1) := by decide +kernel
theorem dX9_scrap_19 : decode cX9_scrap 19 = .ok (.aload_n 0, 1) := by decide +kernel
theorem dX9_scrap_20 : decode cX9_scrap 20 = .ok (.iload_n 1, 1) := by decide +kernel
theorem dX9_scrap_21 : decode cX9_scrap 21 = .ok (.invokevirtual 145, 3) := by decide +kernel
theorem dX9_scrap_24 : decode cX9_scrap 24 = .ok (.ifCond .eq 13, 3) := by decide +kernel
theorem dX9_scrap_27 : decode cX9_scrap 27 = .ok (.iload_n 1, 1) := by decide +kernel
theorem dX9_scrap_28 : decode cX9_scrap 28 = .ok (.aload_n 0, 1) := by decide +kernel
theorem dX9_scrap_29 : decode cX9_scrap 29 = .ok (.getfield 7, 3) := by decide +kernel
theorem dX9_scrap_32 : decode cX9_scrap 32 = .ok (.iconst 1, 1) := by decide +kernel
theorem dX9_scrap_33 : decode cX9_scrap 33 = .ok (.iaload, 1) := by decide +kernel
theorem dX9_scrap_34 : decode cX9_scrap 34 = .ok (.if_icmp .ne 9, 3) := by decide +kernel
theorem dX9_scrap_37 : decode cX9_scrap 37 = .ok (.aload_n 0, 1) := by decide +kernel
theorem dX9_scrap_38 : decode cX9_scrap 38 = .ok (.iconst 2, 1) := by decide +kernel
theorem dX9_scrap_39 : decode cX9_scrap 39 = .ok (.invokevirtual 136, 3) := by decide +kernel
theorem dX9_scrap_42 : decode cX9_scrap 42 = .ok (.ireturn, 1) := by decide +kernel
theorem dX9_scrap_43 : decode cX9_scrap 43 = .ok (.aload_n 0, 1) := by decide +kernel
theorem dX9_scrap_44 : decode cX9_scrap 44 = .ok (.invokevirtual 139, 3) := by decide +kernel
theorem dX9_scrap_47 : decode cX9_scrap 47 = .ok (.aload_n 0, 1) := by decide +kernel
theorem dX9_scrap_48 : decode cX9_scrap 48 = .ok (.iload_n 1, 1) := by decide +kernel
theorem dX9_scrap_49 : decode cX9_scrap 49 = .ok (.iconst 0, 1) := by decide +kernel
theorem dX9_scrap_50 : decode cX9_scrap 50 = .ok (.invokevirtual 46, 3) := by decide +kernel
theorem dX9_scrap_53 : decode cX9_scrap 53 = .ok (.istore_n 2, 1) := by decide +kernel
theorem dX9_scrap_54 : decode cX9_scrap 54 = .ok (.aload_n 0, 1) := by decide +kernel
theorem dX9_scrap_55 : decode cX9_scrap 55 = .ok (.getfield 7, 3) := by decide +kernel
theorem dX9_scrap_58 : decode cX9_scrap 58 = .ok (.iconst 0, 1) := by decide +kernel
theorem dX9_scrap_59 : decode cX9_scrap 59 = .ok (.dup2, 1) := by decide +kernel
theorem dX9_scrap_60 : decode cX9_scrap 60 = .ok (.iaload, 1) := by decide +kernel
theorem dX9_scrap_61 : decode cX9_scrap 61 = .ok (.iconst 1, 1) := by decide +kernel
theorem dX9_scrap_62 : decode cX9_scrap 62 = .ok (.isub, 1) := by decide +kernel
theorem dX9_scrap_63 : decode cX9_scrap 63 = .ok (.iastore, 1) := by decide +kernel
theorem dX9_scrap_64 : decode cX9_scrap 64 = .ok (.bipush 14, 2) := by decide +kernel
theorem dX9_scrap_66 : decode cX9_scrap 66 = .ok (.iload_n 1, 1) := by decide +kernel
theorem dX9_scrap_67 : decode cX9_scrap 67 = .ok (.imul, 1) := by decide +kernel
theorem dX9_scrap_68 : decode cX9_scrap 68 = .ok (.istore_n 3, 1) := by decide +kernel
theorem dX9_scrap_69 : decode cX9_scrap 69 = .ok (.iload_n 3, 1) := by decide +kernel
theorem dX9_scrap_70 : decode cX9_scrap 70 = .ok (.bipush 14, 2) := by decide +kernel
theorem dX9_scrap_72 : decode cX9_scrap 72 = .ok (.aload_n 0, 1) := by decide +kernel
theorem dX9_scrap_73 : decode cX9_scrap 73 = .ok (.getfield 7, 3) := by decide +kernel
theorem dX9_scrap_76 : decode cX9_scrap 76 = .ok (.iconst 0, 1) := by decide +kernel
theorem dX9_scrap_77 : decode cX9_scrap 77 = .ok (.iaload, 1) := by decide +kernel
theorem dX9_scrap_78 : decode cX9_scrap 78 = .ok (.imul, 1) := by decide +kernel
theorem dX9_scrap_79 : decode cX9_scrap 79 = .ok (.if_icmp .ge 30, 3) := by decide +kernel
theorem dX9_scrap_82 : decode cX9_scrap 82 = .ok (.aload_n 0, 1) := by decide +kernel
theorem dX9_scrap_83 : decode cX9_scrap 83 = .ok (.getfield 7, 3) := by decide +kernel
theorem dX9_scrap_86 : decode cX9_scrap 86 = .ok (.bipush 9, 2) := by decide +kernel
theorem dX9_scrap_88 : decode cX9_scrap 88 = .ok (.iload_n 3, 1) := by decide +kernel
theorem dX9_scrap_89 : decode cX9_scrap 89 = .ok (.iadd, 1) := by decide +kernel
theorem dX9_scrap_90 : decode cX9_scrap 90 = .ok (.aload_n 0, 1) := by decide +kernel
theorem dX9_scrap_91 : decode cX9_scrap 91 = .ok (.getfield 7, 3) := by decide +kernel
theorem dX9_scrap_94 : decode cX9_scrap 94 = .ok (.bipush 9, 2) := by decide +kernel
theorem dX9_scrap_96 : decode cX9_scrap 96 = .ok (.iload_n 3, 1) := by decide +kernel
theorem dX9_scrap_97 : decode cX9_scrap 97 = .ok (.iadd, 1) := by decide +kernel
theorem dX9_scrap_98 : decode cX9_scrap 98 = .ok (.bipush 14, 2) := by decide +kernel
theorem dX9_scrap_100 : decode cX9_scrap 100 = .ok (.iadd, 1) := by decide +kernel
theorem dX9_scrap_101 : decode cX9_scrap 101 = .ok (.iaload, 1) := by decide +kernel
theorem dX9_scrap_102 : decode cX9_scrap 102 = .ok (.iastore, 1) := by decide +kernel
theorem dX9_scrap_103 : decode cX9_scrap 103 = .ok (.iinc 3 1, 3) := by decide +kernel
theorem dX9_scrap_106 : decode cX9_scrap 106 = .ok (.goto (-37), 3) := by decide +kernel
theorem dX9_scrap_109 : decode cX9_scrap 109 = .ok (.aload_n 0, 1) := by decide +kernel
theorem dX9_scrap_110 : decode cX9_scrap 110 = .ok (.getfield 7, 3) := by decide +kernel
theorem dX9_scrap_113 : decode cX9_scrap 113 = .ok (.iconst 1, 1) := by decide +kernel
theorem dX9_scrap_114 : decode cX9_scrap 114 = .ok (.dup2, 1) := by decide +kernel
theorem dX9_scrap_115 : decode cX9_scrap 115 = .ok (.iaload, 1) := by decide +kernel
theorem dX9_scrap_116 : decode cX9_scrap 116 = .ok (.aload_n 0, 1) := by decide +kernel
theorem dX9_scrap_117 : decode cX9_scrap 117 = .ok (.getfield 7, 3) := by decide +kernel
theorem dX9_scrap_120 : decode cX9_scrap 120 = .ok (.iconst 1, 1) := by decide +kernel
theorem dX9_scrap_121 : decode cX9_scrap 121 = .ok (.iaload, 1) := by decide +kernel
theorem dX9_scrap_122 : decode cX9_scrap 122 = .ok (.iload_n 1, 1) := by decide +kernel
theorem dX9_scrap_123 : decode cX9_scrap 123 = .ok (.if_icmp .le 7, 3) := by decide +kernel
theorem dX9_scrap_126 : decode cX9_scrap 126 = .ok (.iconst 1, 1) := by decide +kernel
theorem dX9_scrap_127 : decode cX9_scrap 127 = .ok (.goto 4, 3) := by decide +kernel
theorem dX9_scrap_130 : decode cX9_scrap 130 = .ok (.iconst 0, 1) := by decide +kernel
theorem dX9_scrap_131 : decode cX9_scrap 131 = .ok (.isub, 1) := by decide +kernel
theorem dX9_scrap_132 : decode cX9_scrap 132 = .ok (.iastore, 1) := by decide +kernel
theorem dX9_scrap_133 : decode cX9_scrap 133 = .ok (.iload_n 2, 1) := by decide +kernel
theorem dX9_scrap_134 : decode cX9_scrap 134 = .ok (.ireturn, 1) := by decide +kernel
set_option maxRecDepth 20000 in
theorem ggX9_fetch_X9_isShelf : GoodIn wsX9_fetch wsX9_isShelf := goodIn_r _ [6, 7, 8, 9, 5, 10, 49, 50, 51, 52, 53, 54, 55, 56, 57, 58, 59, 60, 61] rfl (by decide +kernel)
set_option maxRecDepth 20000 in
theorem gX9_fetch_X9_isShelf : GoodIn wsX9_fetch (wsV RX9 142 RX9 yX9_isShelf wsX9_isShelf) := goodIn_app (goodIn_r _ [2, 3, 4, 5] rfl (by decide +kernel)) ggX9_fetch_X9_isShelf
set_option maxRecDepth 20000 in
theorem ggX9_fetch_X9_fails : GoodIn wsX9_fetch wsX9_fails := goodIn_r _ [14, 1, 49, 50, 51, 52, 53, 54, 55, 56, 57, 58, 59, 60, 61] rfl (by decide +kernel)
set_option maxRecDepth 20000 in
theorem gX9_fetch_X9_fails : GoodIn wsX9_fetch (wsV RX9 136 RX9 yX9_fails wsX9_fails) := goodIn_app (goodIn_r _ [11, 12, 13, 5] rfl (by decide +kernel)) ggX9_fetch_X9_fails
set_option maxRecDepth 20000 in
theorem ggX9_fetch_X9_hasWindow : GoodIn wsX9_fetch wsX9_hasWindow := goodIn_r _ [18, 7, 49, 50, 51, 52, 53, 54, 55, 56, 57, 58, 59, 60, 61] rfl (by decide +kernel)
set_option maxRecDepth 20000 in
theorem gX9_fetch_X9_hasWindow : GoodIn wsX9_fetch (wsV RX9 129 RX9 yX9_hasWindow wsX9_hasWindow) := goodIn_app (goodIn_r _ [15, 16, 17, 5] rfl (by decide +kernel)) ggX9_fetch_X9_hasWindow
set_option maxRecDepth 20000 in
theorem ggX9_fetch_X9_records : GoodIn wsX9_fetch wsX9_records := goodIn_r _ [22, 23, 24, 7, 49, 50, 51, 52, 53, 54, 55, 56, 57, 58, 59, 60, 61] rfl (by decide +kernel)
set_option maxRecDepth 20000 in
theorem gX9_fetch_X9_records : GoodIn wsX9_fetch (wsV RX9 139 RX9 yX9_records wsX9_records) := goodIn_app (goodIn_r _ [19, 20, 21, 5] rfl (by decide +kernel)) ggX9_fetch_X9_records
set_option maxRecDepth 20000 in
theorem ggX9_fetch_X9_fetchesIt : GoodIn wsX9_fetch wsX9_fetchesIt := goodIn_r _ [28, 7, 29, 30, 31, 5, 32, 33, 34, 35, 36, 37, 38, 39, 40, 41, 42, 43, 44, 45, 46, 47, 48, 49, 50, 51, 52, 53, 54, 55, 56, 57, 58, 59, 60, 61] rfl (by decide +kernel)
set_option maxRecDepth 20000 in
theorem gX9_fetch_X9_fetchesIt : GoodIn wsX9_fetch (wsV RX9 103 RX9 yX9_fetchesIt wsX9_fetchesIt) := goodIn_app (goodIn_r _ [25, 26, 27, 5] rfl (by decide +kernel)) ggX9_fetch_X9_fetchesIt
theorem dX9_fetch_0 : decode cX9_fetch 0 = .ok (.aload_n 0, 1) := by decide +kernel
theorem dX9_fetch_1 : decode cX9_fetch 1 = .ok (.iconst 0, 1) := by decide +kernel
theorem dX9_fetch_2 : decode cX9_fetch 2 = .ok (.putfield 35, 3) := by decide +kernel
theorem dX9_fetch_5 : decode cX9_fetch 5 = .ok (.aload_n 0, 1) := by decide +kernel
theorem dX9_fetch_6 : decode cX9_fetch 6 = .ok (.iload_n 1, 1) := by decide +kernel
theorem dX9_fetch_7 : decode cX9_fetch 7 = .ok (.invokevirtual 142, 3) := by decide +kernel
theorem dX9_fetch_10 : decode cX9_fetch 10 = .ok (.ifCond .ne 9, 3) := by decide +kernel
theorem dX9_fetch_13 : decode cX9_fetch 13 = .ok (.aload_n 0, 1) := by decide +kernel
theorem dX9_fetch_14 : decode cX9_fetch 14 = .ok (.iconst 1, 1) := by decide +kernel
theorem dX9_fetch_15 : decode cX9_fetch 15 = .ok (.invokevirtual 136, 3) := by decide +kernel
theorem dX9_fetch_18 : decode cX9_fetch 18 = .ok (.ireturn, 1) := by decide +kernel
theorem dX9_fetch_19 : decode cX9_fetch 19 = .ok (.aload_n 0, 1) := by decide +kernel
theorem dX9_fetch_20 : decode cX9_fetch 20 = .ok (.invokevirtual 129, 3) := by decide +kernel
theorem dX9_fetch_23 : decode cX9_fetch 23 = .ok (.ifCond .eq 9, 3) := by decide +kernel
theorem dX9_fetch_26 : decode cX9_fetch 26 = .ok (.aload_n 0, 1) := by decide +kernel
theorem dX9_fetch_27 : decode cX9_fetch 27 = .ok (.iconst 2, 1) := by decide +kernel
theorem dX9_fetch_28 : decode cX9_fetch 28 = .ok (.invokevirtual 136, 3) := by decide +kernel
theorem dX9_fetch_31 : decode cX9_fetch 31 = .ok (.ireturn, 1) := by decide +kernel
theorem dX9_fetch_32 : decode cX9_fetch 32 = .ok (.aload_n 0, 1) := by decide +kernel
theorem dX9_fetch_33 : decode cX9_fetch 33 = .ok (.invokevirtual 139, 3) := by decide +kernel
theorem dX9_fetch_36 : decode cX9_fetch 36 = .ok (.aload_n 0, 1) := by decide +kernel
theorem dX9_fetch_37 : decode cX9_fetch 37 = .ok (.iload_n 1, 1) := by decide +kernel
theorem dX9_fetch_38 : decode cX9_fetch 38 = .ok (.invokevirtual 103, 3) := by decide +kernel
theorem dX9_fetch_41 : decode cX9_fetch 41 = .ok (.ireturn, 1) := by decide +kernel
set_option maxRecDepth 20000 in
theorem ggX9_stow_X9_hasWindow : GoodIn wsX9_stow wsX9_hasWindow := goodIn_r _ [6, 7, 61, 62, 63, 64, 65, 66, 67, 68, 69, 70, 71, 72, 73] rfl (by decide +kernel)
set_option maxRecDepth 20000 in
theorem gX9_stow_X9_hasWindow : GoodIn wsX9_stow (wsV RX9 129 RX9 yX9_hasWindow wsX9_hasWindow) := goodIn_app (goodIn_r _ [2, 3, 4, 5] rfl (by decide +kernel)) ggX9_stow_X9_hasWindow
set_option maxRecDepth 20000 in
theorem ggX9_stow_X9_fails : GoodIn wsX9_stow wsX9_fails := goodIn_r _ [11, 1, 61, 62, 63, 64, 65, 66, 67, 68, 69, 70, 71, 72, 73] rfl (by decide +kernel)
set_option maxRecDepth 20000 in
theorem gX9_stow_X9_fails : GoodIn wsX9_stow (wsV RX9 136 RX9 yX9_fails wsX9_fails) := goodIn_app (goodIn_r _ [8, 9, 10, 5] rfl (by decide +kernel)) ggX9_stow_X9_fails
set_option maxRecDepth 20000 in
theorem ggX9_stow_X9_records : GoodIn wsX9_stow wsX9_records := goodIn_r _ [15, 16, 17, 7, 61, 62, 63, 64, 65, 66, 67, 68, 69, 70, 71, 72, 73] rfl (by decide +kernel)
set_option maxRecDepth 20000 in
theorem gX9_stow_X9_records : GoodIn wsX9_stow (wsV RX9 139 RX9 yX9_records wsX9_records) := goodIn_app (goodIn_r _ [12, 13, 14, 5] rfl (by decide +kernel)) ggX9_stow_X9_records
set_option maxRecDepth 20000 in
theorem ggX9_stow_X9_stowPlace : GoodIn wsX9_stow wsX9_stowPlace := goodIn_r _ [21, 7, 22, 23, 24, 5, 25, 26, 27, 28, 29, 30, 31, 32, 33, 34, 35, 36, 37, 38, 39, 40, 61, 62, 63, 64, 65, 66, 67, 68, 69, 70, 71, 72, 73] rfl (by decide +kernel)
set_option maxRecDepth 20000 in
theorem gX9_stow_X9_stowPlace : GoodIn wsX9_stow (wsV RX9 109 RX9 yX9_stowPlace wsX9_stowPlace) := goodIn_app (goodIn_r _ [18, 19, 20, 5] rfl (by decide +kernel)) ggX9_stow_X9_stowPlace
set_option maxRecDepth 20000 in
theorem ggX9_stow_X9_stows : GoodIn wsX9_stow wsX9_stows := goodIn_r _ [44, 7, 45, 46, 47, 5, 48, 49, 50, 51, 52, 22, 23, 24, 25, 53, 54, 55, 56, 57, 58, 59, 60, 61, 62, 63, 64, 65, 66, 67, 68, 69, 70, 71, 72, 73] rfl (by decide +kernel)
set_option maxRecDepth 20000 in
theorem gX9_stow_X9_stows : GoodIn wsX9_stow (wsV RX9 113 RX9 yX9_stows wsX9_stows) := goodIn_app (goodIn_r _ [41, 42, 43, 5] rfl (by decide +kernel)) ggX9_stow_X9_stows
theorem dX9_stow_0 : decode cX9_stow 0 = .ok (.aload_n 0, 1) := by decide +kernel
theorem dX9_stow_1 : decode cX9_stow 1 = .ok (.iconst 0, 1) := by decide +kernel
theorem dX9_stow_2 : decode cX9_stow 2 = .ok (.putfield 35, 3) := by decide +kernel
theorem dX9_stow_5 : decode cX9_stow 5 = .ok (.aload_n 0, 1) := by decide +kernel
theorem dX9_stow_6 : decode cX9_stow 6 = .ok (.invokevirtual 129, 3) := by decide +kernel
theorem dX9_stow_9 : decode cX9_stow 9 = .ok (.ifCond .ne 9, 3) := by decide +kernel
theorem dX9_stow_12 : decode cX9_stow 12 = .ok (.aload_n 0, 1) := by decide +kernel
theorem dX9_stow_13 : decode cX9_stow 13 = .ok (.iconst 1, 1) := by decide +kernel
theorem dX9_stow_14 : decode cX9_stow 14 = .ok (.invokevirtual 136, 3) := by decide +kernel
theorem dX9_stow_17 : decode cX9_stow 17 = .ok (.ireturn, 1) := by decide +kernel
theorem dX9_stow_18 : decode cX9_stow 18 = .ok (.aload_n 0, 1) := by decide +kernel
theorem dX9_stow_19 : decode cX9_stow 19 = .ok (.invokevirtual 139, 3) := by decide +kernel
theorem dX9_stow_22 : decode cX9_stow 22 = .ok (.aload_n 0, 1) := by decide +kernel
theorem dX9_stow_23 : decode cX9_stow 23 = .ok (.aload_n 0, 1) := by decide +kernel
theorem dX9_stow_24 : decode cX9_stow 24 = .ok (.invokevirtual 109, 3) := by decide +kernel
theorem dX9_stow_27 : decode cX9_stow 27 = .ok (.invokevirtual 113, 3) := by decide +kernel
theorem dX9_stow_30 : decode cX9_stow 30 = .ok (.ireturn, 1) := by decide +kernel
set_option maxRecDepth 20000 in
theorem ggX9_stowAt_X9_isSpot : GoodIn wsX9_stowAt wsX9_isSpot := goodIn_r _ [6, 7, 8, 5, 9] rfl (by decide +kernel)
set_option maxRecDepth 20000 in
theorem gX9_stowAt_X9_isSpot : GoodIn wsX9_stowAt (va_wsS RX9 148 yX9_isSpot wsX9_isSpot) := goodIn_app (goodIn_r _ [3, 4, 5] rfl (by decide +kernel)) ggX9_stowAt_X9_isSpot
set_option maxRecDepth 20000 in
theorem ggX9_stowAt_X9_fails : GoodIn wsX9_stowAt wsX9_fails := goodIn_r _ [13, 1, 56, 57, 58, 59, 60, 61, 62, 63, 64, 65, 66, 67, 68] rfl (by decide +kernel)
set_option maxRecDepth 20000 in
theorem gX9_stowAt_X9_fails : GoodIn wsX9_stowAt (wsV RX9 136 RX9 yX9_fails wsX9_fails) := goodIn_app (goodIn_r _ [10, 11, 12, 5] rfl (by decide +kernel)) ggX9_stowAt_X9_fails
set_option maxRecDepth 20000 in
theorem ggX9_stowAt_X9_hasWindow : GoodIn wsX9_stowAt wsX9_hasWindow := goodIn_r _ [17, 2, 56, 57, 58, 59, 60, 61, 62, 63, 64, 65, 66, 67, 68] rfl (by decide +kernel)
set_option maxRecDepth 20000 in
theorem gX9_stowAt_X9_hasWindow : GoodIn wsX9_stowAt (wsV RX9 129 RX9 yX9_hasWindow wsX9_hasWindow) := goodIn_app (goodIn_r _ [14, 15, 16, 5] rfl (by decide +kernel)) ggX9_stowAt_X9_hasWindow
set_option maxRecDepth 20000 in
theorem ggX9_stowAt_X9_of : GoodIn wsX9_stowAt wsX9_of := goodIn_r _ [21, 2, 56, 57, 58, 59, 60, 61, 62, 63, 64, 65, 66, 67, 68] rfl (by decide +kernel)
set_option maxRecDepth 20000 in
theorem gX9_stowAt_X9_of : GoodIn wsX9_stowAt (wsV RX9 46 RX9 yX9_of wsX9_of) := goodIn_app (goodIn_r _ [18, 19, 20, 5] rfl (by decide +kernel)) ggX9_stowAt_X9_of
set_option maxRecDepth 20000 in
theorem ggX9_stowAt_X9_fits : GoodIn wsX9_stowAt wsX9_fits := goodIn_r _ [25, 26, 27, 28, 5, 29, 2, 18, 19, 20, 21, 7, 8, 9, 56, 57, 58, 59, 60, 61, 62, 63, 64, 65, 66, 67, 68] rfl (by decide +kernel)
set_option maxRecDepth 20000 in
theorem gX9_stowAt_X9_fits : GoodIn wsX9_stowAt (wsV RX9 53 RX9 yX9_fits wsX9_fits) := goodIn_app (goodIn_r _ [22, 23, 24, 5] rfl (by decide +kernel)) ggX9_stowAt_X9_fits
set_option maxRecDepth 20000 in
theorem ggX9_stowAt_X9_records : GoodIn wsX9_stowAt wsX9_records := goodIn_r _ [33, 34, 35, 2, 56, 57, 58, 59, 60, 61, 62, 63, 64, 65, 66, 67, 68] rfl (by decide +kernel)
set_option maxRecDepth 20000 in
theorem gX9_stowAt_X9_records : GoodIn wsX9_stowAt (wsV RX9 139 RX9 yX9_records wsX9_records) := goodIn_app (goodIn_r _ [30, 31, 32, 5] rfl (by decide +kernel)) ggX9_stowAt_X9_records
set_option maxRecDepth 20000 in
theorem ggX9_stowAt_X9_stows : GoodIn wsX9_stowAt wsX9_stows := goodIn_r _ [39, 2, 40, 41, 42, 5, 43, 44, 45, 46, 47, 18, 19, 20, 21, 48, 49, 50, 51, 52, 53, 54, 55, 56, 57, 58, 59, 60, 61, 62, 63, 64, 65, 66, 67, 68] rfl (by decide +kernel)
set_option maxRecDepth 20000 in
theorem gX9_stowAt_X9_stows : GoodIn wsX9_stowAt (wsV RX9 113 RX9 yX9_stows wsX9_stows) := goodIn_app (goodIn_r _ [36, 37, 38, 5] rfl (by decide +kernel)) ggX9_stowAt_X9_stows
theorem dX9_stowAt_0 : decode cX9_stowAt 0 = .ok (.aload_n 0, 1) := by decide +kernel
theorem dX9_stowAt_1 : decode cX9_stowAt 1 = .ok (.iconst 0, 1) := by decide +kernel
theorem dX9_stowAt_2 : decode cX9_stowAt 2 = .ok (.putfield 35, 3) := by decide +kernel
theorem dX9_stowAt_5 : decode cX9_stowAt 5 = .ok (.iload_n 1, 1) := by decide +kernel
theorem dX9_stowAt_6 : decode cX9_stowAt 6 = .ok (.iload_n 2, 1) := by decide +kernel
theorem dX9_stowAt_7 : decode cX9_stowAt 7 = .ok (.invokestatic 148, 3) := by decide +kernel
theorem dX9_stowAt_10 : decode cX9_stowAt 10 = .ok (.ifCond .ne 9, 3) := by decide +kernel
theorem dX9_stowAt_13 : decode cX9_stowAt 13 = .ok (.aload_n 0, 1) := by decide +kernel
theorem dX9_stowAt_14 : decode cX9_stowAt 14 = .ok (.iconst 1, 1) := by decide +kernel
theorem dX9_stowAt_15 : decode cX9_stowAt 15 = .ok (.invokevirtual 136, 3) := by decide +kernel
theorem dX9_stowAt_18 : decode cX9_stowAt 18 = .ok (.ireturn, 1) := by decide +kernel
theorem dX9_stowAt_19 : decode cX9_stowAt 19 = .ok (.aload_n 0, 1) := by decide +kernel
theorem dX9_stowAt_20 : decode cX9_stowAt 20 = .ok (.invokevirtual 129, 3) := by decide +kernel
theorem dX9_stowAt_23 : decode cX9_stowAt 23 = .ok (.ifCond .eq 23, 3) := by decide +kernel
theorem dX9_stowAt_26 : decode cX9_stowAt 26 = .ok (.aload_n 0, 1) := by decide +kernel
theorem dX9_stowAt_27 : decode cX9_stowAt 27 = .ok (.aload_n 0, 1) := by decide +kernel
theorem dX9_stowAt_28 : decode cX9_stowAt 28 = .ok (.aload_n 0, 1) := by decide +kernel
theorem dX9_stowAt_29 : decode cX9_stowAt 29 = .ok (.getfield 7, 3) := by decide +kernel
theorem dX9_stowAt_32 : decode cX9_stowAt 32 = .ok (.iconst 1, 1) := by decide +kernel
theorem dX9_stowAt_33 : decode cX9_stowAt 33 = .ok (.iaload, 1) := by decide +kernel
theorem dX9_stowAt_34 : decode cX9_stowAt 34 = .ok (.iconst 0, 1) := by decide +kernel
theorem dX9_stowAt_35 : decode cX9_stowAt 35 = .ok (.invokevirtual 46, 3) := by decide +kernel
theorem dX9_stowAt_38 : decode cX9_stowAt 38 = .ok (.iload_n 1, 1) := by decide +kernel
theorem dX9_stowAt_39 : decode cX9_stowAt 39 = .ok (.iload_n 2, 1) := by decide +kernel
theorem dX9_stowAt_40 : decode cX9_stowAt 40 = .ok (.invokevirtual 53, 3) := by decide +kernel
theorem dX9_stowAt_43 : decode cX9_stowAt 43 = .ok (.ifCond .ne 9, 3) := by decide +kernel
theorem dX9_stowAt_46 : decode cX9_stowAt 46 = .ok (.aload_n 0, 1) := by decide +kernel
theorem dX9_stowAt_47 : decode cX9_stowAt 47 = .ok (.iconst 2, 1) := by decide +kernel
theorem dX9_stowAt_48 : decode cX9_stowAt 48 = .ok (.invokevirtual 136, 3) := by decide +kernel
theorem dX9_stowAt_51 : decode cX9_stowAt 51 = .ok (.ireturn, 1) := by decide +kernel
theorem dX9_stowAt_52 : decode cX9_stowAt 52 = .ok (.aload_n 0, 1) := by decide +kernel
theorem dX9_stowAt_53 : decode cX9_stowAt 53 = .ok (.invokevirtual 139, 3) := by decide +kernel
theorem dX9_stowAt_56 : decode cX9_stowAt 56 = .ok (.aload_n 0, 1) := by decide +kernel
theorem dX9_stowAt_57 : decode cX9_stowAt 57 = .ok (.bipush 20, 2) := by decide +kernel
theorem dX9_stowAt_59 : decode cX9_stowAt 59 = .ok (.iload_n 1, 1) := by decide +kernel
theorem dX9_stowAt_60 : decode cX9_stowAt 60 = .ok (.imul, 1) := by decide +kernel
theorem dX9_stowAt_61 : decode cX9_stowAt 61 = .ok (.iload_n 2, 1) := by decide +kernel
theorem dX9_stowAt_62 : decode cX9_stowAt 62 = .ok (.iadd, 1) := by decide +kernel
theorem dX9_stowAt_63 : decode cX9_stowAt 63 = .ok (.invokevirtual 113, 3) := by decide +kernel
theorem dX9_stowAt_66 : decode cX9_stowAt 66 = .ok (.ireturn, 1) := by decide +kernel
set_option maxRecDepth 20000 in
theorem ggX9_pack_X9_hasWindow : GoodIn wsX9_pack wsX9_hasWindow := goodIn_r _ [6, 7, 66, 67, 68, 69, 70, 71, 72, 73, 74, 75, 76, 77, 78] rfl (by decide +kernel)
set_option maxRecDepth 20000 in
theorem gX9_pack_X9_hasWindow : GoodIn wsX9_pack (wsV RX9 129 RX9 yX9_hasWindow wsX9_hasWindow) := goodIn_app (goodIn_r _ [2, 3, 4, 5] rfl (by decide +kernel)) ggX9_pack_X9_hasWindow
set_option maxRecDepth 20000 in
theorem ggX9_pack_X9_packsAside : GoodIn wsX9_pack wsX9_packsAside := goodIn_r _ [11, 12, 13, 14, 5, 15, 7, 16, 17, 18, 19, 20, 21, 22, 23, 24, 25, 26, 27, 28, 29, 30, 31, 32, 33, 34, 35, 36, 37, 38, 39, 40, 41, 42, 43, 44, 45, 46, 47, 48, 49, 50, 51, 52, 53, 54, 55, 66, 67, 68, 69, 70, 71, 72, 73, 74, 75, 76, 77, 78] rfl (by decide +kernel)
set_option maxRecDepth 20000 in
theorem gX9_pack_X9_packsAside : GoodIn wsX9_pack (wsV RX9 151 RX9 yX9_packsAside wsX9_packsAside) := goodIn_app (goodIn_r _ [8, 9, 10, 5] rfl (by decide +kernel)) ggX9_pack_X9_packsAside
set_option maxRecDepth 20000 in
theorem ggX9_pack_X9_fails : GoodIn wsX9_pack wsX9_fails := goodIn_r _ [59, 1, 66, 67, 68, 69, 70, 71, 72, 73, 74, 75, 76, 77, 78] rfl (by decide +kernel)
set_option maxRecDepth 20000 in
theorem gX9_pack_X9_fails : GoodIn wsX9_pack (wsV RX9 136 RX9 yX9_fails wsX9_fails) := goodIn_app (goodIn_r _ [56, 57, 58, 5] rfl (by decide +kernel)) ggX9_pack_X9_fails
set_option maxRecDepth 20000 in
theorem ggX9_pack_X9_records : GoodIn wsX9_pack wsX9_records := goodIn_r _ [63, 64, 65, 7, 66, 67, 68, 69, 70, 71, 72, 73, 74, 75, 76, 77, 78] rfl (by decide +kernel)
set_option maxRecDepth 20000 in
theorem gX9_pack_X9_records : GoodIn wsX9_pack (wsV RX9 139 RX9 yX9_records wsX9_records) := goodIn_app (goodIn_r _ [60, 61, 62, 5] rfl (by decide +kernel)) ggX9_pack_X9_records
set_option maxRecDepth 20000 in
theorem ggX9_pack_X9_packs : GoodIn wsX9_pack wsX9_packs := goodIn_r _ [15, 7, 16, 17, 18, 19, 5, 20, 21, 22, 23, 24, 25, 26, 27, 28, 29, 30, 31, 32, 33, 34, 35, 36, 37, 38, 39, 40, 41, 42, 43, 44, 45, 46, 47, 48, 49, 50, 51, 66, 67, 68, 69, 70, 71, 72, 73, 74, 75, 76, 77, 78] rfl (by decide +kernel)
set_option maxRecDepth 20000 in
theorem gX9_pack_X9_packs : GoodIn wsX9_pack (wsV RX9 154 RX9 yX9_packs wsX9_packs) := goodIn_app (goodIn_r _ [12, 13, 14, 5] rfl (by decide +kernel)) ggX9_pack_X9_packs
theorem dX9_pack_0 : decode cX9_pack 0 = .ok (.aload_n 0, 1) := by decide +kernel
theorem dX9_pack_1 : decode cX9_pack 1 = .ok (.iconst 0, 1) := by decide +kernel
theorem dX9_pack_2 : decode cX9_pack 2 = .ok (.putfield 35, 3) := by decide +kernel
theorem dX9_pack_5 : decode cX9_pack 5 = .ok (.aload_n 0, 1) := by decide +kernel
theorem dX9_pack_6 : decode cX9_pack 6 = .ok (.invokevirtual 129, 3) := by decide +kernel
theorem dX9_pack_9 : decode cX9_pack 9 = .ok (.ifCond .eq 7, 3) := by decide +kernel
theorem dX9_pack_12 : decode cX9_pack 12 = .ok (.iconst (-1), 1) := by decide +kernel
theorem dX9_pack_13 : decode cX9_pack 13 = .ok (.goto 7, 3) := by decide +kernel
theorem dX9_pack_16 : decode cX9_pack 16 = .ok (.aload_n 0, 1) := by decide +kernel
theorem dX9_pack_17 : decode cX9_pack 17 = .ok (.invokevirtual 151, 3) := by decide +kernel
theorem dX9_pack_20 : decode cX9_pack 20 = .ok (.istore_n 1, 1) := by decide +kernel
theorem dX9_pack_21 : decode cX9_pack 21 = .ok (.iload_n 1, 1) := by decide +kernel
theorem dX9_pack_22 : decode cX9_pack 22 = .ok (.iconst (-1), 1) := by decide +kernel
theorem dX9_pack_23 : decode cX9_pack 23 = .ok (.if_icmp .ne 9, 3) := by decide +kernel
theorem dX9_pack_26 : decode cX9_pack 26 = .ok (.aload_n 0, 1) := by decide +kernel
theorem dX9_pack_27 : decode cX9_pack 27 = .ok (.iconst 1, 1) := by decide +kernel
theorem dX9_pack_28 : decode cX9_pack 28 = .ok (.invokevirtual 136, 3) := by decide +kernel
theorem dX9_pack_31 : decode cX9_pack 31 = .ok (.ireturn, 1) := by decide +kernel
theorem dX9_pack_32 : decode cX9_pack 32 = .ok (.aload_n 0, 1) := by decide +kernel
theorem dX9_pack_33 : decode cX9_pack 33 = .ok (.invokevirtual 139, 3) := by decide +kernel
theorem dX9_pack_36 : decode cX9_pack 36 = .ok (.aload_n 0, 1) := by decide +kernel
theorem dX9_pack_37 : decode cX9_pack 37 = .ok (.invokevirtual 154, 3) := by decide +kernel
theorem dX9_pack_40 : decode cX9_pack 40 = .ok (.pop, 1) := by decide +kernel
theorem dX9_pack_41 : decode cX9_pack 41 = .ok (.iload_n 1, 1) := by decide +kernel
theorem dX9_pack_42 : decode cX9_pack 42 = .ok (.ireturn, 1) := by decide +kernel
set_option maxRecDepth 20000 in
theorem ggX9_packsAside_X9_packs : GoodIn wsX9_packsAside wsX9_packs := goodIn_r _ [5, 6, 7, 8, 9, 10, 4, 11, 12, 13, 14, 15, 16, 17, 18, 19, 20, 21, 22, 23, 24, 25, 26, 27, 28, 29, 30, 31, 32, 33, 34, 35, 36, 37, 38, 39, 40, 41, 42, 47, 48, 49, 50, 51, 52, 53, 54, 55, 56, 57, 58, 59] rfl (by decide +kernel)
set_option maxRecDepth 20000 in
theorem gX9_packsAside_X9_packs : GoodIn wsX9_packsAside (wsV RX9 154 RX9 yX9_packs wsX9_packs) := goodIn_app (goodIn_r _ [1, 2, 3, 4] rfl (by decide +kernel)) ggX9_packsAside_X9_packs
set_option maxRecDepth 20000 in
theorem ggX9_packsAside_X9_takeBack : GoodIn wsX9_packsAside wsX9_takeBack := goodIn_r _ [46, 6, 7, 47, 48, 49, 50, 51, 52, 53, 54, 55, 56, 57, 58, 59] rfl (by decide +kernel)
set_option maxRecDepth 20000 in
theorem gX9_packsAside_X9_takeBack : GoodIn wsX9_packsAside (wsV RX9 126 RX9 yX9_takeBack wsX9_takeBack) := goodIn_app (goodIn_r _ [43, 44, 45, 4] rfl (by decide +kernel)) ggX9_packsAside_X9_takeBack
theorem dX9_packsAside_0 : decode cX9_packsAside 0 = .ok (.aload_n 0, 1) := by decide +kernel
theorem dX9_packsAside_1 : decode cX9_packsAside 1 = .ok (.invokevirtual 154, 3) := by decide +kernel
theorem dX9_packsAside_4 : decode cX9_packsAside 4 = .ok (.istore_n 1, 1) := by decide +kernel
theorem dX9_packsAside_5 : decode cX9_packsAside 5 = .ok (.aload_n 0, 1) := by decide +kernel
theorem dX9_packsAside_6 : decode cX9_packsAside 6 = .ok (.invokevirtual 126, 3) := by decide +kernel
theorem dX9_packsAside_9 : decode cX9_packsAside 9 = .ok (.iload_n 1, 1) := by decide +kernel
theorem dX9_packsAside_10 : decode cX9_packsAside 10 = .ok (.ireturn, 1) := by decide +kernel
set_option maxRecDepth 20000 in
theorem ggX9_isMany_X9_in : GoodIn wsX9_isMany wsX9_in := goodIn_r _ [4] rfl (by decide +kernel)
set_option maxRecDepth 20000 in
theorem gX9_isMany_X9_in : GoodIn wsX9_isMany (va_wsS RX9 39 yX9_in wsX9_in) := goodIn_app (goodIn_r _ [1, 2, 3] rfl (by decide +kernel)) ggX9_isMany_X9_in
theorem dX9_isMany_0 : decode cX9_isMany 0 = .ok (.iload_n 0, 1) := by decide +kernel
theorem dX9_isMany_1 : decode cX9_isMany 1 = .ok (.iconst 1, 1) := by decide +kernel
theorem dX9_isMany_2 : decode cX9_isMany 2 = .ok (.bipush 20, 2) := by decide +kernel
theorem dX9_isMany_4 : decode cX9_isMany 4 = .ok (.invokestatic 39, 3) := by decide +kernel
theorem dX9_isMany_7 : decode cX9_isMany 7 = .ok (.ireturn, 1) := by decide +kernel
set_option maxRecDepth 20000 in
theorem ggX9_adds_X9_of : GoodIn wsX9_adds wsX9_of := goodIn_r _ [6, 1, 11, 12, 13, 14, 15, 16, 17, 18, 19, 20, 21, 22, 23] rfl (by decide +kernel)
set_option maxRecDepth 20000 in
theorem gX9_adds_X9_of : GoodIn wsX9_adds (wsV RX9 46 RX9 yX9_of wsX9_of) := goodIn_app (goodIn_r _ [2, 3, 4, 5] rfl (by decide +kernel)) ggX9_adds_X9_of
set_option maxRecDepth 20000 in
theorem ggX9_adds_X9_lay : GoodIn wsX9_adds wsX9_lay := goodIn_r _ [10, 1, 11, 12, 13, 14, 15, 16, 17, 18, 19, 20, 21, 22, 23] rfl (by decide +kernel)
set_option maxRecDepth 20000 in
theorem gX9_adds_X9_lay : GoodIn wsX9_adds (wsV RX9 56 RX9 yX9_lay wsX9_lay) := goodIn_app (goodIn_r _ [7, 8, 9, 5] rfl (by decide +kernel)) ggX9_adds_X9_lay
theorem dX9_adds_0 : decode cX9_adds 0 = .ok (.aload_n 0, 1) := by decide +kernel
theorem dX9_adds_1 : decode cX9_adds 1 = .ok (.getfield 7, 3) := by decide +kernel
theorem dX9_adds_4 : decode cX9_adds 4 = .ok (.iconst 1, 1) := by decide +kernel
theorem dX9_adds_5 : decode cX9_adds 5 = .ok (.iaload, 1) := by decide +kernel
theorem dX9_adds_6 : decode cX9_adds 6 = .ok (.istore_n 3, 1) := by decide +kernel
theorem dX9_adds_7 : decode cX9_adds 7 = .ok (.aload_n 0, 1) := by decide +kernel
theorem dX9_adds_8 : decode cX9_adds 8 = .ok (.iload_n 3, 1) := by decide +kernel
theorem dX9_adds_9 : decode cX9_adds 9 = .ok (.iconst 4, 1) := by decide +kernel
theorem dX9_adds_10 : decode cX9_adds 10 = .ok (.iload_n 1, 1) := by decide +kernel
theorem dX9_adds_11 : decode cX9_adds 11 = .ok (.iadd, 1) := by decide +kernel
theorem dX9_adds_12 : decode cX9_adds 12 = .ok (.aload_n 0, 1) := by decide +kernel
theorem dX9_adds_13 : decode cX9_adds 13 = .ok (.iload_n 3, 1) := by decide +kernel
theorem dX9_adds_14 : decode cX9_adds 14 = .ok (.iconst 4, 1) := by decide +kernel
theorem dX9_adds_15 : decode cX9_adds 15 = .ok (.iload_n 1, 1) := by decide +kernel
theorem dX9_adds_16 : decode cX9_adds 16 = .ok (.iadd, 1) := by decide +kernel
theorem dX9_adds_17 : decode cX9_adds 17 = .ok (.invokevirtual 46, 3) := by decide +kernel
theorem dX9_adds_20 : decode cX9_adds 20 = .ok (.iload_n 2, 1) := by decide +kernel
theorem dX9_adds_21 : decode cX9_adds 21 = .ok (.iadd, 1) := by decide +kernel
theorem dX9_adds_22 : decode cX9_adds 22 = .ok (.invokevirtual 56, 3) := by decide +kernel
theorem dX9_adds_25 : decode cX9_adds 25 = .ok (.aload_n 0, 1) := by decide +kernel
theorem dX9_adds_26 : decode cX9_adds 26 = .ok (.getfield 7, 3) := by decide +kernel
theorem dX9_adds_29 : decode cX9_adds 29 = .ok (.sipush 197, 3) := by decide +kernel
theorem dX9_adds_32 : decode cX9_adds 32 = .ok (.iload_n 1, 1) := by decide +kernel
theorem dX9_adds_33 : decode cX9_adds 33 = .ok (.iadd, 1) := by decide +kernel
theorem dX9_adds_34 : decode cX9_adds 34 = .ok (.dup2, 1) := by decide +kernel
theorem dX9_adds_35 : decode cX9_adds 35 = .ok (.iaload, 1) := by decide +kernel
theorem dX9_adds_36 : decode cX9_adds 36 = .ok (.iload_n 2, 1) := by decide +kernel
theorem dX9_adds_37 : decode cX9_adds 37 = .ok (.iadd, 1) := by decide +kernel
theorem dX9_adds_38 : decode cX9_adds 38 = .ok (.iastore, 1) := by decide +kernel
theorem dX9_adds_39 : decode cX9_adds 39 = .ok (.aload_n 0, 1) := by decide +kernel
theorem dX9_adds_40 : decode cX9_adds 40 = .ok (.iload_n 3, 1) := by decide +kernel
theorem dX9_adds_41 : decode cX9_adds 41 = .ok (.iconst 4, 1) := by decide +kernel
theorem dX9_adds_42 : decode cX9_adds 42 = .ok (.iload_n 1, 1) := by decide +kernel
theorem dX9_adds_43 : decode cX9_adds 43 = .ok (.iadd, 1) := by decide +kernel
theorem dX9_adds_44 : decode cX9_adds 44 = .ok (.invokevirtual 46, 3) := by decide +kernel
theorem dX9_adds_47 : decode cX9_adds 47 = .ok (.ireturn, 1) := by decide +kernel
set_option maxRecDepth 20000 in
theorem ggX9_fill_X9_isKind : GoodIn wsX9_fill wsX9_isKind := goodIn_r _ [6, 7, 8, 5, 9] rfl (by decide +kernel)
set_option maxRecDepth 20000 in
theorem gX9_fill_X9_isKind : GoodIn wsX9_fill (va_wsS RX9 157 yX9_isKind wsX9_isKind) := goodIn_app (goodIn_r _ [3, 4, 5] rfl (by decide +kernel)) ggX9_fill_X9_isKind
set_option maxRecDepth 20000 in
theorem ggX9_fill_X9_fails : GoodIn wsX9_fill wsX9_fails := goodIn_r _ [13, 1, 43, 44, 45, 46, 47, 48, 49, 50, 51, 52, 53, 54, 55] rfl (by decide +kernel)
set_option maxRecDepth 20000 in
theorem gX9_fill_X9_fails : GoodIn wsX9_fill (wsV RX9 136 RX9 yX9_fails wsX9_fails) := goodIn_app (goodIn_r _ [10, 11, 12, 5] rfl (by decide +kernel)) ggX9_fill_X9_fails
set_option maxRecDepth 20000 in
theorem ggX9_fill_X9_isMany : GoodIn wsX9_fill wsX9_isMany := goodIn_r _ [16, 7, 8, 5, 9] rfl (by decide +kernel)
set_option maxRecDepth 20000 in
theorem gX9_fill_X9_isMany : GoodIn wsX9_fill (va_wsS RX9 160 yX9_isMany wsX9_isMany) := goodIn_app (goodIn_r _ [14, 15, 5] rfl (by decide +kernel)) ggX9_fill_X9_isMany
set_option maxRecDepth 20000 in
theorem ggX9_fill_X9_hasWindow : GoodIn wsX9_fill wsX9_hasWindow := goodIn_r _ [20, 2, 43, 44, 45, 46, 47, 48, 49, 50, 51, 52, 53, 54, 55] rfl (by decide +kernel)
set_option maxRecDepth 20000 in
theorem gX9_fill_X9_hasWindow : GoodIn wsX9_fill (wsV RX9 129 RX9 yX9_hasWindow wsX9_hasWindow) := goodIn_app (goodIn_r _ [17, 18, 19, 5] rfl (by decide +kernel)) ggX9_fill_X9_hasWindow
set_option maxRecDepth 20000 in
theorem ggX9_fill_X9_weight : GoodIn wsX9_fill wsX9_weight := goodIn_r _ [24, 2, 25, 26, 27, 5, 28, 43, 44, 45, 46, 47, 48, 49, 50, 51, 52, 53, 54, 55] rfl (by decide +kernel)
set_option maxRecDepth 20000 in
theorem gX9_fill_X9_weight : GoodIn wsX9_fill (wsV RX9 163 RX9 yX9_weight wsX9_weight) := goodIn_app (goodIn_r _ [21, 22, 23, 5] rfl (by decide +kernel)) ggX9_fill_X9_weight
set_option maxRecDepth 20000 in
theorem ggX9_fill_X9_records : GoodIn wsX9_fill wsX9_records := goodIn_r _ [32, 33, 34, 2, 43, 44, 45, 46, 47, 48, 49, 50, 51, 52, 53, 54, 55] rfl (by decide +kernel)
set_option maxRecDepth 20000 in
theorem gX9_fill_X9_records : GoodIn wsX9_fill (wsV RX9 139 RX9 yX9_records wsX9_records) := goodIn_app (goodIn_r _ [29, 30, 31, 5] rfl (by decide +kernel)) ggX9_fill_X9_records
set_option maxRecDepth 20000 in
theorem ggX9_fill_X9_adds : GoodIn wsX9_fill wsX9_adds := goodIn_r _ [38, 2, 25, 26, 27, 5, 28, 39, 40, 41, 42, 43, 44, 45, 46, 47, 48, 49, 50, 51, 52, 53, 54, 55] rfl (by decide +kernel)
set_option maxRecDepth 20000 in
theorem gX9_fill_X9_adds : GoodIn wsX9_fill (wsV RX9 166 RX9 yX9_adds wsX9_adds) := goodIn_app (goodIn_r _ [35, 36, 37, 5] rfl (by decide +kernel)) ggX9_fill_X9_adds
theorem dX9_fill_0 : decode cX9_fill 0 = .ok (.aload_n 0, 1) := by decide +kernel
theorem dX9_fill_1 : decode cX9_fill 1 = .ok (.iconst 0, 1) := by decide +kernel
theorem dX9_fill_2 : decode cX9_fill 2 = .ok (.putfield 35, 3) := by decide +kernel
theorem dX9_fill_5 : decode cX9_fill 5 = .ok (.iload_n 1, 1) := by decide +kernel
theorem dX9_fill_6 : decode cX9_fill 6 = .ok (.invokestatic 157, 3) := by decide +kernel
theorem dX9_fill_9 : decode cX9_fill 9 = .ok (.ifCond .ne 9, 3) := by decide +kernel
theorem dX9_fill_12 : decode cX9_fill 12 = .ok (.aload_n 0, 1) := by decide +kernel
theorem dX9_fill_13 : decode cX9_fill 13 = .ok (.iconst 1, 1) := by decide +kernel
theorem dX9_fill_14 : decode cX9_fill 14 = .ok (.invokevirtual 136, 3) := by decide +kernel
theorem dX9_fill_17 : decode cX9_fill 17 = .ok (.ireturn, 1) := by decide +kernel
theorem dX9_fill_18 : decode cX9_fill 18 = .ok (.iload_n 2, 1) := by decide +kernel
theorem dX9_fill_19 : decode cX9_fill 19 = .ok (.invokestatic 160, 3) := by decide +kernel
theorem dX9_fill_22 : decode cX9_fill 22 = .ok (.ifCond .ne 9, 3) := by decide +kernel
theorem dX9_fill_25 : decode cX9_fill 25 = .ok (.aload_n 0, 1) := by decide +kernel
theorem dX9_fill_26 : decode cX9_fill 26 = .ok (.iconst 2, 1) := by decide +kernel
theorem dX9_fill_27 : decode cX9_fill 27 = .ok (.invokevirtual 136, 3) := by decide +kernel
theorem dX9_fill_30 : decode cX9_fill 30 = .ok (.ireturn, 1) := by decide +kernel
theorem dX9_fill_31 : decode cX9_fill 31 = .ok (.aload_n 0, 1) := by decide +kernel
theorem dX9_fill_32 : decode cX9_fill 32 = .ok (.invokevirtual 129, 3) := by decide +kernel
theorem dX9_fill_35 : decode cX9_fill 35 = .ok (.ifCond .eq 32, 3) := by decide +kernel
theorem dX9_fill_38 : decode cX9_fill 38 = .ok (.aload_n 0, 1) := by decide +kernel
theorem dX9_fill_39 : decode cX9_fill 39 = .ok (.aload_n 0, 1) := by decide +kernel
theorem dX9_fill_40 : decode cX9_fill 40 = .ok (.getfield 7, 3) := by decide +kernel
theorem dX9_fill_43 : decode cX9_fill 43 = .ok (.iconst 1, 1) := by decide +kernel
theorem dX9_fill_44 : decode cX9_fill 44 = .ok (.iaload, 1) := by decide +kernel
theorem dX9_fill_45 : decode cX9_fill 45 = .ok (.invokevirtual 163, 3) := by decide +kernel
theorem dX9_fill_48 : decode cX9_fill 48 = .ok (.iload_n 2, 1) := by decide +kernel
theorem dX9_fill_49 : decode cX9_fill 49 = .ok (.aload_n 0, 1) := by decide +kernel
theorem dX9_fill_50 : decode cX9_fill 50 = .ok (.getfield 7, 3) := by decide +kernel
theorem dX9_fill_53 : decode cX9_fill 53 = .ok (.sipush 177, 3) := by decide +kernel
theorem dX9_fill_56 : decode cX9_fill 56 = .ok (.iload_n 1, 1) := by decide +kernel
theorem dX9_fill_57 : decode cX9_fill 57 = .ok (.iadd, 1) := by decide +kernel
theorem dX9_fill_58 : decode cX9_fill 58 = .ok (.iaload, 1) := by decide +kernel
theorem dX9_fill_59 : decode cX9_fill 59 = .ok (.imul, 1) := by decide +kernel
theorem dX9_fill_60 : decode cX9_fill 60 = .ok (.iadd, 1) := by decide +kernel
theorem dX9_fill_61 : decode cX9_fill 61 = .ok (.sipush 150, 3) := by decide +kernel
theorem dX9_fill_64 : decode cX9_fill 64 = .ok (.if_icmp .le 9, 3) := by decide +kernel
theorem dX9_fill_67 : decode cX9_fill 67 = .ok (.aload_n 0, 1) := by decide +kernel
theorem dX9_fill_68 : decode cX9_fill 68 = .ok (.iconst 3, 1) := by decide +kernel
theorem dX9_fill_69 : decode cX9_fill 69 = .ok (.invokevirtual 136, 3) := by decide +kernel
theorem dX9_fill_72 : decode cX9_fill 72 = .ok (.ireturn, 1) := by decide +kernel
theorem dX9_fill_73 : decode cX9_fill 73 = .ok (.aload_n 0, 1) := by decide +kernel
theorem dX9_fill_74 : decode cX9_fill 74 = .ok (.invokevirtual 139, 3) := by decide +kernel
theorem dX9_fill_77 : decode cX9_fill 77 = .ok (.aload_n 0, 1) := by decide +kernel
theorem dX9_fill_78 : decode cX9_fill 78 = .ok (.iload_n 1, 1) := by decide +kernel
theorem dX9_fill_79 : decode cX9_fill 79 = .ok (.iload_n 2, 1) := by decide +kernel
theorem dX9_fill_80 : decode cX9_fill 80 = .ok (.invokevirtual 166, 3) := by decide +kernel
theorem dX9_fill_83 : decode cX9_fill 83 = .ok (.ireturn, 1) := by decide +kernel
set_option maxRecDepth 20000 in
theorem ggX9_take_X9_isKind : GoodIn wsX9_take wsX9_isKind := goodIn_r _ [6, 7, 8, 5, 9] rfl (by decide +kernel)
set_option maxRecDepth 20000 in
theorem gX9_take_X9_isKind : GoodIn wsX9_take (va_wsS RX9 157 yX9_isKind wsX9_isKind) := goodIn_app (goodIn_r _ [3, 4, 5] rfl (by decide +kernel)) ggX9_take_X9_isKind
set_option maxRecDepth 20000 in
theorem ggX9_take_X9_fails : GoodIn wsX9_take wsX9_fails := goodIn_r _ [13, 1, 39, 40, 41, 42, 43, 44, 45, 46, 47, 48, 49, 50, 51] rfl (by decide +kernel)
set_option maxRecDepth 20000 in
theorem gX9_take_X9_fails : GoodIn wsX9_take (wsV RX9 136 RX9 yX9_fails wsX9_fails) := goodIn_app (goodIn_r _ [10, 11, 12, 5] rfl (by decide +kernel)) ggX9_take_X9_fails
set_option maxRecDepth 20000 in
theorem ggX9_take_X9_isMany : GoodIn wsX9_take wsX9_isMany := goodIn_r _ [16, 7, 8, 5, 9] rfl (by decide +kernel)
set_option maxRecDepth 20000 in
theorem gX9_take_X9_isMany : GoodIn wsX9_take (va_wsS RX9 160 yX9_isMany wsX9_isMany) := goodIn_app (goodIn_r _ [14, 15, 5] rfl (by decide +kernel)) ggX9_take_X9_isMany
set_option maxRecDepth 20000 in
theorem ggX9_take_X9_hasWindow : GoodIn wsX9_take wsX9_hasWindow := goodIn_r _ [20, 2, 39, 40, 41, 42, 43, 44, 45, 46, 47, 48, 49, 50, 51] rfl (by decide +kernel)
set_option maxRecDepth 20000 in
theorem gX9_take_X9_hasWindow : GoodIn wsX9_take (wsV RX9 129 RX9 yX9_hasWindow wsX9_hasWindow) := goodIn_app (goodIn_r _ [17, 18, 19, 5] rfl (by decide +kernel)) ggX9_take_X9_hasWindow
set_option maxRecDepth 20000 in
theorem ggX9_take_X9_of : GoodIn wsX9_take wsX9_of := goodIn_r _ [24, 2, 39, 40, 41, 42, 43, 44, 45, 46, 47, 48, 49, 50, 51] rfl (by decide +kernel)
set_option maxRecDepth 20000 in
theorem gX9_take_X9_of : GoodIn wsX9_take (wsV RX9 46 RX9 yX9_of wsX9_of) := goodIn_app (goodIn_r _ [21, 22, 23, 5] rfl (by decide +kernel)) ggX9_take_X9_of
set_option maxRecDepth 20000 in
theorem ggX9_take_X9_records : GoodIn wsX9_take wsX9_records := goodIn_r _ [28, 29, 30, 2, 39, 40, 41, 42, 43, 44, 45, 46, 47, 48, 49, 50, 51] rfl (by decide +kernel)
set_option maxRecDepth 20000 in
theorem gX9_take_X9_records : GoodIn wsX9_take (wsV RX9 139 RX9 yX9_records wsX9_records) := goodIn_app (goodIn_r _ [25, 26, 27, 5] rfl (by decide +kernel)) ggX9_take_X9_records
set_option maxRecDepth 20000 in
theorem ggX9_take_X9_adds : GoodIn wsX9_take wsX9_adds := goodIn_r _ [34, 2, 21, 22, 23, 5, 24, 35, 36, 37, 38, 39, 40, 41, 42, 43, 44, 45, 46, 47, 48, 49, 50, 51] rfl (by decide +kernel)
set_option maxRecDepth 20000 in
theorem gX9_take_X9_adds : GoodIn wsX9_take (wsV RX9 166 RX9 yX9_adds wsX9_adds) := goodIn_app (goodIn_r _ [31, 32, 33, 5] rfl (by decide +kernel)) ggX9_take_X9_adds
theorem dX9_take_0 : decode cX9_take 0 = .ok (.aload_n 0, 1) := by decide +kernel
theorem dX9_take_1 : decode cX9_take 1 = .ok (.iconst 0, 1) := by decide +kernel
theorem dX9_take_2 : decode cX9_take 2 = .ok (.putfield 35, 3) := by decide +kernel
theorem dX9_take_5 : decode cX9_take 5 = .ok (.iload_n 1, 1) := by decide +kernel
theorem dX9_take_6 : decode cX9_take 6 = .ok (.invokestatic 157, 3) := by decide +kernel
theorem dX9_take_9 : decode cX9_take 9 = .ok (.ifCond .ne 9, 3) := by decide +kernel
theorem dX9_take_12 : decode cX9_take 12 = .ok (.aload_n 0, 1) := by decide +kernel
theorem dX9_take_13 : decode cX9_take 13 = .ok (.iconst 1, 1) := by decide +kernel
theorem dX9_take_14 : decode cX9_take 14 = .ok (.invokevirtual 136, 3) := by decide +kernel
theorem dX9_take_17 : decode cX9_take 17 = .ok (.ireturn, 1) := by decide +kernel
theorem dX9_take_18 : decode cX9_take 18 = .ok (.iload_n 2, 1) := by decide +kernel
theorem dX9_take_19 : decode cX9_take 19 = .ok (.invokestatic 160, 3) := by decide +kernel
theorem dX9_take_22 : decode cX9_take 22 = .ok (.ifCond .ne 9, 3) := by decide +kernel
theorem dX9_take_25 : decode cX9_take 25 = .ok (.aload_n 0, 1) := by decide +kernel
theorem dX9_take_26 : decode cX9_take 26 = .ok (.iconst 2, 1) := by decide +kernel
theorem dX9_take_27 : decode cX9_take 27 = .ok (.invokevirtual 136, 3) := by decide +kernel
theorem dX9_take_30 : decode cX9_take 30 = .ok (.ireturn, 1) := by decide +kernel
theorem dX9_take_31 : decode cX9_take 31 = .ok (.aload_n 0, 1) := by decide +kernel
theorem dX9_take_32 : decode cX9_take 32 = .ok (.invokevirtual 129, 3) := by decide +kernel
theorem dX9_take_35 : decode cX9_take 35 = .ok (.ifCond .eq 20, 3) := by decide +kernel
theorem dX9_take_38 : decode cX9_take 38 = .ok (.aload_n 0, 1) := by decide +kernel
theorem dX9_take_39 : decode cX9_take 39 = .ok (.aload_n 0, 1) := by decide +kernel
theorem dX9_take_40 : decode cX9_take 40 = .ok (.getfield 7, 3) := by decide +kernel
theorem dX9_take_43 : decode cX9_take 43 = .ok (.iconst 1, 1) := by decide +kernel
theorem dX9_take_44 : decode cX9_take 44 = .ok (.iaload, 1) := by decide +kernel
theorem dX9_take_45 : decode cX9_take 45 = .ok (.iconst 4, 1) := by decide +kernel
theorem dX9_take_46 : decode cX9_take 46 = .ok (.iload_n 1, 1) := by decide +kernel
theorem dX9_take_47 : decode cX9_take 47 = .ok (.iadd, 1) := by decide +kernel
theorem dX9_take_48 : decode cX9_take 48 = .ok (.invokevirtual 46, 3) := by decide +kernel
theorem dX9_take_51 : decode cX9_take 51 = .ok (.iload_n 2, 1) := by decide +kernel
theorem dX9_take_52 : decode cX9_take 52 = .ok (.if_icmp .ge 9, 3) := by decide +kernel
theorem dX9_take_55 : decode cX9_take 55 = .ok (.aload_n 0, 1) := by decide +kernel
theorem dX9_take_56 : decode cX9_take 56 = .ok (.iconst 3, 1) := by decide +kernel
theorem dX9_take_57 : decode cX9_take 57 = .ok (.invokevirtual 136, 3) := by decide +kernel
theorem dX9_take_60 : decode cX9_take 60 = .ok (.ireturn, 1) := by decide +kernel
theorem dX9_take_61 : decode cX9_take 61 = .ok (.aload_n 0, 1) := by decide +kernel
theorem dX9_take_62 : decode cX9_take 62 = .ok (.invokevirtual 139, 3) := by decide +kernel
theorem dX9_take_65 : decode cX9_take 65 = .ok (.aload_n 0, 1) := by decide +kernel
theorem dX9_take_66 : decode cX9_take 66 = .ok (.iload_n 1, 1) := by decide +kernel
theorem dX9_take_67 : decode cX9_take 67 = .ok (.iload_n 2, 1) := by decide +kernel
theorem dX9_take_68 : decode cX9_take 68 = .ok (.ineg, 1) := by decide +kernel
theorem dX9_take_69 : decode cX9_take 69 = .ok (.invokevirtual 166, 3) := by decide +kernel
theorem dX9_take_72 : decode cX9_take 72 = .ok (.ireturn, 1) := by decide +kernel
set_option maxRecDepth 20000 in
theorem ggX9_accept_X9_readsOrder : GoodIn wsX9_accept wsX9_readsOrder := goodIn_r _ [9, 10, 11, 3, 4, 12, 13, 14, 8, 15, 16, 17, 18, 19, 20, 21, 22, 23, 24, 25, 26, 27, 38, 39, 40, 41, 42, 43, 44, 45, 46, 47, 48, 49, 50] rfl (by decide +kernel)
set_option maxRecDepth 20000 in
theorem gX9_accept_X9_readsOrder : GoodIn wsX9_accept (wsV RX9 169 RX9 yX9_readsOrder wsX9_readsOrder) := goodIn_app (goodIn_r _ [5, 6, 7, 8] rfl (by decide +kernel)) ggX9_accept_X9_readsOrder
set_option maxRecDepth 20000 in
theorem ggX9_accept_X9_fails : GoodIn wsX9_accept wsX9_fails := goodIn_r _ [31, 1, 38, 39, 40, 41, 42, 43, 44, 45, 46, 47, 48, 49, 50] rfl (by decide +kernel)
set_option maxRecDepth 20000 in
theorem gX9_accept_X9_fails : GoodIn wsX9_accept (wsV RX9 136 RX9 yX9_fails wsX9_fails) := goodIn_app (goodIn_r _ [28, 29, 30, 8] rfl (by decide +kernel)) ggX9_accept_X9_fails
set_option maxRecDepth 20000 in
theorem ggX9_accept_X9_records : GoodIn wsX9_accept wsX9_records := goodIn_r _ [35, 36, 37, 2, 38, 39, 40, 41, 42, 43, 44, 45, 46, 47, 48, 49, 50] rfl (by decide +kernel)
set_option maxRecDepth 20000 in
theorem gX9_accept_X9_records : GoodIn wsX9_accept (wsV RX9 139 RX9 yX9_records wsX9_records) := goodIn_app (goodIn_r _ [32, 33, 34, 8] rfl (by decide +kernel)) ggX9_accept_X9_records
theorem dX9_accept_0 : decode cX9_accept 0 = .ok (.aload_n 0, 1) := by decide +kernel
theorem dX9_accept_1 : decode cX9_accept 1 = .ok (.iconst 0, 1) := by decide +kernel
theorem dX9_accept_2 : decode cX9_accept 2 = .ok (.putfield 35, 3) := by decide +kernel
theorem dX9_accept_5 : decode cX9_accept 5 = .ok (.aload_n 0, 1) := by decide +kernel
theorem dX9_accept_6 : decode cX9_accept 6 = .ok (.invokevirtual 169, 3) := by decide +kernel
theorem dX9_accept_9 : decode cX9_accept 9 = .ok (.ifCond .ne 9, 3) := by decide +kernel
theorem dX9_accept_12 : decode cX9_accept 12 = .ok (.aload_n 0, 1) := by decide +kernel
theorem dX9_accept_13 : decode cX9_accept 13 = .ok (.iconst 1, 1) := by decide +kernel
theorem dX9_accept_14 : decode cX9_accept 14 = .ok (.invokevirtual 136, 3) := by decide +kernel
theorem dX9_accept_17 : decode cX9_accept 17 = .ok (.ireturn, 1) := by decide +kernel
theorem dX9_accept_18 : decode cX9_accept 18 = .ok (.aload_n 0, 1) := by decide +kernel
theorem dX9_accept_19 : decode cX9_accept 19 = .ok (.getfield 7, 3) := by decide +kernel
theorem dX9_accept_22 : decode cX9_accept 22 = .ok (.bipush 8, 2) := by decide +kernel
theorem dX9_accept_24 : decode cX9_accept 24 = .ok (.iaload, 1) := by decide +kernel
theorem dX9_accept_25 : decode cX9_accept 25 = .ok (.bipush 8, 2) := by decide +kernel
theorem dX9_accept_27 : decode cX9_accept 27 = .ok (.if_icmp .ne 9, 3) := by decide +kernel
theorem dX9_accept_30 : decode cX9_accept 30 = .ok (.aload_n 0, 1) := by decide +kernel
theorem dX9_accept_31 : decode cX9_accept 31 = .ok (.iconst 2, 1) := by decide +kernel
theorem dX9_accept_32 : decode cX9_accept 32 = .ok (.invokevirtual 136, 3) := by decide +kernel
theorem dX9_accept_35 : decode cX9_accept 35 = .ok (.ireturn, 1) := by decide +kernel
theorem dX9_accept_36 : decode cX9_accept 36 = .ok (.aload_n 0, 1) := by decide +kernel
theorem dX9_accept_37 : decode cX9_accept 37 = .ok (.invokevirtual 139, 3) := by decide +kernel
theorem dX9_accept_40 : decode cX9_accept 40 = .ok (.aload_n 0, 1) := by decide +kernel
theorem dX9_accept_41 : decode cX9_accept 41 = .ok (.getfield 7, 3) := by decide +kernel
theorem dX9_accept_44 : decode cX9_accept 44 = .ok (.bipush 8, 2) := by decide +kernel
theorem dX9_accept_46 : decode cX9_accept 46 = .ok (.iaload, 1) := by decide +kernel
theorem dX9_accept_47 : decode cX9_accept 47 = .ok (.istore_n 1, 1) := by decide +kernel
theorem dX9_accept_48 : decode cX9_accept 48 = .ok (.aload_n 0, 1) := by decide +kernel
theorem dX9_accept_49 : decode cX9_accept 49 = .ok (.getfield 7, 3) := by decide +kernel
theorem dX9_accept_52 : decode cX9_accept 52 = .ok (.bipush 8, 2) := by decide +kernel
theorem dX9_accept_54 : decode cX9_accept 54 = .ok (.dup2, 1) := by decide +kernel
theorem dX9_accept_55 : decode cX9_accept 55 = .ok (.iaload, 1) := by decide +kernel
theorem dX9_accept_56 : decode cX9_accept 56 = .ok (.iconst 1, 1) := by decide +kernel
theorem dX9_accept_57 : decode cX9_accept 57 = .ok (.iadd, 1) := by decide +kernel
theorem dX9_accept_58 : decode cX9_accept 58 = .ok (.iastore, 1) := by decide +kernel
theorem dX9_accept_59 : decode cX9_accept 59 = .ok (.iconst 0, 1) := by decide +kernel
theorem dX9_accept_60 : decode cX9_accept 60 = .ok (.istore_n 2, 1) := by decide +kernel
theorem dX9_accept_61 : decode cX9_accept 61 = .ok (.iload_n 2, 1) := by decide +kernel
theorem dX9_accept_62 : decode cX9_accept 62 = .ok (.bipush 10, 2) := by decide +kernel
theorem dX9_accept_64 : decode cX9_accept 64 = .ok (.if_icmp .ge 30, 3) := by decide +kernel
theorem dX9_accept_67 : decode cX9_accept 67 = .ok (.aload_n 0, 1) := by decide +kernel
theorem dX9_accept_68 : decode cX9_accept 68 = .ok (.getfield 7, 3) := by decide +kernel
theorem dX9_accept_71 : decode cX9_accept 71 = .ok (.sipush 223, 3) := by decide +kernel
theorem dX9_accept_74 : decode cX9_accept 74 = .ok (.bipush 10, 2) := by decide +kernel
theorem dX9_accept_76 : decode cX9_accept 76 = .ok (.iload_n 1, 1) := by decide +kernel
theorem dX9_accept_77 : decode cX9_accept 77 = .ok (.imul, 1) := by decide +kernel
theorem dX9_accept_78 : decode cX9_accept 78 = .ok (.iadd, 1) := by decide +kernel
theorem dX9_accept_79 : decode cX9_accept 79 = .ok (.iload_n 2, 1) := by decide +kernel
theorem dX9_accept_80 : decode cX9_accept 80 = .ok (.iadd, 1) := by decide +kernel
theorem dX9_accept_81 : decode cX9_accept 81 = .ok (.aload_n 0, 1) := by decide +kernel
theorem dX9_accept_82 : decode cX9_accept 82 = .ok (.getfield 29, 3) := by decide +kernel
theorem dX9_accept_85 : decode cX9_accept 85 = .ok (.iload_n 2, 1) := by decide +kernel
theorem dX9_accept_86 : decode cX9_accept 86 = .ok (.iaload, 1) := by decide +kernel
theorem dX9_accept_87 : decode cX9_accept 87 = .ok (.iastore, 1) := by decide +kernel
theorem dX9_accept_88 : decode cX9_accept 88 = .ok (.iinc 2 1, 3) := by decide +kernel
theorem dX9_accept_91 : decode cX9_accept 91 = .ok (.goto (-30), 3) := by decide +kernel
theorem dX9_accept_94 : decode cX9_accept 94 = .ok (.aload_n 0, 1) := by decide +kernel
theorem dX9_accept_95 : decode cX9_accept 95 = .ok (.iconst 0, 1) := by decide +kernel
theorem dX9_accept_96 : decode cX9_accept 96 = .ok (.putfield 172, 3) := by decide +kernel
theorem dX9_accept_99 : decode cX9_accept 99 = .ok (.iload_n 1, 1) := by decide +kernel
theorem dX9_accept_100 : decode cX9_accept 100 = .ok (.ireturn, 1) := by decide +kernel
set_option maxRecDepth 20000 in
theorem ggX9_cancel_X9_isOrder : GoodIn wsX9_cancel wsX9_isOrder := goodIn_r _ [6, 7, 8, 9, 5, 10, 33, 34, 35, 36, 37, 38, 39, 40, 41, 42, 43, 44, 45] rfl (by decide +kernel)
set_option maxRecDepth 20000 in
theorem gX9_cancel_X9_isOrder : GoodIn wsX9_cancel (wsV RX9 175 RX9 yX9_isOrder wsX9_isOrder) := goodIn_app (goodIn_r _ [2, 3, 4, 5] rfl (by decide +kernel)) ggX9_cancel_X9_isOrder
set_option maxRecDepth 20000 in
theorem ggX9_cancel_X9_fails : GoodIn wsX9_cancel wsX9_fails := goodIn_r _ [14, 1, 33, 34, 35, 36, 37, 38, 39, 40, 41, 42, 43, 44, 45] rfl (by decide +kernel)
set_option maxRecDepth 20000 in
theorem gX9_cancel_X9_fails : GoodIn wsX9_cancel (wsV RX9 136 RX9 yX9_fails wsX9_fails) := goodIn_app (goodIn_r _ [11, 12, 13, 5] rfl (by decide +kernel)) ggX9_cancel_X9_fails
set_option maxRecDepth 20000 in
theorem ggX9_cancel_X9_records : GoodIn wsX9_cancel wsX9_records := goodIn_r _ [18, 19, 20, 7, 33, 34, 35, 36, 37, 38, 39, 40, 41, 42, 43, 44, 45] rfl (by decide +kernel)
set_option maxRecDepth 20000 in
theorem gX9_cancel_X9_records : GoodIn wsX9_cancel (wsV RX9 139 RX9 yX9_records wsX9_records) := goodIn_app (goodIn_r _ [15, 16, 17, 5] rfl (by decide +kernel)) ggX9_cancel_X9_records
set_option maxRecDepth 20000 in
theorem ggX9_cancel_X9_wantedMany : GoodIn wsX9_cancel wsX9_wantedMany := goodIn_r _ [24, 25, 26, 27, 5, 28, 7, 33, 34, 35, 36, 37, 38, 39, 40, 41, 42, 43, 44, 45] rfl (by decide +kernel)
set_option maxRecDepth 20000 in
theorem gX9_cancel_X9_wantedMany : GoodIn wsX9_cancel (wsV RX9 178 RX9 yX9_wantedMany wsX9_wantedMany) := goodIn_app (goodIn_r _ [21, 22, 23, 5] rfl (by decide +kernel)) ggX9_cancel_X9_wantedMany
set_option maxRecDepth 20000 in
theorem ggX9_cancel_X9_drops : GoodIn wsX9_cancel wsX9_drops := goodIn_r _ [32, 7, 33, 34, 35, 36, 37, 38, 39, 40, 41, 42, 43, 44, 45] rfl (by decide +kernel)
set_option maxRecDepth 20000 in
theorem gX9_cancel_X9_drops : GoodIn wsX9_cancel (wsV RX9 116 RX9 yX9_drops wsX9_drops) := goodIn_app (goodIn_r _ [29, 30, 31, 5] rfl (by decide +kernel)) ggX9_cancel_X9_drops
theorem dX9_cancel_0 : decode cX9_cancel 0 = .ok (.aload_n 0, 1) := by decide +kernel
theorem dX9_cancel_1 : decode cX9_cancel 1 = .ok (.iconst 0, 1) := by decide +kernel
theorem dX9_cancel_2 : decode cX9_cancel 2 = .ok (.putfield 35, 3) := by decide +kernel
theorem dX9_cancel_5 : decode cX9_cancel 5 = .ok (.aload_n 0, 1) := by decide +kernel
theorem dX9_cancel_6 : decode cX9_cancel 6 = .ok (.iload_n 1, 1) := by decide +kernel
theorem dX9_cancel_7 : decode cX9_cancel 7 = .ok (.invokevirtual 175, 3) := by decide +kernel
theorem dX9_cancel_10 : decode cX9_cancel 10 = .ok (.ifCond .ne 9, 3) := by decide +kernel
theorem dX9_cancel_13 : decode cX9_cancel 13 = .ok (.aload_n 0, 1) := by decide +kernel
theorem dX9_cancel_14 : decode cX9_cancel 14 = .ok (.iconst 1, 1) := by decide +kernel
theorem dX9_cancel_15 : decode cX9_cancel 15 = .ok (.invokevirtual 136, 3) := by decide +kernel
theorem dX9_cancel_18 : decode cX9_cancel 18 = .ok (.ireturn, 1) := by decide +kernel
theorem dX9_cancel_19 : decode cX9_cancel 19 = .ok (.aload_n 0, 1) := by decide +kernel
theorem dX9_cancel_20 : decode cX9_cancel 20 = .ok (.invokevirtual 139, 3) := by decide +kernel
theorem dX9_cancel_23 : decode cX9_cancel 23 = .ok (.aload_n 0, 1) := by decide +kernel
theorem dX9_cancel_24 : decode cX9_cancel 24 = .ok (.iload_n 1, 1) := by decide +kernel
theorem dX9_cancel_25 : decode cX9_cancel 25 = .ok (.invokevirtual 178, 3) := by decide +kernel
theorem dX9_cancel_28 : decode cX9_cancel 28 = .ok (.istore_n 2, 1) := by decide +kernel
theorem dX9_cancel_29 : decode cX9_cancel 29 = .ok (.aload_n 0, 1) := by decide +kernel
theorem dX9_cancel_30 : decode cX9_cancel 30 = .ok (.iload_n 1, 1) := by decide +kernel
theorem dX9_cancel_31 : decode cX9_cancel 31 = .ok (.invokevirtual 116, 3) := by decide +kernel
theorem dX9_cancel_34 : decode cX9_cancel 34 = .ok (.iload_n 2, 1) := by decide +kernel
theorem dX9_cancel_35 : decode cX9_cancel 35 = .ok (.ireturn, 1) := by decide +kernel
set_option maxRecDepth 20000 in
theorem ggX9_serve_X9_isOrder : GoodIn wsX9_serve wsX9_isOrder := goodIn_r _ [6, 7, 8, 9, 5, 10, 109, 110, 111, 112, 113, 114, 115, 116, 117, 118, 119, 120, 121] rfl (by decide +kernel)
set_option maxRecDepth 20000 in
theorem gX9_serve_X9_isOrder : GoodIn wsX9_serve (wsV RX9 175 RX9 yX9_isOrder wsX9_isOrder) := goodIn_app (goodIn_r _ [2, 3, 4, 5] rfl (by decide +kernel)) ggX9_serve_X9_isOrder
set_option maxRecDepth 20000 in
theorem ggX9_serve_X9_fails : GoodIn wsX9_serve wsX9_fails := goodIn_r _ [14, 1, 109, 110, 111, 112, 113, 114, 115, 116, 117, 118, 119, 120, 121] rfl (by decide +kernel)
set_option maxRecDepth 20000 in
theorem gX9_serve_X9_fails : GoodIn wsX9_serve (wsV RX9 136 RX9 yX9_fails wsX9_fails) := goodIn_app (goodIn_r _ [11, 12, 13, 5] rfl (by decide +kernel)) ggX9_serve_X9_fails
set_option maxRecDepth 20000 in
theorem ggX9_serve_X9_hasWindow : GoodIn wsX9_serve wsX9_hasWindow := goodIn_r _ [18, 7, 109, 110, 111, 112, 113, 114, 115, 116, 117, 118, 119, 120, 121] rfl (by decide +kernel)
set_option maxRecDepth 20000 in
theorem gX9_serve_X9_hasWindow : GoodIn wsX9_serve (wsV RX9 129 RX9 yX9_hasWindow wsX9_hasWindow) := goodIn_app (goodIn_r _ [15, 16, 17, 5] rfl (by decide +kernel)) ggX9_serve_X9_hasWindow
set_option maxRecDepth 20000 in
theorem ggX9_serve_X9_canBe : GoodIn wsX9_serve wsX9_canBe := goodIn_r _ [22, 23, 24, 25, 5, 26, 7, 27, 28, 29, 30, 31, 32, 33, 34, 109, 110, 111, 112, 113, 114, 115, 116, 117, 118, 119, 120, 121] rfl (by decide +kernel)
set_option maxRecDepth 20000 in
theorem gX9_serve_X9_canBe : GoodIn wsX9_serve (wsV RX9 90 RX9 yX9_canBe wsX9_canBe) := goodIn_app (goodIn_r _ [19, 20, 21, 5] rfl (by decide +kernel)) ggX9_serve_X9_canBe
set_option maxRecDepth 20000 in
theorem ggX9_serve_X9_records : GoodIn wsX9_serve wsX9_records := goodIn_r _ [38, 39, 40, 7, 109, 110, 111, 112, 113, 114, 115, 116, 117, 118, 119, 120, 121] rfl (by decide +kernel)
set_option maxRecDepth 20000 in
theorem gX9_serve_X9_records : GoodIn wsX9_serve (wsV RX9 139 RX9 yX9_records wsX9_records) := goodIn_app (goodIn_r _ [35, 36, 37, 5] rfl (by decide +kernel)) ggX9_serve_X9_records
set_option maxRecDepth 20000 in
theorem ggX9_serve_X9_serves : GoodIn wsX9_serve wsX9_serves := goodIn_r _ [44, 45, 7, 46, 47, 48, 5, 49, 19, 20, 21, 22, 23, 24, 25, 26, 27, 28, 29, 30, 31, 32, 33, 34, 50, 51, 52, 53, 54, 55, 56, 57, 58, 59, 60, 61, 62, 63, 64, 65, 66, 67, 68, 69, 70, 71, 72, 73, 74, 75, 76, 77, 78, 79, 80, 81, 82, 83, 84, 85, 86, 87, 88, 89, 90, 91, 92, 93, 94, 95, 96, 8, 9, 10, 97, 98, 99, 100, 101, 102, 103, 104, 105, 106, 107, 108, 109, 110, 111, 112, 113, 114, 115, 116, 117, 118, 119, 120, 121] rfl (by decide +kernel)
set_option maxRecDepth 20000 in
theorem gX9_serve_X9_serves : GoodIn wsX9_serve (wsV RX9 123 RX9 yX9_serves wsX9_serves) := goodIn_app (goodIn_r _ [41, 42, 43, 5] rfl (by decide +kernel)) ggX9_serve_X9_serves
theorem dX9_serve_0 : decode cX9_serve 0 = .ok (.aload_n 0, 1) := by decide +kernel
theorem dX9_serve_1 : decode cX9_serve 1 = .ok (.iconst 0, 1) := by decide +kernel
theorem dX9_serve_2 : decode cX9_serve 2 = .ok (.putfield 35, 3) := by decide +kernel
theorem dX9_serve_5 : decode cX9_serve 5 = .ok (.aload_n 0, 1) := by decide +kernel
theorem dX9_serve_6 : decode cX9_serve 6 = .ok (.iload_n 1, 1) := by decide +kernel
theorem dX9_serve_7 : decode cX9_serve 7 = .ok (.invokevirtual 175, 3) := by decide +kernel
theorem dX9_serve_10 : decode cX9_serve 10 = .ok (.ifCond .ne 9, 3) := by decide +kernel
theorem dX9_serve_13 : decode cX9_serve 13 = .ok (.aload_n 0, 1) := by decide +kernel
theorem dX9_serve_14 : decode cX9_serve 14 = .ok (.iconst 1, 1) := by decide +kernel
theorem dX9_serve_15 : decode cX9_serve 15 = .ok (.invokevirtual 136, 3) := by decide +kernel
theorem dX9_serve_18 : decode cX9_serve 18 = .ok (.ireturn, 1) := by decide +kernel
theorem dX9_serve_19 : decode cX9_serve 19 = .ok (.aload_n 0, 1) := by decide +kernel
theorem dX9_serve_20 : decode cX9_serve 20 = .ok (.invokevirtual 129, 3) := by decide +kernel
theorem dX9_serve_23 : decode cX9_serve 23 = .ok (.ifCond .ne 11, 3) := by decide +kernel
theorem dX9_serve_26 : decode cX9_serve 26 = .ok (.aload_n 0, 1) := by decide +kernel
theorem dX9_serve_27 : decode cX9_serve 27 = .ok (.iload_n 1, 1) := by decide +kernel
theorem dX9_serve_28 : decode cX9_serve 28 = .ok (.invokevirtual 90, 3) := by decide +kernel
theorem dX9_serve_31 : decode cX9_serve 31 = .ok (.ifCond .ne 9, 3) := by decide +kernel
theorem dX9_serve_34 : decode cX9_serve 34 = .ok (.aload_n 0, 1) := by decide +kernel
theorem dX9_serve_35 : decode cX9_serve 35 = .ok (.iconst 2, 1) := by decide +kernel
theorem dX9_serve_36 : decode cX9_serve 36 = .ok (.invokevirtual 136, 3) := by decide +kernel
theorem dX9_serve_39 : decode cX9_serve 39 = .ok (.ireturn, 1) := by decide +kernel
theorem dX9_serve_40 : decode cX9_serve 40 = .ok (.aload_n 0, 1) := by decide +kernel
theorem dX9_serve_41 : decode cX9_serve 41 = .ok (.invokevirtual 139, 3) := by decide +kernel
theorem dX9_serve_44 : decode cX9_serve 44 = .ok (.aload_n 0, 1) := by decide +kernel
theorem dX9_serve_45 : decode cX9_serve 45 = .ok (.iload_n 1, 1) := by decide +kernel
theorem dX9_serve_46 : decode cX9_serve 46 = .ok (.invokevirtual 123, 3) := by decide +kernel
theorem dX9_serve_49 : decode cX9_serve 49 = .ok (.ireturn, 1) := by decide +kernel
set_option maxRecDepth 20000 in
theorem ggX9_serveAll_X9_hasWindow : GoodIn wsX9_serveAll wsX9_hasWindow := goodIn_r _ [6, 7, 113, 114, 115, 116, 117, 118, 119, 120, 121, 122, 123, 124, 125] rfl (by decide +kernel)
set_option maxRecDepth 20000 in
theorem gX9_serveAll_X9_hasWindow : GoodIn wsX9_serveAll (wsV RX9 129 RX9 yX9_hasWindow wsX9_hasWindow) := goodIn_app (goodIn_r _ [2, 3, 4, 5] rfl (by decide +kernel)) ggX9_serveAll_X9_hasWindow
set_option maxRecDepth 20000 in
theorem ggX9_serveAll_X9_fails : GoodIn wsX9_serveAll wsX9_fails := goodIn_r _ [11, 1, 113, 114, 115, 116, 117, 118, 119, 120, 121, 122, 123, 124, 125] rfl (by decide +kernel)
set_option maxRecDepth 20000 in
theorem gX9_serveAll_X9_fails : GoodIn wsX9_serveAll (wsV RX9 136 RX9 yX9_fails wsX9_fails) := goodIn_app (goodIn_r _ [8, 9, 10, 5] rfl (by decide +kernel)) ggX9_serveAll_X9_fails
set_option maxRecDepth 20000 in
theorem ggX9_serveAll_X9_records : GoodIn wsX9_serveAll wsX9_records := goodIn_r _ [15, 16, 17, 7, 113, 114, 115, 116, 117, 118, 119, 120, 121, 122, 123, 124, 125] rfl (by decide +kernel)
set_option maxRecDepth 20000 in
theorem gX9_serveAll_X9_records : GoodIn wsX9_serveAll (wsV RX9 139 RX9 yX9_records wsX9_records) := goodIn_app (goodIn_r _ [12, 13, 14, 5] rfl (by decide +kernel)) ggX9_serveAll_X9_records
set_option maxRecDepth 20000 in
theorem ggX9_serveAll_X9_servesAll : GoodIn wsX9_serveAll wsX9_servesAll := goodIn_r _ [21, 22, 23, 24, 5, 25, 7, 26, 27, 28, 29, 30, 31, 32, 33, 34, 35, 36, 37, 38, 39, 40, 41, 42, 43, 44, 45, 46, 47, 48, 49, 50, 51, 52, 53, 54, 55, 56, 57, 58, 59, 60, 61, 62, 63, 64, 65, 66, 67, 68, 69, 70, 71, 72, 73, 74, 75, 76, 77, 78, 79, 80, 81, 82, 83, 84, 85, 86, 87, 88, 89, 90, 91, 92, 93, 94, 95, 96, 97, 98, 99, 100, 101, 102, 103, 104, 105, 106, 107, 108, 109, 110, 111, 112, 113, 114, 115, 116, 117, 118, 119, 120, 121, 122, 123, 124, 125] rfl (by decide +kernel)
set_option maxRecDepth 20000 in
theorem gX9_serveAll_X9_servesAll : GoodIn wsX9_serveAll (wsV RX9 181 RX9 yX9_servesAll wsX9_servesAll) := goodIn_app (goodIn_r _ [18, 19, 20, 5] rfl (by decide +kernel)) ggX9_serveAll_X9_servesAll
theorem dX9_serveAll_0 : decode cX9_serveAll 0 = .ok (.aload_n 0, 1) := by decide +kernel
theorem dX9_serveAll_1 : decode cX9_serveAll 1 = .ok (.iconst 0, 1) := by decide +kernel
theorem dX9_serveAll_2 : decode cX9_serveAll 2 = .ok (.putfield 35, 3) := by decide +kernel
theorem dX9_serveAll_5 : decode cX9_serveAll 5 = .ok (.aload_n 0, 1) := by decide +kernel
theorem dX9_serveAll_6 : decode cX9_serveAll 6 = .ok (.invokevirtual 129, 3) := by decide +kernel
theorem dX9_serveAll_9 : decode cX9_serveAll 9 = .ok (.ifCond .eq 9, 3) := by decide +kernel
theorem dX9_serveAll_12 : decode cX9_serveAll 12 = .ok (.aload_n 0, 1) := by decide +kernel
theorem dX9_serveAll_13 : decode cX9_serveAll 13 = .ok (.iconst 1, 1) := by decide +kernel
theorem dX9_serveAll_14 : decode cX9_serveAll 14 = .ok (.invokevirtual 136, 3) := by decide +kernel
theorem dX9_serveAll_17 : decode cX9_serveAll 17 = .ok (.ireturn, 1) := by decide +kernel
theorem dX9_serveAll_18 : decode cX9_serveAll 18 = .ok (.aload_n 0, 1) := by decide +kernel
theorem dX9_serveAll_19 : decode cX9_serveAll 19 = .ok (.invokevirtual 139, 3) := by decide +kernel
theorem dX9_serveAll_22 : decode cX9_serveAll 22 = .ok (.aload_n 0, 1) := by decide +kernel
theorem dX9_serveAll_23 : decode cX9_serveAll 23 = .ok (.invokevirtual 181, 3) := by decide +kernel
theorem dX9_serveAll_26 : decode cX9_serveAll 26 = .ok (.ireturn, 1) := by decide +kernel
theorem dX9_sets_0 : decode cX9_sets 0 = .ok (.aload_n 0, 1) := by decide +kernel
theorem dX9_sets_1 : decode cX9_sets 1 = .ok (.getfield 7, 3) := by decide +kernel
theorem dX9_sets_4 : decode cX9_sets 4 = .ok (.iload_n 1, 1) := by decide +kernel
theorem dX9_sets_5 : decode cX9_sets 5 = .ok (.iaload, 1) := by decide +kernel
theorem dX9_sets_6 : decode cX9_sets 6 = .ok (.istore_n 3, 1) := by decide +kernel
theorem dX9_sets_7 : decode cX9_sets 7 = .ok (.aload_n 0, 1) := by decide +kernel
theorem dX9_sets_8 : decode cX9_sets 8 = .ok (.getfield 7, 3) := by decide +kernel
theorem dX9_sets_11 : decode cX9_sets 11 = .ok (.iload_n 1, 1) := by decide +kernel
theorem dX9_sets_12 : decode cX9_sets 12 = .ok (.iload_n 2, 1) := by decide +kernel
theorem dX9_sets_13 : decode cX9_sets 13 = .ok (.iastore, 1) := by decide +kernel
theorem dX9_sets_14 : decode cX9_sets 14 = .ok (.iload_n 3, 1) := by decide +kernel
theorem dX9_sets_15 : decode cX9_sets 15 = .ok (.ireturn, 1) := by decide +kernel
set_option maxRecDepth 20000 in
theorem ggX9_changeLeast_X9_isKind : GoodIn wsX9_changeLeast wsX9_isKind := goodIn_r _ [5, 6, 7, 4, 8] rfl (by decide +kernel)
set_option maxRecDepth 20000 in
theorem gX9_changeLeast_X9_isKind : GoodIn wsX9_changeLeast (va_wsS RX9 157 yX9_isKind wsX9_isKind) := goodIn_app (goodIn_r _ [2, 3, 4] rfl (by decide +kernel)) ggX9_changeLeast_X9_isKind
set_option maxRecDepth 20000 in
theorem ggX9_changeLeast_X9_fails : GoodIn wsX9_changeLeast wsX9_fails := goodIn_r _ [12, 1, 24, 25, 26, 27, 28, 29, 30, 31, 32, 33, 34, 35, 36] rfl (by decide +kernel)
set_option maxRecDepth 20000 in
theorem gX9_changeLeast_X9_fails : GoodIn wsX9_changeLeast (wsV RX9 136 RX9 yX9_fails wsX9_fails) := goodIn_app (goodIn_r _ [9, 10, 11, 4] rfl (by decide +kernel)) ggX9_changeLeast_X9_fails
set_option maxRecDepth 20000 in
theorem ggX9_changeLeast_X9_in : GoodIn wsX9_changeLeast wsX9_in := goodIn_r _ [8] rfl (by decide +kernel)
set_option maxRecDepth 20000 in
theorem gX9_changeLeast_X9_in : GoodIn wsX9_changeLeast (va_wsS RX9 39 yX9_in wsX9_in) := goodIn_app (goodIn_r _ [6, 7, 4] rfl (by decide +kernel)) ggX9_changeLeast_X9_in
set_option maxRecDepth 20000 in
theorem ggX9_changeLeast_X9_records : GoodIn wsX9_changeLeast wsX9_records := goodIn_r _ [16, 17, 18, 19, 24, 25, 26, 27, 28, 29, 30, 31, 32, 33, 34, 35, 36] rfl (by decide +kernel)
set_option maxRecDepth 20000 in
theorem gX9_changeLeast_X9_records : GoodIn wsX9_changeLeast (wsV RX9 139 RX9 yX9_records wsX9_records) := goodIn_app (goodIn_r _ [13, 14, 15, 4] rfl (by decide +kernel)) ggX9_changeLeast_X9_records
set_option maxRecDepth 20000 in
theorem ggX9_changeLeast_X9_sets : GoodIn wsX9_changeLeast wsX9_sets := goodIn_r _ [23, 19, 24, 25, 26, 27, 28, 29, 30, 31, 32, 33, 34, 35, 36] rfl (by decide +kernel)
set_option maxRecDepth 20000 in
theorem gX9_changeLeast_X9_sets : GoodIn wsX9_changeLeast (wsV RX9 184 RX9 yX9_sets wsX9_sets) := goodIn_app (goodIn_r _ [20, 21, 22, 4] rfl (by decide +kernel)) ggX9_changeLeast_X9_sets
theorem dX9_changeLeast_0 : decode cX9_changeLeast 0 = .ok (.aload_n 0, 1) := by decide +kernel
theorem dX9_changeLeast_1 : decode cX9_changeLeast 1 = .ok (.iconst 0, 1) := by decide +kernel
theorem dX9_changeLeast_2 : decode cX9_changeLeast 2 = .ok (.putfield 35, 3) := by decide +kernel
theorem dX9_changeLeast_5 : decode cX9_changeLeast 5 = .ok (.iload_n 1, 1) := by decide +kernel
theorem dX9_changeLeast_6 : decode cX9_changeLeast 6 = .ok (.invokestatic 157, 3) := by decide +kernel
theorem dX9_changeLeast_9 : decode cX9_changeLeast 9 = .ok (.ifCond .ne 9, 3) := by decide +kernel
theorem dX9_changeLeast_12 : decode cX9_changeLeast 12 = .ok (.aload_n 0, 1) := by decide +kernel
theorem dX9_changeLeast_13 : decode cX9_changeLeast 13 = .ok (.iconst 1, 1) := by decide +kernel
theorem dX9_changeLeast_14 : decode cX9_changeLeast 14 = .ok (.invokevirtual 136, 3) := by decide +kernel
theorem dX9_changeLeast_17 : decode cX9_changeLeast 17 = .ok (.ireturn, 1) := by decide +kernel
theorem dX9_changeLeast_18 : decode cX9_changeLeast 18 = .ok (.iload_n 2, 1) := by decide +kernel
theorem dX9_changeLeast_19 : decode cX9_changeLeast 19 = .ok (.iconst 0, 1) := by decide +kernel
theorem dX9_changeLeast_20 : decode cX9_changeLeast 20 = .ok (.bipush 99, 2) := by decide +kernel
theorem dX9_changeLeast_22 : decode cX9_changeLeast 22 = .ok (.invokestatic 39, 3) := by decide +kernel
theorem dX9_changeLeast_25 : decode cX9_changeLeast 25 = .ok (.ifCond .ne 9, 3) := by decide +kernel
theorem dX9_changeLeast_28 : decode cX9_changeLeast 28 = .ok (.aload_n 0, 1) := by decide +kernel
theorem dX9_changeLeast_29 : decode cX9_changeLeast 29 = .ok (.iconst 2, 1) := by decide +kernel
theorem dX9_changeLeast_30 : decode cX9_changeLeast 30 = .ok (.invokevirtual 136, 3) := by decide +kernel
theorem dX9_changeLeast_33 : decode cX9_changeLeast 33 = .ok (.ireturn, 1) := by decide +kernel
theorem dX9_changeLeast_34 : decode cX9_changeLeast 34 = .ok (.aload_n 0, 1) := by decide +kernel
theorem dX9_changeLeast_35 : decode cX9_changeLeast 35 = .ok (.invokevirtual 139, 3) := by decide +kernel
theorem dX9_changeLeast_38 : decode cX9_changeLeast 38 = .ok (.aload_n 0, 1) := by decide +kernel
theorem dX9_changeLeast_39 : decode cX9_changeLeast 39 = .ok (.sipush 187, 3) := by decide +kernel
theorem dX9_changeLeast_42 : decode cX9_changeLeast 42 = .ok (.iload_n 1, 1) := by decide +kernel
theorem dX9_changeLeast_43 : decode cX9_changeLeast 43 = .ok (.iadd, 1) := by decide +kernel
theorem dX9_changeLeast_44 : decode cX9_changeLeast 44 = .ok (.iload_n 2, 1) := by decide +kernel
theorem dX9_changeLeast_45 : decode cX9_changeLeast 45 = .ok (.invokevirtual 184, 3) := by decide +kernel
theorem dX9_changeLeast_48 : decode cX9_changeLeast 48 = .ok (.ireturn, 1) := by decide +kernel
set_option maxRecDepth 20000 in
theorem ggX9_canWeigh_X9_weight : GoodIn wsX9_canWeigh wsX9_weight := goodIn_r _ [6, 1, 7, 8, 9, 5, 10, 11, 12, 13, 14, 15, 16, 17, 18, 19, 20, 21, 22, 23] rfl (by decide +kernel)
set_option maxRecDepth 20000 in
theorem gX9_canWeigh_X9_weight : GoodIn wsX9_canWeigh (wsV RX9 163 RX9 yX9_weight wsX9_weight) := goodIn_app (goodIn_r _ [2, 3, 4, 5] rfl (by decide +kernel)) ggX9_canWeigh_X9_weight
set_option maxRecDepth 20000 in
theorem ggX9_canWeigh_X9_of : GoodIn wsX9_canWeigh wsX9_of := goodIn_r _ [10, 1, 11, 12, 13, 14, 15, 16, 17, 18, 19, 20, 21, 22, 23] rfl (by decide +kernel)
set_option maxRecDepth 20000 in
theorem gX9_canWeigh_X9_of : GoodIn wsX9_canWeigh (wsV RX9 46 RX9 yX9_of wsX9_of) := goodIn_app (goodIn_r _ [7, 8, 9, 5] rfl (by decide +kernel)) ggX9_canWeigh_X9_of
theorem dX9_canWeigh_0 : decode cX9_canWeigh 0 = .ok (.iconst 1, 1) := by decide +kernel
theorem dX9_canWeigh_1 : decode cX9_canWeigh 1 = .ok (.istore_n 3, 1) := by decide +kernel
theorem dX9_canWeigh_2 : decode cX9_canWeigh 2 = .ok (.iconst 0, 1) := by decide +kernel
theorem dX9_canWeigh_3 : decode cX9_canWeigh 3 = .ok (.istore 4, 2) := by decide +kernel
theorem dX9_canWeigh_5 : decode cX9_canWeigh 5 = .ok (.iload 4, 2) := by decide +kernel
theorem dX9_canWeigh_7 : decode cX9_canWeigh 7 = .ok (.aload_n 0, 1) := by decide +kernel
theorem dX9_canWeigh_8 : decode cX9_canWeigh 8 = .ok (.getfield 7, 3) := by decide +kernel
theorem dX9_canWeigh_11 : decode cX9_canWeigh 11 = .ok (.iconst 0, 1) := by decide +kernel
theorem dX9_canWeigh_12 : decode cX9_canWeigh 12 = .ok (.iaload, 1) := by decide +kernel
theorem dX9_canWeigh_13 : decode cX9_canWeigh 13 = .ok (.if_icmp .ge 54, 3) := by decide +kernel
theorem dX9_canWeigh_16 : decode cX9_canWeigh 16 = .ok (.iload_n 3, 1) := by decide +kernel
theorem dX9_canWeigh_17 : decode cX9_canWeigh 17 = .ok (.ifCond .eq 42, 3) := by decide +kernel
theorem dX9_canWeigh_20 : decode cX9_canWeigh 20 = .ok (.aload_n 0, 1) := by decide +kernel
theorem dX9_canWeigh_21 : decode cX9_canWeigh 21 = .ok (.iload 4, 2) := by decide +kernel
theorem dX9_canWeigh_23 : decode cX9_canWeigh 23 = .ok (.invokevirtual 163, 3) := by decide +kernel
theorem dX9_canWeigh_26 : decode cX9_canWeigh 26 = .ok (.aload_n 0, 1) := by decide +kernel
theorem dX9_canWeigh_27 : decode cX9_canWeigh 27 = .ok (.iload 4, 2) := by decide +kernel
theorem dX9_canWeigh_29 : decode cX9_canWeigh 29 = .ok (.iconst 4, 1) := by decide +kernel
theorem dX9_canWeigh_30 : decode cX9_canWeigh 30 = .ok (.iload_n 1, 1) := by decide +kernel
theorem dX9_canWeigh_31 : decode cX9_canWeigh 31 = .ok (.iadd, 1) := by decide +kernel
theorem dX9_canWeigh_32 : decode cX9_canWeigh 32 = .ok (.invokevirtual 46, 3) := by decide +kernel
theorem dX9_canWeigh_35 : decode cX9_canWeigh 35 = .ok (.iload_n 2, 1) := by decide +kernel
theorem dX9_canWeigh_36 : decode cX9_canWeigh 36 = .ok (.aload_n 0, 1) := by decide +kernel
theorem dX9_canWeigh_37 : decode cX9_canWeigh 37 = .ok (.getfield 7, 3) := by decide +kernel
theorem dX9_canWeigh_40 : decode cX9_canWeigh 40 = .ok (.sipush 177, 3) := by decide +kernel
theorem dX9_canWeigh_43 : decode cX9_canWeigh 43 = .ok (.iload_n 1, 1) := by decide +kernel
theorem dX9_canWeigh_44 : decode cX9_canWeigh 44 = .ok (.iadd, 1) := by decide +kernel
theorem dX9_canWeigh_45 : decode cX9_canWeigh 45 = .ok (.iaload, 1) := by decide +kernel
theorem dX9_canWeigh_46 : decode cX9_canWeigh 46 = .ok (.isub, 1) := by decide +kernel
theorem dX9_canWeigh_47 : decode cX9_canWeigh 47 = .ok (.imul, 1) := by decide +kernel
theorem dX9_canWeigh_48 : decode cX9_canWeigh 48 = .ok (.iadd, 1) := by decide +kernel
theorem dX9_canWeigh_49 : decode cX9_canWeigh 49 = .ok (.sipush 150, 3) := by decide +kernel
theorem dX9_canWeigh_52 : decode cX9_canWeigh 52 = .ok (.if_icmp .gt 7, 3) := by decide +kernel
theorem dX9_canWeigh_55 : decode cX9_canWeigh 55 = .ok (.iconst 1, 1) := by decide +kernel
theorem dX9_canWeigh_56 : decode cX9_canWeigh 56 = .ok (.goto 4, 3) := by decide +kernel
theorem dX9_canWeigh_59 : decode cX9_canWeigh 59 = .ok (.iconst 0, 1) := by decide +kernel
theorem dX9_canWeigh_60 : decode cX9_canWeigh 60 = .ok (.istore_n 3, 1) := by decide +kernel
theorem dX9_canWeigh_61 : decode cX9_canWeigh 61 = .ok (.iinc 4 1, 3) := by decide +kernel
theorem dX9_canWeigh_64 : decode cX9_canWeigh 64 = .ok (.goto (-59), 3) := by decide +kernel
theorem dX9_canWeigh_67 : decode cX9_canWeigh 67 = .ok (.iload_n 3, 1) := by decide +kernel
theorem dX9_canWeigh_68 : decode cX9_canWeigh 68 = .ok (.ireturn, 1) := by decide +kernel
set_option maxRecDepth 20000 in
theorem ggX9_changeWeight_X9_isKind : GoodIn wsX9_changeWeight wsX9_isKind := goodIn_r _ [5, 6, 7, 4, 8] rfl (by decide +kernel)
set_option maxRecDepth 20000 in
theorem gX9_changeWeight_X9_isKind : GoodIn wsX9_changeWeight (va_wsS RX9 157 yX9_isKind wsX9_isKind) := goodIn_app (goodIn_r _ [2, 3, 4] rfl (by decide +kernel)) ggX9_changeWeight_X9_isKind
set_option maxRecDepth 20000 in
theorem ggX9_changeWeight_X9_fails : GoodIn wsX9_changeWeight wsX9_fails := goodIn_r _ [12, 1, 36, 37, 38, 39, 40, 41, 42, 43, 44, 45, 46, 47, 48] rfl (by decide +kernel)
set_option maxRecDepth 20000 in
theorem gX9_changeWeight_X9_fails : GoodIn wsX9_changeWeight (wsV RX9 136 RX9 yX9_fails wsX9_fails) := goodIn_app (goodIn_r _ [9, 10, 11, 4] rfl (by decide +kernel)) ggX9_changeWeight_X9_fails
set_option maxRecDepth 20000 in
theorem ggX9_changeWeight_X9_in : GoodIn wsX9_changeWeight wsX9_in := goodIn_r _ [8] rfl (by decide +kernel)
set_option maxRecDepth 20000 in
theorem gX9_changeWeight_X9_in : GoodIn wsX9_changeWeight (va_wsS RX9 39 yX9_in wsX9_in) := goodIn_app (goodIn_r _ [6, 7, 4] rfl (by decide +kernel)) ggX9_changeWeight_X9_in
set_option maxRecDepth 20000 in
theorem ggX9_changeWeight_X9_canWeigh : GoodIn wsX9_changeWeight wsX9_canWeigh := goodIn_r _ [16, 17, 18, 19, 20, 4, 21, 22, 23, 24, 25, 36, 37, 38, 39, 40, 41, 42, 43, 44, 45, 46, 47, 48] rfl (by decide +kernel)
set_option maxRecDepth 20000 in
theorem gX9_changeWeight_X9_canWeigh : GoodIn wsX9_changeWeight (wsV RX9 187 RX9 yX9_canWeigh wsX9_canWeigh) := goodIn_app (goodIn_r _ [13, 14, 15, 4] rfl (by decide +kernel)) ggX9_changeWeight_X9_canWeigh
set_option maxRecDepth 20000 in
theorem ggX9_changeWeight_X9_records : GoodIn wsX9_changeWeight wsX9_records := goodIn_r _ [29, 30, 31, 17, 36, 37, 38, 39, 40, 41, 42, 43, 44, 45, 46, 47, 48] rfl (by decide +kernel)
set_option maxRecDepth 20000 in
theorem gX9_changeWeight_X9_records : GoodIn wsX9_changeWeight (wsV RX9 139 RX9 yX9_records wsX9_records) := goodIn_app (goodIn_r _ [26, 27, 28, 4] rfl (by decide +kernel)) ggX9_changeWeight_X9_records
set_option maxRecDepth 20000 in
theorem ggX9_changeWeight_X9_sets : GoodIn wsX9_changeWeight wsX9_sets := goodIn_r _ [35, 17, 36, 37, 38, 39, 40, 41, 42, 43, 44, 45, 46, 47, 48] rfl (by decide +kernel)
set_option maxRecDepth 20000 in
theorem gX9_changeWeight_X9_sets : GoodIn wsX9_changeWeight (wsV RX9 184 RX9 yX9_sets wsX9_sets) := goodIn_app (goodIn_r _ [32, 33, 34, 4] rfl (by decide +kernel)) ggX9_changeWeight_X9_sets
theorem dX9_changeWeight_0 : decode cX9_changeWeight 0 = .ok (.aload_n 0, 1) := by decide +kernel
theorem dX9_changeWeight_1 : decode cX9_changeWeight 1 = .ok (.iconst 0, 1) := by decide +kernel
theorem dX9_changeWeight_2 : decode cX9_changeWeight 2 = .ok (.putfield 35, 3) := by decide +kernel
theorem dX9_changeWeight_5 : decode cX9_changeWeight 5 = .ok (.iload_n 1, 1) := by decide +kernel
theorem dX9_changeWeight_6 : decode cX9_changeWeight 6 = .ok (.invokestatic 157, 3) := by decide +kernel
theorem dX9_changeWeight_9 : decode cX9_changeWeight 9 = .ok (.ifCond .ne 9, 3) := by decide +kernel
theorem dX9_changeWeight_12 : decode cX9_changeWeight 12 = .ok (.aload_n 0, 1) := by decide +kernel
theorem dX9_changeWeight_13 : decode cX9_changeWeight 13 = .ok (.iconst 1, 1) := by decide +kernel
theorem dX9_changeWeight_14 : decode cX9_changeWeight 14 = .ok (.invokevirtual 136, 3) := by decide +kernel
theorem dX9_changeWeight_17 : decode cX9_changeWeight 17 = .ok (.ireturn, 1) := by decide +kernel
theorem dX9_changeWeight_18 : decode cX9_changeWeight 18 = .ok (.iload_n 2, 1) := by decide +kernel
theorem dX9_changeWeight_19 : decode cX9_changeWeight 19 = .ok (.iconst 1, 1) := by decide +kernel
theorem dX9_changeWeight_20 : decode cX9_changeWeight 20 = .ok (.bipush 9, 2) := by decide +kernel
theorem dX9_changeWeight_22 : decode cX9_changeWeight 22 = .ok (.invokestatic 39, 3) := by decide +kernel
theorem dX9_changeWeight_25 : decode cX9_changeWeight 25 = .ok (.ifCond .ne 9, 3) := by decide +kernel
theorem dX9_changeWeight_28 : decode cX9_changeWeight 28 = .ok (.aload_n 0, 1) := by decide +kernel
theorem dX9_changeWeight_29 : decode cX9_changeWeight 29 = .ok (.iconst 2, 1) := by decide +kernel
theorem dX9_changeWeight_30 : decode cX9_changeWeight 30 = .ok (.invokevirtual 136, 3) := by decide +kernel
theorem dX9_changeWeight_33 : decode cX9_changeWeight 33 = .ok (.ireturn, 1) := by decide +kernel
theorem dX9_changeWeight_34 : decode cX9_changeWeight 34 = .ok (.aload_n 0, 1) := by decide +kernel
theorem dX9_changeWeight_35 : decode cX9_changeWeight 35 = .ok (.iload_n 1, 1) := by decide +kernel
theorem dX9_changeWeight_36 : decode cX9_changeWeight 36 = .ok (.iload_n 2, 1) := by decide +kernel
theorem dX9_changeWeight_37 : decode cX9_changeWeight 37 = .ok (.invokevirtual 187, 3) := by decide +kernel
theorem dX9_changeWeight_40 : decode cX9_changeWeight 40 = .ok (.ifCond .ne 9, 3) := by decide +kernel
theorem dX9_changeWeight_43 : decode cX9_changeWeight 43 = .ok (.aload_n 0, 1) := by decide +kernel
theorem dX9_changeWeight_44 : decode cX9_changeWeight 44 = .ok (.iconst 3, 1) := by decide +kernel
theorem dX9_changeWeight_45 : decode cX9_changeWeight 45 = .ok (.invokevirtual 136, 3) := by decide +kernel
theorem dX9_changeWeight_48 : decode cX9_changeWeight 48 = .ok (.ireturn, 1) := by decide +kernel
theorem dX9_changeWeight_49 : decode cX9_changeWeight 49 = .ok (.aload_n 0, 1) := by decide +kernel
theorem dX9_changeWeight_50 : decode cX9_changeWeight 50 = .ok (.invokevirtual 139, 3) := by decide +kernel
theorem dX9_changeWeight_53 : decode cX9_changeWeight 53 = .ok (.aload_n 0, 1) := by decide +kernel
theorem dX9_changeWeight_54 : decode cX9_changeWeight 54 = .ok (.sipush 177, 3) := by decide +kernel
theorem dX9_changeWeight_57 : decode cX9_changeWeight 57 = .ok (.iload_n 1, 1) := by decide +kernel
theorem dX9_changeWeight_58 : decode cX9_changeWeight 58 = .ok (.iadd, 1) := by decide +kernel
theorem dX9_changeWeight_59 : decode cX9_changeWeight 59 = .ok (.iload_n 2, 1) := by decide +kernel
theorem dX9_changeWeight_60 : decode cX9_changeWeight 60 = .ok (.invokevirtual 184, 3) := by decide +kernel
theorem dX9_changeWeight_63 : decode cX9_changeWeight 63 = .ok (.ireturn, 1) := by decide +kernel
set_option maxRecDepth 20000 in
theorem ggX9_turnRule_X9_records : GoodIn wsX9_turnRule wsX9_records := goodIn_r _ [7, 8, 9, 2, 10, 11, 12, 13, 14, 15, 16, 17, 18, 19, 20, 21, 22] rfl (by decide +kernel)
set_option maxRecDepth 20000 in
theorem gX9_turnRule_X9_records : GoodIn wsX9_turnRule (wsV RX9 139 RX9 yX9_records wsX9_records) := goodIn_app (goodIn_r _ [3, 4, 5, 6] rfl (by decide +kernel)) ggX9_turnRule_X9_records
theorem dX9_turnRule_0 : decode cX9_turnRule 0 = .ok (.aload_n 0, 1) := by decide +kernel
theorem dX9_turnRule_1 : decode cX9_turnRule 1 = .ok (.iconst 0, 1) := by decide +kernel
theorem dX9_turnRule_2 : decode cX9_turnRule 2 = .ok (.putfield 35, 3) := by decide +kernel
theorem dX9_turnRule_5 : decode cX9_turnRule 5 = .ok (.aload_n 0, 1) := by decide +kernel
theorem dX9_turnRule_6 : decode cX9_turnRule 6 = .ok (.invokevirtual 139, 3) := by decide +kernel
theorem dX9_turnRule_9 : decode cX9_turnRule 9 = .ok (.aload_n 0, 1) := by decide +kernel
theorem dX9_turnRule_10 : decode cX9_turnRule 10 = .ok (.getfield 7, 3) := by decide +kernel
theorem dX9_turnRule_13 : decode cX9_turnRule 13 = .ok (.iconst 3, 1) := by decide +kernel
theorem dX9_turnRule_14 : decode cX9_turnRule 14 = .ok (.iconst 1, 1) := by decide +kernel
theorem dX9_turnRule_15 : decode cX9_turnRule 15 = .ok (.aload_n 0, 1) := by decide +kernel
theorem dX9_turnRule_16 : decode cX9_turnRule 16 = .ok (.getfield 7, 3) := by decide +kernel
theorem dX9_turnRule_19 : decode cX9_turnRule 19 = .ok (.iconst 3, 1) := by decide +kernel
theorem dX9_turnRule_20 : decode cX9_turnRule 20 = .ok (.iaload, 1) := by decide +kernel
theorem dX9_turnRule_21 : decode cX9_turnRule 21 = .ok (.isub, 1) := by decide +kernel
theorem dX9_turnRule_22 : decode cX9_turnRule 22 = .ok (.iastore, 1) := by decide +kernel
theorem dX9_turnRule_23 : decode cX9_turnRule 23 = .ok (.aload_n 0, 1) := by decide +kernel
theorem dX9_turnRule_24 : decode cX9_turnRule 24 = .ok (.getfield 7, 3) := by decide +kernel
theorem dX9_turnRule_27 : decode cX9_turnRule 27 = .ok (.iconst 3, 1) := by decide +kernel
theorem dX9_turnRule_28 : decode cX9_turnRule 28 = .ok (.iaload, 1) := by decide +kernel
theorem dX9_turnRule_29 : decode cX9_turnRule 29 = .ok (.iconst 1, 1) := by decide +kernel
theorem dX9_turnRule_30 : decode cX9_turnRule 30 = .ok (.if_icmp .ne 7, 3) := by decide +kernel
theorem dX9_turnRule_33 : decode cX9_turnRule 33 = .ok (.iconst 1, 1) := by decide +kernel
theorem dX9_turnRule_34 : decode cX9_turnRule 34 = .ok (.goto 4, 3) := by decide +kernel
theorem dX9_turnRule_37 : decode cX9_turnRule 37 = .ok (.iconst 0, 1) := by decide +kernel
theorem dX9_turnRule_38 : decode cX9_turnRule 38 = .ok (.ireturn, 1) := by decide +kernel
set_option maxRecDepth 20000 in
theorem ggX9_append_X9_in : GoodIn wsX9_append wsX9_in := goodIn_r _ [7] rfl (by decide +kernel)
set_option maxRecDepth 20000 in
theorem gX9_append_X9_in : GoodIn wsX9_append (va_wsS RX9 39 yX9_in wsX9_in) := goodIn_app (goodIn_r _ [4, 5, 6] rfl (by decide +kernel)) ggX9_append_X9_in
set_option maxRecDepth 20000 in
theorem ggX9_append_X9_fails : GoodIn wsX9_append wsX9_fails := goodIn_r _ [11, 1, 12, 13, 14, 15, 16, 17, 18, 19, 20, 21, 22, 23, 24] rfl (by decide +kernel)
set_option maxRecDepth 20000 in
theorem gX9_append_X9_fails : GoodIn wsX9_append (wsV RX9 136 RX9 yX9_fails wsX9_fails) := goodIn_app (goodIn_r _ [8, 9, 10, 6] rfl (by decide +kernel)) ggX9_append_X9_fails
theorem dX9_append_0 : decode cX9_append 0 = .ok (.aload_n 0, 1) := by decide +kernel
theorem dX9_append_1 : decode cX9_append 1 = .ok (.iconst 0, 1) := by decide +kernel
theorem dX9_append_2 : decode cX9_append 2 = .ok (.putfield 35, 3) := by decide +kernel
theorem dX9_append_5 : decode cX9_append 5 = .ok (.iload_n 1, 1) := by decide +kernel
theorem dX9_append_6 : decode cX9_append 6 = .ok (.bipush 33, 2) := by decide +kernel
theorem dX9_append_8 : decode cX9_append 8 = .ok (.bipush 126, 2) := by decide +kernel
theorem dX9_append_10 : decode cX9_append 10 = .ok (.invokestatic 39, 3) := by decide +kernel
theorem dX9_append_13 : decode cX9_append 13 = .ok (.ifCond .ne 9, 3) := by decide +kernel
theorem dX9_append_16 : decode cX9_append 16 = .ok (.aload_n 0, 1) := by decide +kernel
theorem dX9_append_17 : decode cX9_append 17 = .ok (.iconst 1, 1) := by decide +kernel
theorem dX9_append_18 : decode cX9_append 18 = .ok (.invokevirtual 136, 3) := by decide +kernel
theorem dX9_append_21 : decode cX9_append 21 = .ok (.ireturn, 1) := by decide +kernel
theorem dX9_append_22 : decode cX9_append 22 = .ok (.aload_n 0, 1) := by decide +kernel
theorem dX9_append_23 : decode cX9_append 23 = .ok (.getfield 172, 3) := by decide +kernel
theorem dX9_append_26 : decode cX9_append 26 = .ok (.bipush 60, 2) := by decide +kernel
theorem dX9_append_28 : decode cX9_append 28 = .ok (.if_icmp .ne 9, 3) := by decide +kernel
theorem dX9_append_31 : decode cX9_append 31 = .ok (.aload_n 0, 1) := by decide +kernel
theorem dX9_append_32 : decode cX9_append 32 = .ok (.iconst 2, 1) := by decide +kernel
theorem dX9_append_33 : decode cX9_append 33 = .ok (.invokevirtual 136, 3) := by decide +kernel
theorem dX9_append_36 : decode cX9_append 36 = .ok (.ireturn, 1) := by decide +kernel
theorem dX9_append_37 : decode cX9_append 37 = .ok (.aload_n 0, 1) := by decide +kernel
theorem dX9_append_38 : decode cX9_append 38 = .ok (.getfield 26, 3) := by decide +kernel
theorem dX9_append_41 : decode cX9_append 41 = .ok (.aload_n 0, 1) := by decide +kernel
theorem dX9_append_42 : decode cX9_append 42 = .ok (.getfield 172, 3) := by decide +kernel
theorem dX9_append_45 : decode cX9_append 45 = .ok (.iload_n 1, 1) := by decide +kernel
theorem dX9_append_46 : decode cX9_append 46 = .ok (.iastore, 1) := by decide +kernel
theorem dX9_append_47 : decode cX9_append 47 = .ok (.aload_n 0, 1) := by decide +kernel
theorem dX9_append_48 : decode cX9_append 48 = .ok (.dup, 1) := by decide +kernel
theorem dX9_append_49 : decode cX9_append 49 = .ok (.getfield 172, 3) := by decide +kernel
theorem dX9_append_52 : decode cX9_append 52 = .ok (.iconst 1, 1) := by decide +kernel
theorem dX9_append_53 : decode cX9_append 53 = .ok (.iadd, 1) := by decide +kernel
theorem dX9_append_54 : decode cX9_append 54 = .ok (.putfield 172, 3) := by decide +kernel
theorem dX9_append_57 : decode cX9_append 57 = .ok (.aload_n 0, 1) := by decide +kernel
theorem dX9_append_58 : decode cX9_append 58 = .ok (.getfield 172, 3) := by decide +kernel
theorem dX9_append_61 : decode cX9_append 61 = .ok (.ireturn, 1) := by decide +kernel
theorem dX9_clearBuffer_0 : decode cX9_clearBuffer 0 = .ok (.aload_n 0, 1) := by decide +kernel
theorem dX9_clearBuffer_1 : decode cX9_clearBuffer 1 = .ok (.iconst 0, 1) := by decide +kernel
theorem dX9_clearBuffer_2 : decode cX9_clearBuffer 2 = .ok (.putfield 35, 3) := by decide +kernel
theorem dX9_clearBuffer_5 : decode cX9_clearBuffer 5 = .ok (.aload_n 0, 1) := by decide +kernel
theorem dX9_clearBuffer_6 : decode cX9_clearBuffer 6 = .ok (.getfield 172, 3) := by decide +kernel
theorem dX9_clearBuffer_9 : decode cX9_clearBuffer 9 = .ok (.istore_n 1, 1) := by decide +kernel
theorem dX9_clearBuffer_10 : decode cX9_clearBuffer 10 = .ok (.aload_n 0, 1) := by decide +kernel
theorem dX9_clearBuffer_11 : decode cX9_clearBuffer 11 = .ok (.iconst 0, 1) := by decide +kernel
theorem dX9_clearBuffer_12 : decode cX9_clearBuffer 12 = .ok (.putfield 172, 3) := by decide +kernel
theorem dX9_clearBuffer_15 : decode cX9_clearBuffer 15 = .ok (.iload_n 1, 1) := by decide +kernel
theorem dX9_clearBuffer_16 : decode cX9_clearBuffer 16 = .ok (.ireturn, 1) := by decide +kernel
theorem dX9_sign_0 : decode cX9_sign 0 = .ok (.aload_n 0, 1) := by decide +kernel
theorem dX9_sign_1 : decode cX9_sign 1 = .ok (.getfield 190, 3) := by decide +kernel
theorem dX9_sign_4 : decode cX9_sign 4 = .ok (.aload_n 0, 1) := by decide +kernel
theorem dX9_sign_5 : decode cX9_sign 5 = .ok (.getfield 172, 3) := by decide +kernel
theorem dX9_sign_8 : decode cX9_sign 8 = .ok (.if_icmp .ge 15, 3) := by decide +kernel
theorem dX9_sign_11 : decode cX9_sign 11 = .ok (.aload_n 0, 1) := by decide +kernel
theorem dX9_sign_12 : decode cX9_sign 12 = .ok (.getfield 26, 3) := by decide +kernel
theorem dX9_sign_15 : decode cX9_sign 15 = .ok (.aload_n 0, 1) := by decide +kernel
theorem dX9_sign_16 : decode cX9_sign 16 = .ok (.getfield 190, 3) := by decide +kernel
theorem dX9_sign_19 : decode cX9_sign 19 = .ok (.iaload, 1) := by decide +kernel
theorem dX9_sign_20 : decode cX9_sign 20 = .ok (.goto 4, 3) := by decide +kernel
theorem dX9_sign_23 : decode cX9_sign 23 = .ok (.iconst 0, 1) := by decide +kernel
theorem dX9_sign_24 : decode cX9_sign 24 = .ok (.ireturn, 1) := by decide +kernel
set_option maxRecDepth 20000 in
theorem ggX9_takes_X9_sign : GoodIn wsX9_takes wsX9_sign := goodIn_r _ [7, 2, 8, 9, 13, 14, 15, 16, 17, 18, 19, 20, 21, 22, 23, 24, 25] rfl (by decide +kernel)
set_option maxRecDepth 20000 in
theorem gX9_takes_X9_sign : GoodIn wsX9_takes (wsV RX9 197 RX9 yX9_sign wsX9_sign) := goodIn_app (goodIn_r _ [3, 4, 5, 6] rfl (by decide +kernel)) ggX9_takes_X9_sign
set_option maxRecDepth 20000 in
theorem ggX9_takes_X9_in : GoodIn wsX9_takes wsX9_in := goodIn_r _ [12] rfl (by decide +kernel)
set_option maxRecDepth 20000 in
theorem gX9_takes_X9_in : GoodIn wsX9_takes (va_wsS RX9 39 yX9_in wsX9_in) := goodIn_app (goodIn_r _ [10, 11, 6] rfl (by decide +kernel)) ggX9_takes_X9_in
theorem dX9_takes_0 : decode cX9_takes 0 = .ok (.aload_n 0, 1) := by decide +kernel
theorem dX9_takes_1 : decode cX9_takes 1 = .ok (.aload_n 0, 1) := by decide +kernel
theorem dX9_takes_2 : decode cX9_takes 2 = .ok (.getfield 193, 3) := by decide +kernel
theorem dX9_takes_5 : decode cX9_takes 5 = .ok (.ifCond .eq 19, 3) := by decide +kernel
theorem dX9_takes_8 : decode cX9_takes 8 = .ok (.aload_n 0, 1) := by decide +kernel
theorem dX9_takes_9 : decode cX9_takes 9 = .ok (.invokevirtual 197, 3) := by decide +kernel
theorem dX9_takes_12 : decode cX9_takes 12 = .ok (.iload_n 1, 1) := by decide +kernel
theorem dX9_takes_13 : decode cX9_takes 13 = .ok (.iload_n 2, 1) := by decide +kernel
theorem dX9_takes_14 : decode cX9_takes 14 = .ok (.invokestatic 39, 3) := by decide +kernel
theorem dX9_takes_17 : decode cX9_takes 17 = .ok (.ifCond .eq 7, 3) := by decide +kernel
theorem dX9_takes_20 : decode cX9_takes 20 = .ok (.iconst 1, 1) := by decide +kernel
theorem dX9_takes_21 : decode cX9_takes 21 = .ok (.goto 4, 3) := by decide +kernel
theorem dX9_takes_24 : decode cX9_takes 24 = .ok (.iconst 0, 1) := by decide +kernel
theorem dX9_takes_25 : decode cX9_takes 25 = .ok (.putfield 193, 3) := by decide +kernel
theorem dX9_takes_28 : decode cX9_takes 28 = .ok (.aload_n 0, 1) := by decide +kernel
theorem dX9_takes_29 : decode cX9_takes 29 = .ok (.invokevirtual 197, 3) := by decide +kernel
theorem dX9_takes_32 : decode cX9_takes 32 = .ok (.bipush 48, 2) := by decide +kernel
theorem dX9_takes_34 : decode cX9_takes 34 = .ok (.isub, 1) := by decide +kernel
theorem dX9_takes_35 : decode cX9_takes 35 = .ok (.istore_n 3, 1) := by decide +kernel
theorem dX9_takes_36 : decode cX9_takes 36 = .ok (.aload_n 0, 1) := by decide +kernel
theorem dX9_takes_37 : decode cX9_takes 37 = .ok (.dup, 1) := by decide +kernel
theorem dX9_takes_38 : decode cX9_takes 38 = .ok (.getfield 190, 3) := by decide +kernel
theorem dX9_takes_41 : decode cX9_takes 41 = .ok (.aload_n 0, 1) := by decide +kernel
theorem dX9_takes_42 : decode cX9_takes 42 = .ok (.getfield 193, 3) := by decide +kernel
theorem dX9_takes_45 : decode cX9_takes 45 = .ok (.ifCond .eq 7, 3) := by decide +kernel
theorem dX9_takes_48 : decode cX9_takes 48 = .ok (.iconst 1, 1) := by decide +kernel
theorem dX9_takes_49 : decode cX9_takes 49 = .ok (.goto 4, 3) := by decide +kernel
theorem dX9_takes_52 : decode cX9_takes 52 = .ok (.iconst 0, 1) := by decide +kernel
theorem dX9_takes_53 : decode cX9_takes 53 = .ok (.iadd, 1) := by decide +kernel
theorem dX9_takes_54 : decode cX9_takes 54 = .ok (.putfield 190, 3) := by decide +kernel
theorem dX9_takes_57 : decode cX9_takes 57 = .ok (.iload_n 3, 1) := by decide +kernel
theorem dX9_takes_58 : decode cX9_takes 58 = .ok (.ireturn, 1) := by decide +kernel
set_option maxRecDepth 20000 in
theorem ggX9_readsPart_X9_takes : GoodIn wsX9_readsPart wsX9_takes := goodIn_r _ [8, 1, 2, 9, 10, 11, 7, 12, 13, 14, 15, 16, 17, 18, 19, 20, 21, 22, 23, 24, 25, 26, 27, 28, 29, 30] rfl (by decide +kernel)
set_option maxRecDepth 20000 in
theorem gX9_readsPart_X9_takes : GoodIn wsX9_readsPart (wsV RX9 200 RX9 yX9_takes wsX9_takes) := goodIn_app (goodIn_r _ [4, 5, 6, 7] rfl (by decide +kernel)) ggX9_readsPart_X9_takes
set_option maxRecDepth 20000 in
theorem ggX9_readsPart_X9_sign : GoodIn wsX9_readsPart wsX9_sign := goodIn_r _ [12, 2, 13, 14, 18, 19, 20, 21, 22, 23, 24, 25, 26, 27, 28, 29, 30] rfl (by decide +kernel)
set_option maxRecDepth 20000 in
theorem gX9_readsPart_X9_sign : GoodIn wsX9_readsPart (wsV RX9 197 RX9 yX9_sign wsX9_sign) := goodIn_app (goodIn_r _ [9, 10, 11, 7] rfl (by decide +kernel)) ggX9_readsPart_X9_sign
set_option maxRecDepth 20000 in
theorem ggX9_readsPart_X9_in : GoodIn wsX9_readsPart wsX9_in := goodIn_r _ [17] rfl (by decide +kernel)
set_option maxRecDepth 20000 in
theorem gX9_readsPart_X9_in : GoodIn wsX9_readsPart (va_wsS RX9 39 yX9_in wsX9_in) := goodIn_app (goodIn_r _ [15, 16, 7] rfl (by decide +kernel)) ggX9_readsPart_X9_in
theorem dX9_readsPart_0 : decode cX9_readsPart 0 = .ok (.aload_n 0, 1) := by decide +kernel
theorem dX9_readsPart_1 : decode cX9_readsPart 1 = .ok (.bipush 48, 2) := by decide +kernel
theorem dX9_readsPart_3 : decode cX9_readsPart 3 = .ok (.iload_n 1, 1) := by decide +kernel
theorem dX9_readsPart_4 : decode cX9_readsPart 4 = .ok (.iadd, 1) := by decide +kernel
theorem dX9_readsPart_5 : decode cX9_readsPart 5 = .ok (.iconst 1, 1) := by decide +kernel
theorem dX9_readsPart_6 : decode cX9_readsPart 6 = .ok (.iadd, 1) := by decide +kernel
theorem dX9_readsPart_7 : decode cX9_readsPart 7 = .ok (.bipush 57, 2) := by decide +kernel
theorem dX9_readsPart_9 : decode cX9_readsPart 9 = .ok (.invokevirtual 200, 3) := by decide +kernel
theorem dX9_readsPart_12 : decode cX9_readsPart 12 = .ok (.istore_n 2, 1) := by decide +kernel
theorem dX9_readsPart_13 : decode cX9_readsPart 13 = .ok (.aload_n 0, 1) := by decide +kernel
theorem dX9_readsPart_14 : decode cX9_readsPart 14 = .ok (.bipush 42, 2) := by decide +kernel
theorem dX9_readsPart_16 : decode cX9_readsPart 16 = .ok (.bipush 42, 2) := by decide +kernel
theorem dX9_readsPart_18 : decode cX9_readsPart 18 = .ok (.invokevirtual 200, 3) := by decide +kernel
theorem dX9_readsPart_21 : decode cX9_readsPart 21 = .ok (.pop, 1) := by decide +kernel
theorem dX9_readsPart_22 : decode cX9_readsPart 22 = .ok (.aload_n 0, 1) := by decide +kernel
theorem dX9_readsPart_23 : decode cX9_readsPart 23 = .ok (.bipush 49, 2) := by decide +kernel
theorem dX9_readsPart_25 : decode cX9_readsPart 25 = .ok (.bipush 57, 2) := by decide +kernel
theorem dX9_readsPart_27 : decode cX9_readsPart 27 = .ok (.invokevirtual 200, 3) := by decide +kernel
theorem dX9_readsPart_30 : decode cX9_readsPart 30 = .ok (.istore_n 3, 1) := by decide +kernel
theorem dX9_readsPart_31 : decode cX9_readsPart 31 = .ok (.aload_n 0, 1) := by decide +kernel
theorem dX9_readsPart_32 : decode cX9_readsPart 32 = .ok (.getfield 193, 3) := by decide +kernel
theorem dX9_readsPart_35 : decode cX9_readsPart 35 = .ok (.ifCond .eq 57, 3) := by decide +kernel
theorem dX9_readsPart_38 : decode cX9_readsPart 38 = .ok (.aload_n 0, 1) := by decide +kernel
theorem dX9_readsPart_39 : decode cX9_readsPart 39 = .ok (.invokevirtual 197, 3) := by decide +kernel
theorem dX9_readsPart_42 : decode cX9_readsPart 42 = .ok (.bipush 48, 2) := by decide +kernel
theorem dX9_readsPart_44 : decode cX9_readsPart 44 = .ok (.bipush 57, 2) := by decide +kernel
theorem dX9_readsPart_46 : decode cX9_readsPart 46 = .ok (.invokestatic 39, 3) := by decide +kernel
theorem dX9_readsPart_49 : decode cX9_readsPart 49 = .ok (.ifCond .eq 43, 3) := by decide +kernel
theorem dX9_readsPart_52 : decode cX9_readsPart 52 = .ok (.bipush 10, 2) := by decide +kernel
theorem dX9_readsPart_54 : decode cX9_readsPart 54 = .ok (.iload_n 3, 1) := by decide +kernel
theorem dX9_readsPart_55 : decode cX9_readsPart 55 = .ok (.imul, 1) := by decide +kernel
theorem dX9_readsPart_56 : decode cX9_readsPart 56 = .ok (.aload_n 0, 1) := by decide +kernel
theorem dX9_readsPart_57 : decode cX9_readsPart 57 = .ok (.invokevirtual 197, 3) := by decide +kernel
theorem dX9_readsPart_60 : decode cX9_readsPart 60 = .ok (.iadd, 1) := by decide +kernel
theorem dX9_readsPart_61 : decode cX9_readsPart 61 = .ok (.bipush 48, 2) := by decide +kernel
theorem dX9_readsPart_63 : decode cX9_readsPart 63 = .ok (.isub, 1) := by decide +kernel
theorem dX9_readsPart_64 : decode cX9_readsPart 64 = .ok (.bipush 20, 2) := by decide +kernel
theorem dX9_readsPart_66 : decode cX9_readsPart 66 = .ok (.if_icmp .gt 26, 3) := by decide +kernel
theorem dX9_readsPart_69 : decode cX9_readsPart 69 = .ok (.bipush 10, 2) := by decide +kernel
theorem dX9_readsPart_71 : decode cX9_readsPart 71 = .ok (.iload_n 3, 1) := by decide +kernel
theorem dX9_readsPart_72 : decode cX9_readsPart 72 = .ok (.imul, 1) := by decide +kernel
theorem dX9_readsPart_73 : decode cX9_readsPart 73 = .ok (.aload_n 0, 1) := by decide +kernel
theorem dX9_readsPart_74 : decode cX9_readsPart 74 = .ok (.invokevirtual 197, 3) := by decide +kernel
theorem dX9_readsPart_77 : decode cX9_readsPart 77 = .ok (.iadd, 1) := by decide +kernel
theorem dX9_readsPart_78 : decode cX9_readsPart 78 = .ok (.bipush 48, 2) := by decide +kernel
theorem dX9_readsPart_80 : decode cX9_readsPart 80 = .ok (.isub, 1) := by decide +kernel
theorem dX9_readsPart_81 : decode cX9_readsPart 81 = .ok (.istore_n 3, 1) := by decide +kernel
theorem dX9_readsPart_82 : decode cX9_readsPart 82 = .ok (.aload_n 0, 1) := by decide +kernel
theorem dX9_readsPart_83 : decode cX9_readsPart 83 = .ok (.dup, 1) := by decide +kernel
theorem dX9_readsPart_84 : decode cX9_readsPart 84 = .ok (.getfield 190, 3) := by decide +kernel
theorem dX9_readsPart_87 : decode cX9_readsPart 87 = .ok (.iconst 1, 1) := by decide +kernel
theorem dX9_readsPart_88 : decode cX9_readsPart 88 = .ok (.iadd, 1) := by decide +kernel
theorem dX9_readsPart_89 : decode cX9_readsPart 89 = .ok (.putfield 190, 3) := by decide +kernel
theorem dX9_readsPart_92 : decode cX9_readsPart 92 = .ok (.aload_n 0, 1) := by decide +kernel
theorem dX9_readsPart_93 : decode cX9_readsPart 93 = .ok (.getfield 193, 3) := by decide +kernel
theorem dX9_readsPart_96 : decode cX9_readsPart 96 = .ok (.ifCond .eq 10, 3) := by decide +kernel
theorem dX9_readsPart_99 : decode cX9_readsPart 99 = .ok (.aload_n 0, 1) := by decide +kernel
theorem dX9_readsPart_100 : decode cX9_readsPart 100 = .ok (.getfield 29, 3) := by decide +kernel
theorem dX9_readsPart_103 : decode cX9_readsPart 103 = .ok (.iload_n 2, 1) := by decide +kernel
theorem dX9_readsPart_104 : decode cX9_readsPart 104 = .ok (.iload_n 3, 1) := by decide +kernel
theorem dX9_readsPart_105 : decode cX9_readsPart 105 = .ok (.iastore, 1) := by decide +kernel
theorem dX9_readsPart_106 : decode cX9_readsPart 106 = .ok (.iload_n 2, 1) := by decide +kernel
theorem dX9_readsPart_107 : decode cX9_readsPart 107 = .ok (.ireturn, 1) := by decide +kernel
set_option maxRecDepth 20000 in
theorem ggX9_readsOrder_X9_readsPart : GoodIn wsX9_readsOrder wsX9_readsPart := goodIn_r _ [9, 2, 1, 3, 10, 11, 12, 8, 13, 14, 15, 16, 17, 4, 18, 19, 20, 21, 22, 23, 24, 25, 26, 27, 28, 29, 30, 31, 32, 33, 34] rfl (by decide +kernel)
set_option maxRecDepth 20000 in
theorem gX9_readsOrder_X9_readsPart : GoodIn wsX9_readsOrder (wsV RX9 203 RX9 yX9_readsPart wsX9_readsPart) := goodIn_app (goodIn_r _ [5, 6, 7, 8] rfl (by decide +kernel)) ggX9_readsOrder_X9_readsPart
set_option maxRecDepth 20000 in
theorem ggX9_readsOrder_X9_sign : GoodIn wsX9_readsOrder wsX9_sign := goodIn_r _ [17, 1, 4, 18, 22, 23, 24, 25, 26, 27, 28, 29, 30, 31, 32, 33, 34] rfl (by decide +kernel)
set_option maxRecDepth 20000 in
theorem gX9_readsOrder_X9_sign : GoodIn wsX9_readsOrder (wsV RX9 197 RX9 yX9_sign wsX9_sign) := goodIn_app (goodIn_r _ [14, 15, 16, 8] rfl (by decide +kernel)) ggX9_readsOrder_X9_sign
theorem dX9_readsOrder_0 : decode cX9_readsOrder 0 = .ok (.aload_n 0, 1) := by decide +kernel
theorem dX9_readsOrder_1 : decode cX9_readsOrder 1 = .ok (.iconst 0, 1) := by decide +kernel
theorem dX9_readsOrder_2 : decode cX9_readsOrder 2 = .ok (.putfield 190, 3) := by decide +kernel
theorem dX9_readsOrder_5 : decode cX9_readsOrder 5 = .ok (.aload_n 0, 1) := by decide +kernel
theorem dX9_readsOrder_6 : decode cX9_readsOrder 6 = .ok (.iconst 1, 1) := by decide +kernel
theorem dX9_readsOrder_7 : decode cX9_readsOrder 7 = .ok (.putfield 193, 3) := by decide +kernel
theorem dX9_readsOrder_10 : decode cX9_readsOrder 10 = .ok (.iconst 0, 1) := by decide +kernel
theorem dX9_readsOrder_11 : decode cX9_readsOrder 11 = .ok (.istore_n 1, 1) := by decide +kernel
theorem dX9_readsOrder_12 : decode cX9_readsOrder 12 = .ok (.iload_n 1, 1) := by decide +kernel
theorem dX9_readsOrder_13 : decode cX9_readsOrder 13 = .ok (.bipush 10, 2) := by decide +kernel
theorem dX9_readsOrder_15 : decode cX9_readsOrder 15 = .ok (.if_icmp .ge 16, 3) := by decide +kernel
theorem dX9_readsOrder_18 : decode cX9_readsOrder 18 = .ok (.aload_n 0, 1) := by decide +kernel
theorem dX9_readsOrder_19 : decode cX9_readsOrder 19 = .ok (.getfield 29, 3) := by decide +kernel
theorem dX9_readsOrder_22 : decode cX9_readsOrder 22 = .ok (.iload_n 1, 1) := by decide +kernel
theorem dX9_readsOrder_23 : decode cX9_readsOrder 23 = .ok (.iconst 0, 1) := by decide +kernel
theorem dX9_readsOrder_24 : decode cX9_readsOrder 24 = .ok (.iastore, 1) := by decide +kernel
theorem dX9_readsOrder_25 : decode cX9_readsOrder 25 = .ok (.iinc 1 1, 3) := by decide +kernel
theorem dX9_readsOrder_28 : decode cX9_readsOrder 28 = .ok (.goto (-16), 3) := by decide +kernel
theorem dX9_readsOrder_31 : decode cX9_readsOrder 31 = .ok (.aload_n 0, 1) := by decide +kernel
theorem dX9_readsOrder_32 : decode cX9_readsOrder 32 = .ok (.iconst (-1), 1) := by decide +kernel
theorem dX9_readsOrder_33 : decode cX9_readsOrder 33 = .ok (.invokevirtual 203, 3) := by decide +kernel
theorem dX9_readsOrder_36 : decode cX9_readsOrder 36 = .ok (.istore_n 1, 1) := by decide +kernel
theorem dX9_readsOrder_37 : decode cX9_readsOrder 37 = .ok (.aload_n 0, 1) := by decide +kernel
theorem dX9_readsOrder_38 : decode cX9_readsOrder 38 = .ok (.getfield 193, 3) := by decide +kernel
theorem dX9_readsOrder_41 : decode cX9_readsOrder 41 = .ok (.ifCond .eq 75, 3) := by decide +kernel
theorem dX9_readsOrder_44 : decode cX9_readsOrder 44 = .ok (.aload_n 0, 1) := by decide +kernel
theorem dX9_readsOrder_45 : decode cX9_readsOrder 45 = .ok (.getfield 190, 3) := by decide +kernel
theorem dX9_readsOrder_48 : decode cX9_readsOrder 48 = .ok (.aload_n 0, 1) := by decide +kernel
theorem dX9_readsOrder_49 : decode cX9_readsOrder 49 = .ok (.getfield 172, 3) := by decide +kernel
theorem dX9_readsOrder_52 : decode cX9_readsOrder 52 = .ok (.if_icmp .ge 64, 3) := by decide +kernel
theorem dX9_readsOrder_55 : decode cX9_readsOrder 55 = .ok (.aload_n 0, 1) := by decide +kernel
theorem dX9_readsOrder_56 : decode cX9_readsOrder 56 = .ok (.aload_n 0, 1) := by decide +kernel
theorem dX9_readsOrder_57 : decode cX9_readsOrder 57 = .ok (.invokevirtual 197, 3) := by decide +kernel
theorem dX9_readsOrder_60 : decode cX9_readsOrder 60 = .ok (.bipush 44, 2) := by decide +kernel
theorem dX9_readsOrder_62 : decode cX9_readsOrder 62 = .ok (.if_icmp .ne 13, 3) := by decide +kernel
theorem dX9_readsOrder_65 : decode cX9_readsOrder 65 = .ok (.iload_n 1, 1) := by decide +kernel
theorem dX9_readsOrder_66 : decode cX9_readsOrder 66 = .ok (.bipush 9, 2) := by decide +kernel
theorem dX9_readsOrder_68 : decode cX9_readsOrder 68 = .ok (.if_icmp .ge 7, 3) := by decide +kernel
theorem dX9_readsOrder_71 : decode cX9_readsOrder 71 = .ok (.iconst 1, 1) := by decide +kernel
theorem dX9_readsOrder_72 : decode cX9_readsOrder 72 = .ok (.goto 4, 3) := by decide +kernel
theorem dX9_readsOrder_75 : decode cX9_readsOrder 75 = .ok (.iconst 0, 1) := by decide +kernel
theorem dX9_readsOrder_76 : decode cX9_readsOrder 76 = .ok (.putfield 193, 3) := by decide +kernel
theorem dX9_readsOrder_79 : decode cX9_readsOrder 79 = .ok (.aload_n 0, 1) := by decide +kernel
theorem dX9_readsOrder_80 : decode cX9_readsOrder 80 = .ok (.dup, 1) := by decide +kernel
theorem dX9_readsOrder_81 : decode cX9_readsOrder 81 = .ok (.getfield 190, 3) := by decide +kernel
theorem dX9_readsOrder_84 : decode cX9_readsOrder 84 = .ok (.aload_n 0, 1) := by decide +kernel
theorem dX9_readsOrder_85 : decode cX9_readsOrder 85 = .ok (.getfield 193, 3) := by decide +kernel
theorem dX9_readsOrder_88 : decode cX9_readsOrder 88 = .ok (.ifCond .eq 7, 3) := by decide +kernel
theorem dX9_readsOrder_91 : decode cX9_readsOrder 91 = .ok (.iconst 1, 1) := by decide +kernel
theorem dX9_readsOrder_92 : decode cX9_readsOrder 92 = .ok (.goto 4, 3) := by decide +kernel
theorem dX9_readsOrder_95 : decode cX9_readsOrder 95 = .ok (.iconst 0, 1) := by decide +kernel
theorem dX9_readsOrder_96 : decode cX9_readsOrder 96 = .ok (.iadd, 1) := by decide +kernel
theorem dX9_readsOrder_97 : decode cX9_readsOrder 97 = .ok (.putfield 190, 3) := by decide +kernel
theorem dX9_readsOrder_100 : decode cX9_readsOrder 100 = .ok (.aload_n 0, 1) := by decide +kernel
theorem dX9_readsOrder_101 : decode cX9_readsOrder 101 = .ok (.getfield 193, 3) := by decide +kernel
theorem dX9_readsOrder_104 : decode cX9_readsOrder 104 = .ok (.ifCond .eq (-67), 3) := by decide +kernel
theorem dX9_readsOrder_107 : decode cX9_readsOrder 107 = .ok (.aload_n 0, 1) := by decide +kernel
theorem dX9_readsOrder_108 : decode cX9_readsOrder 108 = .ok (.iload_n 1, 1) := by decide +kernel
theorem dX9_readsOrder_109 : decode cX9_readsOrder 109 = .ok (.invokevirtual 203, 3) := by decide +kernel
theorem dX9_readsOrder_112 : decode cX9_readsOrder 112 = .ok (.istore_n 1, 1) := by decide +kernel
theorem dX9_readsOrder_113 : decode cX9_readsOrder 113 = .ok (.goto (-76), 3) := by decide +kernel
theorem dX9_readsOrder_116 : decode cX9_readsOrder 116 = .ok (.aload_n 0, 1) := by decide +kernel
theorem dX9_readsOrder_117 : decode cX9_readsOrder 117 = .ok (.getfield 193, 3) := by decide +kernel
theorem dX9_readsOrder_120 : decode cX9_readsOrder 120 = .ok (.ireturn, 1) := by decide +kernel
set_option maxRecDepth 20000 in
theorem ggX9_firstError_X9_readsOrder : GoodIn wsX9_firstError wsX9_readsOrder := goodIn_r _ [8, 3, 9, 10, 2, 11, 12, 13, 7, 14, 15, 16, 17, 18, 19, 20, 21, 22, 23, 24, 25, 26, 27, 28, 29, 30, 31, 32, 33, 34, 35, 36, 37, 38, 39] rfl (by decide +kernel)
set_option maxRecDepth 20000 in
theorem gX9_firstError_X9_readsOrder : GoodIn wsX9_firstError (wsV RX9 169 RX9 yX9_readsOrder wsX9_readsOrder) := goodIn_app (goodIn_r _ [4, 5, 6, 7] rfl (by decide +kernel)) ggX9_firstError_X9_readsOrder
theorem dX9_firstError_0 : decode cX9_firstError 0 = .ok (.aload_n 0, 1) := by decide +kernel
theorem dX9_firstError_1 : decode cX9_firstError 1 = .ok (.iconst 0, 1) := by decide +kernel
theorem dX9_firstError_2 : decode cX9_firstError 2 = .ok (.putfield 35, 3) := by decide +kernel
theorem dX9_firstError_5 : decode cX9_firstError 5 = .ok (.aload_n 0, 1) := by decide +kernel
theorem dX9_firstError_6 : decode cX9_firstError 6 = .ok (.invokevirtual 169, 3) := by decide +kernel
theorem dX9_firstError_9 : decode cX9_firstError 9 = .ok (.ifCond .eq 10, 3) := by decide +kernel
theorem dX9_firstError_12 : decode cX9_firstError 12 = .ok (.aload_n 0, 1) := by decide +kernel
theorem dX9_firstError_13 : decode cX9_firstError 13 = .ok (.getfield 172, 3) := by decide +kernel
theorem dX9_firstError_16 : decode cX9_firstError 16 = .ok (.goto 7, 3) := by decide +kernel
theorem dX9_firstError_19 : decode cX9_firstError 19 = .ok (.aload_n 0, 1) := by decide +kernel
theorem dX9_firstError_20 : decode cX9_firstError 20 = .ok (.getfield 190, 3) := by decide +kernel
theorem dX9_firstError_23 : decode cX9_firstError 23 = .ok (.ireturn, 1) := by decide +kernel
set_option maxRecDepth 20000 in
theorem ggX9_keep_X9_in : GoodIn wsX9_keep wsX9_in := goodIn_r _ [8] rfl (by decide +kernel)
set_option maxRecDepth 20000 in
theorem gX9_keep_X9_in : GoodIn wsX9_keep (va_wsS RX9 39 yX9_in wsX9_in) := goodIn_app (goodIn_r _ [5, 6, 7] rfl (by decide +kernel)) ggX9_keep_X9_in
theorem dX9_keep_0 : decode cX9_keep 0 = .ok (.aload_n 0, 1) := by decide +kernel
theorem dX9_keep_1 : decode cX9_keep 1 = .ok (.iconst 0, 1) := by decide +kernel
theorem dX9_keep_2 : decode cX9_keep 2 = .ok (.putfield 35, 3) := by decide +kernel
theorem dX9_keep_5 : decode cX9_keep 5 = .ok (.iload_n 1, 1) := by decide +kernel
theorem dX9_keep_6 : decode cX9_keep 6 = .ok (.iconst 0, 1) := by decide +kernel
theorem dX9_keep_7 : decode cX9_keep 7 = .ok (.iconst 1, 1) := by decide +kernel
theorem dX9_keep_8 : decode cX9_keep 8 = .ok (.invokestatic 39, 3) := by decide +kernel
theorem dX9_keep_11 : decode cX9_keep 11 = .ok (.ifCond .ne 9, 3) := by decide +kernel
theorem dX9_keep_14 : decode cX9_keep 14 = .ok (.aload_n 0, 1) := by decide +kernel
theorem dX9_keep_15 : decode cX9_keep 15 = .ok (.iconst 1, 1) := by decide +kernel
theorem dX9_keep_16 : decode cX9_keep 16 = .ok (.putfield 35, 3) := by decide +kernel
theorem dX9_keep_19 : decode cX9_keep 19 = .ok (.return_, 1) := by decide +kernel
theorem dX9_keep_20 : decode cX9_keep 20 = .ok (.iconst 0, 1) := by decide +kernel
theorem dX9_keep_21 : decode cX9_keep 21 = .ok (.istore_n 2, 1) := by decide +kernel
theorem dX9_keep_22 : decode cX9_keep 22 = .ok (.iload_n 2, 1) := by decide +kernel
theorem dX9_keep_23 : decode cX9_keep 23 = .ok (.sipush 304, 3) := by decide +kernel
theorem dX9_keep_26 : decode cX9_keep 26 = .ok (.if_icmp .ge 27, 3) := by decide +kernel
theorem dX9_keep_29 : decode cX9_keep 29 = .ok (.aload_n 0, 1) := by decide +kernel
theorem dX9_keep_30 : decode cX9_keep 30 = .ok (.getfield 19, 3) := by decide +kernel
theorem dX9_keep_33 : decode cX9_keep 33 = .ok (.sipush 304, 3) := by decide +kernel
theorem dX9_keep_36 : decode cX9_keep 36 = .ok (.iload_n 1, 1) := by decide +kernel
theorem dX9_keep_37 : decode cX9_keep 37 = .ok (.imul, 1) := by decide +kernel
theorem dX9_keep_38 : decode cX9_keep 38 = .ok (.iload_n 2, 1) := by decide +kernel
theorem dX9_keep_39 : decode cX9_keep 39 = .ok (.iadd, 1) := by decide +kernel
theorem dX9_keep_40 : decode cX9_keep 40 = .ok (.aload_n 0, 1) := by decide +kernel
theorem dX9_keep_41 : decode cX9_keep 41 = .ok (.getfield 7, 3) := by decide +kernel
theorem dX9_keep_44 : decode cX9_keep 44 = .ok (.iload_n 2, 1) := by decide +kernel
theorem dX9_keep_45 : decode cX9_keep 45 = .ok (.iaload, 1) := by decide +kernel
theorem dX9_keep_46 : decode cX9_keep 46 = .ok (.iastore, 1) := by decide +kernel
theorem dX9_keep_47 : decode cX9_keep 47 = .ok (.iinc 2 1, 3) := by decide +kernel
theorem dX9_keep_50 : decode cX9_keep 50 = .ok (.goto (-28), 3) := by decide +kernel
theorem dX9_keep_53 : decode cX9_keep 53 = .ok (.aload_n 0, 1) := by decide +kernel
theorem dX9_keep_54 : decode cX9_keep 54 = .ok (.getfield 22, 3) := by decide +kernel
theorem dX9_keep_57 : decode cX9_keep 57 = .ok (.iload_n 1, 1) := by decide +kernel
theorem dX9_keep_58 : decode cX9_keep 58 = .ok (.iconst 1, 1) := by decide +kernel
theorem dX9_keep_59 : decode cX9_keep 59 = .ok (.bastore, 1) := by decide +kernel
theorem dX9_keep_60 : decode cX9_keep 60 = .ok (.return_, 1) := by decide +kernel
set_option maxRecDepth 20000 in
theorem ggX9_goBack_X9_in : GoodIn wsX9_goBack wsX9_in := goodIn_r _ [8] rfl (by decide +kernel)
set_option maxRecDepth 20000 in
theorem gX9_goBack_X9_in : GoodIn wsX9_goBack (va_wsS RX9 39 yX9_in wsX9_in) := goodIn_app (goodIn_r _ [5, 6, 7] rfl (by decide +kernel)) ggX9_goBack_X9_in
set_option maxRecDepth 20000 in
theorem ggX9_goBack_X9_records : GoodIn wsX9_goBack wsX9_records := goodIn_r _ [12, 13, 14, 3, 15, 16, 17, 18, 19, 20, 21, 22, 23, 24, 25, 26, 27] rfl (by decide +kernel)
set_option maxRecDepth 20000 in
theorem gX9_goBack_X9_records : GoodIn wsX9_goBack (wsV RX9 139 RX9 yX9_records wsX9_records) := goodIn_app (goodIn_r _ [9, 10, 11, 7] rfl (by decide +kernel)) ggX9_goBack_X9_records
theorem dX9_goBack_0 : decode cX9_goBack 0 = .ok (.aload_n 0, 1) := by decide +kernel
theorem dX9_goBack_1 : decode cX9_goBack 1 = .ok (.iconst 0, 1) := by decide +kernel
theorem dX9_goBack_2 : decode cX9_goBack 2 = .ok (.putfield 35, 3) := by decide +kernel
theorem dX9_goBack_5 : decode cX9_goBack 5 = .ok (.iload_n 1, 1) := by decide +kernel
theorem dX9_goBack_6 : decode cX9_goBack 6 = .ok (.iconst 0, 1) := by decide +kernel
theorem dX9_goBack_7 : decode cX9_goBack 7 = .ok (.iconst 1, 1) := by decide +kernel
theorem dX9_goBack_8 : decode cX9_goBack 8 = .ok (.invokestatic 39, 3) := by decide +kernel
theorem dX9_goBack_11 : decode cX9_goBack 11 = .ok (.ifCond .ne 9, 3) := by decide +kernel
theorem dX9_goBack_14 : decode cX9_goBack 14 = .ok (.aload_n 0, 1) := by decide +kernel
theorem dX9_goBack_15 : decode cX9_goBack 15 = .ok (.iconst 1, 1) := by decide +kernel
theorem dX9_goBack_16 : decode cX9_goBack 16 = .ok (.putfield 35, 3) := by decide +kernel
theorem dX9_goBack_19 : decode cX9_goBack 19 = .ok (.return_, 1) := by decide +kernel
theorem dX9_goBack_20 : decode cX9_goBack 20 = .ok (.aload_n 0, 1) := by decide +kernel
theorem dX9_goBack_21 : decode cX9_goBack 21 = .ok (.getfield 22, 3) := by decide +kernel
theorem dX9_goBack_24 : decode cX9_goBack 24 = .ok (.iload_n 1, 1) := by decide +kernel
theorem dX9_goBack_25 : decode cX9_goBack 25 = .ok (.baload, 1) := by decide +kernel
theorem dX9_goBack_26 : decode cX9_goBack 26 = .ok (.ifCond .ne 9, 3) := by decide +kernel
theorem dX9_goBack_29 : decode cX9_goBack 29 = .ok (.aload_n 0, 1) := by decide +kernel
theorem dX9_goBack_30 : decode cX9_goBack 30 = .ok (.iconst 2, 1) := by decide +kernel
theorem dX9_goBack_31 : decode cX9_goBack 31 = .ok (.putfield 35, 3) := by decide +kernel
theorem dX9_goBack_34 : decode cX9_goBack 34 = .ok (.return_, 1) := by decide +kernel
theorem dX9_goBack_35 : decode cX9_goBack 35 = .ok (.aload_n 0, 1) := by decide +kernel
theorem dX9_goBack_36 : decode cX9_goBack 36 = .ok (.invokevirtual 139, 3) := by decide +kernel
theorem dX9_goBack_39 : decode cX9_goBack 39 = .ok (.iconst 0, 1) := by decide +kernel
theorem dX9_goBack_40 : decode cX9_goBack 40 = .ok (.istore_n 2, 1) := by decide +kernel
theorem dX9_goBack_41 : decode cX9_goBack 41 = .ok (.iload_n 2, 1) := by decide +kernel
theorem dX9_goBack_42 : decode cX9_goBack 42 = .ok (.sipush 304, 3) := by decide +kernel
theorem dX9_goBack_45 : decode cX9_goBack 45 = .ok (.if_icmp .ge 27, 3) := by decide +kernel
theorem dX9_goBack_48 : decode cX9_goBack 48 = .ok (.aload_n 0, 1) := by decide +kernel
theorem dX9_goBack_49 : decode cX9_goBack 49 = .ok (.getfield 7, 3) := by decide +kernel
theorem dX9_goBack_52 : decode cX9_goBack 52 = .ok (.iload_n 2, 1) := by decide +kernel
theorem dX9_goBack_53 : decode cX9_goBack 53 = .ok (.aload_n 0, 1) := by decide +kernel
theorem dX9_goBack_54 : decode cX9_goBack 54 = .ok (.getfield 19, 3) := by decide +kernel
theorem dX9_goBack_57 : decode cX9_goBack 57 = .ok (.sipush 304, 3) := by decide +kernel
theorem dX9_goBack_60 : decode cX9_goBack 60 = .ok (.iload_n 1, 1) := by decide +kernel
theorem dX9_goBack_61 : decode cX9_goBack 61 = .ok (.imul, 1) := by decide +kernel
theorem dX9_goBack_62 : decode cX9_goBack 62 = .ok (.iload_n 2, 1) := by decide +kernel
theorem dX9_goBack_63 : decode cX9_goBack 63 = .ok (.iadd, 1) := by decide +kernel
theorem dX9_goBack_64 : decode cX9_goBack 64 = .ok (.iaload, 1) := by decide +kernel
theorem dX9_goBack_65 : decode cX9_goBack 65 = .ok (.iastore, 1) := by decide +kernel
theorem dX9_goBack_66 : decode cX9_goBack 66 = .ok (.iinc 2 1, 3) := by decide +kernel
theorem dX9_goBack_69 : decode cX9_goBack 69 = .ok (.goto (-28), 3) := by decide +kernel
theorem dX9_goBack_72 : decode cX9_goBack 72 = .ok (.return_, 1) := by decide +kernel
theorem dX9_undo_0 : decode cX9_undo 0 = .ok (.aload_n 0, 1) := by decide +kernel
theorem dX9_undo_1 : decode cX9_undo 1 = .ok (.iconst 0, 1) := by decide +kernel
theorem dX9_undo_2 : decode cX9_undo 2 = .ok (.putfield 35, 3) := by decide +kernel
theorem dX9_undo_5 : decode cX9_undo 5 = .ok (.aload_n 0, 1) := by decide +kernel
theorem dX9_undo_6 : decode cX9_undo 6 = .ok (.getfield 43, 3) := by decide +kernel
theorem dX9_undo_9 : decode cX9_undo 9 = .ok (.ifCond .ne 9, 3) := by decide +kernel
theorem dX9_undo_12 : decode cX9_undo 12 = .ok (.aload_n 0, 1) := by decide +kernel
theorem dX9_undo_13 : decode cX9_undo 13 = .ok (.iconst 1, 1) := by decide +kernel
theorem dX9_undo_14 : decode cX9_undo 14 = .ok (.putfield 35, 3) := by decide +kernel
theorem dX9_undo_17 : decode cX9_undo 17 = .ok (.return_, 1) := by decide +kernel
theorem dX9_undo_18 : decode cX9_undo 18 = .ok (.aload_n 0, 1) := by decide +kernel
theorem dX9_undo_19 : decode cX9_undo 19 = .ok (.dup, 1) := by decide +kernel
theorem dX9_undo_20 : decode cX9_undo 20 = .ok (.getfield 43, 3) := by decide +kernel
theorem dX9_undo_23 : decode cX9_undo 23 = .ok (.iconst 1, 1) := by decide +kernel
theorem dX9_undo_24 : decode cX9_undo 24 = .ok (.isub, 1) := by decide +kernel
theorem dX9_undo_25 : decode cX9_undo 25 = .ok (.putfield 43, 3) := by decide +kernel
theorem dX9_undo_28 : decode cX9_undo 28 = .ok (.iconst 0, 1) := by decide +kernel
theorem dX9_undo_29 : decode cX9_undo 29 = .ok (.istore_n 1, 1) := by decide +kernel
theorem dX9_undo_30 : decode cX9_undo 30 = .ok (.iload_n 1, 1) := by decide +kernel
theorem dX9_undo_31 : decode cX9_undo 31 = .ok (.sipush 304, 3) := by decide +kernel
theorem dX9_undo_34 : decode cX9_undo 34 = .ok (.if_icmp .ge 30, 3) := by decide +kernel
theorem dX9_undo_37 : decode cX9_undo 37 = .ok (.aload_n 0, 1) := by decide +kernel
theorem dX9_undo_38 : decode cX9_undo 38 = .ok (.getfield 7, 3) := by decide +kernel
theorem dX9_undo_41 : decode cX9_undo 41 = .ok (.iload_n 1, 1) := by decide +kernel
theorem dX9_undo_42 : decode cX9_undo 42 = .ok (.aload_n 0, 1) := by decide +kernel
theorem dX9_undo_43 : decode cX9_undo 43 = .ok (.getfield 16, 3) := by decide +kernel
theorem dX9_undo_46 : decode cX9_undo 46 = .ok (.sipush 304, 3) := by decide +kernel
theorem dX9_undo_49 : decode cX9_undo 49 = .ok (.aload_n 0, 1) := by decide +kernel
theorem dX9_undo_50 : decode cX9_undo 50 = .ok (.getfield 43, 3) := by decide +kernel
theorem dX9_undo_53 : decode cX9_undo 53 = .ok (.imul, 1) := by decide +kernel
theorem dX9_undo_54 : decode cX9_undo 54 = .ok (.iload_n 1, 1) := by decide +kernel
theorem dX9_undo_55 : decode cX9_undo 55 = .ok (.iadd, 1) := by decide +kernel
theorem dX9_undo_56 : decode cX9_undo 56 = .ok (.iaload, 1) := by decide +kernel
theorem dX9_undo_57 : decode cX9_undo 57 = .ok (.iastore, 1) := by decide +kernel
theorem dX9_undo_58 : decode cX9_undo 58 = .ok (.iinc 1 1, 3) := by decide +kernel
theorem dX9_undo_61 : decode cX9_undo 61 = .ok (.goto (-31), 3) := by decide +kernel
theorem dX9_undo_64 : decode cX9_undo 64 = .ok (.return_, 1) := by decide +kernel
theorem dX9_savedStates_0 : decode cX9_savedStates 0 = .ok (.aload_n 0, 1) := by decide +kernel
theorem dX9_savedStates_1 : decode cX9_savedStates 1 = .ok (.iconst 0, 1) := by decide +kernel
theorem dX9_savedStates_2 : decode cX9_savedStates 2 = .ok (.putfield 35, 3) := by decide +kernel
theorem dX9_savedStates_5 : decode cX9_savedStates 5 = .ok (.aload_n 0, 1) := by decide +kernel
theorem dX9_savedStates_6 : decode cX9_savedStates 6 = .ok (.getfield 43, 3) := by decide +kernel
theorem dX9_savedStates_9 : decode cX9_savedStates 9 = .ok (.ireturn, 1) := by decide +kernel
theorem dX9_shelves_0 : decode cX9_shelves 0 = .ok (.aload_n 0, 1) := by decide +kernel
theorem dX9_shelves_1 : decode cX9_shelves 1 = .ok (.iconst 0, 1) := by decide +kernel
theorem dX9_shelves_2 : decode cX9_shelves 2 = .ok (.putfield 35, 3) := by decide +kernel
theorem dX9_shelves_5 : decode cX9_shelves 5 = .ok (.aload_n 0, 1) := by decide +kernel
theorem dX9_shelves_6 : decode cX9_shelves 6 = .ok (.getfield 7, 3) := by decide +kernel
theorem dX9_shelves_9 : decode cX9_shelves 9 = .ok (.iconst 0, 1) := by decide +kernel
theorem dX9_shelves_10 : decode cX9_shelves 10 = .ok (.iaload, 1) := by decide +kernel
theorem dX9_shelves_11 : decode cX9_shelves 11 = .ok (.ireturn, 1) := by decide +kernel
set_option maxRecDepth 20000 in
theorem ggX9_tells_X9_isShelf : GoodIn wsX9_tells wsX9_isShelf := goodIn_r _ [6, 7, 8, 9, 5, 10, 19, 20, 21, 22, 23, 24, 25, 26, 27, 28, 29, 30, 31] rfl (by decide +kernel)
set_option maxRecDepth 20000 in
theorem gX9_tells_X9_isShelf : GoodIn wsX9_tells (wsV RX9 142 RX9 yX9_isShelf wsX9_isShelf) := goodIn_app (goodIn_r _ [2, 3, 4, 5] rfl (by decide +kernel)) ggX9_tells_X9_isShelf
set_option maxRecDepth 20000 in
theorem ggX9_tells_X9_of : GoodIn wsX9_tells wsX9_of := goodIn_r _ [14, 7, 19, 20, 21, 22, 23, 24, 25, 26, 27, 28, 29, 30, 31] rfl (by decide +kernel)
set_option maxRecDepth 20000 in
theorem gX9_tells_X9_of : GoodIn wsX9_tells (wsV RX9 46 RX9 yX9_of wsX9_of) := goodIn_app (goodIn_r _ [11, 12, 13, 5] rfl (by decide +kernel)) ggX9_tells_X9_of
set_option maxRecDepth 20000 in
theorem ggX9_tells_X9_fails : GoodIn wsX9_tells wsX9_fails := goodIn_r _ [18, 1, 19, 20, 21, 22, 23, 24, 25, 26, 27, 28, 29, 30, 31] rfl (by decide +kernel)
set_option maxRecDepth 20000 in
theorem gX9_tells_X9_fails : GoodIn wsX9_tells (wsV RX9 136 RX9 yX9_fails wsX9_fails) := goodIn_app (goodIn_r _ [15, 16, 17, 5] rfl (by decide +kernel)) ggX9_tells_X9_fails
theorem dX9_tells_0 : decode cX9_tells 0 = .ok (.aload_n 0, 1) := by decide +kernel
theorem dX9_tells_1 : decode cX9_tells 1 = .ok (.iconst 0, 1) := by decide +kernel
theorem dX9_tells_2 : decode cX9_tells 2 = .ok (.putfield 35, 3) := by decide +kernel
theorem dX9_tells_5 : decode cX9_tells 5 = .ok (.aload_n 0, 1) := by decide +kernel
theorem dX9_tells_6 : decode cX9_tells 6 = .ok (.iload_n 1, 1) := by decide +kernel
theorem dX9_tells_7 : decode cX9_tells 7 = .ok (.invokevirtual 142, 3) := by decide +kernel
theorem dX9_tells_10 : decode cX9_tells 10 = .ok (.ifCond .eq 12, 3) := by decide +kernel
theorem dX9_tells_13 : decode cX9_tells 13 = .ok (.aload_n 0, 1) := by decide +kernel
theorem dX9_tells_14 : decode cX9_tells 14 = .ok (.iload_n 1, 1) := by decide +kernel
theorem dX9_tells_15 : decode cX9_tells 15 = .ok (.iload_n 2, 1) := by decide +kernel
theorem dX9_tells_16 : decode cX9_tells 16 = .ok (.invokevirtual 46, 3) := by decide +kernel
theorem dX9_tells_19 : decode cX9_tells 19 = .ok (.goto 8, 3) := by decide +kernel
theorem dX9_tells_22 : decode cX9_tells 22 = .ok (.aload_n 0, 1) := by decide +kernel
theorem dX9_tells_23 : decode cX9_tells 23 = .ok (.iconst 1, 1) := by decide +kernel
theorem dX9_tells_24 : decode cX9_tells 24 = .ok (.invokevirtual 136, 3) := by decide +kernel
theorem dX9_tells_27 : decode cX9_tells 27 = .ok (.ireturn, 1) := by decide +kernel
set_option maxRecDepth 20000 in
theorem ggX9_heightOf_X9_tells : GoodIn wsX9_heightOf wsX9_tells := goodIn_r _ [5, 6, 7, 8, 9, 4, 10, 11, 12, 13, 14, 15, 16, 17, 18, 19, 20, 21, 22, 23, 24, 25, 26, 27, 28, 29, 30, 31, 32, 33, 34, 35] rfl (by decide +kernel)
set_option maxRecDepth 20000 in
theorem gX9_heightOf_X9_tells : GoodIn wsX9_heightOf (wsV RX9 206 RX9 yX9_tells wsX9_tells) := goodIn_app (goodIn_r _ [1, 2, 3, 4] rfl (by decide +kernel)) ggX9_heightOf_X9_tells
theorem dX9_heightOf_0 : decode cX9_heightOf 0 = .ok (.aload_n 0, 1) := by decide +kernel
theorem dX9_heightOf_1 : decode cX9_heightOf 1 = .ok (.iload_n 1, 1) := by decide +kernel
theorem dX9_heightOf_2 : decode cX9_heightOf 2 = .ok (.iconst 0, 1) := by decide +kernel
theorem dX9_heightOf_3 : decode cX9_heightOf 3 = .ok (.invokevirtual 206, 3) := by decide +kernel
theorem dX9_heightOf_6 : decode cX9_heightOf 6 = .ok (.ireturn, 1) := by decide +kernel
set_option maxRecDepth 20000 in
theorem ggX9_sideOf_X9_tells : GoodIn wsX9_sideOf wsX9_tells := goodIn_r _ [5, 6, 7, 8, 9, 4, 10, 11, 12, 13, 14, 15, 16, 17, 18, 19, 20, 21, 22, 23, 24, 25, 26, 27, 28, 29, 30, 31, 32, 33, 34, 35] rfl (by decide +kernel)
set_option maxRecDepth 20000 in
theorem gX9_sideOf_X9_tells : GoodIn wsX9_sideOf (wsV RX9 206 RX9 yX9_tells wsX9_tells) := goodIn_app (goodIn_r _ [1, 2, 3, 4] rfl (by decide +kernel)) ggX9_sideOf_X9_tells
theorem dX9_sideOf_0 : decode cX9_sideOf 0 = .ok (.aload_n 0, 1) := by decide +kernel
theorem dX9_sideOf_1 : decode cX9_sideOf 1 = .ok (.iload_n 1, 1) := by decide +kernel
theorem dX9_sideOf_2 : decode cX9_sideOf 2 = .ok (.iconst 1, 1) := by decide +kernel
theorem dX9_sideOf_3 : decode cX9_sideOf 3 = .ok (.invokevirtual 206, 3) := by decide +kernel
theorem dX9_sideOf_6 : decode cX9_sideOf 6 = .ok (.ireturn, 1) := by decide +kernel
set_option maxRecDepth 20000 in
theorem ggX9_slotOf_X9_tells : GoodIn wsX9_slotOf wsX9_tells := goodIn_r _ [5, 6, 7, 8, 9, 4, 10, 11, 12, 13, 14, 15, 16, 17, 18, 19, 20, 21, 22, 23, 24, 25, 26, 27, 28, 29, 30, 31, 32, 33, 34, 35] rfl (by decide +kernel)
set_option maxRecDepth 20000 in
theorem gX9_slotOf_X9_tells : GoodIn wsX9_slotOf (wsV RX9 206 RX9 yX9_tells wsX9_tells) := goodIn_app (goodIn_r _ [1, 2, 3, 4] rfl (by decide +kernel)) ggX9_slotOf_X9_tells
theorem dX9_slotOf_0 : decode cX9_slotOf 0 = .ok (.aload_n 0, 1) := by decide +kernel
theorem dX9_slotOf_1 : decode cX9_slotOf 1 = .ok (.iload_n 1, 1) := by decide +kernel
theorem dX9_slotOf_2 : decode cX9_slotOf 2 = .ok (.iconst 2, 1) := by decide +kernel
theorem dX9_slotOf_3 : decode cX9_slotOf 3 = .ok (.invokevirtual 206, 3) := by decide +kernel
theorem dX9_slotOf_6 : decode cX9_slotOf 6 = .ok (.ireturn, 1) := by decide +kernel
set_option maxRecDepth 20000 in
theorem ggX9_isAtWindow_X9_isShelf : GoodIn wsX9_isAtWindow wsX9_isShelf := goodIn_r _ [7, 2, 8, 9, 6, 10, 15, 16, 17, 18, 19, 20, 21, 22, 23, 24, 25, 26, 27] rfl (by decide +kernel)
set_option maxRecDepth 20000 in
theorem gX9_isAtWindow_X9_isShelf : GoodIn wsX9_isAtWindow (wsV RX9 142 RX9 yX9_isShelf wsX9_isShelf) := goodIn_app (goodIn_r _ [3, 4, 5, 6] rfl (by decide +kernel)) ggX9_isAtWindow_X9_isShelf
set_option maxRecDepth 20000 in
theorem ggX9_isAtWindow_X9_fails : GoodIn wsX9_isAtWindow wsX9_fails := goodIn_r _ [14, 1, 15, 16, 17, 18, 19, 20, 21, 22, 23, 24, 25, 26, 27] rfl (by decide +kernel)
set_option maxRecDepth 20000 in
theorem gX9_isAtWindow_X9_fails : GoodIn wsX9_isAtWindow (wsV RX9 136 RX9 yX9_fails wsX9_fails) := goodIn_app (goodIn_r _ [11, 12, 13, 6] rfl (by decide +kernel)) ggX9_isAtWindow_X9_fails
theorem dX9_isAtWindow_0 : decode cX9_isAtWindow 0 = .ok (.aload_n 0, 1) := by decide +kernel
theorem dX9_isAtWindow_1 : decode cX9_isAtWindow 1 = .ok (.iconst 0, 1) := by decide +kernel
theorem dX9_isAtWindow_2 : decode cX9_isAtWindow 2 = .ok (.putfield 35, 3) := by decide +kernel
theorem dX9_isAtWindow_5 : decode cX9_isAtWindow 5 = .ok (.aload_n 0, 1) := by decide +kernel
theorem dX9_isAtWindow_6 : decode cX9_isAtWindow 6 = .ok (.iload_n 1, 1) := by decide +kernel
theorem dX9_isAtWindow_7 : decode cX9_isAtWindow 7 = .ok (.invokevirtual 142, 3) := by decide +kernel
theorem dX9_isAtWindow_10 : decode cX9_isAtWindow 10 = .ok (.ifCond .eq 21, 3) := by decide +kernel
theorem dX9_isAtWindow_13 : decode cX9_isAtWindow 13 = .ok (.aload_n 0, 1) := by decide +kernel
theorem dX9_isAtWindow_14 : decode cX9_isAtWindow 14 = .ok (.getfield 7, 3) := by decide +kernel
theorem dX9_isAtWindow_17 : decode cX9_isAtWindow 17 = .ok (.iconst 1, 1) := by decide +kernel
theorem dX9_isAtWindow_18 : decode cX9_isAtWindow 18 = .ok (.iaload, 1) := by decide +kernel
theorem dX9_isAtWindow_19 : decode cX9_isAtWindow 19 = .ok (.iload_n 1, 1) := by decide +kernel
theorem dX9_isAtWindow_20 : decode cX9_isAtWindow 20 = .ok (.if_icmp .ne 7, 3) := by decide +kernel
theorem dX9_isAtWindow_23 : decode cX9_isAtWindow 23 = .ok (.iconst 1, 1) := by decide +kernel
theorem dX9_isAtWindow_24 : decode cX9_isAtWindow 24 = .ok (.goto 20, 3) := by decide +kernel
theorem dX9_isAtWindow_27 : decode cX9_isAtWindow 27 = .ok (.iconst 0, 1) := by decide +kernel
theorem dX9_isAtWindow_28 : decode cX9_isAtWindow 28 = .ok (.goto 16, 3) := by decide +kernel
theorem dX9_isAtWindow_31 : decode cX9_isAtWindow 31 = .ok (.aload_n 0, 1) := by decide +kernel
theorem dX9_isAtWindow_32 : decode cX9_isAtWindow 32 = .ok (.iconst 1, 1) := by decide +kernel
theorem dX9_isAtWindow_33 : decode cX9_isAtWindow 33 = .ok (.invokevirtual 136, 3) := by decide +kernel
theorem dX9_isAtWindow_36 : decode cX9_isAtWindow 36 = .ok (.ifCond .le 7, 3) := by decide +kernel
theorem dX9_isAtWindow_39 : decode cX9_isAtWindow 39 = .ok (.iconst 1, 1) := by decide +kernel
theorem dX9_isAtWindow_40 : decode cX9_isAtWindow 40 = .ok (.goto 4, 3) := by decide +kernel
theorem dX9_isAtWindow_43 : decode cX9_isAtWindow 43 = .ok (.iconst 0, 1) := by decide +kernel
theorem dX9_isAtWindow_44 : decode cX9_isAtWindow 44 = .ok (.ireturn, 1) := by decide +kernel
set_option maxRecDepth 20000 in
theorem ggX9_thingsIn_X9_isShelf : GoodIn wsX9_thingsIn wsX9_isShelf := goodIn_r _ [6, 7, 8, 9, 5, 10, 22, 23, 24, 25, 26, 27, 28, 29, 30, 31, 32, 33, 34] rfl (by decide +kernel)
set_option maxRecDepth 20000 in
theorem gX9_thingsIn_X9_isShelf : GoodIn wsX9_thingsIn (wsV RX9 142 RX9 yX9_isShelf wsX9_isShelf) := goodIn_app (goodIn_r _ [2, 3, 4, 5] rfl (by decide +kernel)) ggX9_thingsIn_X9_isShelf
set_option maxRecDepth 20000 in
theorem ggX9_thingsIn_X9_isKind : GoodIn wsX9_thingsIn wsX9_isKind := goodIn_r _ [13, 8, 9, 5, 10] rfl (by decide +kernel)
set_option maxRecDepth 20000 in
theorem gX9_thingsIn_X9_isKind : GoodIn wsX9_thingsIn (va_wsS RX9 157 yX9_isKind wsX9_isKind) := goodIn_app (goodIn_r _ [11, 12, 5] rfl (by decide +kernel)) ggX9_thingsIn_X9_isKind
set_option maxRecDepth 20000 in
theorem ggX9_thingsIn_X9_of : GoodIn wsX9_thingsIn wsX9_of := goodIn_r _ [17, 7, 22, 23, 24, 25, 26, 27, 28, 29, 30, 31, 32, 33, 34] rfl (by decide +kernel)
set_option maxRecDepth 20000 in
theorem gX9_thingsIn_X9_of : GoodIn wsX9_thingsIn (wsV RX9 46 RX9 yX9_of wsX9_of) := goodIn_app (goodIn_r _ [14, 15, 16, 5] rfl (by decide +kernel)) ggX9_thingsIn_X9_of
set_option maxRecDepth 20000 in
theorem ggX9_thingsIn_X9_fails : GoodIn wsX9_thingsIn wsX9_fails := goodIn_r _ [21, 1, 22, 23, 24, 25, 26, 27, 28, 29, 30, 31, 32, 33, 34] rfl (by decide +kernel)
set_option maxRecDepth 20000 in
theorem gX9_thingsIn_X9_fails : GoodIn wsX9_thingsIn (wsV RX9 136 RX9 yX9_fails wsX9_fails) := goodIn_app (goodIn_r _ [18, 19, 20, 5] rfl (by decide +kernel)) ggX9_thingsIn_X9_fails
theorem dX9_thingsIn_0 : decode cX9_thingsIn 0 = .ok (.aload_n 0, 1) := by decide +kernel
theorem dX9_thingsIn_1 : decode cX9_thingsIn 1 = .ok (.iconst 0, 1) := by decide +kernel
theorem dX9_thingsIn_2 : decode cX9_thingsIn 2 = .ok (.putfield 35, 3) := by decide +kernel
theorem dX9_thingsIn_5 : decode cX9_thingsIn 5 = .ok (.aload_n 0, 1) := by decide +kernel
theorem dX9_thingsIn_6 : decode cX9_thingsIn 6 = .ok (.iload_n 1, 1) := by decide +kernel
theorem dX9_thingsIn_7 : decode cX9_thingsIn 7 = .ok (.invokevirtual 142, 3) := by decide +kernel
theorem dX9_thingsIn_10 : decode cX9_thingsIn 10 = .ok (.ifCond .eq 21, 3) := by decide +kernel
theorem dX9_thingsIn_13 : decode cX9_thingsIn 13 = .ok (.iload_n 2, 1) := by decide +kernel
theorem dX9_thingsIn_14 : decode cX9_thingsIn 14 = .ok (.invokestatic 157, 3) := by decide +kernel
theorem dX9_thingsIn_17 : decode cX9_thingsIn 17 = .ok (.ifCond .eq 14, 3) := by decide +kernel
theorem dX9_thingsIn_20 : decode cX9_thingsIn 20 = .ok (.aload_n 0, 1) := by decide +kernel
theorem dX9_thingsIn_21 : decode cX9_thingsIn 21 = .ok (.iload_n 1, 1) := by decide +kernel
theorem dX9_thingsIn_22 : decode cX9_thingsIn 22 = .ok (.iconst 4, 1) := by decide +kernel
theorem dX9_thingsIn_23 : decode cX9_thingsIn 23 = .ok (.iload_n 2, 1) := by decide +kernel
theorem dX9_thingsIn_24 : decode cX9_thingsIn 24 = .ok (.iadd, 1) := by decide +kernel
theorem dX9_thingsIn_25 : decode cX9_thingsIn 25 = .ok (.invokevirtual 46, 3) := by decide +kernel
theorem dX9_thingsIn_28 : decode cX9_thingsIn 28 = .ok (.goto 8, 3) := by decide +kernel
theorem dX9_thingsIn_31 : decode cX9_thingsIn 31 = .ok (.aload_n 0, 1) := by decide +kernel
theorem dX9_thingsIn_32 : decode cX9_thingsIn 32 = .ok (.iconst 1, 1) := by decide +kernel
theorem dX9_thingsIn_33 : decode cX9_thingsIn 33 = .ok (.invokevirtual 136, 3) := by decide +kernel
theorem dX9_thingsIn_36 : decode cX9_thingsIn 36 = .ok (.ireturn, 1) := by decide +kernel
set_option maxRecDepth 20000 in
theorem ggX9_weightOf_X9_isShelf : GoodIn wsX9_weightOf wsX9_isShelf := goodIn_r _ [6, 7, 8, 9, 5, 10, 23, 24, 25, 26, 27, 28, 29, 30, 31, 32, 33, 34, 35] rfl (by decide +kernel)
set_option maxRecDepth 20000 in
theorem gX9_weightOf_X9_isShelf : GoodIn wsX9_weightOf (wsV RX9 142 RX9 yX9_isShelf wsX9_isShelf) := goodIn_app (goodIn_r _ [2, 3, 4, 5] rfl (by decide +kernel)) ggX9_weightOf_X9_isShelf
set_option maxRecDepth 20000 in
theorem ggX9_weightOf_X9_weight : GoodIn wsX9_weightOf wsX9_weight := goodIn_r _ [14, 7, 15, 16, 17, 5, 18, 23, 24, 25, 26, 27, 28, 29, 30, 31, 32, 33, 34, 35] rfl (by decide +kernel)
set_option maxRecDepth 20000 in
theorem gX9_weightOf_X9_weight : GoodIn wsX9_weightOf (wsV RX9 163 RX9 yX9_weight wsX9_weight) := goodIn_app (goodIn_r _ [11, 12, 13, 5] rfl (by decide +kernel)) ggX9_weightOf_X9_weight
set_option maxRecDepth 20000 in
theorem ggX9_weightOf_X9_fails : GoodIn wsX9_weightOf wsX9_fails := goodIn_r _ [22, 1, 23, 24, 25, 26, 27, 28, 29, 30, 31, 32, 33, 34, 35] rfl (by decide +kernel)
set_option maxRecDepth 20000 in
theorem gX9_weightOf_X9_fails : GoodIn wsX9_weightOf (wsV RX9 136 RX9 yX9_fails wsX9_fails) := goodIn_app (goodIn_r _ [19, 20, 21, 5] rfl (by decide +kernel)) ggX9_weightOf_X9_fails
theorem dX9_weightOf_0 : decode cX9_weightOf 0 = .ok (.aload_n 0, 1) := by decide +kernel
theorem dX9_weightOf_1 : decode cX9_weightOf 1 = .ok (.iconst 0, 1) := by decide +kernel
theorem dX9_weightOf_2 : decode cX9_weightOf 2 = .ok (.putfield 35, 3) := by decide +kernel
theorem dX9_weightOf_5 : decode cX9_weightOf 5 = .ok (.aload_n 0, 1) := by decide +kernel
theorem dX9_weightOf_6 : decode cX9_weightOf 6 = .ok (.iload_n 1, 1) := by decide +kernel
theorem dX9_weightOf_7 : decode cX9_weightOf 7 = .ok (.invokevirtual 142, 3) := by decide +kernel
theorem dX9_weightOf_10 : decode cX9_weightOf 10 = .ok (.ifCond .eq 11, 3) := by decide +kernel
theorem dX9_weightOf_13 : decode cX9_weightOf 13 = .ok (.aload_n 0, 1) := by decide +kernel
theorem dX9_weightOf_14 : decode cX9_weightOf 14 = .ok (.iload_n 1, 1) := by decide +kernel
theorem dX9_weightOf_15 : decode cX9_weightOf 15 = .ok (.invokevirtual 163, 3) := by decide +kernel
theorem dX9_weightOf_18 : decode cX9_weightOf 18 = .ok (.goto 8, 3) := by decide +kernel
theorem dX9_weightOf_21 : decode cX9_weightOf 21 = .ok (.aload_n 0, 1) := by decide +kernel
theorem dX9_weightOf_22 : decode cX9_weightOf 22 = .ok (.iconst 1, 1) := by decide +kernel
theorem dX9_weightOf_23 : decode cX9_weightOf 23 = .ok (.invokevirtual 136, 3) := by decide +kernel
theorem dX9_weightOf_26 : decode cX9_weightOf 26 = .ok (.ireturn, 1) := by decide +kernel
set_option maxRecDepth 20000 in
theorem ggX9_fetchesOf_X9_tells : GoodIn wsX9_fetchesOf wsX9_tells := goodIn_r _ [5, 6, 7, 8, 9, 4, 10, 11, 12, 13, 14, 15, 16, 17, 18, 19, 20, 21, 22, 23, 24, 25, 26, 27, 28, 29, 30, 31, 32, 33, 34, 35] rfl (by decide +kernel)
set_option maxRecDepth 20000 in
theorem gX9_fetchesOf_X9_tells : GoodIn wsX9_fetchesOf (wsV RX9 206 RX9 yX9_tells wsX9_tells) := goodIn_app (goodIn_r _ [1, 2, 3, 4] rfl (by decide +kernel)) ggX9_fetchesOf_X9_tells
theorem dX9_fetchesOf_0 : decode cX9_fetchesOf 0 = .ok (.aload_n 0, 1) := by decide +kernel
theorem dX9_fetchesOf_1 : decode cX9_fetchesOf 1 = .ok (.iload_n 1, 1) := by decide +kernel
theorem dX9_fetchesOf_2 : decode cX9_fetchesOf 2 = .ok (.iconst 3, 1) := by decide +kernel
theorem dX9_fetchesOf_3 : decode cX9_fetchesOf 3 = .ok (.invokevirtual 206, 3) := by decide +kernel
theorem dX9_fetchesOf_6 : decode cX9_fetchesOf 6 = .ok (.ireturn, 1) := by decide +kernel
set_option maxRecDepth 20000 in
theorem ggX9_atWindow_X9_hasWindow : GoodIn wsX9_atWindow wsX9_hasWindow := goodIn_r _ [7, 2, 12, 13, 14, 15, 16, 17, 18, 19, 20, 21, 22, 23, 24] rfl (by decide +kernel)
set_option maxRecDepth 20000 in
theorem gX9_atWindow_X9_hasWindow : GoodIn wsX9_atWindow (wsV RX9 129 RX9 yX9_hasWindow wsX9_hasWindow) := goodIn_app (goodIn_r _ [3, 4, 5, 6] rfl (by decide +kernel)) ggX9_atWindow_X9_hasWindow
set_option maxRecDepth 20000 in
theorem ggX9_atWindow_X9_fails : GoodIn wsX9_atWindow wsX9_fails := goodIn_r _ [11, 1, 12, 13, 14, 15, 16, 17, 18, 19, 20, 21, 22, 23, 24] rfl (by decide +kernel)
set_option maxRecDepth 20000 in
theorem gX9_atWindow_X9_fails : GoodIn wsX9_atWindow (wsV RX9 136 RX9 yX9_fails wsX9_fails) := goodIn_app (goodIn_r _ [8, 9, 10, 6] rfl (by decide +kernel)) ggX9_atWindow_X9_fails
theorem dX9_atWindow_0 : decode cX9_atWindow 0 = .ok (.aload_n 0, 1) := by decide +kernel
theorem dX9_atWindow_1 : decode cX9_atWindow 1 = .ok (.iconst 0, 1) := by decide +kernel
theorem dX9_atWindow_2 : decode cX9_atWindow 2 = .ok (.putfield 35, 3) := by decide +kernel
theorem dX9_atWindow_5 : decode cX9_atWindow 5 = .ok (.aload_n 0, 1) := by decide +kernel
theorem dX9_atWindow_6 : decode cX9_atWindow 6 = .ok (.invokevirtual 129, 3) := by decide +kernel
theorem dX9_atWindow_9 : decode cX9_atWindow 9 = .ok (.ifCond .eq 12, 3) := by decide +kernel
theorem dX9_atWindow_12 : decode cX9_atWindow 12 = .ok (.aload_n 0, 1) := by decide +kernel
theorem dX9_atWindow_13 : decode cX9_atWindow 13 = .ok (.getfield 7, 3) := by decide +kernel
theorem dX9_atWindow_16 : decode cX9_atWindow 16 = .ok (.iconst 1, 1) := by decide +kernel
theorem dX9_atWindow_17 : decode cX9_atWindow 17 = .ok (.iaload, 1) := by decide +kernel
theorem dX9_atWindow_18 : decode cX9_atWindow 18 = .ok (.goto 8, 3) := by decide +kernel
theorem dX9_atWindow_21 : decode cX9_atWindow 21 = .ok (.aload_n 0, 1) := by decide +kernel
theorem dX9_atWindow_22 : decode cX9_atWindow 22 = .ok (.iconst 1, 1) := by decide +kernel
theorem dX9_atWindow_23 : decode cX9_atWindow 23 = .ok (.invokevirtual 136, 3) := by decide +kernel
theorem dX9_atWindow_26 : decode cX9_atWindow 26 = .ok (.ireturn, 1) := by decide +kernel
set_option maxRecDepth 20000 in
theorem ggX9_isFree_X9_isSpot : GoodIn wsX9_isFree wsX9_isSpot := goodIn_r _ [5, 6, 7, 4, 8] rfl (by decide +kernel)
set_option maxRecDepth 20000 in
theorem gX9_isFree_X9_isSpot : GoodIn wsX9_isFree (va_wsS RX9 148 yX9_isSpot wsX9_isSpot) := goodIn_app (goodIn_r _ [2, 3, 4] rfl (by decide +kernel)) ggX9_isFree_X9_isSpot
set_option maxRecDepth 20000 in
theorem ggX9_isFree_X9_on : GoodIn wsX9_isFree wsX9_on := goodIn_r _ [12, 13, 14, 15, 16, 4, 17, 6, 7, 8, 22, 23, 24, 25, 26, 27, 28, 29, 30, 31, 32, 33, 34] rfl (by decide +kernel)
set_option maxRecDepth 20000 in
theorem gX9_isFree_X9_on : GoodIn wsX9_isFree (wsV RX9 50 RX9 yX9_on wsX9_on) := goodIn_app (goodIn_r _ [9, 10, 11, 4] rfl (by decide +kernel)) ggX9_isFree_X9_on
set_option maxRecDepth 20000 in
theorem ggX9_isFree_X9_fails : GoodIn wsX9_isFree wsX9_fails := goodIn_r _ [21, 1, 22, 23, 24, 25, 26, 27, 28, 29, 30, 31, 32, 33, 34] rfl (by decide +kernel)
set_option maxRecDepth 20000 in
theorem gX9_isFree_X9_fails : GoodIn wsX9_isFree (wsV RX9 136 RX9 yX9_fails wsX9_fails) := goodIn_app (goodIn_r _ [18, 19, 20, 4] rfl (by decide +kernel)) ggX9_isFree_X9_fails
theorem dX9_isFree_0 : decode cX9_isFree 0 = .ok (.aload_n 0, 1) := by decide +kernel
theorem dX9_isFree_1 : decode cX9_isFree 1 = .ok (.iconst 0, 1) := by decide +kernel
theorem dX9_isFree_2 : decode cX9_isFree 2 = .ok (.putfield 35, 3) := by decide +kernel
theorem dX9_isFree_5 : decode cX9_isFree 5 = .ok (.iload_n 1, 1) := by decide +kernel
theorem dX9_isFree_6 : decode cX9_isFree 6 = .ok (.iload_n 2, 1) := by decide +kernel
theorem dX9_isFree_7 : decode cX9_isFree 7 = .ok (.invokestatic 148, 3) := by decide +kernel
theorem dX9_isFree_10 : decode cX9_isFree 10 = .ok (.ifCond .eq 21, 3) := by decide +kernel
theorem dX9_isFree_13 : decode cX9_isFree 13 = .ok (.aload_n 0, 1) := by decide +kernel
theorem dX9_isFree_14 : decode cX9_isFree 14 = .ok (.iload_n 1, 1) := by decide +kernel
theorem dX9_isFree_15 : decode cX9_isFree 15 = .ok (.iload_n 2, 1) := by decide +kernel
theorem dX9_isFree_16 : decode cX9_isFree 16 = .ok (.invokevirtual 50, 3) := by decide +kernel
theorem dX9_isFree_19 : decode cX9_isFree 19 = .ok (.iconst (-1), 1) := by decide +kernel
theorem dX9_isFree_20 : decode cX9_isFree 20 = .ok (.if_icmp .ne 7, 3) := by decide +kernel
theorem dX9_isFree_23 : decode cX9_isFree 23 = .ok (.iconst 1, 1) := by decide +kernel
theorem dX9_isFree_24 : decode cX9_isFree 24 = .ok (.goto 20, 3) := by decide +kernel
theorem dX9_isFree_27 : decode cX9_isFree 27 = .ok (.iconst 0, 1) := by decide +kernel
theorem dX9_isFree_28 : decode cX9_isFree 28 = .ok (.goto 16, 3) := by decide +kernel
theorem dX9_isFree_31 : decode cX9_isFree 31 = .ok (.aload_n 0, 1) := by decide +kernel
theorem dX9_isFree_32 : decode cX9_isFree 32 = .ok (.iconst 1, 1) := by decide +kernel
theorem dX9_isFree_33 : decode cX9_isFree 33 = .ok (.invokevirtual 136, 3) := by decide +kernel
theorem dX9_isFree_36 : decode cX9_isFree 36 = .ok (.ifCond .le 7, 3) := by decide +kernel
theorem dX9_isFree_39 : decode cX9_isFree 39 = .ok (.iconst 1, 1) := by decide +kernel
theorem dX9_isFree_40 : decode cX9_isFree 40 = .ok (.goto 4, 3) := by decide +kernel
theorem dX9_isFree_43 : decode cX9_isFree 43 = .ok (.iconst 0, 1) := by decide +kernel
theorem dX9_isFree_44 : decode cX9_isFree 44 = .ok (.ireturn, 1) := by decide +kernel
set_option maxRecDepth 20000 in
theorem ggX9_shelfAt_X9_isSpot : GoodIn wsX9_shelfAt wsX9_isSpot := goodIn_r _ [5, 6, 7, 4, 8] rfl (by decide +kernel)
set_option maxRecDepth 20000 in
theorem gX9_shelfAt_X9_isSpot : GoodIn wsX9_shelfAt (va_wsS RX9 148 yX9_isSpot wsX9_isSpot) := goodIn_app (goodIn_r _ [2, 3, 4] rfl (by decide +kernel)) ggX9_shelfAt_X9_isSpot
set_option maxRecDepth 20000 in
theorem ggX9_shelfAt_X9_fails : GoodIn wsX9_shelfAt wsX9_fails := goodIn_r _ [12, 1, 22, 23, 24, 25, 26, 27, 28, 29, 30, 31, 32, 33, 34] rfl (by decide +kernel)
set_option maxRecDepth 20000 in
theorem gX9_shelfAt_X9_fails : GoodIn wsX9_shelfAt (wsV RX9 136 RX9 yX9_fails wsX9_fails) := goodIn_app (goodIn_r _ [9, 10, 11, 4] rfl (by decide +kernel)) ggX9_shelfAt_X9_fails
set_option maxRecDepth 20000 in
theorem ggX9_shelfAt_X9_on : GoodIn wsX9_shelfAt wsX9_on := goodIn_r _ [16, 17, 18, 19, 20, 4, 21, 6, 7, 8, 22, 23, 24, 25, 26, 27, 28, 29, 30, 31, 32, 33, 34] rfl (by decide +kernel)
set_option maxRecDepth 20000 in
theorem gX9_shelfAt_X9_on : GoodIn wsX9_shelfAt (wsV RX9 50 RX9 yX9_on wsX9_on) := goodIn_app (goodIn_r _ [13, 14, 15, 4] rfl (by decide +kernel)) ggX9_shelfAt_X9_on
theorem dX9_shelfAt_0 : decode cX9_shelfAt 0 = .ok (.aload_n 0, 1) := by decide +kernel
theorem dX9_shelfAt_1 : decode cX9_shelfAt 1 = .ok (.iconst 0, 1) := by decide +kernel
theorem dX9_shelfAt_2 : decode cX9_shelfAt 2 = .ok (.putfield 35, 3) := by decide +kernel
theorem dX9_shelfAt_5 : decode cX9_shelfAt 5 = .ok (.iload_n 1, 1) := by decide +kernel
theorem dX9_shelfAt_6 : decode cX9_shelfAt 6 = .ok (.iload_n 2, 1) := by decide +kernel
theorem dX9_shelfAt_7 : decode cX9_shelfAt 7 = .ok (.invokestatic 148, 3) := by decide +kernel
theorem dX9_shelfAt_10 : decode cX9_shelfAt 10 = .ok (.ifCond .ne 9, 3) := by decide +kernel
theorem dX9_shelfAt_13 : decode cX9_shelfAt 13 = .ok (.aload_n 0, 1) := by decide +kernel
theorem dX9_shelfAt_14 : decode cX9_shelfAt 14 = .ok (.iconst 1, 1) := by decide +kernel
theorem dX9_shelfAt_15 : decode cX9_shelfAt 15 = .ok (.invokevirtual 136, 3) := by decide +kernel
theorem dX9_shelfAt_18 : decode cX9_shelfAt 18 = .ok (.ireturn, 1) := by decide +kernel
theorem dX9_shelfAt_19 : decode cX9_shelfAt 19 = .ok (.aload_n 0, 1) := by decide +kernel
theorem dX9_shelfAt_20 : decode cX9_shelfAt 20 = .ok (.iload_n 1, 1) := by decide +kernel
theorem dX9_shelfAt_21 : decode cX9_shelfAt 21 = .ok (.iload_n 2, 1) := by decide +kernel
theorem dX9_shelfAt_22 : decode cX9_shelfAt 22 = .ok (.invokevirtual 50, 3) := by decide +kernel
theorem dX9_shelfAt_25 : decode cX9_shelfAt 25 = .ok (.iconst (-1), 1) := by decide +kernel
theorem dX9_shelfAt_26 : decode cX9_shelfAt 26 = .ok (.if_icmp .ne 11, 3) := by decide +kernel
theorem dX9_shelfAt_29 : decode cX9_shelfAt 29 = .ok (.aload_n 0, 1) := by decide +kernel
theorem dX9_shelfAt_30 : decode cX9_shelfAt 30 = .ok (.iconst 2, 1) := by decide +kernel
theorem dX9_shelfAt_31 : decode cX9_shelfAt 31 = .ok (.invokevirtual 136, 3) := by decide +kernel
theorem dX9_shelfAt_34 : decode cX9_shelfAt 34 = .ok (.goto 9, 3) := by decide +kernel
theorem dX9_shelfAt_37 : decode cX9_shelfAt 37 = .ok (.aload_n 0, 1) := by decide +kernel
theorem dX9_shelfAt_38 : decode cX9_shelfAt 38 = .ok (.iload_n 1, 1) := by decide +kernel
theorem dX9_shelfAt_39 : decode cX9_shelfAt 39 = .ok (.iload_n 2, 1) := by decide +kernel
theorem dX9_shelfAt_40 : decode cX9_shelfAt 40 = .ok (.invokevirtual 50, 3) := by decide +kernel
theorem dX9_shelfAt_43 : decode cX9_shelfAt 43 = .ok (.ireturn, 1) := by decide +kernel
set_option maxRecDepth 20000 in
theorem ggX9_freeBySlots_X9_freeMany : GoodIn wsX9_freeBySlots wsX9_freeMany := goodIn_r _ [6, 7, 8, 9, 5, 10, 11, 12, 13, 14, 15, 16, 17, 18, 19, 20, 21, 22, 23, 24, 25, 26, 27, 28, 29, 30, 31] rfl (by decide +kernel)
set_option maxRecDepth 20000 in
theorem gX9_freeBySlots_X9_freeMany : GoodIn wsX9_freeBySlots (wsV RX9 209 RX9 yX9_freeMany wsX9_freeMany) := goodIn_app (goodIn_r _ [2, 3, 4, 5] rfl (by decide +kernel)) ggX9_freeBySlots_X9_freeMany
theorem dX9_freeBySlots_0 : decode cX9_freeBySlots 0 = .ok (.aload_n 0, 1) := by decide +kernel
theorem dX9_freeBySlots_1 : decode cX9_freeBySlots 1 = .ok (.iconst 0, 1) := by decide +kernel
theorem dX9_freeBySlots_2 : decode cX9_freeBySlots 2 = .ok (.putfield 35, 3) := by decide +kernel
theorem dX9_freeBySlots_5 : decode cX9_freeBySlots 5 = .ok (.aload_n 0, 1) := by decide +kernel
theorem dX9_freeBySlots_6 : decode cX9_freeBySlots 6 = .ok (.invokevirtual 209, 3) := by decide +kernel
theorem dX9_freeBySlots_9 : decode cX9_freeBySlots 9 = .ok (.ireturn, 1) := by decide +kernel
set_option maxRecDepth 20000 in
theorem ggX9_freeByHeights_X9_freeMany : GoodIn wsX9_freeByHeights wsX9_freeMany := goodIn_r _ [6, 7, 8, 9, 5, 10, 11, 12, 13, 14, 15, 16, 17, 18, 19, 20, 21, 22, 23, 24, 25, 26, 27, 28, 29, 30, 31] rfl (by decide +kernel)
set_option maxRecDepth 20000 in
theorem gX9_freeByHeights_X9_freeMany : GoodIn wsX9_freeByHeights (wsV RX9 209 RX9 yX9_freeMany wsX9_freeMany) := goodIn_app (goodIn_r _ [2, 3, 4, 5] rfl (by decide +kernel)) ggX9_freeByHeights_X9_freeMany
theorem dX9_freeByHeights_0 : decode cX9_freeByHeights 0 = .ok (.aload_n 0, 1) := by decide +kernel
theorem dX9_freeByHeights_1 : decode cX9_freeByHeights 1 = .ok (.iconst 0, 1) := by decide +kernel
theorem dX9_freeByHeights_2 : decode cX9_freeByHeights 2 = .ok (.putfield 35, 3) := by decide +kernel
theorem dX9_freeByHeights_5 : decode cX9_freeByHeights 5 = .ok (.aload_n 0, 1) := by decide +kernel
theorem dX9_freeByHeights_6 : decode cX9_freeByHeights 6 = .ok (.invokevirtual 209, 3) := by decide +kernel
theorem dX9_freeByHeights_9 : decode cX9_freeByHeights 9 = .ok (.ireturn, 1) := by decide +kernel
set_option maxRecDepth 20000 in
theorem ggX9_firstPlace_X9_in : GoodIn wsX9_firstPlace wsX9_in := goodIn_r _ [5] rfl (by decide +kernel)
set_option maxRecDepth 20000 in
theorem gX9_firstPlace_X9_in : GoodIn wsX9_firstPlace (va_wsS RX9 39 yX9_in wsX9_in) := goodIn_app (goodIn_r _ [2, 3, 4] rfl (by decide +kernel)) ggX9_firstPlace_X9_in
set_option maxRecDepth 20000 in
theorem ggX9_firstPlace_X9_fails : GoodIn wsX9_firstPlace wsX9_fails := goodIn_r _ [9, 1, 27, 28, 29, 30, 31, 32, 33, 34, 35, 36, 37, 38, 39] rfl (by decide +kernel)
set_option maxRecDepth 20000 in
theorem gX9_firstPlace_X9_fails : GoodIn wsX9_firstPlace (wsV RX9 136 RX9 yX9_fails wsX9_fails) := goodIn_app (goodIn_r _ [6, 7, 8, 4] rfl (by decide +kernel)) ggX9_firstPlace_X9_fails
set_option maxRecDepth 20000 in
theorem ggX9_firstPlace_X9_place : GoodIn wsX9_firstPlace wsX9_place := goodIn_r _ [13, 14, 15, 16, 4, 17, 18, 19, 20, 21, 22, 23, 24, 25, 26, 2, 3, 5, 27, 28, 29, 30, 31, 32, 33, 34, 35, 36, 37, 38, 39] rfl (by decide +kernel)
set_option maxRecDepth 20000 in
theorem gX9_firstPlace_X9_place : GoodIn wsX9_firstPlace (wsV RX9 74 RX9 yX9_place wsX9_place) := goodIn_app (goodIn_r _ [10, 11, 12, 4] rfl (by decide +kernel)) ggX9_firstPlace_X9_place
theorem dX9_firstPlace_0 : decode cX9_firstPlace 0 = .ok (.aload_n 0, 1) := by decide +kernel
theorem dX9_firstPlace_1 : decode cX9_firstPlace 1 = .ok (.iconst 0, 1) := by decide +kernel
theorem dX9_firstPlace_2 : decode cX9_firstPlace 2 = .ok (.putfield 35, 3) := by decide +kernel
theorem dX9_firstPlace_5 : decode cX9_firstPlace 5 = .ok (.iload_n 1, 1) := by decide +kernel
theorem dX9_firstPlace_6 : decode cX9_firstPlace 6 = .ok (.iconst 1, 1) := by decide +kernel
theorem dX9_firstPlace_7 : decode cX9_firstPlace 7 = .ok (.iconst 4, 1) := by decide +kernel
theorem dX9_firstPlace_8 : decode cX9_firstPlace 8 = .ok (.invokestatic 39, 3) := by decide +kernel
theorem dX9_firstPlace_11 : decode cX9_firstPlace 11 = .ok (.ifCond .ne 9, 3) := by decide +kernel
theorem dX9_firstPlace_14 : decode cX9_firstPlace 14 = .ok (.aload_n 0, 1) := by decide +kernel
theorem dX9_firstPlace_15 : decode cX9_firstPlace 15 = .ok (.iconst 1, 1) := by decide +kernel
theorem dX9_firstPlace_16 : decode cX9_firstPlace 16 = .ok (.invokevirtual 136, 3) := by decide +kernel
theorem dX9_firstPlace_19 : decode cX9_firstPlace 19 = .ok (.ireturn, 1) := by decide +kernel
theorem dX9_firstPlace_20 : decode cX9_firstPlace 20 = .ok (.aload_n 0, 1) := by decide +kernel
theorem dX9_firstPlace_21 : decode cX9_firstPlace 21 = .ok (.iload_n 1, 1) := by decide +kernel
theorem dX9_firstPlace_22 : decode cX9_firstPlace 22 = .ok (.invokevirtual 74, 3) := by decide +kernel
theorem dX9_firstPlace_25 : decode cX9_firstPlace 25 = .ok (.iconst (-1), 1) := by decide +kernel
theorem dX9_firstPlace_26 : decode cX9_firstPlace 26 = .ok (.if_icmp .ne 11, 3) := by decide +kernel
theorem dX9_firstPlace_29 : decode cX9_firstPlace 29 = .ok (.aload_n 0, 1) := by decide +kernel
theorem dX9_firstPlace_30 : decode cX9_firstPlace 30 = .ok (.iconst 2, 1) := by decide +kernel
theorem dX9_firstPlace_31 : decode cX9_firstPlace 31 = .ok (.invokevirtual 136, 3) := by decide +kernel
theorem dX9_firstPlace_34 : decode cX9_firstPlace 34 = .ok (.goto 8, 3) := by decide +kernel
theorem dX9_firstPlace_37 : decode cX9_firstPlace 37 = .ok (.aload_n 0, 1) := by decide +kernel
theorem dX9_firstPlace_38 : decode cX9_firstPlace 38 = .ok (.iload_n 1, 1) := by decide +kernel
theorem dX9_firstPlace_39 : decode cX9_firstPlace 39 = .ok (.invokevirtual 74, 3) := by decide +kernel
theorem dX9_firstPlace_42 : decode cX9_firstPlace 42 = .ok (.ireturn, 1) := by decide +kernel
set_option maxRecDepth 20000 in
theorem ggX9_longestGap_X9_in : GoodIn wsX9_longestGap wsX9_in := goodIn_r _ [5] rfl (by decide +kernel)
set_option maxRecDepth 20000 in
theorem gX9_longestGap_X9_in : GoodIn wsX9_longestGap (va_wsS RX9 39 yX9_in wsX9_in) := goodIn_app (goodIn_r _ [2, 3, 4] rfl (by decide +kernel)) ggX9_longestGap_X9_in
set_option maxRecDepth 20000 in
theorem ggX9_longestGap_X9_gap : GoodIn wsX9_longestGap wsX9_gap := goodIn_r _ [9, 10, 11, 12, 4, 13, 14, 15, 16, 17, 18, 2, 3, 5, 23, 24, 25, 26, 27, 28, 29, 30, 31, 32, 33, 34, 35] rfl (by decide +kernel)
set_option maxRecDepth 20000 in
theorem gX9_longestGap_X9_gap : GoodIn wsX9_longestGap (wsV RX9 212 RX9 yX9_gap wsX9_gap) := goodIn_app (goodIn_r _ [6, 7, 8, 4] rfl (by decide +kernel)) ggX9_longestGap_X9_gap
set_option maxRecDepth 20000 in
theorem ggX9_longestGap_X9_fails : GoodIn wsX9_longestGap wsX9_fails := goodIn_r _ [22, 1, 23, 24, 25, 26, 27, 28, 29, 30, 31, 32, 33, 34, 35] rfl (by decide +kernel)
set_option maxRecDepth 20000 in
theorem gX9_longestGap_X9_fails : GoodIn wsX9_longestGap (wsV RX9 136 RX9 yX9_fails wsX9_fails) := goodIn_app (goodIn_r _ [19, 20, 21, 4] rfl (by decide +kernel)) ggX9_longestGap_X9_fails
theorem dX9_longestGap_0 : decode cX9_longestGap 0 = .ok (.aload_n 0, 1) := by decide +kernel
theorem dX9_longestGap_1 : decode cX9_longestGap 1 = .ok (.iconst 0, 1) := by decide +kernel
theorem dX9_longestGap_2 : decode cX9_longestGap 2 = .ok (.putfield 35, 3) := by decide +kernel
theorem dX9_longestGap_5 : decode cX9_longestGap 5 = .ok (.iload_n 1, 1) := by decide +kernel
theorem dX9_longestGap_6 : decode cX9_longestGap 6 = .ok (.iconst 0, 1) := by decide +kernel
theorem dX9_longestGap_7 : decode cX9_longestGap 7 = .ok (.iconst 1, 1) := by decide +kernel
theorem dX9_longestGap_8 : decode cX9_longestGap 8 = .ok (.invokestatic 39, 3) := by decide +kernel
theorem dX9_longestGap_11 : decode cX9_longestGap 11 = .ok (.ifCond .eq 11, 3) := by decide +kernel
theorem dX9_longestGap_14 : decode cX9_longestGap 14 = .ok (.aload_n 0, 1) := by decide +kernel
theorem dX9_longestGap_15 : decode cX9_longestGap 15 = .ok (.iload_n 1, 1) := by decide +kernel
theorem dX9_longestGap_16 : decode cX9_longestGap 16 = .ok (.invokevirtual 212, 3) := by decide +kernel
theorem dX9_longestGap_19 : decode cX9_longestGap 19 = .ok (.goto 8, 3) := by decide +kernel
theorem dX9_longestGap_22 : decode cX9_longestGap 22 = .ok (.aload_n 0, 1) := by decide +kernel
theorem dX9_longestGap_23 : decode cX9_longestGap 23 = .ok (.iconst 1, 1) := by decide +kernel
theorem dX9_longestGap_24 : decode cX9_longestGap 24 = .ok (.invokevirtual 136, 3) := by decide +kernel
theorem dX9_longestGap_27 : decode cX9_longestGap 27 = .ok (.ireturn, 1) := by decide +kernel
theorem dX9_lift_0 : decode cX9_lift 0 = .ok (.aload_n 0, 1) := by decide +kernel
theorem dX9_lift_1 : decode cX9_lift 1 = .ok (.iconst 0, 1) := by decide +kernel
theorem dX9_lift_2 : decode cX9_lift 2 = .ok (.putfield 35, 3) := by decide +kernel
theorem dX9_lift_5 : decode cX9_lift 5 = .ok (.aload_n 0, 1) := by decide +kernel
theorem dX9_lift_6 : decode cX9_lift 6 = .ok (.getfield 7, 3) := by decide +kernel
theorem dX9_lift_9 : decode cX9_lift 9 = .ok (.iconst 2, 1) := by decide +kernel
theorem dX9_lift_10 : decode cX9_lift 10 = .ok (.iaload, 1) := by decide +kernel
theorem dX9_lift_11 : decode cX9_lift 11 = .ok (.ireturn, 1) := by decide +kernel
theorem dX9_isKeptPlace_0 : decode cX9_isKeptPlace 0 = .ok (.aload_n 0, 1) := by decide +kernel
theorem dX9_isKeptPlace_1 : decode cX9_isKeptPlace 1 = .ok (.iconst 0, 1) := by decide +kernel
theorem dX9_isKeptPlace_2 : decode cX9_isKeptPlace 2 = .ok (.putfield 35, 3) := by decide +kernel
theorem dX9_isKeptPlace_5 : decode cX9_isKeptPlace 5 = .ok (.aload_n 0, 1) := by decide +kernel
theorem dX9_isKeptPlace_6 : decode cX9_isKeptPlace 6 = .ok (.getfield 7, 3) := by decide +kernel
theorem dX9_isKeptPlace_9 : decode cX9_isKeptPlace 9 = .ok (.iconst 3, 1) := by decide +kernel
theorem dX9_isKeptPlace_10 : decode cX9_isKeptPlace 10 = .ok (.iaload, 1) := by decide +kernel
theorem dX9_isKeptPlace_11 : decode cX9_isKeptPlace 11 = .ok (.iconst 1, 1) := by decide +kernel
theorem dX9_isKeptPlace_12 : decode cX9_isKeptPlace 12 = .ok (.if_icmp .ne 7, 3) := by decide +kernel
theorem dX9_isKeptPlace_15 : decode cX9_isKeptPlace 15 = .ok (.iconst 1, 1) := by decide +kernel
theorem dX9_isKeptPlace_16 : decode cX9_isKeptPlace 16 = .ok (.goto 4, 3) := by decide +kernel
theorem dX9_isKeptPlace_19 : decode cX9_isKeptPlace 19 = .ok (.iconst 0, 1) := by decide +kernel
theorem dX9_isKeptPlace_20 : decode cX9_isKeptPlace 20 = .ok (.ireturn, 1) := by decide +kernel
set_option maxRecDepth 20000 in
theorem ggX9_wouldPack_X9_hasWindow : GoodIn wsX9_wouldPack wsX9_hasWindow := goodIn_r _ [6, 7, 60, 61, 62, 63, 64, 65, 66, 67, 68, 69, 70, 71, 72] rfl (by decide +kernel)
set_option maxRecDepth 20000 in
theorem gX9_wouldPack_X9_hasWindow : GoodIn wsX9_wouldPack (wsV RX9 129 RX9 yX9_hasWindow wsX9_hasWindow) := goodIn_app (goodIn_r _ [2, 3, 4, 5] rfl (by decide +kernel)) ggX9_wouldPack_X9_hasWindow
set_option maxRecDepth 20000 in
theorem ggX9_wouldPack_X9_packsAside : GoodIn wsX9_wouldPack wsX9_packsAside := goodIn_r _ [11, 12, 13, 14, 5, 15, 7, 16, 17, 18, 19, 20, 21, 22, 23, 24, 25, 26, 27, 28, 29, 30, 31, 32, 33, 34, 35, 36, 37, 38, 39, 40, 41, 42, 43, 44, 45, 46, 47, 48, 49, 50, 51, 52, 53, 54, 55, 60, 61, 62, 63, 64, 65, 66, 67, 68, 69, 70, 71, 72] rfl (by decide +kernel)
set_option maxRecDepth 20000 in
theorem gX9_wouldPack_X9_packsAside : GoodIn wsX9_wouldPack (wsV RX9 151 RX9 yX9_packsAside wsX9_packsAside) := goodIn_app (goodIn_r _ [8, 9, 10, 5] rfl (by decide +kernel)) ggX9_wouldPack_X9_packsAside
set_option maxRecDepth 20000 in
theorem ggX9_wouldPack_X9_fails : GoodIn wsX9_wouldPack wsX9_fails := goodIn_r _ [59, 1, 60, 61, 62, 63, 64, 65, 66, 67, 68, 69, 70, 71, 72] rfl (by decide +kernel)
set_option maxRecDepth 20000 in
theorem gX9_wouldPack_X9_fails : GoodIn wsX9_wouldPack (wsV RX9 136 RX9 yX9_fails wsX9_fails) := goodIn_app (goodIn_r _ [56, 57, 58, 5] rfl (by decide +kernel)) ggX9_wouldPack_X9_fails
theorem dX9_wouldPack_0 : decode cX9_wouldPack 0 = .ok (.aload_n 0, 1) := by decide +kernel
theorem dX9_wouldPack_1 : decode cX9_wouldPack 1 = .ok (.iconst 0, 1) := by decide +kernel
theorem dX9_wouldPack_2 : decode cX9_wouldPack 2 = .ok (.putfield 35, 3) := by decide +kernel
theorem dX9_wouldPack_5 : decode cX9_wouldPack 5 = .ok (.aload_n 0, 1) := by decide +kernel
theorem dX9_wouldPack_6 : decode cX9_wouldPack 6 = .ok (.invokevirtual 129, 3) := by decide +kernel
theorem dX9_wouldPack_9 : decode cX9_wouldPack 9 = .ok (.ifCond .eq 7, 3) := by decide +kernel
theorem dX9_wouldPack_12 : decode cX9_wouldPack 12 = .ok (.iconst (-1), 1) := by decide +kernel
theorem dX9_wouldPack_13 : decode cX9_wouldPack 13 = .ok (.goto 7, 3) := by decide +kernel
theorem dX9_wouldPack_16 : decode cX9_wouldPack 16 = .ok (.aload_n 0, 1) := by decide +kernel
theorem dX9_wouldPack_17 : decode cX9_wouldPack 17 = .ok (.invokevirtual 151, 3) := by decide +kernel
theorem dX9_wouldPack_20 : decode cX9_wouldPack 20 = .ok (.istore_n 1, 1) := by decide +kernel
theorem dX9_wouldPack_21 : decode cX9_wouldPack 21 = .ok (.iload_n 1, 1) := by decide +kernel
theorem dX9_wouldPack_22 : decode cX9_wouldPack 22 = .ok (.iconst (-1), 1) := by decide +kernel
theorem dX9_wouldPack_23 : decode cX9_wouldPack 23 = .ok (.if_icmp .ne 11, 3) := by decide +kernel
theorem dX9_wouldPack_26 : decode cX9_wouldPack 26 = .ok (.aload_n 0, 1) := by decide +kernel
theorem dX9_wouldPack_27 : decode cX9_wouldPack 27 = .ok (.iconst 1, 1) := by decide +kernel
theorem dX9_wouldPack_28 : decode cX9_wouldPack 28 = .ok (.invokevirtual 136, 3) := by decide +kernel
theorem dX9_wouldPack_31 : decode cX9_wouldPack 31 = .ok (.goto 4, 3) := by decide +kernel
theorem dX9_wouldPack_34 : decode cX9_wouldPack 34 = .ok (.iload_n 1, 1) := by decide +kernel
theorem dX9_wouldPack_35 : decode cX9_wouldPack 35 = .ok (.ireturn, 1) := by decide +kernel
set_option maxRecDepth 20000 in
theorem ggX9_heavy_X9_of : GoodIn wsX9_heavy wsX9_of := goodIn_r _ [6, 1, 11, 12, 13, 14, 15, 16, 17, 18, 19, 20, 21, 22, 23] rfl (by decide +kernel)
set_option maxRecDepth 20000 in
theorem gX9_heavy_X9_of : GoodIn wsX9_heavy (wsV RX9 46 RX9 yX9_of wsX9_of) := goodIn_app (goodIn_r _ [2, 3, 4, 5] rfl (by decide +kernel)) ggX9_heavy_X9_of
set_option maxRecDepth 20000 in
theorem ggX9_heavy_X9_weight : GoodIn wsX9_heavy wsX9_weight := goodIn_r _ [10, 1, 2, 3, 4, 5, 6, 11, 12, 13, 14, 15, 16, 17, 18, 19, 20, 21, 22, 23] rfl (by decide +kernel)
set_option maxRecDepth 20000 in
theorem gX9_heavy_X9_weight : GoodIn wsX9_heavy (wsV RX9 163 RX9 yX9_weight wsX9_weight) := goodIn_app (goodIn_r _ [7, 8, 9, 5] rfl (by decide +kernel)) ggX9_heavy_X9_weight
theorem dX9_heavy_0 : decode cX9_heavy 0 = .ok (.iconst 0, 1) := by decide +kernel
theorem dX9_heavy_1 : decode cX9_heavy 1 = .ok (.istore_n 2, 1) := by decide +kernel
theorem dX9_heavy_2 : decode cX9_heavy 2 = .ok (.iconst 0, 1) := by decide +kernel
theorem dX9_heavy_3 : decode cX9_heavy 3 = .ok (.istore_n 3, 1) := by decide +kernel
theorem dX9_heavy_4 : decode cX9_heavy 4 = .ok (.iload_n 3, 1) := by decide +kernel
theorem dX9_heavy_5 : decode cX9_heavy 5 = .ok (.aload_n 0, 1) := by decide +kernel
theorem dX9_heavy_6 : decode cX9_heavy 6 = .ok (.getfield 7, 3) := by decide +kernel
theorem dX9_heavy_9 : decode cX9_heavy 9 = .ok (.iconst 0, 1) := by decide +kernel
theorem dX9_heavy_10 : decode cX9_heavy 10 = .ok (.iaload, 1) := by decide +kernel
theorem dX9_heavy_11 : decode cX9_heavy 11 = .ok (.if_icmp .ge 41, 3) := by decide +kernel
theorem dX9_heavy_14 : decode cX9_heavy 14 = .ok (.iload_n 2, 1) := by decide +kernel
theorem dX9_heavy_15 : decode cX9_heavy 15 = .ok (.aload_n 0, 1) := by decide +kernel
theorem dX9_heavy_16 : decode cX9_heavy 16 = .ok (.iload_n 3, 1) := by decide +kernel
theorem dX9_heavy_17 : decode cX9_heavy 17 = .ok (.iconst 1, 1) := by decide +kernel
theorem dX9_heavy_18 : decode cX9_heavy 18 = .ok (.invokevirtual 46, 3) := by decide +kernel
theorem dX9_heavy_21 : decode cX9_heavy 21 = .ok (.iload_n 1, 1) := by decide +kernel
theorem dX9_heavy_22 : decode cX9_heavy 22 = .ok (.if_icmp .ne 21, 3) := by decide +kernel
theorem dX9_heavy_25 : decode cX9_heavy 25 = .ok (.iload_n 3, 1) := by decide +kernel
theorem dX9_heavy_26 : decode cX9_heavy 26 = .ok (.aload_n 0, 1) := by decide +kernel
theorem dX9_heavy_27 : decode cX9_heavy 27 = .ok (.getfield 7, 3) := by decide +kernel
theorem dX9_heavy_30 : decode cX9_heavy 30 = .ok (.iconst 1, 1) := by decide +kernel
theorem dX9_heavy_31 : decode cX9_heavy 31 = .ok (.iaload, 1) := by decide +kernel
theorem dX9_heavy_32 : decode cX9_heavy 32 = .ok (.if_icmp .eq 11, 3) := by decide +kernel
theorem dX9_heavy_35 : decode cX9_heavy 35 = .ok (.aload_n 0, 1) := by decide +kernel
theorem dX9_heavy_36 : decode cX9_heavy 36 = .ok (.iload_n 3, 1) := by decide +kernel
theorem dX9_heavy_37 : decode cX9_heavy 37 = .ok (.invokevirtual 163, 3) := by decide +kernel
theorem dX9_heavy_40 : decode cX9_heavy 40 = .ok (.goto 4, 3) := by decide +kernel
theorem dX9_heavy_43 : decode cX9_heavy 43 = .ok (.iconst 0, 1) := by decide +kernel
theorem dX9_heavy_44 : decode cX9_heavy 44 = .ok (.iadd, 1) := by decide +kernel
theorem dX9_heavy_45 : decode cX9_heavy 45 = .ok (.istore_n 2, 1) := by decide +kernel
theorem dX9_heavy_46 : decode cX9_heavy 46 = .ok (.iinc 3 1, 3) := by decide +kernel
theorem dX9_heavy_49 : decode cX9_heavy 49 = .ok (.goto (-45), 3) := by decide +kernel
theorem dX9_heavy_52 : decode cX9_heavy 52 = .ok (.iload_n 2, 1) := by decide +kernel
theorem dX9_heavy_53 : decode cX9_heavy 53 = .ok (.ireturn, 1) := by decide +kernel
set_option maxRecDepth 20000 in
theorem ggX9_sideWeight_X9_in : GoodIn wsX9_sideWeight wsX9_in := goodIn_r _ [5] rfl (by decide +kernel)
set_option maxRecDepth 20000 in
theorem gX9_sideWeight_X9_in : GoodIn wsX9_sideWeight (va_wsS RX9 39 yX9_in wsX9_in) := goodIn_app (goodIn_r _ [2, 3, 4] rfl (by decide +kernel)) ggX9_sideWeight_X9_in
set_option maxRecDepth 20000 in
theorem ggX9_sideWeight_X9_heavy : GoodIn wsX9_sideWeight wsX9_heavy := goodIn_r _ [9, 10, 11, 12, 13, 4, 14, 15, 16, 17, 18, 23, 24, 25, 26, 27, 28, 29, 30, 31, 32, 33, 34, 35] rfl (by decide +kernel)
set_option maxRecDepth 20000 in
theorem gX9_sideWeight_X9_heavy : GoodIn wsX9_sideWeight (wsV RX9 215 RX9 yX9_heavy wsX9_heavy) := goodIn_app (goodIn_r _ [6, 7, 8, 4] rfl (by decide +kernel)) ggX9_sideWeight_X9_heavy
set_option maxRecDepth 20000 in
theorem ggX9_sideWeight_X9_fails : GoodIn wsX9_sideWeight wsX9_fails := goodIn_r _ [22, 1, 23, 24, 25, 26, 27, 28, 29, 30, 31, 32, 33, 34, 35] rfl (by decide +kernel)
set_option maxRecDepth 20000 in
theorem gX9_sideWeight_X9_fails : GoodIn wsX9_sideWeight (wsV RX9 136 RX9 yX9_fails wsX9_fails) := goodIn_app (goodIn_r _ [19, 20, 21, 4] rfl (by decide +kernel)) ggX9_sideWeight_X9_fails
theorem dX9_sideWeight_0 : decode cX9_sideWeight 0 = .ok (.aload_n 0, 1) := by decide +kernel
theorem dX9_sideWeight_1 : decode cX9_sideWeight 1 = .ok (.iconst 0, 1) := by decide +kernel
theorem dX9_sideWeight_2 : decode cX9_sideWeight 2 = .ok (.putfield 35, 3) := by decide +kernel
theorem dX9_sideWeight_5 : decode cX9_sideWeight 5 = .ok (.iload_n 1, 1) := by decide +kernel
theorem dX9_sideWeight_6 : decode cX9_sideWeight 6 = .ok (.iconst 0, 1) := by decide +kernel
theorem dX9_sideWeight_7 : decode cX9_sideWeight 7 = .ok (.iconst 1, 1) := by decide +kernel
theorem dX9_sideWeight_8 : decode cX9_sideWeight 8 = .ok (.invokestatic 39, 3) := by decide +kernel
theorem dX9_sideWeight_11 : decode cX9_sideWeight 11 = .ok (.ifCond .eq 11, 3) := by decide +kernel
theorem dX9_sideWeight_14 : decode cX9_sideWeight 14 = .ok (.aload_n 0, 1) := by decide +kernel
theorem dX9_sideWeight_15 : decode cX9_sideWeight 15 = .ok (.iload_n 1, 1) := by decide +kernel
theorem dX9_sideWeight_16 : decode cX9_sideWeight 16 = .ok (.invokevirtual 215, 3) := by decide +kernel
theorem dX9_sideWeight_19 : decode cX9_sideWeight 19 = .ok (.goto 8, 3) := by decide +kernel
theorem dX9_sideWeight_22 : decode cX9_sideWeight 22 = .ok (.aload_n 0, 1) := by decide +kernel
theorem dX9_sideWeight_23 : decode cX9_sideWeight 23 = .ok (.iconst 1, 1) := by decide +kernel
theorem dX9_sideWeight_24 : decode cX9_sideWeight 24 = .ok (.invokevirtual 136, 3) := by decide +kernel
theorem dX9_sideWeight_27 : decode cX9_sideWeight 27 = .ok (.ireturn, 1) := by decide +kernel
theorem dX9_trips_0 : decode cX9_trips 0 = .ok (.aload_n 0, 1) := by decide +kernel
theorem dX9_trips_1 : decode cX9_trips 1 = .ok (.iconst 0, 1) := by decide +kernel
theorem dX9_trips_2 : decode cX9_trips 2 = .ok (.putfield 35, 3) := by decide +kernel
theorem dX9_trips_5 : decode cX9_trips 5 = .ok (.aload_n 0, 1) := by decide +kernel
theorem dX9_trips_6 : decode cX9_trips 6 = .ok (.getfield 7, 3) := by decide +kernel
theorem dX9_trips_9 : decode cX9_trips 9 = .ok (.bipush 7, 2) := by decide +kernel
theorem dX9_trips_11 : decode cX9_trips 11 = .ok (.iaload, 1) := by decide +kernel
theorem dX9_trips_12 : decode cX9_trips 12 = .ok (.ireturn, 1) := by decide +kernel
set_option maxRecDepth 20000 in
theorem ggX9_tripTicks_X9_in : GoodIn wsX9_tripTicks wsX9_in := goodIn_r _ [6] rfl (by decide +kernel)
set_option maxRecDepth 20000 in
theorem gX9_tripTicks_X9_in : GoodIn wsX9_tripTicks (va_wsS RX9 39 yX9_in wsX9_in) := goodIn_app (goodIn_r _ [3, 4, 5] rfl (by decide +kernel)) ggX9_tripTicks_X9_in
set_option maxRecDepth 20000 in
theorem ggX9_tripTicks_X9_fails : GoodIn wsX9_tripTicks wsX9_fails := goodIn_r _ [10, 1, 11, 12, 13, 14, 15, 16, 17, 18, 19, 20, 21, 22, 23] rfl (by decide +kernel)
set_option maxRecDepth 20000 in
theorem gX9_tripTicks_X9_fails : GoodIn wsX9_tripTicks (wsV RX9 136 RX9 yX9_fails wsX9_fails) := goodIn_app (goodIn_r _ [7, 8, 9, 5] rfl (by decide +kernel)) ggX9_tripTicks_X9_fails
theorem dX9_tripTicks_0 : decode cX9_tripTicks 0 = .ok (.aload_n 0, 1) := by decide +kernel
theorem dX9_tripTicks_1 : decode cX9_tripTicks 1 = .ok (.iconst 0, 1) := by decide +kernel
theorem dX9_tripTicks_2 : decode cX9_tripTicks 2 = .ok (.putfield 35, 3) := by decide +kernel
theorem dX9_tripTicks_5 : decode cX9_tripTicks 5 = .ok (.iload_n 1, 1) := by decide +kernel
theorem dX9_tripTicks_6 : decode cX9_tripTicks 6 = .ok (.iconst 0, 1) := by decide +kernel
theorem dX9_tripTicks_7 : decode cX9_tripTicks 7 = .ok (.aload_n 0, 1) := by decide +kernel
theorem dX9_tripTicks_8 : decode cX9_tripTicks 8 = .ok (.getfield 7, 3) := by decide +kernel
theorem dX9_tripTicks_11 : decode cX9_tripTicks 11 = .ok (.bipush 7, 2) := by decide +kernel
theorem dX9_tripTicks_13 : decode cX9_tripTicks 13 = .ok (.iaload, 1) := by decide +kernel
theorem dX9_tripTicks_14 : decode cX9_tripTicks 14 = .ok (.iconst 1, 1) := by decide +kernel
theorem dX9_tripTicks_15 : decode cX9_tripTicks 15 = .ok (.isub, 1) := by decide +kernel
theorem dX9_tripTicks_16 : decode cX9_tripTicks 16 = .ok (.invokestatic 39, 3) := by decide +kernel
theorem dX9_tripTicks_19 : decode cX9_tripTicks 19 = .ok (.ifCond .eq 18, 3) := by decide +kernel
theorem dX9_tripTicks_22 : decode cX9_tripTicks 22 = .ok (.aload_n 0, 1) := by decide +kernel
theorem dX9_tripTicks_23 : decode cX9_tripTicks 23 = .ok (.getfield 7, 3) := by decide +kernel
theorem dX9_tripTicks_26 : decode cX9_tripTicks 26 = .ok (.sipush 207, 3) := by decide +kernel
theorem dX9_tripTicks_29 : decode cX9_tripTicks 29 = .ok (.iconst 2, 1) := by decide +kernel
theorem dX9_tripTicks_30 : decode cX9_tripTicks 30 = .ok (.iload_n 1, 1) := by decide +kernel
theorem dX9_tripTicks_31 : decode cX9_tripTicks 31 = .ok (.imul, 1) := by decide +kernel
theorem dX9_tripTicks_32 : decode cX9_tripTicks 32 = .ok (.iadd, 1) := by decide +kernel
theorem dX9_tripTicks_33 : decode cX9_tripTicks 33 = .ok (.iaload, 1) := by decide +kernel
theorem dX9_tripTicks_34 : decode cX9_tripTicks 34 = .ok (.goto 8, 3) := by decide +kernel
theorem dX9_tripTicks_37 : decode cX9_tripTicks 37 = .ok (.aload_n 0, 1) := by decide +kernel
theorem dX9_tripTicks_38 : decode cX9_tripTicks 38 = .ok (.iconst 1, 1) := by decide +kernel
theorem dX9_tripTicks_39 : decode cX9_tripTicks 39 = .ok (.invokevirtual 136, 3) := by decide +kernel
theorem dX9_tripTicks_42 : decode cX9_tripTicks 42 = .ok (.ireturn, 1) := by decide +kernel
set_option maxRecDepth 20000 in
theorem ggX9_wasFetch_X9_in : GoodIn wsX9_wasFetch wsX9_in := goodIn_r _ [6] rfl (by decide +kernel)
set_option maxRecDepth 20000 in
theorem gX9_wasFetch_X9_in : GoodIn wsX9_wasFetch (va_wsS RX9 39 yX9_in wsX9_in) := goodIn_app (goodIn_r _ [3, 4, 5] rfl (by decide +kernel)) ggX9_wasFetch_X9_in
set_option maxRecDepth 20000 in
theorem ggX9_wasFetch_X9_fails : GoodIn wsX9_wasFetch wsX9_fails := goodIn_r _ [10, 1, 11, 12, 13, 14, 15, 16, 17, 18, 19, 20, 21, 22, 23] rfl (by decide +kernel)
set_option maxRecDepth 20000 in
theorem gX9_wasFetch_X9_fails : GoodIn wsX9_wasFetch (wsV RX9 136 RX9 yX9_fails wsX9_fails) := goodIn_app (goodIn_r _ [7, 8, 9, 5] rfl (by decide +kernel)) ggX9_wasFetch_X9_fails
theorem dX9_wasFetch_0 : decode cX9_wasFetch 0 = .ok (.aload_n 0, 1) := by decide +kernel
theorem dX9_wasFetch_1 : decode cX9_wasFetch 1 = .ok (.iconst 0, 1) := by decide +kernel
theorem dX9_wasFetch_2 : decode cX9_wasFetch 2 = .ok (.putfield 35, 3) := by decide +kernel
theorem dX9_wasFetch_5 : decode cX9_wasFetch 5 = .ok (.iload_n 1, 1) := by decide +kernel
theorem dX9_wasFetch_6 : decode cX9_wasFetch 6 = .ok (.iconst 0, 1) := by decide +kernel
theorem dX9_wasFetch_7 : decode cX9_wasFetch 7 = .ok (.aload_n 0, 1) := by decide +kernel
theorem dX9_wasFetch_8 : decode cX9_wasFetch 8 = .ok (.getfield 7, 3) := by decide +kernel
theorem dX9_wasFetch_11 : decode cX9_wasFetch 11 = .ok (.bipush 7, 2) := by decide +kernel
theorem dX9_wasFetch_13 : decode cX9_wasFetch 13 = .ok (.iaload, 1) := by decide +kernel
theorem dX9_wasFetch_14 : decode cX9_wasFetch 14 = .ok (.iconst 1, 1) := by decide +kernel
theorem dX9_wasFetch_15 : decode cX9_wasFetch 15 = .ok (.isub, 1) := by decide +kernel
theorem dX9_wasFetch_16 : decode cX9_wasFetch 16 = .ok (.invokestatic 39, 3) := by decide +kernel
theorem dX9_wasFetch_19 : decode cX9_wasFetch 19 = .ok (.ifCond .eq 29, 3) := by decide +kernel
theorem dX9_wasFetch_22 : decode cX9_wasFetch 22 = .ok (.aload_n 0, 1) := by decide +kernel
theorem dX9_wasFetch_23 : decode cX9_wasFetch 23 = .ok (.getfield 7, 3) := by decide +kernel
theorem dX9_wasFetch_26 : decode cX9_wasFetch 26 = .ok (.sipush 207, 3) := by decide +kernel
theorem dX9_wasFetch_29 : decode cX9_wasFetch 29 = .ok (.iconst 2, 1) := by decide +kernel
theorem dX9_wasFetch_30 : decode cX9_wasFetch 30 = .ok (.iload_n 1, 1) := by decide +kernel
theorem dX9_wasFetch_31 : decode cX9_wasFetch 31 = .ok (.imul, 1) := by decide +kernel
theorem dX9_wasFetch_32 : decode cX9_wasFetch 32 = .ok (.iadd, 1) := by decide +kernel
theorem dX9_wasFetch_33 : decode cX9_wasFetch 33 = .ok (.iconst 1, 1) := by decide +kernel
theorem dX9_wasFetch_34 : decode cX9_wasFetch 34 = .ok (.iadd, 1) := by decide +kernel
theorem dX9_wasFetch_35 : decode cX9_wasFetch 35 = .ok (.iaload, 1) := by decide +kernel
theorem dX9_wasFetch_36 : decode cX9_wasFetch 36 = .ok (.iconst 1, 1) := by decide +kernel
theorem dX9_wasFetch_37 : decode cX9_wasFetch 37 = .ok (.if_icmp .ne 7, 3) := by decide +kernel
theorem dX9_wasFetch_40 : decode cX9_wasFetch 40 = .ok (.iconst 1, 1) := by decide +kernel
theorem dX9_wasFetch_41 : decode cX9_wasFetch 41 = .ok (.goto 20, 3) := by decide +kernel
theorem dX9_wasFetch_44 : decode cX9_wasFetch 44 = .ok (.iconst 0, 1) := by decide +kernel
theorem dX9_wasFetch_45 : decode cX9_wasFetch 45 = .ok (.goto 16, 3) := by decide +kernel
theorem dX9_wasFetch_48 : decode cX9_wasFetch 48 = .ok (.aload_n 0, 1) := by decide +kernel
theorem dX9_wasFetch_49 : decode cX9_wasFetch 49 = .ok (.iconst 1, 1) := by decide +kernel
theorem dX9_wasFetch_50 : decode cX9_wasFetch 50 = .ok (.invokevirtual 136, 3) := by decide +kernel
theorem dX9_wasFetch_53 : decode cX9_wasFetch 53 = .ok (.ifCond .le 7, 3) := by decide +kernel
theorem dX9_wasFetch_56 : decode cX9_wasFetch 56 = .ok (.iconst 1, 1) := by decide +kernel
theorem dX9_wasFetch_57 : decode cX9_wasFetch 57 = .ok (.goto 4, 3) := by decide +kernel
theorem dX9_wasFetch_60 : decode cX9_wasFetch 60 = .ok (.iconst 0, 1) := by decide +kernel
theorem dX9_wasFetch_61 : decode cX9_wasFetch 61 = .ok (.ireturn, 1) := by decide +kernel
set_option maxRecDepth 20000 in
theorem ggX9_weightOfKind_X9_isKind : GoodIn wsX9_weightOfKind wsX9_isKind := goodIn_r _ [6, 7, 8, 5, 9] rfl (by decide +kernel)
set_option maxRecDepth 20000 in
theorem gX9_weightOfKind_X9_isKind : GoodIn wsX9_weightOfKind (va_wsS RX9 157 yX9_isKind wsX9_isKind) := goodIn_app (goodIn_r _ [3, 4, 5] rfl (by decide +kernel)) ggX9_weightOfKind_X9_isKind
set_option maxRecDepth 20000 in
theorem ggX9_weightOfKind_X9_fails : GoodIn wsX9_weightOfKind wsX9_fails := goodIn_r _ [13, 1, 14, 15, 16, 17, 18, 19, 20, 21, 22, 23, 24, 25, 26] rfl (by decide +kernel)
set_option maxRecDepth 20000 in
theorem gX9_weightOfKind_X9_fails : GoodIn wsX9_weightOfKind (wsV RX9 136 RX9 yX9_fails wsX9_fails) := goodIn_app (goodIn_r _ [10, 11, 12, 5] rfl (by decide +kernel)) ggX9_weightOfKind_X9_fails
theorem dX9_weightOfKind_0 : decode cX9_weightOfKind 0 = .ok (.aload_n 0, 1) := by decide +kernel
theorem dX9_weightOfKind_1 : decode cX9_weightOfKind 1 = .ok (.iconst 0, 1) := by decide +kernel
theorem dX9_weightOfKind_2 : decode cX9_weightOfKind 2 = .ok (.putfield 35, 3) := by decide +kernel
theorem dX9_weightOfKind_5 : decode cX9_weightOfKind 5 = .ok (.iload_n 1, 1) := by decide +kernel
theorem dX9_weightOfKind_6 : decode cX9_weightOfKind 6 = .ok (.invokestatic 157, 3) := by decide +kernel
theorem dX9_weightOfKind_9 : decode cX9_weightOfKind 9 = .ok (.ifCond .eq 16, 3) := by decide +kernel
theorem dX9_weightOfKind_12 : decode cX9_weightOfKind 12 = .ok (.aload_n 0, 1) := by decide +kernel
theorem dX9_weightOfKind_13 : decode cX9_weightOfKind 13 = .ok (.getfield 7, 3) := by decide +kernel
theorem dX9_weightOfKind_16 : decode cX9_weightOfKind 16 = .ok (.sipush 177, 3) := by decide +kernel
theorem dX9_weightOfKind_19 : decode cX9_weightOfKind 19 = .ok (.iload_n 1, 1) := by decide +kernel
theorem dX9_weightOfKind_20 : decode cX9_weightOfKind 20 = .ok (.iadd, 1) := by decide +kernel
theorem dX9_weightOfKind_21 : decode cX9_weightOfKind 21 = .ok (.iaload, 1) := by decide +kernel
theorem dX9_weightOfKind_22 : decode cX9_weightOfKind 22 = .ok (.goto 8, 3) := by decide +kernel
theorem dX9_weightOfKind_25 : decode cX9_weightOfKind 25 = .ok (.aload_n 0, 1) := by decide +kernel
theorem dX9_weightOfKind_26 : decode cX9_weightOfKind 26 = .ok (.iconst 1, 1) := by decide +kernel
theorem dX9_weightOfKind_27 : decode cX9_weightOfKind 27 = .ok (.invokevirtual 136, 3) := by decide +kernel
theorem dX9_weightOfKind_30 : decode cX9_weightOfKind 30 = .ok (.ireturn, 1) := by decide +kernel
set_option maxRecDepth 20000 in
theorem ggX9_stockByShelves_X9_isKind : GoodIn wsX9_stockByShelves wsX9_isKind := goodIn_r _ [5, 6, 7, 4, 8] rfl (by decide +kernel)
set_option maxRecDepth 20000 in
theorem gX9_stockByShelves_X9_isKind : GoodIn wsX9_stockByShelves (va_wsS RX9 157 yX9_isKind wsX9_isKind) := goodIn_app (goodIn_r _ [2, 3, 4] rfl (by decide +kernel)) ggX9_stockByShelves_X9_isKind
set_option maxRecDepth 20000 in
theorem ggX9_stockByShelves_X9_stock : GoodIn wsX9_stockByShelves wsX9_stock := goodIn_r _ [12, 13, 14, 15, 16, 4, 17, 22, 23, 24, 25, 26, 27, 28, 29, 30, 31, 32, 33, 34] rfl (by decide +kernel)
set_option maxRecDepth 20000 in
theorem gX9_stockByShelves_X9_stock : GoodIn wsX9_stockByShelves (wsV RX9 84 RX9 yX9_stock wsX9_stock) := goodIn_app (goodIn_r _ [9, 10, 11, 4] rfl (by decide +kernel)) ggX9_stockByShelves_X9_stock
set_option maxRecDepth 20000 in
theorem ggX9_stockByShelves_X9_fails : GoodIn wsX9_stockByShelves wsX9_fails := goodIn_r _ [21, 1, 22, 23, 24, 25, 26, 27, 28, 29, 30, 31, 32, 33, 34] rfl (by decide +kernel)
set_option maxRecDepth 20000 in
theorem gX9_stockByShelves_X9_fails : GoodIn wsX9_stockByShelves (wsV RX9 136 RX9 yX9_fails wsX9_fails) := goodIn_app (goodIn_r _ [18, 19, 20, 4] rfl (by decide +kernel)) ggX9_stockByShelves_X9_fails
theorem dX9_stockByShelves_0 : decode cX9_stockByShelves 0 = .ok (.aload_n 0, 1) := by decide +kernel
theorem dX9_stockByShelves_1 : decode cX9_stockByShelves 1 = .ok (.iconst 0, 1) := by decide +kernel
theorem dX9_stockByShelves_2 : decode cX9_stockByShelves 2 = .ok (.putfield 35, 3) := by decide +kernel
theorem dX9_stockByShelves_5 : decode cX9_stockByShelves 5 = .ok (.iload_n 1, 1) := by decide +kernel
theorem dX9_stockByShelves_6 : decode cX9_stockByShelves 6 = .ok (.invokestatic 157, 3) := by decide +kernel
theorem dX9_stockByShelves_9 : decode cX9_stockByShelves 9 = .ok (.ifCond .eq 11, 3) := by decide +kernel
theorem dX9_stockByShelves_12 : decode cX9_stockByShelves 12 = .ok (.aload_n 0, 1) := by decide +kernel
theorem dX9_stockByShelves_13 : decode cX9_stockByShelves 13 = .ok (.iload_n 1, 1) := by decide +kernel
theorem dX9_stockByShelves_14 : decode cX9_stockByShelves 14 = .ok (.invokevirtual 84, 3) := by decide +kernel
theorem dX9_stockByShelves_17 : decode cX9_stockByShelves 17 = .ok (.goto 8, 3) := by decide +kernel
theorem dX9_stockByShelves_20 : decode cX9_stockByShelves 20 = .ok (.aload_n 0, 1) := by decide +kernel
theorem dX9_stockByShelves_21 : decode cX9_stockByShelves 21 = .ok (.iconst 1, 1) := by decide +kernel
theorem dX9_stockByShelves_22 : decode cX9_stockByShelves 22 = .ok (.invokevirtual 136, 3) := by decide +kernel
theorem dX9_stockByShelves_25 : decode cX9_stockByShelves 25 = .ok (.ireturn, 1) := by decide +kernel
set_option maxRecDepth 20000 in
theorem ggX9_stockByAccount_X9_isKind : GoodIn wsX9_stockByAccount wsX9_isKind := goodIn_r _ [6, 7, 8, 5, 9] rfl (by decide +kernel)
set_option maxRecDepth 20000 in
theorem gX9_stockByAccount_X9_isKind : GoodIn wsX9_stockByAccount (va_wsS RX9 157 yX9_isKind wsX9_isKind) := goodIn_app (goodIn_r _ [3, 4, 5] rfl (by decide +kernel)) ggX9_stockByAccount_X9_isKind
set_option maxRecDepth 20000 in
theorem ggX9_stockByAccount_X9_fails : GoodIn wsX9_stockByAccount wsX9_fails := goodIn_r _ [13, 1, 14, 15, 16, 17, 18, 19, 20, 21, 22, 23, 24, 25, 26] rfl (by decide +kernel)
set_option maxRecDepth 20000 in
theorem gX9_stockByAccount_X9_fails : GoodIn wsX9_stockByAccount (wsV RX9 136 RX9 yX9_fails wsX9_fails) := goodIn_app (goodIn_r _ [10, 11, 12, 5] rfl (by decide +kernel)) ggX9_stockByAccount_X9_fails
theorem dX9_stockByAccount_0 : decode cX9_stockByAccount 0 = .ok (.aload_n 0, 1) := by decide +kernel
theorem dX9_stockByAccount_1 : decode cX9_stockByAccount 1 = .ok (.iconst 0, 1) := by decide +kernel
theorem dX9_stockByAccount_2 : decode cX9_stockByAccount 2 = .ok (.putfield 35, 3) := by decide +kernel
theorem dX9_stockByAccount_5 : decode cX9_stockByAccount 5 = .ok (.iload_n 1, 1) := by decide +kernel
theorem dX9_stockByAccount_6 : decode cX9_stockByAccount 6 = .ok (.invokestatic 157, 3) := by decide +kernel
theorem dX9_stockByAccount_9 : decode cX9_stockByAccount 9 = .ok (.ifCond .eq 16, 3) := by decide +kernel
theorem dX9_stockByAccount_12 : decode cX9_stockByAccount 12 = .ok (.aload_n 0, 1) := by decide +kernel
theorem dX9_stockByAccount_13 : decode cX9_stockByAccount 13 = .ok (.getfield 7, 3) := by decide +kernel
theorem dX9_stockByAccount_16 : decode cX9_stockByAccount 16 = .ok (.sipush 197, 3) := by decide +kernel
theorem dX9_stockByAccount_19 : decode cX9_stockByAccount 19 = .ok (.iload_n 1, 1) := by decide +kernel
theorem dX9_stockByAccount_20 : decode cX9_stockByAccount 20 = .ok (.iadd, 1) := by decide +kernel
theorem dX9_stockByAccount_21 : decode cX9_stockByAccount 21 = .ok (.iaload, 1) := by decide +kernel
theorem dX9_stockByAccount_22 : decode cX9_stockByAccount 22 = .ok (.goto 8, 3) := by decide +kernel
theorem dX9_stockByAccount_25 : decode cX9_stockByAccount 25 = .ok (.aload_n 0, 1) := by decide +kernel
theorem dX9_stockByAccount_26 : decode cX9_stockByAccount 26 = .ok (.iconst 1, 1) := by decide +kernel
theorem dX9_stockByAccount_27 : decode cX9_stockByAccount 27 = .ok (.invokevirtual 136, 3) := by decide +kernel
theorem dX9_stockByAccount_30 : decode cX9_stockByAccount 30 = .ok (.ireturn, 1) := by decide +kernel
set_option maxRecDepth 20000 in
theorem ggX9_having_X9_of : GoodIn wsX9_having wsX9_of := goodIn_r _ [6, 1, 7, 8, 9, 10, 11, 12, 13, 14, 15, 16, 17, 18, 19] rfl (by decide +kernel)
set_option maxRecDepth 20000 in
theorem gX9_having_X9_of : GoodIn wsX9_having (wsV RX9 46 RX9 yX9_of wsX9_of) := goodIn_app (goodIn_r _ [2, 3, 4, 5] rfl (by decide +kernel)) ggX9_having_X9_of
theorem dX9_having_0 : decode cX9_having 0 = .ok (.iconst 0, 1) := by decide +kernel
theorem dX9_having_1 : decode cX9_having 1 = .ok (.istore_n 2, 1) := by decide +kernel
theorem dX9_having_2 : decode cX9_having 2 = .ok (.iconst 0, 1) := by decide +kernel
theorem dX9_having_3 : decode cX9_having 3 = .ok (.istore_n 3, 1) := by decide +kernel
theorem dX9_having_4 : decode cX9_having 4 = .ok (.iload_n 3, 1) := by decide +kernel
theorem dX9_having_5 : decode cX9_having 5 = .ok (.aload_n 0, 1) := by decide +kernel
theorem dX9_having_6 : decode cX9_having 6 = .ok (.getfield 7, 3) := by decide +kernel
theorem dX9_having_9 : decode cX9_having 9 = .ok (.iconst 0, 1) := by decide +kernel
theorem dX9_having_10 : decode cX9_having 10 = .ok (.iaload, 1) := by decide +kernel
theorem dX9_having_11 : decode cX9_having 11 = .ok (.if_icmp .ge 28, 3) := by decide +kernel
theorem dX9_having_14 : decode cX9_having 14 = .ok (.iload_n 2, 1) := by decide +kernel
theorem dX9_having_15 : decode cX9_having 15 = .ok (.aload_n 0, 1) := by decide +kernel
theorem dX9_having_16 : decode cX9_having 16 = .ok (.iload_n 3, 1) := by decide +kernel
theorem dX9_having_17 : decode cX9_having 17 = .ok (.iconst 4, 1) := by decide +kernel
theorem dX9_having_18 : decode cX9_having 18 = .ok (.iload_n 1, 1) := by decide +kernel
theorem dX9_having_19 : decode cX9_having 19 = .ok (.iadd, 1) := by decide +kernel
theorem dX9_having_20 : decode cX9_having 20 = .ok (.invokevirtual 46, 3) := by decide +kernel
theorem dX9_having_23 : decode cX9_having 23 = .ok (.ifCond .le 7, 3) := by decide +kernel
theorem dX9_having_26 : decode cX9_having 26 = .ok (.iconst 1, 1) := by decide +kernel
theorem dX9_having_27 : decode cX9_having 27 = .ok (.goto 4, 3) := by decide +kernel
theorem dX9_having_30 : decode cX9_having 30 = .ok (.iconst 0, 1) := by decide +kernel
theorem dX9_having_31 : decode cX9_having 31 = .ok (.iadd, 1) := by decide +kernel
theorem dX9_having_32 : decode cX9_having 32 = .ok (.istore_n 2, 1) := by decide +kernel
theorem dX9_having_33 : decode cX9_having 33 = .ok (.iinc 3 1, 3) := by decide +kernel
theorem dX9_having_36 : decode cX9_having 36 = .ok (.goto (-32), 3) := by decide +kernel
theorem dX9_having_39 : decode cX9_having 39 = .ok (.iload_n 2, 1) := by decide +kernel
theorem dX9_having_40 : decode cX9_having 40 = .ok (.ireturn, 1) := by decide +kernel
set_option maxRecDepth 20000 in
theorem ggX9_shelvesWith_X9_isKind : GoodIn wsX9_shelvesWith wsX9_isKind := goodIn_r _ [5, 6, 7, 4, 8] rfl (by decide +kernel)
set_option maxRecDepth 20000 in
theorem gX9_shelvesWith_X9_isKind : GoodIn wsX9_shelvesWith (va_wsS RX9 157 yX9_isKind wsX9_isKind) := goodIn_app (goodIn_r _ [2, 3, 4] rfl (by decide +kernel)) ggX9_shelvesWith_X9_isKind
set_option maxRecDepth 20000 in
theorem ggX9_shelvesWith_X9_having : GoodIn wsX9_shelvesWith wsX9_having := goodIn_r _ [12, 13, 14, 15, 16, 4, 17, 22, 23, 24, 25, 26, 27, 28, 29, 30, 31, 32, 33, 34] rfl (by decide +kernel)
set_option maxRecDepth 20000 in
theorem gX9_shelvesWith_X9_having : GoodIn wsX9_shelvesWith (wsV RX9 218 RX9 yX9_having wsX9_having) := goodIn_app (goodIn_r _ [9, 10, 11, 4] rfl (by decide +kernel)) ggX9_shelvesWith_X9_having
set_option maxRecDepth 20000 in
theorem ggX9_shelvesWith_X9_fails : GoodIn wsX9_shelvesWith wsX9_fails := goodIn_r _ [21, 1, 22, 23, 24, 25, 26, 27, 28, 29, 30, 31, 32, 33, 34] rfl (by decide +kernel)
set_option maxRecDepth 20000 in
theorem gX9_shelvesWith_X9_fails : GoodIn wsX9_shelvesWith (wsV RX9 136 RX9 yX9_fails wsX9_fails) := goodIn_app (goodIn_r _ [18, 19, 20, 4] rfl (by decide +kernel)) ggX9_shelvesWith_X9_fails
theorem dX9_shelvesWith_0 : decode cX9_shelvesWith 0 = .ok (.aload_n 0, 1) := by decide +kernel
theorem dX9_shelvesWith_1 : decode cX9_shelvesWith 1 = .ok (.iconst 0, 1) := by decide +kernel
theorem dX9_shelvesWith_2 : decode cX9_shelvesWith 2 = .ok (.putfield 35, 3) := by decide +kernel
theorem dX9_shelvesWith_5 : decode cX9_shelvesWith 5 = .ok (.iload_n 1, 1) := by decide +kernel
theorem dX9_shelvesWith_6 : decode cX9_shelvesWith 6 = .ok (.invokestatic 157, 3) := by decide +kernel
theorem dX9_shelvesWith_9 : decode cX9_shelvesWith 9 = .ok (.ifCond .eq 11, 3) := by decide +kernel
theorem dX9_shelvesWith_12 : decode cX9_shelvesWith 12 = .ok (.aload_n 0, 1) := by decide +kernel
theorem dX9_shelvesWith_13 : decode cX9_shelvesWith 13 = .ok (.iload_n 1, 1) := by decide +kernel
theorem dX9_shelvesWith_14 : decode cX9_shelvesWith 14 = .ok (.invokevirtual 218, 3) := by decide +kernel
theorem dX9_shelvesWith_17 : decode cX9_shelvesWith 17 = .ok (.goto 8, 3) := by decide +kernel
theorem dX9_shelvesWith_20 : decode cX9_shelvesWith 20 = .ok (.aload_n 0, 1) := by decide +kernel
theorem dX9_shelvesWith_21 : decode cX9_shelvesWith 21 = .ok (.iconst 1, 1) := by decide +kernel
theorem dX9_shelvesWith_22 : decode cX9_shelvesWith 22 = .ok (.invokevirtual 136, 3) := by decide +kernel
theorem dX9_shelvesWith_25 : decode cX9_shelvesWith 25 = .ok (.ireturn, 1) := by decide +kernel
set_option maxRecDepth 20000 in
theorem ggX9_leastOf_X9_isKind : GoodIn wsX9_leastOf wsX9_isKind := goodIn_r _ [6, 7, 8, 5, 9] rfl (by decide +kernel)
set_option maxRecDepth 20000 in
theorem gX9_leastOf_X9_isKind : GoodIn wsX9_leastOf (va_wsS RX9 157 yX9_isKind wsX9_isKind) := goodIn_app (goodIn_r _ [3, 4, 5] rfl (by decide +kernel)) ggX9_leastOf_X9_isKind
set_option maxRecDepth 20000 in
theorem ggX9_leastOf_X9_fails : GoodIn wsX9_leastOf wsX9_fails := goodIn_r _ [13, 1, 14, 15, 16, 17, 18, 19, 20, 21, 22, 23, 24, 25, 26] rfl (by decide +kernel)
set_option maxRecDepth 20000 in
theorem gX9_leastOf_X9_fails : GoodIn wsX9_leastOf (wsV RX9 136 RX9 yX9_fails wsX9_fails) := goodIn_app (goodIn_r _ [10, 11, 12, 5] rfl (by decide +kernel)) ggX9_leastOf_X9_fails
theorem dX9_leastOf_0 : decode cX9_leastOf 0 = .ok (.aload_n 0, 1) := by decide +kernel
theorem dX9_leastOf_1 : decode cX9_leastOf 1 = .ok (.iconst 0, 1) := by decide +kernel
theorem dX9_leastOf_2 : decode cX9_leastOf 2 = .ok (.putfield 35, 3) := by decide +kernel
theorem dX9_leastOf_5 : decode cX9_leastOf 5 = .ok (.iload_n 1, 1) := by decide +kernel
theorem dX9_leastOf_6 : decode cX9_leastOf 6 = .ok (.invokestatic 157, 3) := by decide +kernel
theorem dX9_leastOf_9 : decode cX9_leastOf 9 = .ok (.ifCond .eq 16, 3) := by decide +kernel
theorem dX9_leastOf_12 : decode cX9_leastOf 12 = .ok (.aload_n 0, 1) := by decide +kernel
theorem dX9_leastOf_13 : decode cX9_leastOf 13 = .ok (.getfield 7, 3) := by decide +kernel
theorem dX9_leastOf_16 : decode cX9_leastOf 16 = .ok (.sipush 187, 3) := by decide +kernel
theorem dX9_leastOf_19 : decode cX9_leastOf 19 = .ok (.iload_n 1, 1) := by decide +kernel
theorem dX9_leastOf_20 : decode cX9_leastOf 20 = .ok (.iadd, 1) := by decide +kernel
theorem dX9_leastOf_21 : decode cX9_leastOf 21 = .ok (.iaload, 1) := by decide +kernel
theorem dX9_leastOf_22 : decode cX9_leastOf 22 = .ok (.goto 8, 3) := by decide +kernel
theorem dX9_leastOf_25 : decode cX9_leastOf 25 = .ok (.aload_n 0, 1) := by decide +kernel
theorem dX9_leastOf_26 : decode cX9_leastOf 26 = .ok (.iconst 1, 1) := by decide +kernel
theorem dX9_leastOf_27 : decode cX9_leastOf 27 = .ok (.invokevirtual 136, 3) := by decide +kernel
theorem dX9_leastOf_30 : decode cX9_leastOf 30 = .ok (.ireturn, 1) := by decide +kernel
set_option maxRecDepth 20000 in
theorem ggX9_missingOf_X9_isKind : GoodIn wsX9_missingOf wsX9_isKind := goodIn_r _ [5, 6, 7, 4, 8] rfl (by decide +kernel)
set_option maxRecDepth 20000 in
theorem gX9_missingOf_X9_isKind : GoodIn wsX9_missingOf (va_wsS RX9 157 yX9_isKind wsX9_isKind) := goodIn_app (goodIn_r _ [2, 3, 4] rfl (by decide +kernel)) ggX9_missingOf_X9_isKind
set_option maxRecDepth 20000 in
theorem ggX9_missingOf_X9_missing : GoodIn wsX9_missingOf wsX9_missing := goodIn_r _ [12, 13, 14, 15, 16, 4, 17, 18, 19, 20, 21, 26, 27, 28, 29, 30, 31, 32, 33, 34, 35, 36, 37, 38] rfl (by decide +kernel)
set_option maxRecDepth 20000 in
theorem gX9_missingOf_X9_missing : GoodIn wsX9_missingOf (wsV RX9 221 RX9 yX9_missing wsX9_missing) := goodIn_app (goodIn_r _ [9, 10, 11, 4] rfl (by decide +kernel)) ggX9_missingOf_X9_missing
set_option maxRecDepth 20000 in
theorem ggX9_missingOf_X9_fails : GoodIn wsX9_missingOf wsX9_fails := goodIn_r _ [25, 1, 26, 27, 28, 29, 30, 31, 32, 33, 34, 35, 36, 37, 38] rfl (by decide +kernel)
set_option maxRecDepth 20000 in
theorem gX9_missingOf_X9_fails : GoodIn wsX9_missingOf (wsV RX9 136 RX9 yX9_fails wsX9_fails) := goodIn_app (goodIn_r _ [22, 23, 24, 4] rfl (by decide +kernel)) ggX9_missingOf_X9_fails
theorem dX9_missingOf_0 : decode cX9_missingOf 0 = .ok (.aload_n 0, 1) := by decide +kernel
theorem dX9_missingOf_1 : decode cX9_missingOf 1 = .ok (.iconst 0, 1) := by decide +kernel
theorem dX9_missingOf_2 : decode cX9_missingOf 2 = .ok (.putfield 35, 3) := by decide +kernel
theorem dX9_missingOf_5 : decode cX9_missingOf 5 = .ok (.iload_n 1, 1) := by decide +kernel
theorem dX9_missingOf_6 : decode cX9_missingOf 6 = .ok (.invokestatic 157, 3) := by decide +kernel
theorem dX9_missingOf_9 : decode cX9_missingOf 9 = .ok (.ifCond .eq 11, 3) := by decide +kernel
theorem dX9_missingOf_12 : decode cX9_missingOf 12 = .ok (.aload_n 0, 1) := by decide +kernel
theorem dX9_missingOf_13 : decode cX9_missingOf 13 = .ok (.iload_n 1, 1) := by decide +kernel
theorem dX9_missingOf_14 : decode cX9_missingOf 14 = .ok (.invokevirtual 221, 3) := by decide +kernel
theorem dX9_missingOf_17 : decode cX9_missingOf 17 = .ok (.goto 8, 3) := by decide +kernel
theorem dX9_missingOf_20 : decode cX9_missingOf 20 = .ok (.aload_n 0, 1) := by decide +kernel
theorem dX9_missingOf_21 : decode cX9_missingOf 21 = .ok (.iconst 1, 1) := by decide +kernel
theorem dX9_missingOf_22 : decode cX9_missingOf 22 = .ok (.invokevirtual 136, 3) := by decide +kernel
theorem dX9_missingOf_25 : decode cX9_missingOf 25 = .ok (.ireturn, 1) := by decide +kernel
set_option maxRecDepth 20000 in
theorem ggX9_lacking_X9_missing : GoodIn wsX9_lacking wsX9_missing := goodIn_r _ [5, 6, 7, 8, 9, 4, 10, 11, 12, 13, 14, 15, 16, 17, 18, 19, 20, 21, 22, 23, 24, 25, 26, 27] rfl (by decide +kernel)
set_option maxRecDepth 20000 in
theorem gX9_lacking_X9_missing : GoodIn wsX9_lacking (wsV RX9 221 RX9 yX9_missing wsX9_missing) := goodIn_app (goodIn_r _ [1, 2, 3, 4] rfl (by decide +kernel)) ggX9_lacking_X9_missing
theorem dX9_lacking_0 : decode cX9_lacking 0 = .ok (.iconst 0, 1) := by decide +kernel
theorem dX9_lacking_1 : decode cX9_lacking 1 = .ok (.istore_n 1, 1) := by decide +kernel
theorem dX9_lacking_2 : decode cX9_lacking 2 = .ok (.iconst 0, 1) := by decide +kernel
theorem dX9_lacking_3 : decode cX9_lacking 3 = .ok (.istore_n 2, 1) := by decide +kernel
theorem dX9_lacking_4 : decode cX9_lacking 4 = .ok (.iload_n 2, 1) := by decide +kernel
theorem dX9_lacking_5 : decode cX9_lacking 5 = .ok (.bipush 10, 2) := by decide +kernel
theorem dX9_lacking_7 : decode cX9_lacking 7 = .ok (.if_icmp .ge 27, 3) := by decide +kernel
theorem dX9_lacking_10 : decode cX9_lacking 10 = .ok (.iload_n 1, 1) := by decide +kernel
theorem dX9_lacking_11 : decode cX9_lacking 11 = .ok (.aload_n 0, 1) := by decide +kernel
theorem dX9_lacking_12 : decode cX9_lacking 12 = .ok (.iload_n 2, 1) := by decide +kernel
theorem dX9_lacking_13 : decode cX9_lacking 13 = .ok (.invokevirtual 221, 3) := by decide +kernel
theorem dX9_lacking_16 : decode cX9_lacking 16 = .ok (.ifCond .le 9, 3) := by decide +kernel
theorem dX9_lacking_19 : decode cX9_lacking 19 = .ok (.iconst 1, 1) := by decide +kernel
theorem dX9_lacking_20 : decode cX9_lacking 20 = .ok (.iload_n 2, 1) := by decide +kernel
theorem dX9_lacking_21 : decode cX9_lacking 21 = .ok (.ishl, 1) := by decide +kernel
theorem dX9_lacking_22 : decode cX9_lacking 22 = .ok (.goto 4, 3) := by decide +kernel
theorem dX9_lacking_25 : decode cX9_lacking 25 = .ok (.iconst 0, 1) := by decide +kernel
theorem dX9_lacking_26 : decode cX9_lacking 26 = .ok (.ior, 1) := by decide +kernel
theorem dX9_lacking_27 : decode cX9_lacking 27 = .ok (.istore_n 1, 1) := by decide +kernel
theorem dX9_lacking_28 : decode cX9_lacking 28 = .ok (.iinc 2 1, 3) := by decide +kernel
theorem dX9_lacking_31 : decode cX9_lacking 31 = .ok (.goto (-27), 3) := by decide +kernel
theorem dX9_lacking_34 : decode cX9_lacking 34 = .ok (.iload_n 1, 1) := by decide +kernel
theorem dX9_lacking_35 : decode cX9_lacking 35 = .ok (.ireturn, 1) := by decide +kernel
set_option maxRecDepth 20000 in
theorem ggX9_shortKinds_X9_lacking : GoodIn wsX9_shortKinds wsX9_lacking := goodIn_r _ [6, 7, 8, 9, 5, 10, 11, 12, 13, 14, 15, 16, 17, 18, 19, 20, 21, 22, 23, 24, 25, 26, 27, 28, 29, 30, 31, 32] rfl (by decide +kernel)
set_option maxRecDepth 20000 in
theorem gX9_shortKinds_X9_lacking : GoodIn wsX9_shortKinds (wsV RX9 224 RX9 yX9_lacking wsX9_lacking) := goodIn_app (goodIn_r _ [2, 3, 4, 5] rfl (by decide +kernel)) ggX9_shortKinds_X9_lacking
theorem dX9_shortKinds_0 : decode cX9_shortKinds 0 = .ok (.aload_n 0, 1) := by decide +kernel
theorem dX9_shortKinds_1 : decode cX9_shortKinds 1 = .ok (.iconst 0, 1) := by decide +kernel
theorem dX9_shortKinds_2 : decode cX9_shortKinds 2 = .ok (.putfield 35, 3) := by decide +kernel
theorem dX9_shortKinds_5 : decode cX9_shortKinds 5 = .ok (.aload_n 0, 1) := by decide +kernel
theorem dX9_shortKinds_6 : decode cX9_shortKinds 6 = .ok (.invokevirtual 224, 3) := by decide +kernel
theorem dX9_shortKinds_9 : decode cX9_shortKinds 9 = .ok (.ireturn, 1) := by decide +kernel
theorem dX9_orders_0 : decode cX9_orders 0 = .ok (.aload_n 0, 1) := by decide +kernel
theorem dX9_orders_1 : decode cX9_orders 1 = .ok (.iconst 0, 1) := by decide +kernel
theorem dX9_orders_2 : decode cX9_orders 2 = .ok (.putfield 35, 3) := by decide +kernel
theorem dX9_orders_5 : decode cX9_orders 5 = .ok (.aload_n 0, 1) := by decide +kernel
theorem dX9_orders_6 : decode cX9_orders 6 = .ok (.getfield 7, 3) := by decide +kernel
theorem dX9_orders_9 : decode cX9_orders 9 = .ok (.bipush 8, 2) := by decide +kernel
theorem dX9_orders_11 : decode cX9_orders 11 = .ok (.iaload, 1) := by decide +kernel
theorem dX9_orders_12 : decode cX9_orders 12 = .ok (.ireturn, 1) := by decide +kernel
set_option maxRecDepth 20000 in
theorem ggX9_wanted_X9_isOrder : GoodIn wsX9_wanted wsX9_isOrder := goodIn_r _ [6, 7, 8, 9, 5, 10, 22, 23, 24, 25, 26, 27, 28, 29, 30, 31, 32, 33, 34] rfl (by decide +kernel)
set_option maxRecDepth 20000 in
theorem gX9_wanted_X9_isOrder : GoodIn wsX9_wanted (wsV RX9 175 RX9 yX9_isOrder wsX9_isOrder) := goodIn_app (goodIn_r _ [2, 3, 4, 5] rfl (by decide +kernel)) ggX9_wanted_X9_isOrder
set_option maxRecDepth 20000 in
theorem ggX9_wanted_X9_isKind : GoodIn wsX9_wanted wsX9_isKind := goodIn_r _ [13, 8, 9, 5, 10] rfl (by decide +kernel)
set_option maxRecDepth 20000 in
theorem gX9_wanted_X9_isKind : GoodIn wsX9_wanted (va_wsS RX9 157 yX9_isKind wsX9_isKind) := goodIn_app (goodIn_r _ [11, 12, 5] rfl (by decide +kernel)) ggX9_wanted_X9_isKind
set_option maxRecDepth 20000 in
theorem ggX9_wanted_X9_wants : GoodIn wsX9_wanted wsX9_wants := goodIn_r _ [17, 7, 22, 23, 24, 25, 26, 27, 28, 29, 30, 31, 32, 33, 34] rfl (by decide +kernel)
set_option maxRecDepth 20000 in
theorem gX9_wanted_X9_wants : GoodIn wsX9_wanted (wsV RX9 87 RX9 yX9_wants wsX9_wants) := goodIn_app (goodIn_r _ [14, 15, 16, 5] rfl (by decide +kernel)) ggX9_wanted_X9_wants
set_option maxRecDepth 20000 in
theorem ggX9_wanted_X9_fails : GoodIn wsX9_wanted wsX9_fails := goodIn_r _ [21, 1, 22, 23, 24, 25, 26, 27, 28, 29, 30, 31, 32, 33, 34] rfl (by decide +kernel)
set_option maxRecDepth 20000 in
theorem gX9_wanted_X9_fails : GoodIn wsX9_wanted (wsV RX9 136 RX9 yX9_fails wsX9_fails) := goodIn_app (goodIn_r _ [18, 19, 20, 5] rfl (by decide +kernel)) ggX9_wanted_X9_fails
theorem dX9_wanted_0 : decode cX9_wanted 0 = .ok (.aload_n 0, 1) := by decide +kernel
theorem dX9_wanted_1 : decode cX9_wanted 1 = .ok (.iconst 0, 1) := by decide +kernel
theorem dX9_wanted_2 : decode cX9_wanted 2 = .ok (.putfield 35, 3) := by decide +kernel
theorem dX9_wanted_5 : decode cX9_wanted 5 = .ok (.aload_n 0, 1) := by decide +kernel
theorem dX9_wanted_6 : decode cX9_wanted 6 = .ok (.iload_n 1, 1) := by decide +kernel
theorem dX9_wanted_7 : decode cX9_wanted 7 = .ok (.invokevirtual 175, 3) := by decide +kernel
theorem dX9_wanted_10 : decode cX9_wanted 10 = .ok (.ifCond .eq 19, 3) := by decide +kernel
theorem dX9_wanted_13 : decode cX9_wanted 13 = .ok (.iload_n 2, 1) := by decide +kernel
theorem dX9_wanted_14 : decode cX9_wanted 14 = .ok (.invokestatic 157, 3) := by decide +kernel
theorem dX9_wanted_17 : decode cX9_wanted 17 = .ok (.ifCond .eq 12, 3) := by decide +kernel
theorem dX9_wanted_20 : decode cX9_wanted 20 = .ok (.aload_n 0, 1) := by decide +kernel
theorem dX9_wanted_21 : decode cX9_wanted 21 = .ok (.iload_n 1, 1) := by decide +kernel
theorem dX9_wanted_22 : decode cX9_wanted 22 = .ok (.iload_n 2, 1) := by decide +kernel
theorem dX9_wanted_23 : decode cX9_wanted 23 = .ok (.invokevirtual 87, 3) := by decide +kernel
theorem dX9_wanted_26 : decode cX9_wanted 26 = .ok (.goto 8, 3) := by decide +kernel
theorem dX9_wanted_29 : decode cX9_wanted 29 = .ok (.aload_n 0, 1) := by decide +kernel
theorem dX9_wanted_30 : decode cX9_wanted 30 = .ok (.iconst 1, 1) := by decide +kernel
theorem dX9_wanted_31 : decode cX9_wanted 31 = .ok (.invokevirtual 136, 3) := by decide +kernel
theorem dX9_wanted_34 : decode cX9_wanted 34 = .ok (.ireturn, 1) := by decide +kernel
set_option maxRecDepth 20000 in
theorem ggX9_thingsOf_X9_isOrder : GoodIn wsX9_thingsOf wsX9_isOrder := goodIn_r _ [6, 7, 8, 9, 5, 10, 23, 24, 25, 26, 27, 28, 29, 30, 31, 32, 33, 34, 35] rfl (by decide +kernel)
set_option maxRecDepth 20000 in
theorem gX9_thingsOf_X9_isOrder : GoodIn wsX9_thingsOf (wsV RX9 175 RX9 yX9_isOrder wsX9_isOrder) := goodIn_app (goodIn_r _ [2, 3, 4, 5] rfl (by decide +kernel)) ggX9_thingsOf_X9_isOrder
set_option maxRecDepth 20000 in
theorem ggX9_thingsOf_X9_wantedMany : GoodIn wsX9_thingsOf wsX9_wantedMany := goodIn_r _ [14, 15, 16, 17, 5, 18, 7, 23, 24, 25, 26, 27, 28, 29, 30, 31, 32, 33, 34, 35] rfl (by decide +kernel)
set_option maxRecDepth 20000 in
theorem gX9_thingsOf_X9_wantedMany : GoodIn wsX9_thingsOf (wsV RX9 178 RX9 yX9_wantedMany wsX9_wantedMany) := goodIn_app (goodIn_r _ [11, 12, 13, 5] rfl (by decide +kernel)) ggX9_thingsOf_X9_wantedMany
set_option maxRecDepth 20000 in
theorem ggX9_thingsOf_X9_fails : GoodIn wsX9_thingsOf wsX9_fails := goodIn_r _ [22, 1, 23, 24, 25, 26, 27, 28, 29, 30, 31, 32, 33, 34, 35] rfl (by decide +kernel)
set_option maxRecDepth 20000 in
theorem gX9_thingsOf_X9_fails : GoodIn wsX9_thingsOf (wsV RX9 136 RX9 yX9_fails wsX9_fails) := goodIn_app (goodIn_r _ [19, 20, 21, 5] rfl (by decide +kernel)) ggX9_thingsOf_X9_fails
theorem dX9_thingsOf_0 : decode cX9_thingsOf 0 = .ok (.aload_n 0, 1) := by decide +kernel
theorem dX9_thingsOf_1 : decode cX9_thingsOf 1 = .ok (.iconst 0, 1) := by decide +kernel
theorem dX9_thingsOf_2 : decode cX9_thingsOf 2 = .ok (.putfield 35, 3) := by decide +kernel
theorem dX9_thingsOf_5 : decode cX9_thingsOf 5 = .ok (.aload_n 0, 1) := by decide +kernel
theorem dX9_thingsOf_6 : decode cX9_thingsOf 6 = .ok (.iload_n 1, 1) := by decide +kernel
theorem dX9_thingsOf_7 : decode cX9_thingsOf 7 = .ok (.invokevirtual 175, 3) := by decide +kernel
theorem dX9_thingsOf_10 : decode cX9_thingsOf 10 = .ok (.ifCond .eq 11, 3) := by decide +kernel
theorem dX9_thingsOf_13 : decode cX9_thingsOf 13 = .ok (.aload_n 0, 1) := by decide +kernel
theorem dX9_thingsOf_14 : decode cX9_thingsOf 14 = .ok (.iload_n 1, 1) := by decide +kernel
theorem dX9_thingsOf_15 : decode cX9_thingsOf 15 = .ok (.invokevirtual 178, 3) := by decide +kernel
theorem dX9_thingsOf_18 : decode cX9_thingsOf 18 = .ok (.goto 8, 3) := by decide +kernel
theorem dX9_thingsOf_21 : decode cX9_thingsOf 21 = .ok (.aload_n 0, 1) := by decide +kernel
theorem dX9_thingsOf_22 : decode cX9_thingsOf 22 = .ok (.iconst 1, 1) := by decide +kernel
theorem dX9_thingsOf_23 : decode cX9_thingsOf 23 = .ok (.invokevirtual 136, 3) := by decide +kernel
theorem dX9_thingsOf_26 : decode cX9_thingsOf 26 = .ok (.ireturn, 1) := by decide +kernel
set_option maxRecDepth 20000 in
theorem ggX9_canServe_X9_isOrder : GoodIn wsX9_canServe wsX9_isOrder := goodIn_r _ [6, 7, 8, 9, 5, 10, 31, 32, 33, 34, 35, 36, 37, 38, 39, 40, 41, 42, 43] rfl (by decide +kernel)
set_option maxRecDepth 20000 in
theorem gX9_canServe_X9_isOrder : GoodIn wsX9_canServe (wsV RX9 175 RX9 yX9_isOrder wsX9_isOrder) := goodIn_app (goodIn_r _ [2, 3, 4, 5] rfl (by decide +kernel)) ggX9_canServe_X9_isOrder
set_option maxRecDepth 20000 in
theorem ggX9_canServe_X9_canBe : GoodIn wsX9_canServe wsX9_canBe := goodIn_r _ [14, 15, 16, 17, 5, 18, 7, 19, 20, 21, 22, 23, 24, 25, 26, 31, 32, 33, 34, 35, 36, 37, 38, 39, 40, 41, 42, 43] rfl (by decide +kernel)
set_option maxRecDepth 20000 in
theorem gX9_canServe_X9_canBe : GoodIn wsX9_canServe (wsV RX9 90 RX9 yX9_canBe wsX9_canBe) := goodIn_app (goodIn_r _ [11, 12, 13, 5] rfl (by decide +kernel)) ggX9_canServe_X9_canBe
set_option maxRecDepth 20000 in
theorem ggX9_canServe_X9_fails : GoodIn wsX9_canServe wsX9_fails := goodIn_r _ [30, 1, 31, 32, 33, 34, 35, 36, 37, 38, 39, 40, 41, 42, 43] rfl (by decide +kernel)
set_option maxRecDepth 20000 in
theorem gX9_canServe_X9_fails : GoodIn wsX9_canServe (wsV RX9 136 RX9 yX9_fails wsX9_fails) := goodIn_app (goodIn_r _ [27, 28, 29, 5] rfl (by decide +kernel)) ggX9_canServe_X9_fails
theorem dX9_canServe_0 : decode cX9_canServe 0 = .ok (.aload_n 0, 1) := by decide +kernel
theorem dX9_canServe_1 : decode cX9_canServe 1 = .ok (.iconst 0, 1) := by decide +kernel
theorem dX9_canServe_2 : decode cX9_canServe 2 = .ok (.putfield 35, 3) := by decide +kernel
theorem dX9_canServe_5 : decode cX9_canServe 5 = .ok (.aload_n 0, 1) := by decide +kernel
theorem dX9_canServe_6 : decode cX9_canServe 6 = .ok (.iload_n 1, 1) := by decide +kernel
theorem dX9_canServe_7 : decode cX9_canServe 7 = .ok (.invokevirtual 175, 3) := by decide +kernel
theorem dX9_canServe_10 : decode cX9_canServe 10 = .ok (.ifCond .eq 11, 3) := by decide +kernel
theorem dX9_canServe_13 : decode cX9_canServe 13 = .ok (.aload_n 0, 1) := by decide +kernel
theorem dX9_canServe_14 : decode cX9_canServe 14 = .ok (.iload_n 1, 1) := by decide +kernel
theorem dX9_canServe_15 : decode cX9_canServe 15 = .ok (.invokevirtual 90, 3) := by decide +kernel
theorem dX9_canServe_18 : decode cX9_canServe 18 = .ok (.goto 16, 3) := by decide +kernel
theorem dX9_canServe_21 : decode cX9_canServe 21 = .ok (.aload_n 0, 1) := by decide +kernel
theorem dX9_canServe_22 : decode cX9_canServe 22 = .ok (.iconst 1, 1) := by decide +kernel
theorem dX9_canServe_23 : decode cX9_canServe 23 = .ok (.invokevirtual 136, 3) := by decide +kernel
theorem dX9_canServe_26 : decode cX9_canServe 26 = .ok (.ifCond .le 7, 3) := by decide +kernel
theorem dX9_canServe_29 : decode cX9_canServe 29 = .ok (.iconst 1, 1) := by decide +kernel
theorem dX9_canServe_30 : decode cX9_canServe 30 = .ok (.goto 4, 3) := by decide +kernel
theorem dX9_canServe_33 : decode cX9_canServe 33 = .ok (.iconst 0, 1) := by decide +kernel
theorem dX9_canServe_34 : decode cX9_canServe 34 = .ok (.ireturn, 1) := by decide +kernel
set_option maxRecDepth 20000 in
theorem ggX9_tellsChoice_X9_isOrder : GoodIn wsX9_tellsChoice wsX9_isOrder := goodIn_r _ [6, 7, 8, 9, 5, 10, 42, 43, 44, 45, 46, 47, 48, 49, 50, 51, 52, 53, 54] rfl (by decide +kernel)
set_option maxRecDepth 20000 in
theorem gX9_tellsChoice_X9_isOrder : GoodIn wsX9_tellsChoice (wsV RX9 175 RX9 yX9_isOrder wsX9_isOrder) := goodIn_app (goodIn_r _ [2, 3, 4, 5] rfl (by decide +kernel)) ggX9_tellsChoice_X9_isOrder
set_option maxRecDepth 20000 in
theorem ggX9_tellsChoice_X9_fails : GoodIn wsX9_tellsChoice wsX9_fails := goodIn_r _ [14, 1, 42, 43, 44, 45, 46, 47, 48, 49, 50, 51, 52, 53, 54] rfl (by decide +kernel)
set_option maxRecDepth 20000 in
theorem gX9_tellsChoice_X9_fails : GoodIn wsX9_tellsChoice (wsV RX9 136 RX9 yX9_fails wsX9_fails) := goodIn_app (goodIn_r _ [11, 12, 13, 5] rfl (by decide +kernel)) ggX9_tellsChoice_X9_fails
set_option maxRecDepth 20000 in
theorem ggX9_tellsChoice_X9_canBe : GoodIn wsX9_tellsChoice wsX9_canBe := goodIn_r _ [18, 19, 20, 21, 5, 22, 7, 23, 24, 25, 26, 27, 28, 29, 30, 42, 43, 44, 45, 46, 47, 48, 49, 50, 51, 52, 53, 54] rfl (by decide +kernel)
set_option maxRecDepth 20000 in
theorem gX9_tellsChoice_X9_canBe : GoodIn wsX9_tellsChoice (wsV RX9 90 RX9 yX9_canBe wsX9_canBe) := goodIn_app (goodIn_r _ [15, 16, 17, 5] rfl (by decide +kernel)) ggX9_tellsChoice_X9_canBe
set_option maxRecDepth 20000 in
theorem ggX9_tellsChoice_X9_chosen : GoodIn wsX9_tellsChoice wsX9_chosen := goodIn_r _ [34, 7, 15, 16, 17, 5, 18, 19, 20, 21, 22, 23, 24, 25, 26, 27, 28, 29, 30, 35, 36, 37, 38, 39, 40, 41, 42, 43, 44, 45, 46, 47, 48, 49, 50, 51, 52, 53, 54] rfl (by decide +kernel)
set_option maxRecDepth 20000 in
theorem gX9_tellsChoice_X9_chosen : GoodIn wsX9_tellsChoice (wsV RX9 100 RX9 yX9_chosen wsX9_chosen) := goodIn_app (goodIn_r _ [31, 32, 33, 5] rfl (by decide +kernel)) ggX9_tellsChoice_X9_chosen
theorem dX9_tellsChoice_0 : decode cX9_tellsChoice 0 = .ok (.aload_n 0, 1) := by decide +kernel
theorem dX9_tellsChoice_1 : decode cX9_tellsChoice 1 = .ok (.iconst 0, 1) := by decide +kernel
theorem dX9_tellsChoice_2 : decode cX9_tellsChoice 2 = .ok (.putfield 35, 3) := by decide +kernel
theorem dX9_tellsChoice_5 : decode cX9_tellsChoice 5 = .ok (.aload_n 0, 1) := by decide +kernel
theorem dX9_tellsChoice_6 : decode cX9_tellsChoice 6 = .ok (.iload_n 1, 1) := by decide +kernel
theorem dX9_tellsChoice_7 : decode cX9_tellsChoice 7 = .ok (.invokevirtual 175, 3) := by decide +kernel
theorem dX9_tellsChoice_10 : decode cX9_tellsChoice 10 = .ok (.ifCond .ne 9, 3) := by decide +kernel
theorem dX9_tellsChoice_13 : decode cX9_tellsChoice 13 = .ok (.aload_n 0, 1) := by decide +kernel
theorem dX9_tellsChoice_14 : decode cX9_tellsChoice 14 = .ok (.iconst 1, 1) := by decide +kernel
theorem dX9_tellsChoice_15 : decode cX9_tellsChoice 15 = .ok (.invokevirtual 136, 3) := by decide +kernel
theorem dX9_tellsChoice_18 : decode cX9_tellsChoice 18 = .ok (.ireturn, 1) := by decide +kernel
theorem dX9_tellsChoice_19 : decode cX9_tellsChoice 19 = .ok (.aload_n 0, 1) := by decide +kernel
theorem dX9_tellsChoice_20 : decode cX9_tellsChoice 20 = .ok (.iload_n 1, 1) := by decide +kernel
theorem dX9_tellsChoice_21 : decode cX9_tellsChoice 21 = .ok (.invokevirtual 90, 3) := by decide +kernel
theorem dX9_tellsChoice_24 : decode cX9_tellsChoice 24 = .ok (.ifCond .eq 11, 3) := by decide +kernel
theorem dX9_tellsChoice_27 : decode cX9_tellsChoice 27 = .ok (.aload_n 0, 1) := by decide +kernel
theorem dX9_tellsChoice_28 : decode cX9_tellsChoice 28 = .ok (.iload_n 1, 1) := by decide +kernel
theorem dX9_tellsChoice_29 : decode cX9_tellsChoice 29 = .ok (.invokevirtual 100, 3) := by decide +kernel
theorem dX9_tellsChoice_32 : decode cX9_tellsChoice 32 = .ok (.goto 8, 3) := by decide +kernel
theorem dX9_tellsChoice_35 : decode cX9_tellsChoice 35 = .ok (.aload_n 0, 1) := by decide +kernel
theorem dX9_tellsChoice_36 : decode cX9_tellsChoice 36 = .ok (.iconst 2, 1) := by decide +kernel
theorem dX9_tellsChoice_37 : decode cX9_tellsChoice 37 = .ok (.invokevirtual 136, 3) := by decide +kernel
theorem dX9_tellsChoice_40 : decode cX9_tellsChoice 40 = .ok (.ireturn, 1) := by decide +kernel
set_option maxRecDepth 20000 in
theorem ggX9_fewestByTrying_X9_tellsChoice : GoodIn wsX9_fewestByTrying wsX9_tellsChoice := goodIn_r _ [5, 6, 7, 8, 9, 4, 10, 11, 12, 13, 14, 15, 16, 17, 18, 19, 20, 21, 22, 23, 24, 25, 26, 27, 28, 29, 30, 31, 32, 33, 34, 35, 36, 37, 38, 39, 40, 41, 42, 43, 44, 45, 46, 47, 48, 49, 50, 51, 52, 53, 54, 55, 56, 57, 58] rfl (by decide +kernel)
set_option maxRecDepth 20000 in
theorem gX9_fewestByTrying_X9_tellsChoice : GoodIn wsX9_fewestByTrying (wsV RX9 227 RX9 yX9_tellsChoice wsX9_tellsChoice) := goodIn_app (goodIn_r _ [1, 2, 3, 4] rfl (by decide +kernel)) ggX9_fewestByTrying_X9_tellsChoice
set_option maxRecDepth 20000 in
theorem ggX9_fewestByTrying_X9_bits : GoodIn wsX9_fewestByTrying wsX9_bits := goodIn_r _ [41] rfl (by decide +kernel)
set_option maxRecDepth 20000 in
theorem gX9_fewestByTrying_X9_bits : GoodIn wsX9_fewestByTrying (va_wsS RX9 94 yX9_bits wsX9_bits) := goodIn_app (goodIn_r _ [39, 40, 4] rfl (by decide +kernel)) ggX9_fewestByTrying_X9_bits
theorem dX9_fewestByTrying_0 : decode cX9_fewestByTrying 0 = .ok (.aload_n 0, 1) := by decide +kernel
theorem dX9_fewestByTrying_1 : decode cX9_fewestByTrying 1 = .ok (.iload_n 1, 1) := by decide +kernel
theorem dX9_fewestByTrying_2 : decode cX9_fewestByTrying 2 = .ok (.invokevirtual 227, 3) := by decide +kernel
theorem dX9_fewestByTrying_5 : decode cX9_fewestByTrying 5 = .ok (.invokestatic 94, 3) := by decide +kernel
theorem dX9_fewestByTrying_8 : decode cX9_fewestByTrying 8 = .ok (.ireturn, 1) := by decide +kernel
set_option maxRecDepth 20000 in
theorem ggX9_fewestByGoing_X9_tellsChoice : GoodIn wsX9_fewestByGoing wsX9_tellsChoice := goodIn_r _ [5, 6, 7, 8, 9, 4, 10, 11, 12, 13, 14, 15, 16, 17, 18, 19, 20, 21, 22, 23, 24, 25, 26, 27, 28, 29, 30, 31, 32, 33, 34, 35, 36, 37, 38, 39, 40, 41, 42, 43, 44, 45, 46, 47, 48, 49, 50, 51, 52, 53, 54, 55, 56, 57, 58] rfl (by decide +kernel)
set_option maxRecDepth 20000 in
theorem gX9_fewestByGoing_X9_tellsChoice : GoodIn wsX9_fewestByGoing (wsV RX9 227 RX9 yX9_tellsChoice wsX9_tellsChoice) := goodIn_app (goodIn_r _ [1, 2, 3, 4] rfl (by decide +kernel)) ggX9_fewestByGoing_X9_tellsChoice
set_option maxRecDepth 20000 in
theorem ggX9_fewestByGoing_X9_bits : GoodIn wsX9_fewestByGoing wsX9_bits := goodIn_r _ [41] rfl (by decide +kernel)
set_option maxRecDepth 20000 in
theorem gX9_fewestByGoing_X9_bits : GoodIn wsX9_fewestByGoing (va_wsS RX9 94 yX9_bits wsX9_bits) := goodIn_app (goodIn_r _ [39, 40, 4] rfl (by decide +kernel)) ggX9_fewestByGoing_X9_bits
theorem dX9_fewestByGoing_0 : decode cX9_fewestByGoing 0 = .ok (.aload_n 0, 1) := by decide +kernel
theorem dX9_fewestByGoing_1 : decode cX9_fewestByGoing 1 = .ok (.iload_n 1, 1) := by decide +kernel
theorem dX9_fewestByGoing_2 : decode cX9_fewestByGoing 2 = .ok (.invokevirtual 227, 3) := by decide +kernel
theorem dX9_fewestByGoing_5 : decode cX9_fewestByGoing 5 = .ok (.invokestatic 94, 3) := by decide +kernel
theorem dX9_fewestByGoing_8 : decode cX9_fewestByGoing 8 = .ok (.ireturn, 1) := by decide +kernel
set_option maxRecDepth 20000 in
theorem ggX9_choiceFor_X9_tellsChoice : GoodIn wsX9_choiceFor wsX9_tellsChoice := goodIn_r _ [5, 6, 7, 8, 9, 4, 10, 11, 12, 13, 14, 15, 16, 17, 18, 19, 20, 21, 22, 23, 24, 25, 26, 27, 28, 29, 30, 31, 32, 33, 34, 35, 36, 37, 38, 39, 40, 41, 42, 43, 44, 45, 46, 47, 48, 49, 50, 51, 52, 53, 54, 55, 56, 57, 58] rfl (by decide +kernel)
set_option maxRecDepth 20000 in
theorem gX9_choiceFor_X9_tellsChoice : GoodIn wsX9_choiceFor (wsV RX9 227 RX9 yX9_tellsChoice wsX9_tellsChoice) := goodIn_app (goodIn_r _ [1, 2, 3, 4] rfl (by decide +kernel)) ggX9_choiceFor_X9_tellsChoice
theorem dX9_choiceFor_0 : decode cX9_choiceFor 0 = .ok (.aload_n 0, 1) := by decide +kernel
theorem dX9_choiceFor_1 : decode cX9_choiceFor 1 = .ok (.iload_n 1, 1) := by decide +kernel
theorem dX9_choiceFor_2 : decode cX9_choiceFor 2 = .ok (.invokevirtual 227, 3) := by decide +kernel
theorem dX9_choiceFor_5 : decode cX9_choiceFor 5 = .ok (.ireturn, 1) := by decide +kernel
set_option maxRecDepth 20000 in
theorem ggX9_ticksByServing_X9_isOrder : GoodIn wsX9_ticksByServing wsX9_isOrder := goodIn_r _ [6, 7, 8, 9, 5, 10, 116, 117, 118, 119, 120, 121, 122, 123, 124, 125, 126, 127, 128] rfl (by decide +kernel)
set_option maxRecDepth 20000 in
theorem gX9_ticksByServing_X9_isOrder : GoodIn wsX9_ticksByServing (wsV RX9 175 RX9 yX9_isOrder wsX9_isOrder) := goodIn_app (goodIn_r _ [2, 3, 4, 5] rfl (by decide +kernel)) ggX9_ticksByServing_X9_isOrder
set_option maxRecDepth 20000 in
theorem ggX9_ticksByServing_X9_fails : GoodIn wsX9_ticksByServing wsX9_fails := goodIn_r _ [14, 1, 116, 117, 118, 119, 120, 121, 122, 123, 124, 125, 126, 127, 128] rfl (by decide +kernel)
set_option maxRecDepth 20000 in
theorem gX9_ticksByServing_X9_fails : GoodIn wsX9_ticksByServing (wsV RX9 136 RX9 yX9_fails wsX9_fails) := goodIn_app (goodIn_r _ [11, 12, 13, 5] rfl (by decide +kernel)) ggX9_ticksByServing_X9_fails
set_option maxRecDepth 20000 in
theorem ggX9_ticksByServing_X9_hasWindow : GoodIn wsX9_ticksByServing wsX9_hasWindow := goodIn_r _ [18, 7, 116, 117, 118, 119, 120, 121, 122, 123, 124, 125, 126, 127, 128] rfl (by decide +kernel)
set_option maxRecDepth 20000 in
theorem gX9_ticksByServing_X9_hasWindow : GoodIn wsX9_ticksByServing (wsV RX9 129 RX9 yX9_hasWindow wsX9_hasWindow) := goodIn_app (goodIn_r _ [15, 16, 17, 5] rfl (by decide +kernel)) ggX9_ticksByServing_X9_hasWindow
set_option maxRecDepth 20000 in
theorem ggX9_ticksByServing_X9_canBe : GoodIn wsX9_ticksByServing wsX9_canBe := goodIn_r _ [22, 23, 24, 25, 5, 26, 7, 27, 28, 29, 30, 31, 32, 33, 34, 116, 117, 118, 119, 120, 121, 122, 123, 124, 125, 126, 127, 128] rfl (by decide +kernel)
set_option maxRecDepth 20000 in
theorem gX9_ticksByServing_X9_canBe : GoodIn wsX9_ticksByServing (wsV RX9 90 RX9 yX9_canBe wsX9_canBe) := goodIn_app (goodIn_r _ [19, 20, 21, 5] rfl (by decide +kernel)) ggX9_ticksByServing_X9_canBe
set_option maxRecDepth 20000 in
theorem ggX9_ticksByServing_X9_servesAside : GoodIn wsX9_ticksByServing wsX9_servesAside := goodIn_r _ [38, 39, 40, 41, 5, 42, 43, 7, 44, 45, 46, 47, 48, 49, 50, 51, 52, 19, 20, 21, 22, 23, 24, 25, 26, 27, 28, 29, 30, 31, 32, 33, 34, 53, 54, 55, 56, 57, 58, 59, 60, 61, 62, 63, 64, 65, 66, 67, 68, 69, 70, 71, 72, 73, 74, 75, 76, 77, 78, 79, 80, 81, 82, 83, 84, 85, 86, 87, 88, 89, 90, 91, 92, 93, 94, 95, 96, 97, 98, 99, 8, 9, 10, 100, 101, 102, 103, 104, 105, 106, 107, 108, 109, 110, 111, 112, 113, 114, 115, 116, 117, 118, 119, 120, 121, 122, 123, 124, 125, 126, 127, 128] rfl (by decide +kernel)
set_option maxRecDepth 20000 in
theorem gX9_ticksByServing_X9_servesAside : GoodIn wsX9_ticksByServing (wsV RX9 133 RX9 yX9_servesAside wsX9_servesAside) := goodIn_app (goodIn_r _ [35, 36, 37, 5] rfl (by decide +kernel)) ggX9_ticksByServing_X9_servesAside
theorem dX9_ticksByServing_0 : decode cX9_ticksByServing 0 = .ok (.aload_n 0, 1) := by decide +kernel
theorem dX9_ticksByServing_1 : decode cX9_ticksByServing 1 = .ok (.iconst 0, 1) := by decide +kernel
theorem dX9_ticksByServing_2 : decode cX9_ticksByServing 2 = .ok (.putfield 35, 3) := by decide +kernel
theorem dX9_ticksByServing_5 : decode cX9_ticksByServing 5 = .ok (.aload_n 0, 1) := by decide +kernel
theorem dX9_ticksByServing_6 : decode cX9_ticksByServing 6 = .ok (.iload_n 1, 1) := by decide +kernel
theorem dX9_ticksByServing_7 : decode cX9_ticksByServing 7 = .ok (.invokevirtual 175, 3) := by decide +kernel
theorem dX9_ticksByServing_10 : decode cX9_ticksByServing 10 = .ok (.ifCond .ne 9, 3) := by decide +kernel
theorem dX9_ticksByServing_13 : decode cX9_ticksByServing 13 = .ok (.aload_n 0, 1) := by decide +kernel
theorem dX9_ticksByServing_14 : decode cX9_ticksByServing 14 = .ok (.iconst 1, 1) := by decide +kernel
theorem dX9_ticksByServing_15 : decode cX9_ticksByServing 15 = .ok (.invokevirtual 136, 3) := by decide +kernel
theorem dX9_ticksByServing_18 : decode cX9_ticksByServing 18 = .ok (.ireturn, 1) := by decide +kernel
theorem dX9_ticksByServing_19 : decode cX9_ticksByServing 19 = .ok (.aload_n 0, 1) := by decide +kernel
theorem dX9_ticksByServing_20 : decode cX9_ticksByServing 20 = .ok (.invokevirtual 129, 3) := by decide +kernel
theorem dX9_ticksByServing_23 : decode cX9_ticksByServing 23 = .ok (.ifCond .ne 11, 3) := by decide +kernel
theorem dX9_ticksByServing_26 : decode cX9_ticksByServing 26 = .ok (.aload_n 0, 1) := by decide +kernel
theorem dX9_ticksByServing_27 : decode cX9_ticksByServing 27 = .ok (.iload_n 1, 1) := by decide +kernel
theorem dX9_ticksByServing_28 : decode cX9_ticksByServing 28 = .ok (.invokevirtual 90, 3) := by decide +kernel
theorem dX9_ticksByServing_31 : decode cX9_ticksByServing 31 = .ok (.ifCond .ne 11, 3) := by decide +kernel
theorem dX9_ticksByServing_34 : decode cX9_ticksByServing 34 = .ok (.aload_n 0, 1) := by decide +kernel
theorem dX9_ticksByServing_35 : decode cX9_ticksByServing 35 = .ok (.iconst 2, 1) := by decide +kernel
theorem dX9_ticksByServing_36 : decode cX9_ticksByServing 36 = .ok (.invokevirtual 136, 3) := by decide +kernel
theorem dX9_ticksByServing_39 : decode cX9_ticksByServing 39 = .ok (.goto 8, 3) := by decide +kernel
theorem dX9_ticksByServing_42 : decode cX9_ticksByServing 42 = .ok (.aload_n 0, 1) := by decide +kernel
theorem dX9_ticksByServing_43 : decode cX9_ticksByServing 43 = .ok (.iload_n 1, 1) := by decide +kernel
theorem dX9_ticksByServing_44 : decode cX9_ticksByServing 44 = .ok (.invokevirtual 133, 3) := by decide +kernel
theorem dX9_ticksByServing_47 : decode cX9_ticksByServing 47 = .ok (.ireturn, 1) := by decide +kernel
set_option maxRecDepth 20000 in
theorem ggX9_ticksBySums_X9_isOrder : GoodIn wsX9_ticksBySums wsX9_isOrder := goodIn_r _ [7, 2, 8, 9, 6, 10, 116, 117, 118, 119, 120, 121, 122, 123, 124, 125, 126, 127, 128] rfl (by decide +kernel)
set_option maxRecDepth 20000 in
theorem gX9_ticksBySums_X9_isOrder : GoodIn wsX9_ticksBySums (wsV RX9 175 RX9 yX9_isOrder wsX9_isOrder) := goodIn_app (goodIn_r _ [3, 4, 5, 6] rfl (by decide +kernel)) ggX9_ticksBySums_X9_isOrder
set_option maxRecDepth 20000 in
theorem ggX9_ticksBySums_X9_fails : GoodIn wsX9_ticksBySums wsX9_fails := goodIn_r _ [14, 1, 116, 117, 118, 119, 120, 121, 122, 123, 124, 125, 126, 127, 128] rfl (by decide +kernel)
set_option maxRecDepth 20000 in
theorem gX9_ticksBySums_X9_fails : GoodIn wsX9_ticksBySums (wsV RX9 136 RX9 yX9_fails wsX9_fails) := goodIn_app (goodIn_r _ [11, 12, 13, 6] rfl (by decide +kernel)) ggX9_ticksBySums_X9_fails
set_option maxRecDepth 20000 in
theorem ggX9_ticksBySums_X9_hasWindow : GoodIn wsX9_ticksBySums wsX9_hasWindow := goodIn_r _ [18, 2, 116, 117, 118, 119, 120, 121, 122, 123, 124, 125, 126, 127, 128] rfl (by decide +kernel)
set_option maxRecDepth 20000 in
theorem gX9_ticksBySums_X9_hasWindow : GoodIn wsX9_ticksBySums (wsV RX9 129 RX9 yX9_hasWindow wsX9_hasWindow) := goodIn_app (goodIn_r _ [15, 16, 17, 6] rfl (by decide +kernel)) ggX9_ticksBySums_X9_hasWindow
set_option maxRecDepth 20000 in
theorem ggX9_ticksBySums_X9_canBe : GoodIn wsX9_ticksBySums wsX9_canBe := goodIn_r _ [22, 23, 24, 25, 6, 26, 2, 27, 28, 29, 30, 31, 32, 33, 34, 116, 117, 118, 119, 120, 121, 122, 123, 124, 125, 126, 127, 128] rfl (by decide +kernel)
set_option maxRecDepth 20000 in
theorem gX9_ticksBySums_X9_canBe : GoodIn wsX9_ticksBySums (wsV RX9 90 RX9 yX9_canBe wsX9_canBe) := goodIn_app (goodIn_r _ [19, 20, 21, 6] rfl (by decide +kernel)) ggX9_ticksBySums_X9_canBe
set_option maxRecDepth 20000 in
theorem ggX9_ticksBySums_X9_servesAside : GoodIn wsX9_ticksBySums wsX9_servesAside := goodIn_r _ [38, 39, 40, 41, 6, 42, 43, 2, 44, 45, 46, 47, 48, 49, 50, 51, 52, 19, 20, 21, 22, 23, 24, 25, 26, 27, 28, 29, 30, 31, 32, 33, 34, 53, 54, 55, 56, 57, 58, 59, 60, 61, 62, 63, 64, 65, 66, 67, 68, 69, 70, 71, 72, 73, 74, 75, 76, 77, 78, 79, 80, 81, 82, 83, 84, 85, 86, 87, 88, 89, 90, 91, 92, 93, 94, 95, 96, 97, 98, 99, 8, 9, 10, 100, 101, 102, 103, 104, 105, 106, 107, 108, 109, 110, 111, 112, 113, 114, 115, 116, 117, 118, 119, 120, 121, 122, 123, 124, 125, 126, 127, 128] rfl (by decide +kernel)
set_option maxRecDepth 20000 in
theorem gX9_ticksBySums_X9_servesAside : GoodIn wsX9_ticksBySums (wsV RX9 133 RX9 yX9_servesAside wsX9_servesAside) := goodIn_app (goodIn_r _ [35, 36, 37, 6] rfl (by decide +kernel)) ggX9_ticksBySums_X9_servesAside
theorem dX9_ticksBySums_0 : decode cX9_ticksBySums 0 = .ok (.aload_n 0, 1) := by decide +kernel
theorem dX9_ticksBySums_1 : decode cX9_ticksBySums 1 = .ok (.iconst 0, 1) := by decide +kernel
theorem dX9_ticksBySums_2 : decode cX9_ticksBySums 2 = .ok (.putfield 35, 3) := by decide +kernel
theorem dX9_ticksBySums_5 : decode cX9_ticksBySums 5 = .ok (.aload_n 0, 1) := by decide +kernel
theorem dX9_ticksBySums_6 : decode cX9_ticksBySums 6 = .ok (.iload_n 1, 1) := by decide +kernel
theorem dX9_ticksBySums_7 : decode cX9_ticksBySums 7 = .ok (.invokevirtual 175, 3) := by decide +kernel
theorem dX9_ticksBySums_10 : decode cX9_ticksBySums 10 = .ok (.ifCond .ne 9, 3) := by decide +kernel
theorem dX9_ticksBySums_13 : decode cX9_ticksBySums 13 = .ok (.aload_n 0, 1) := by decide +kernel
theorem dX9_ticksBySums_14 : decode cX9_ticksBySums 14 = .ok (.iconst 1, 1) := by decide +kernel
theorem dX9_ticksBySums_15 : decode cX9_ticksBySums 15 = .ok (.invokevirtual 136, 3) := by decide +kernel
theorem dX9_ticksBySums_18 : decode cX9_ticksBySums 18 = .ok (.ireturn, 1) := by decide +kernel
theorem dX9_ticksBySums_19 : decode cX9_ticksBySums 19 = .ok (.aload_n 0, 1) := by decide +kernel
theorem dX9_ticksBySums_20 : decode cX9_ticksBySums 20 = .ok (.invokevirtual 129, 3) := by decide +kernel
theorem dX9_ticksBySums_23 : decode cX9_ticksBySums 23 = .ok (.ifCond .ne 20, 3) := by decide +kernel
theorem dX9_ticksBySums_26 : decode cX9_ticksBySums 26 = .ok (.aload_n 0, 1) := by decide +kernel
theorem dX9_ticksBySums_27 : decode cX9_ticksBySums 27 = .ok (.iload_n 1, 1) := by decide +kernel
theorem dX9_ticksBySums_28 : decode cX9_ticksBySums 28 = .ok (.invokevirtual 90, 3) := by decide +kernel
theorem dX9_ticksBySums_31 : decode cX9_ticksBySums 31 = .ok (.ifCond .eq 12, 3) := by decide +kernel
theorem dX9_ticksBySums_34 : decode cX9_ticksBySums 34 = .ok (.aload_n 0, 1) := by decide +kernel
theorem dX9_ticksBySums_35 : decode cX9_ticksBySums 35 = .ok (.getfield 7, 3) := by decide +kernel
theorem dX9_ticksBySums_38 : decode cX9_ticksBySums 38 = .ok (.iconst 3, 1) := by decide +kernel
theorem dX9_ticksBySums_39 : decode cX9_ticksBySums 39 = .ok (.iaload, 1) := by decide +kernel
theorem dX9_ticksBySums_40 : decode cX9_ticksBySums 40 = .ok (.ifCond .ne 11, 3) := by decide +kernel
theorem dX9_ticksBySums_43 : decode cX9_ticksBySums 43 = .ok (.aload_n 0, 1) := by decide +kernel
theorem dX9_ticksBySums_44 : decode cX9_ticksBySums 44 = .ok (.iconst 2, 1) := by decide +kernel
theorem dX9_ticksBySums_45 : decode cX9_ticksBySums 45 = .ok (.invokevirtual 136, 3) := by decide +kernel
theorem dX9_ticksBySums_48 : decode cX9_ticksBySums 48 = .ok (.goto 8, 3) := by decide +kernel
theorem dX9_ticksBySums_51 : decode cX9_ticksBySums 51 = .ok (.aload_n 0, 1) := by decide +kernel
theorem dX9_ticksBySums_52 : decode cX9_ticksBySums 52 = .ok (.iload_n 1, 1) := by decide +kernel
theorem dX9_ticksBySums_53 : decode cX9_ticksBySums 53 = .ok (.invokevirtual 133, 3) := by decide +kernel
theorem dX9_ticksBySums_56 : decode cX9_ticksBySums 56 = .ok (.ireturn, 1) := by decide +kernel
set_option maxRecDepth 20000 in
theorem ggX9_cheapestOrder_X9_cheapest : GoodIn wsX9_cheapestOrder wsX9_cheapest := goodIn_r _ [6, 7, 8, 9, 10, 5, 11, 12, 13, 14, 15, 16, 17, 18, 19, 20, 21, 22, 23, 24, 25, 26, 27, 28, 29, 30, 31, 32, 33, 34, 35, 36, 37, 38, 39, 40, 41, 42, 43, 44, 45, 46, 47, 48, 49, 50, 51, 52, 53, 54, 55, 56, 57, 58, 59, 60, 61, 62, 63, 64, 65, 66, 67, 68, 69, 70, 71, 72, 73, 74, 75, 76, 77, 78, 79, 80, 81, 82, 83, 84, 85, 86, 87, 88, 89, 90, 91, 92, 93, 94, 95, 96, 97, 98, 99, 100, 101, 102, 103, 104, 105, 106, 107, 108, 109, 110, 111, 116, 117, 118, 119, 120, 121, 122, 123, 124, 125, 126, 127, 128] rfl (by decide +kernel)
set_option maxRecDepth 20000 in
theorem gX9_cheapestOrder_X9_cheapest : GoodIn wsX9_cheapestOrder (wsV RX9 230 RX9 yX9_cheapest wsX9_cheapest) := goodIn_app (goodIn_r _ [2, 3, 4, 5] rfl (by decide +kernel)) ggX9_cheapestOrder_X9_cheapest
set_option maxRecDepth 20000 in
theorem ggX9_cheapestOrder_X9_fails : GoodIn wsX9_cheapestOrder wsX9_fails := goodIn_r _ [115, 1, 116, 117, 118, 119, 120, 121, 122, 123, 124, 125, 126, 127, 128] rfl (by decide +kernel)
set_option maxRecDepth 20000 in
theorem gX9_cheapestOrder_X9_fails : GoodIn wsX9_cheapestOrder (wsV RX9 136 RX9 yX9_fails wsX9_fails) := goodIn_app (goodIn_r _ [112, 113, 114, 5] rfl (by decide +kernel)) ggX9_cheapestOrder_X9_fails
theorem dX9_cheapestOrder_0 : decode cX9_cheapestOrder 0 = .ok (.aload_n 0, 1) := by decide +kernel
theorem dX9_cheapestOrder_1 : decode cX9_cheapestOrder 1 = .ok (.iconst 0, 1) := by decide +kernel
theorem dX9_cheapestOrder_2 : decode cX9_cheapestOrder 2 = .ok (.putfield 35, 3) := by decide +kernel
theorem dX9_cheapestOrder_5 : decode cX9_cheapestOrder 5 = .ok (.aload_n 0, 1) := by decide +kernel
theorem dX9_cheapestOrder_6 : decode cX9_cheapestOrder 6 = .ok (.invokevirtual 230, 3) := by decide +kernel
theorem dX9_cheapestOrder_9 : decode cX9_cheapestOrder 9 = .ok (.istore_n 1, 1) := by decide +kernel
theorem dX9_cheapestOrder_10 : decode cX9_cheapestOrder 10 = .ok (.iload_n 1, 1) := by decide +kernel
theorem dX9_cheapestOrder_11 : decode cX9_cheapestOrder 11 = .ok (.iconst (-1), 1) := by decide +kernel
theorem dX9_cheapestOrder_12 : decode cX9_cheapestOrder 12 = .ok (.if_icmp .ne 11, 3) := by decide +kernel
theorem dX9_cheapestOrder_15 : decode cX9_cheapestOrder 15 = .ok (.aload_n 0, 1) := by decide +kernel
theorem dX9_cheapestOrder_16 : decode cX9_cheapestOrder 16 = .ok (.iconst 1, 1) := by decide +kernel
theorem dX9_cheapestOrder_17 : decode cX9_cheapestOrder 17 = .ok (.invokevirtual 136, 3) := by decide +kernel
theorem dX9_cheapestOrder_20 : decode cX9_cheapestOrder 20 = .ok (.goto 4, 3) := by decide +kernel
theorem dX9_cheapestOrder_23 : decode cX9_cheapestOrder 23 = .ok (.iload_n 1, 1) := by decide +kernel
theorem dX9_cheapestOrder_24 : decode cX9_cheapestOrder 24 = .ok (.ireturn, 1) := by decide +kernel
set_option maxRecDepth 20000 in
theorem ggX9_servable_X9_hasWindow : GoodIn wsX9_servable wsX9_hasWindow := goodIn_r _ [7, 2, 116, 117, 118, 119, 120, 121, 122, 123, 124, 125, 126, 127, 128] rfl (by decide +kernel)
set_option maxRecDepth 20000 in
theorem gX9_servable_X9_hasWindow : GoodIn wsX9_servable (wsV RX9 129 RX9 yX9_hasWindow wsX9_hasWindow) := goodIn_app (goodIn_r _ [3, 4, 5, 6] rfl (by decide +kernel)) ggX9_servable_X9_hasWindow
set_option maxRecDepth 20000 in
theorem ggX9_servable_X9_fails : GoodIn wsX9_servable wsX9_fails := goodIn_r _ [11, 1, 116, 117, 118, 119, 120, 121, 122, 123, 124, 125, 126, 127, 128] rfl (by decide +kernel)
set_option maxRecDepth 20000 in
theorem gX9_servable_X9_fails : GoodIn wsX9_servable (wsV RX9 136 RX9 yX9_fails wsX9_fails) := goodIn_app (goodIn_r _ [8, 9, 10, 6] rfl (by decide +kernel)) ggX9_servable_X9_fails
set_option maxRecDepth 20000 in
theorem ggX9_servable_X9_putAside : GoodIn wsX9_servable wsX9_putAside := goodIn_r _ [15, 16, 2, 116, 117, 118, 119, 120, 121, 122, 123, 124, 125, 126, 127, 128] rfl (by decide +kernel)
set_option maxRecDepth 20000 in
theorem gX9_servable_X9_putAside : GoodIn wsX9_servable (wsV RX9 77 RX9 yX9_putAside wsX9_putAside) := goodIn_app (goodIn_r _ [12, 13, 14, 6] rfl (by decide +kernel)) ggX9_servable_X9_putAside
set_option maxRecDepth 20000 in
theorem ggX9_servable_X9_servesAll : GoodIn wsX9_servable wsX9_servesAll := goodIn_r _ [20, 21, 22, 23, 6, 24, 2, 25, 26, 27, 28, 29, 30, 31, 32, 33, 34, 35, 36, 37, 38, 39, 40, 41, 42, 43, 44, 45, 46, 47, 48, 49, 50, 51, 52, 53, 54, 55, 56, 57, 58, 59, 60, 61, 62, 63, 64, 65, 66, 67, 68, 69, 70, 71, 72, 73, 74, 75, 76, 77, 78, 79, 80, 81, 82, 83, 84, 85, 86, 87, 88, 89, 90, 91, 92, 93, 94, 95, 96, 97, 98, 99, 100, 101, 102, 103, 104, 105, 106, 107, 108, 109, 110, 111, 116, 117, 118, 119, 120, 121, 122, 123, 124, 125, 126, 127, 128] rfl (by decide +kernel)
set_option maxRecDepth 20000 in
theorem gX9_servable_X9_servesAll : GoodIn wsX9_servable (wsV RX9 181 RX9 yX9_servesAll wsX9_servesAll) := goodIn_app (goodIn_r _ [17, 18, 19, 6] rfl (by decide +kernel)) ggX9_servable_X9_servesAll
set_option maxRecDepth 20000 in
theorem ggX9_servable_X9_takeBack : GoodIn wsX9_servable wsX9_takeBack := goodIn_r _ [115, 2, 16, 116, 117, 118, 119, 120, 121, 122, 123, 124, 125, 126, 127, 128] rfl (by decide +kernel)
set_option maxRecDepth 20000 in
theorem gX9_servable_X9_takeBack : GoodIn wsX9_servable (wsV RX9 126 RX9 yX9_takeBack wsX9_takeBack) := goodIn_app (goodIn_r _ [112, 113, 114, 6] rfl (by decide +kernel)) ggX9_servable_X9_takeBack
theorem dX9_servable_0 : decode cX9_servable 0 = .ok (.aload_n 0, 1) := by decide +kernel
theorem dX9_servable_1 : decode cX9_servable 1 = .ok (.iconst 0, 1) := by decide +kernel
theorem dX9_servable_2 : decode cX9_servable 2 = .ok (.putfield 35, 3) := by decide +kernel
theorem dX9_servable_5 : decode cX9_servable 5 = .ok (.aload_n 0, 1) := by decide +kernel
theorem dX9_servable_6 : decode cX9_servable 6 = .ok (.invokevirtual 129, 3) := by decide +kernel
theorem dX9_servable_9 : decode cX9_servable 9 = .ok (.ifCond .eq 9, 3) := by decide +kernel
theorem dX9_servable_12 : decode cX9_servable 12 = .ok (.aload_n 0, 1) := by decide +kernel
theorem dX9_servable_13 : decode cX9_servable 13 = .ok (.iconst 1, 1) := by decide +kernel
theorem dX9_servable_14 : decode cX9_servable 14 = .ok (.invokevirtual 136, 3) := by decide +kernel
theorem dX9_servable_17 : decode cX9_servable 17 = .ok (.ireturn, 1) := by decide +kernel
theorem dX9_servable_18 : decode cX9_servable 18 = .ok (.aload_n 0, 1) := by decide +kernel
theorem dX9_servable_19 : decode cX9_servable 19 = .ok (.invokevirtual 77, 3) := by decide +kernel
theorem dX9_servable_22 : decode cX9_servable 22 = .ok (.aload_n 0, 1) := by decide +kernel
theorem dX9_servable_23 : decode cX9_servable 23 = .ok (.invokevirtual 181, 3) := by decide +kernel
theorem dX9_servable_26 : decode cX9_servable 26 = .ok (.pop, 1) := by decide +kernel
theorem dX9_servable_27 : decode cX9_servable 27 = .ok (.aload_n 0, 1) := by decide +kernel
theorem dX9_servable_28 : decode cX9_servable 28 = .ok (.getfield 7, 3) := by decide +kernel
theorem dX9_servable_31 : decode cX9_servable 31 = .ok (.bipush 6, 2) := by decide +kernel
theorem dX9_servable_33 : decode cX9_servable 33 = .ok (.iaload, 1) := by decide +kernel
theorem dX9_servable_34 : decode cX9_servable 34 = .ok (.istore_n 1, 1) := by decide +kernel
theorem dX9_servable_35 : decode cX9_servable 35 = .ok (.aload_n 0, 1) := by decide +kernel
theorem dX9_servable_36 : decode cX9_servable 36 = .ok (.invokevirtual 126, 3) := by decide +kernel
theorem dX9_servable_39 : decode cX9_servable 39 = .ok (.iload_n 1, 1) := by decide +kernel
theorem dX9_servable_40 : decode cX9_servable 40 = .ok (.aload_n 0, 1) := by decide +kernel
theorem dX9_servable_41 : decode cX9_servable 41 = .ok (.getfield 7, 3) := by decide +kernel
theorem dX9_servable_44 : decode cX9_servable 44 = .ok (.bipush 6, 2) := by decide +kernel
theorem dX9_servable_46 : decode cX9_servable 46 = .ok (.iaload, 1) := by decide +kernel
theorem dX9_servable_47 : decode cX9_servable 47 = .ok (.isub, 1) := by decide +kernel
theorem dX9_servable_48 : decode cX9_servable 48 = .ok (.ireturn, 1) := by decide +kernel
theorem dX9_ticks_0 : decode cX9_ticks 0 = .ok (.aload_n 0, 1) := by decide +kernel
theorem dX9_ticks_1 : decode cX9_ticks 1 = .ok (.iconst 0, 1) := by decide +kernel
theorem dX9_ticks_2 : decode cX9_ticks 2 = .ok (.putfield 35, 3) := by decide +kernel
theorem dX9_ticks_5 : decode cX9_ticks 5 = .ok (.aload_n 0, 1) := by decide +kernel
theorem dX9_ticks_6 : decode cX9_ticks 6 = .ok (.getfield 7, 3) := by decide +kernel
theorem dX9_ticks_9 : decode cX9_ticks 9 = .ok (.iconst 4, 1) := by decide +kernel
theorem dX9_ticks_10 : decode cX9_ticks 10 = .ok (.iaload, 1) := by decide +kernel
theorem dX9_ticks_11 : decode cX9_ticks 11 = .ok (.ireturn, 1) := by decide +kernel
theorem dX9_fetches_0 : decode cX9_fetches 0 = .ok (.aload_n 0, 1) := by decide +kernel
theorem dX9_fetches_1 : decode cX9_fetches 1 = .ok (.iconst 0, 1) := by decide +kernel
theorem dX9_fetches_2 : decode cX9_fetches 2 = .ok (.putfield 35, 3) := by decide +kernel
theorem dX9_fetches_5 : decode cX9_fetches 5 = .ok (.aload_n 0, 1) := by decide +kernel
theorem dX9_fetches_6 : decode cX9_fetches 6 = .ok (.getfield 7, 3) := by decide +kernel
theorem dX9_fetches_9 : decode cX9_fetches 9 = .ok (.iconst 5, 1) := by decide +kernel
theorem dX9_fetches_10 : decode cX9_fetches 10 = .ok (.iaload, 1) := by decide +kernel
theorem dX9_fetches_11 : decode cX9_fetches 11 = .ok (.ireturn, 1) := by decide +kernel
theorem dX9_served_0 : decode cX9_served 0 = .ok (.aload_n 0, 1) := by decide +kernel
theorem dX9_served_1 : decode cX9_served 1 = .ok (.iconst 0, 1) := by decide +kernel
theorem dX9_served_2 : decode cX9_served 2 = .ok (.putfield 35, 3) := by decide +kernel
theorem dX9_served_5 : decode cX9_served 5 = .ok (.aload_n 0, 1) := by decide +kernel
theorem dX9_served_6 : decode cX9_served 6 = .ok (.getfield 7, 3) := by decide +kernel
theorem dX9_served_9 : decode cX9_served 9 = .ok (.bipush 6, 2) := by decide +kernel
theorem dX9_served_11 : decode cX9_served 11 = .ok (.iaload, 1) := by decide +kernel
theorem dX9_served_12 : decode cX9_served 12 = .ok (.ireturn, 1) := by decide +kernel
set_option maxRecDepth 20000 in
theorem ggX9_fetchTicks_X9_isShelf : GoodIn wsX9_fetchTicks wsX9_isShelf := goodIn_r _ [6, 7, 8, 9, 5, 10, 31, 32, 33, 34, 35, 36, 37, 38, 39, 40, 41, 42, 43] rfl (by decide +kernel)
set_option maxRecDepth 20000 in
theorem gX9_fetchTicks_X9_isShelf : GoodIn wsX9_fetchTicks (wsV RX9 142 RX9 yX9_isShelf wsX9_isShelf) := goodIn_app (goodIn_r _ [2, 3, 4, 5] rfl (by decide +kernel)) ggX9_fetchTicks_X9_isShelf
set_option maxRecDepth 20000 in
theorem ggX9_fetchTicks_X9_fails : GoodIn wsX9_fetchTicks wsX9_fails := goodIn_r _ [14, 1, 31, 32, 33, 34, 35, 36, 37, 38, 39, 40, 41, 42, 43] rfl (by decide +kernel)
set_option maxRecDepth 20000 in
theorem gX9_fetchTicks_X9_fails : GoodIn wsX9_fetchTicks (wsV RX9 136 RX9 yX9_fails wsX9_fails) := goodIn_app (goodIn_r _ [11, 12, 13, 5] rfl (by decide +kernel)) ggX9_fetchTicks_X9_fails
set_option maxRecDepth 20000 in
theorem ggX9_fetchTicks_X9_hasWindow : GoodIn wsX9_fetchTicks wsX9_hasWindow := goodIn_r _ [18, 7, 31, 32, 33, 34, 35, 36, 37, 38, 39, 40, 41, 42, 43] rfl (by decide +kernel)
set_option maxRecDepth 20000 in
theorem gX9_fetchTicks_X9_hasWindow : GoodIn wsX9_fetchTicks (wsV RX9 129 RX9 yX9_hasWindow wsX9_hasWindow) := goodIn_app (goodIn_r _ [15, 16, 17, 5] rfl (by decide +kernel)) ggX9_fetchTicks_X9_hasWindow
set_option maxRecDepth 20000 in
theorem ggX9_fetchTicks_X9_wayTo : GoodIn wsX9_fetchTicks wsX9_wayTo := goodIn_r _ [22, 7, 23, 24, 25, 5, 26, 27, 28, 29, 30, 31, 32, 33, 34, 35, 36, 37, 38, 39, 40, 41, 42, 43] rfl (by decide +kernel)
set_option maxRecDepth 20000 in
theorem gX9_fetchTicks_X9_wayTo : GoodIn wsX9_fetchTicks (wsV RX9 64 RX9 yX9_wayTo wsX9_wayTo) := goodIn_app (goodIn_r _ [19, 20, 21, 5] rfl (by decide +kernel)) ggX9_fetchTicks_X9_wayTo
theorem dX9_fetchTicks_0 : decode cX9_fetchTicks 0 = .ok (.aload_n 0, 1) := by decide +kernel
theorem dX9_fetchTicks_1 : decode cX9_fetchTicks 1 = .ok (.iconst 0, 1) := by decide +kernel
theorem dX9_fetchTicks_2 : decode cX9_fetchTicks 2 = .ok (.putfield 35, 3) := by decide +kernel
theorem dX9_fetchTicks_5 : decode cX9_fetchTicks 5 = .ok (.aload_n 0, 1) := by decide +kernel
theorem dX9_fetchTicks_6 : decode cX9_fetchTicks 6 = .ok (.iload_n 1, 1) := by decide +kernel
theorem dX9_fetchTicks_7 : decode cX9_fetchTicks 7 = .ok (.invokevirtual 142, 3) := by decide +kernel
theorem dX9_fetchTicks_10 : decode cX9_fetchTicks 10 = .ok (.ifCond .ne 9, 3) := by decide +kernel
theorem dX9_fetchTicks_13 : decode cX9_fetchTicks 13 = .ok (.aload_n 0, 1) := by decide +kernel
theorem dX9_fetchTicks_14 : decode cX9_fetchTicks 14 = .ok (.iconst 1, 1) := by decide +kernel
theorem dX9_fetchTicks_15 : decode cX9_fetchTicks 15 = .ok (.invokevirtual 136, 3) := by decide +kernel
theorem dX9_fetchTicks_18 : decode cX9_fetchTicks 18 = .ok (.ireturn, 1) := by decide +kernel
theorem dX9_fetchTicks_19 : decode cX9_fetchTicks 19 = .ok (.aload_n 0, 1) := by decide +kernel
theorem dX9_fetchTicks_20 : decode cX9_fetchTicks 20 = .ok (.invokevirtual 129, 3) := by decide +kernel
theorem dX9_fetchTicks_23 : decode cX9_fetchTicks 23 = .ok (.ifCond .eq 11, 3) := by decide +kernel
theorem dX9_fetchTicks_26 : decode cX9_fetchTicks 26 = .ok (.aload_n 0, 1) := by decide +kernel
theorem dX9_fetchTicks_27 : decode cX9_fetchTicks 27 = .ok (.iconst 2, 1) := by decide +kernel
theorem dX9_fetchTicks_28 : decode cX9_fetchTicks 28 = .ok (.invokevirtual 136, 3) := by decide +kernel
theorem dX9_fetchTicks_31 : decode cX9_fetchTicks 31 = .ok (.goto 8, 3) := by decide +kernel
theorem dX9_fetchTicks_34 : decode cX9_fetchTicks 34 = .ok (.aload_n 0, 1) := by decide +kernel
theorem dX9_fetchTicks_35 : decode cX9_fetchTicks 35 = .ok (.iload_n 1, 1) := by decide +kernel
theorem dX9_fetchTicks_36 : decode cX9_fetchTicks 36 = .ok (.invokevirtual 64, 3) := by decide +kernel
theorem dX9_fetchTicks_39 : decode cX9_fetchTicks 39 = .ok (.ireturn, 1) := by decide +kernel
set_option maxRecDepth 20000 in
theorem ggX9_dearest_X9_weight : GoodIn wsX9_dearest wsX9_weight := goodIn_r _ [6, 1, 7, 8, 9, 5, 10, 11, 12, 13, 14, 15, 16, 17, 18, 19, 20, 21, 22, 23] rfl (by decide +kernel)
set_option maxRecDepth 20000 in
theorem gX9_dearest_X9_weight : GoodIn wsX9_dearest (wsV RX9 163 RX9 yX9_weight wsX9_weight) := goodIn_app (goodIn_r _ [2, 3, 4, 5] rfl (by decide +kernel)) ggX9_dearest_X9_weight
theorem dX9_dearest_0 : decode cX9_dearest 0 = .ok (.iconst 0, 1) := by decide +kernel
theorem dX9_dearest_1 : decode cX9_dearest 1 = .ok (.istore_n 1, 1) := by decide +kernel
theorem dX9_dearest_2 : decode cX9_dearest 2 = .ok (.iconst 1, 1) := by decide +kernel
theorem dX9_dearest_3 : decode cX9_dearest 3 = .ok (.istore_n 2, 1) := by decide +kernel
theorem dX9_dearest_4 : decode cX9_dearest 4 = .ok (.iload_n 2, 1) := by decide +kernel
theorem dX9_dearest_5 : decode cX9_dearest 5 = .ok (.aload_n 0, 1) := by decide +kernel
theorem dX9_dearest_6 : decode cX9_dearest 6 = .ok (.getfield 7, 3) := by decide +kernel
theorem dX9_dearest_9 : decode cX9_dearest 9 = .ok (.iconst 0, 1) := by decide +kernel
theorem dX9_dearest_10 : decode cX9_dearest 10 = .ok (.iaload, 1) := by decide +kernel
theorem dX9_dearest_11 : decode cX9_dearest 11 = .ok (.if_icmp .ge 28, 3) := by decide +kernel
theorem dX9_dearest_14 : decode cX9_dearest 14 = .ok (.aload_n 0, 1) := by decide +kernel
theorem dX9_dearest_15 : decode cX9_dearest 15 = .ok (.iload_n 2, 1) := by decide +kernel
theorem dX9_dearest_16 : decode cX9_dearest 16 = .ok (.invokevirtual 163, 3) := by decide +kernel
theorem dX9_dearest_19 : decode cX9_dearest 19 = .ok (.aload_n 0, 1) := by decide +kernel
theorem dX9_dearest_20 : decode cX9_dearest 20 = .ok (.iload_n 1, 1) := by decide +kernel
theorem dX9_dearest_21 : decode cX9_dearest 21 = .ok (.invokevirtual 163, 3) := by decide +kernel
theorem dX9_dearest_24 : decode cX9_dearest 24 = .ok (.if_icmp .le 7, 3) := by decide +kernel
theorem dX9_dearest_27 : decode cX9_dearest 27 = .ok (.iload_n 2, 1) := by decide +kernel
theorem dX9_dearest_28 : decode cX9_dearest 28 = .ok (.goto 4, 3) := by decide +kernel
theorem dX9_dearest_31 : decode cX9_dearest 31 = .ok (.iload_n 1, 1) := by decide +kernel
theorem dX9_dearest_32 : decode cX9_dearest 32 = .ok (.istore_n 1, 1) := by decide +kernel
theorem dX9_dearest_33 : decode cX9_dearest 33 = .ok (.iinc 2 1, 3) := by decide +kernel
theorem dX9_dearest_36 : decode cX9_dearest 36 = .ok (.goto (-32), 3) := by decide +kernel
theorem dX9_dearest_39 : decode cX9_dearest 39 = .ok (.iload_n 1, 1) := by decide +kernel
theorem dX9_dearest_40 : decode cX9_dearest 40 = .ok (.ireturn, 1) := by decide +kernel
set_option maxRecDepth 20000 in
theorem ggX9_heaviest_X9_fails : GoodIn wsX9_heaviest wsX9_fails := goodIn_r _ [7, 1, 20, 21, 22, 23, 24, 25, 26, 27, 28, 29, 30, 31, 32] rfl (by decide +kernel)
set_option maxRecDepth 20000 in
theorem gX9_heaviest_X9_fails : GoodIn wsX9_heaviest (wsV RX9 136 RX9 yX9_fails wsX9_fails) := goodIn_app (goodIn_r _ [3, 4, 5, 6] rfl (by decide +kernel)) ggX9_heaviest_X9_fails
set_option maxRecDepth 20000 in
theorem ggX9_heaviest_X9_dearest : GoodIn wsX9_heaviest wsX9_dearest := goodIn_r _ [11, 2, 12, 13, 14, 6, 15, 16, 17, 18, 19, 20, 21, 22, 23, 24, 25, 26, 27, 28, 29, 30, 31, 32] rfl (by decide +kernel)
set_option maxRecDepth 20000 in
theorem gX9_heaviest_X9_dearest : GoodIn wsX9_heaviest (wsV RX9 233 RX9 yX9_dearest wsX9_dearest) := goodIn_app (goodIn_r _ [8, 9, 10, 6] rfl (by decide +kernel)) ggX9_heaviest_X9_dearest
theorem dX9_heaviest_0 : decode cX9_heaviest 0 = .ok (.aload_n 0, 1) := by decide +kernel
theorem dX9_heaviest_1 : decode cX9_heaviest 1 = .ok (.iconst 0, 1) := by decide +kernel
theorem dX9_heaviest_2 : decode cX9_heaviest 2 = .ok (.putfield 35, 3) := by decide +kernel
theorem dX9_heaviest_5 : decode cX9_heaviest 5 = .ok (.aload_n 0, 1) := by decide +kernel
theorem dX9_heaviest_6 : decode cX9_heaviest 6 = .ok (.getfield 7, 3) := by decide +kernel
theorem dX9_heaviest_9 : decode cX9_heaviest 9 = .ok (.iconst 0, 1) := by decide +kernel
theorem dX9_heaviest_10 : decode cX9_heaviest 10 = .ok (.iaload, 1) := by decide +kernel
theorem dX9_heaviest_11 : decode cX9_heaviest 11 = .ok (.ifCond .ne 11, 3) := by decide +kernel
theorem dX9_heaviest_14 : decode cX9_heaviest 14 = .ok (.aload_n 0, 1) := by decide +kernel
theorem dX9_heaviest_15 : decode cX9_heaviest 15 = .ok (.iconst 1, 1) := by decide +kernel
theorem dX9_heaviest_16 : decode cX9_heaviest 16 = .ok (.invokevirtual 136, 3) := by decide +kernel
theorem dX9_heaviest_19 : decode cX9_heaviest 19 = .ok (.goto 7, 3) := by decide +kernel
theorem dX9_heaviest_22 : decode cX9_heaviest 22 = .ok (.aload_n 0, 1) := by decide +kernel
theorem dX9_heaviest_23 : decode cX9_heaviest 23 = .ok (.invokevirtual 233, 3) := by decide +kernel
theorem dX9_heaviest_26 : decode cX9_heaviest 26 = .ok (.ireturn, 1) := by decide +kernel
set_option maxRecDepth 20000 in
theorem ggX9_favourite_X9_of : GoodIn wsX9_favourite wsX9_of := goodIn_r _ [6, 1, 7, 8, 9, 10, 11, 12, 13, 14, 15, 16, 17, 18, 19] rfl (by decide +kernel)
set_option maxRecDepth 20000 in
theorem gX9_favourite_X9_of : GoodIn wsX9_favourite (wsV RX9 46 RX9 yX9_of wsX9_of) := goodIn_app (goodIn_r _ [2, 3, 4, 5] rfl (by decide +kernel)) ggX9_favourite_X9_of
theorem dX9_favourite_0 : decode cX9_favourite 0 = .ok (.iconst 0, 1) := by decide +kernel
theorem dX9_favourite_1 : decode cX9_favourite 1 = .ok (.istore_n 1, 1) := by decide +kernel
theorem dX9_favourite_2 : decode cX9_favourite 2 = .ok (.iconst 1, 1) := by decide +kernel
theorem dX9_favourite_3 : decode cX9_favourite 3 = .ok (.istore_n 2, 1) := by decide +kernel
theorem dX9_favourite_4 : decode cX9_favourite 4 = .ok (.iload_n 2, 1) := by decide +kernel
theorem dX9_favourite_5 : decode cX9_favourite 5 = .ok (.aload_n 0, 1) := by decide +kernel
theorem dX9_favourite_6 : decode cX9_favourite 6 = .ok (.getfield 7, 3) := by decide +kernel
theorem dX9_favourite_9 : decode cX9_favourite 9 = .ok (.iconst 0, 1) := by decide +kernel
theorem dX9_favourite_10 : decode cX9_favourite 10 = .ok (.iaload, 1) := by decide +kernel
theorem dX9_favourite_11 : decode cX9_favourite 11 = .ok (.if_icmp .ge 30, 3) := by decide +kernel
theorem dX9_favourite_14 : decode cX9_favourite 14 = .ok (.aload_n 0, 1) := by decide +kernel
theorem dX9_favourite_15 : decode cX9_favourite 15 = .ok (.iload_n 2, 1) := by decide +kernel
theorem dX9_favourite_16 : decode cX9_favourite 16 = .ok (.iconst 3, 1) := by decide +kernel
theorem dX9_favourite_17 : decode cX9_favourite 17 = .ok (.invokevirtual 46, 3) := by decide +kernel
theorem dX9_favourite_20 : decode cX9_favourite 20 = .ok (.aload_n 0, 1) := by decide +kernel
theorem dX9_favourite_21 : decode cX9_favourite 21 = .ok (.iload_n 1, 1) := by decide +kernel
theorem dX9_favourite_22 : decode cX9_favourite 22 = .ok (.iconst 3, 1) := by decide +kernel
theorem dX9_favourite_23 : decode cX9_favourite 23 = .ok (.invokevirtual 46, 3) := by decide +kernel
theorem dX9_favourite_26 : decode cX9_favourite 26 = .ok (.if_icmp .le 7, 3) := by decide +kernel
theorem dX9_favourite_29 : decode cX9_favourite 29 = .ok (.iload_n 2, 1) := by decide +kernel
theorem dX9_favourite_30 : decode cX9_favourite 30 = .ok (.goto 4, 3) := by decide +kernel
theorem dX9_favourite_33 : decode cX9_favourite 33 = .ok (.iload_n 1, 1) := by decide +kernel
theorem dX9_favourite_34 : decode cX9_favourite 34 = .ok (.istore_n 1, 1) := by decide +kernel
theorem dX9_favourite_35 : decode cX9_favourite 35 = .ok (.iinc 2 1, 3) := by decide +kernel
theorem dX9_favourite_38 : decode cX9_favourite 38 = .ok (.goto (-34), 3) := by decide +kernel
theorem dX9_favourite_41 : decode cX9_favourite 41 = .ok (.iload_n 1, 1) := by decide +kernel
theorem dX9_favourite_42 : decode cX9_favourite 42 = .ok (.ireturn, 1) := by decide +kernel
set_option maxRecDepth 20000 in
theorem ggX9_mostFetched_X9_fails : GoodIn wsX9_mostFetched wsX9_fails := goodIn_r _ [7, 1, 16, 17, 18, 19, 20, 21, 22, 23, 24, 25, 26, 27, 28] rfl (by decide +kernel)
set_option maxRecDepth 20000 in
theorem gX9_mostFetched_X9_fails : GoodIn wsX9_mostFetched (wsV RX9 136 RX9 yX9_fails wsX9_fails) := goodIn_app (goodIn_r _ [3, 4, 5, 6] rfl (by decide +kernel)) ggX9_mostFetched_X9_fails
set_option maxRecDepth 20000 in
theorem ggX9_mostFetched_X9_favourite : GoodIn wsX9_mostFetched wsX9_favourite := goodIn_r _ [11, 2, 12, 13, 14, 6, 15, 16, 17, 18, 19, 20, 21, 22, 23, 24, 25, 26, 27, 28] rfl (by decide +kernel)
set_option maxRecDepth 20000 in
theorem gX9_mostFetched_X9_favourite : GoodIn wsX9_mostFetched (wsV RX9 236 RX9 yX9_favourite wsX9_favourite) := goodIn_app (goodIn_r _ [8, 9, 10, 6] rfl (by decide +kernel)) ggX9_mostFetched_X9_favourite
theorem dX9_mostFetched_0 : decode cX9_mostFetched 0 = .ok (.aload_n 0, 1) := by decide +kernel
theorem dX9_mostFetched_1 : decode cX9_mostFetched 1 = .ok (.iconst 0, 1) := by decide +kernel
theorem dX9_mostFetched_2 : decode cX9_mostFetched 2 = .ok (.putfield 35, 3) := by decide +kernel
theorem dX9_mostFetched_5 : decode cX9_mostFetched 5 = .ok (.aload_n 0, 1) := by decide +kernel
theorem dX9_mostFetched_6 : decode cX9_mostFetched 6 = .ok (.getfield 7, 3) := by decide +kernel
theorem dX9_mostFetched_9 : decode cX9_mostFetched 9 = .ok (.iconst 0, 1) := by decide +kernel
theorem dX9_mostFetched_10 : decode cX9_mostFetched 10 = .ok (.iaload, 1) := by decide +kernel
theorem dX9_mostFetched_11 : decode cX9_mostFetched 11 = .ok (.ifCond .ne 11, 3) := by decide +kernel
theorem dX9_mostFetched_14 : decode cX9_mostFetched 14 = .ok (.aload_n 0, 1) := by decide +kernel
theorem dX9_mostFetched_15 : decode cX9_mostFetched 15 = .ok (.iconst 1, 1) := by decide +kernel
theorem dX9_mostFetched_16 : decode cX9_mostFetched 16 = .ok (.invokevirtual 136, 3) := by decide +kernel
theorem dX9_mostFetched_19 : decode cX9_mostFetched 19 = .ok (.goto 7, 3) := by decide +kernel
theorem dX9_mostFetched_22 : decode cX9_mostFetched 22 = .ok (.aload_n 0, 1) := by decide +kernel
theorem dX9_mostFetched_23 : decode cX9_mostFetched 23 = .ok (.invokevirtual 236, 3) := by decide +kernel
theorem dX9_mostFetched_26 : decode cX9_mostFetched 26 = .ok (.ireturn, 1) := by decide +kernel
set_option maxRecDepth 20000 in
theorem ggX9_waysSum_X9_of : GoodIn wsX9_waysSum wsX9_of := goodIn_r _ [6, 1, 11, 12, 13, 14, 15, 16, 17, 18, 19, 20, 21, 22, 23] rfl (by decide +kernel)
set_option maxRecDepth 20000 in
theorem gX9_waysSum_X9_of : GoodIn wsX9_waysSum (wsV RX9 46 RX9 yX9_of wsX9_of) := goodIn_app (goodIn_r _ [2, 3, 4, 5] rfl (by decide +kernel)) ggX9_waysSum_X9_of
set_option maxRecDepth 20000 in
theorem ggX9_waysSum_X9_way : GoodIn wsX9_waysSum wsX9_way := goodIn_r _ [10, 2, 3, 4, 5, 6, 1, 11, 12, 13, 14, 15, 16, 17, 18, 19, 20, 21, 22, 23] rfl (by decide +kernel)
set_option maxRecDepth 20000 in
theorem gX9_waysSum_X9_way : GoodIn wsX9_waysSum (wsV RX9 60 RX9 yX9_way wsX9_way) := goodIn_app (goodIn_r _ [7, 8, 9, 5] rfl (by decide +kernel)) ggX9_waysSum_X9_way
theorem dX9_waysSum_0 : decode cX9_waysSum 0 = .ok (.iconst 0, 1) := by decide +kernel
theorem dX9_waysSum_1 : decode cX9_waysSum 1 = .ok (.istore_n 1, 1) := by decide +kernel
theorem dX9_waysSum_2 : decode cX9_waysSum 2 = .ok (.iconst 0, 1) := by decide +kernel
theorem dX9_waysSum_3 : decode cX9_waysSum 3 = .ok (.istore_n 2, 1) := by decide +kernel
theorem dX9_waysSum_4 : decode cX9_waysSum 4 = .ok (.iload_n 2, 1) := by decide +kernel
theorem dX9_waysSum_5 : decode cX9_waysSum 5 = .ok (.aload_n 0, 1) := by decide +kernel
theorem dX9_waysSum_6 : decode cX9_waysSum 6 = .ok (.getfield 7, 3) := by decide +kernel
theorem dX9_waysSum_9 : decode cX9_waysSum 9 = .ok (.iconst 0, 1) := by decide +kernel
theorem dX9_waysSum_10 : decode cX9_waysSum 10 = .ok (.iaload, 1) := by decide +kernel
theorem dX9_waysSum_11 : decode cX9_waysSum 11 = .ok (.if_icmp .ge 24, 3) := by decide +kernel
theorem dX9_waysSum_14 : decode cX9_waysSum 14 = .ok (.iload_n 1, 1) := by decide +kernel
theorem dX9_waysSum_15 : decode cX9_waysSum 15 = .ok (.aload_n 0, 1) := by decide +kernel
theorem dX9_waysSum_16 : decode cX9_waysSum 16 = .ok (.iload_n 2, 1) := by decide +kernel
theorem dX9_waysSum_17 : decode cX9_waysSum 17 = .ok (.iconst 3, 1) := by decide +kernel
theorem dX9_waysSum_18 : decode cX9_waysSum 18 = .ok (.invokevirtual 46, 3) := by decide +kernel
theorem dX9_waysSum_21 : decode cX9_waysSum 21 = .ok (.aload_n 0, 1) := by decide +kernel
theorem dX9_waysSum_22 : decode cX9_waysSum 22 = .ok (.iload_n 2, 1) := by decide +kernel
theorem dX9_waysSum_23 : decode cX9_waysSum 23 = .ok (.invokevirtual 60, 3) := by decide +kernel
theorem dX9_waysSum_26 : decode cX9_waysSum 26 = .ok (.imul, 1) := by decide +kernel
theorem dX9_waysSum_27 : decode cX9_waysSum 27 = .ok (.iadd, 1) := by decide +kernel
theorem dX9_waysSum_28 : decode cX9_waysSum 28 = .ok (.istore_n 1, 1) := by decide +kernel
theorem dX9_waysSum_29 : decode cX9_waysSum 29 = .ok (.iinc 2 1, 3) := by decide +kernel
theorem dX9_waysSum_32 : decode cX9_waysSum 32 = .ok (.goto (-28), 3) := by decide +kernel
theorem dX9_waysSum_35 : decode cX9_waysSum 35 = .ok (.iload_n 1, 1) := by decide +kernel
theorem dX9_waysSum_36 : decode cX9_waysSum 36 = .ok (.ireturn, 1) := by decide +kernel
set_option maxRecDepth 20000 in
theorem ggX9_usedWays_X9_waysSum : GoodIn wsX9_usedWays wsX9_waysSum := goodIn_r _ [6, 7, 8, 9, 10, 5, 11, 12, 13, 14, 15, 16, 17, 18, 19, 20, 21, 22, 23, 24, 25, 26, 27, 28] rfl (by decide +kernel)
set_option maxRecDepth 20000 in
theorem gX9_usedWays_X9_waysSum : GoodIn wsX9_usedWays (wsV RX9 239 RX9 yX9_waysSum wsX9_waysSum) := goodIn_app (goodIn_r _ [2, 3, 4, 5] rfl (by decide +kernel)) ggX9_usedWays_X9_waysSum
theorem dX9_usedWays_0 : decode cX9_usedWays 0 = .ok (.aload_n 0, 1) := by decide +kernel
theorem dX9_usedWays_1 : decode cX9_usedWays 1 = .ok (.iconst 0, 1) := by decide +kernel
theorem dX9_usedWays_2 : decode cX9_usedWays 2 = .ok (.putfield 35, 3) := by decide +kernel
theorem dX9_usedWays_5 : decode cX9_usedWays 5 = .ok (.aload_n 0, 1) := by decide +kernel
theorem dX9_usedWays_6 : decode cX9_usedWays 6 = .ok (.invokevirtual 239, 3) := by decide +kernel
theorem dX9_usedWays_9 : decode cX9_usedWays 9 = .ok (.ireturn, 1) := by decide +kernel
set_option maxRecDepth 20000 in
theorem ggX9_meanByUse_X9_of : GoodIn wsX9_meanByUse wsX9_of := goodIn_r _ [6, 1, 15, 16, 17, 18, 19, 20, 21, 22, 23, 24, 25, 26, 27] rfl (by decide +kernel)
set_option maxRecDepth 20000 in
theorem gX9_meanByUse_X9_of : GoodIn wsX9_meanByUse (wsV RX9 46 RX9 yX9_of wsX9_of) := goodIn_app (goodIn_r _ [2, 3, 4, 5] rfl (by decide +kernel)) ggX9_meanByUse_X9_of
set_option maxRecDepth 20000 in
theorem ggX9_meanByUse_X9_waysSum : GoodIn wsX9_meanByUse wsX9_waysSum := goodIn_r _ [10, 1, 2, 3, 4, 5, 6, 11, 12, 13, 14, 15, 16, 17, 18, 19, 20, 21, 22, 23, 24, 25, 26, 27] rfl (by decide +kernel)
set_option maxRecDepth 20000 in
theorem gX9_meanByUse_X9_waysSum : GoodIn wsX9_meanByUse (wsV RX9 239 RX9 yX9_waysSum wsX9_waysSum) := goodIn_app (goodIn_r _ [7, 8, 9, 5] rfl (by decide +kernel)) ggX9_meanByUse_X9_waysSum
theorem dX9_meanByUse_0 : decode cX9_meanByUse 0 = .ok (.iconst 0, 1) := by decide +kernel
theorem dX9_meanByUse_1 : decode cX9_meanByUse 1 = .ok (.istore_n 1, 1) := by decide +kernel
theorem dX9_meanByUse_2 : decode cX9_meanByUse 2 = .ok (.iconst 0, 1) := by decide +kernel
theorem dX9_meanByUse_3 : decode cX9_meanByUse 3 = .ok (.istore_n 2, 1) := by decide +kernel
theorem dX9_meanByUse_4 : decode cX9_meanByUse 4 = .ok (.iload_n 2, 1) := by decide +kernel
theorem dX9_meanByUse_5 : decode cX9_meanByUse 5 = .ok (.aload_n 0, 1) := by decide +kernel
theorem dX9_meanByUse_6 : decode cX9_meanByUse 6 = .ok (.getfield 7, 3) := by decide +kernel
theorem dX9_meanByUse_9 : decode cX9_meanByUse 9 = .ok (.iconst 0, 1) := by decide +kernel
theorem dX9_meanByUse_10 : decode cX9_meanByUse 10 = .ok (.iaload, 1) := by decide +kernel
theorem dX9_meanByUse_11 : decode cX9_meanByUse 11 = .ok (.if_icmp .ge 18, 3) := by decide +kernel
theorem dX9_meanByUse_14 : decode cX9_meanByUse 14 = .ok (.iload_n 1, 1) := by decide +kernel
theorem dX9_meanByUse_15 : decode cX9_meanByUse 15 = .ok (.aload_n 0, 1) := by decide +kernel
theorem dX9_meanByUse_16 : decode cX9_meanByUse 16 = .ok (.iload_n 2, 1) := by decide +kernel
theorem dX9_meanByUse_17 : decode cX9_meanByUse 17 = .ok (.iconst 3, 1) := by decide +kernel
theorem dX9_meanByUse_18 : decode cX9_meanByUse 18 = .ok (.invokevirtual 46, 3) := by decide +kernel
theorem dX9_meanByUse_21 : decode cX9_meanByUse 21 = .ok (.iadd, 1) := by decide +kernel
theorem dX9_meanByUse_22 : decode cX9_meanByUse 22 = .ok (.istore_n 1, 1) := by decide +kernel
theorem dX9_meanByUse_23 : decode cX9_meanByUse 23 = .ok (.iinc 2 1, 3) := by decide +kernel
theorem dX9_meanByUse_26 : decode cX9_meanByUse 26 = .ok (.goto (-22), 3) := by decide +kernel
theorem dX9_meanByUse_29 : decode cX9_meanByUse 29 = .ok (.iload_n 1, 1) := by decide +kernel
theorem dX9_meanByUse_30 : decode cX9_meanByUse 30 = .ok (.ifCond .ne 7, 3) := by decide +kernel
theorem dX9_meanByUse_33 : decode cX9_meanByUse 33 = .ok (.dconst 0, 1) := by decide +kernel
theorem dX9_meanByUse_34 : decode cX9_meanByUse 34 = .ok (.goto 11, 3) := by decide +kernel
theorem dX9_meanByUse_37 : decode cX9_meanByUse 37 = .ok (.aload_n 0, 1) := by decide +kernel
theorem dX9_meanByUse_38 : decode cX9_meanByUse 38 = .ok (.invokevirtual 239, 3) := by decide +kernel
theorem dX9_meanByUse_41 : decode cX9_meanByUse 41 = .ok (.i2d, 1) := by decide +kernel
theorem dX9_meanByUse_42 : decode cX9_meanByUse 42 = .ok (.iload_n 1, 1) := by decide +kernel
theorem dX9_meanByUse_43 : decode cX9_meanByUse 43 = .ok (.i2d, 1) := by decide +kernel
theorem dX9_meanByUse_44 : decode cX9_meanByUse 44 = .ok (.ddiv, 1) := by decide +kernel
theorem dX9_meanByUse_45 : decode cX9_meanByUse 45 = .ok (.dreturn, 1) := by decide +kernel
set_option maxRecDepth 20000 in
theorem ggX9_meanWay_X9_meanByUse : GoodIn wsX9_meanWay wsX9_meanByUse := goodIn_r _ [6, 7, 8, 9, 10, 5, 11, 12, 13, 14, 15, 16, 17, 18, 19, 20, 21, 22, 23, 24, 25, 26, 27, 28, 29, 30, 31, 32] rfl (by decide +kernel)
set_option maxRecDepth 20000 in
theorem gX9_meanWay_X9_meanByUse : GoodIn wsX9_meanWay (wsV RX9 242 RX9 yX9_meanByUse wsX9_meanByUse) := goodIn_app (goodIn_r _ [2, 3, 4, 5] rfl (by decide +kernel)) ggX9_meanWay_X9_meanByUse
theorem dX9_meanWay_0 : decode cX9_meanWay 0 = .ok (.aload_n 0, 1) := by decide +kernel
theorem dX9_meanWay_1 : decode cX9_meanWay 1 = .ok (.iconst 0, 1) := by decide +kernel
theorem dX9_meanWay_2 : decode cX9_meanWay 2 = .ok (.putfield 35, 3) := by decide +kernel
theorem dX9_meanWay_5 : decode cX9_meanWay 5 = .ok (.aload_n 0, 1) := by decide +kernel
theorem dX9_meanWay_6 : decode cX9_meanWay 6 = .ok (.invokevirtual 242, 3) := by decide +kernel
theorem dX9_meanWay_9 : decode cX9_meanWay 9 = .ok (.dreturn, 1) := by decide +kernel
theorem dX9_meanByFetch_0 : decode cX9_meanByFetch 0 = .ok (.aload_n 0, 1) := by decide +kernel
theorem dX9_meanByFetch_1 : decode cX9_meanByFetch 1 = .ok (.getfield 7, 3) := by decide +kernel
theorem dX9_meanByFetch_4 : decode cX9_meanByFetch 4 = .ok (.iconst 5, 1) := by decide +kernel
theorem dX9_meanByFetch_5 : decode cX9_meanByFetch 5 = .ok (.iaload, 1) := by decide +kernel
theorem dX9_meanByFetch_6 : decode cX9_meanByFetch 6 = .ok (.ifCond .ne 7, 3) := by decide +kernel
theorem dX9_meanByFetch_9 : decode cX9_meanByFetch 9 = .ok (.dconst 0, 1) := by decide +kernel
theorem dX9_meanByFetch_10 : decode cX9_meanByFetch 10 = .ok (.goto 18, 3) := by decide +kernel
theorem dX9_meanByFetch_13 : decode cX9_meanByFetch 13 = .ok (.aload_n 0, 1) := by decide +kernel
theorem dX9_meanByFetch_14 : decode cX9_meanByFetch 14 = .ok (.getfield 7, 3) := by decide +kernel
theorem dX9_meanByFetch_17 : decode cX9_meanByFetch 17 = .ok (.iconst 4, 1) := by decide +kernel
theorem dX9_meanByFetch_18 : decode cX9_meanByFetch 18 = .ok (.iaload, 1) := by decide +kernel
theorem dX9_meanByFetch_19 : decode cX9_meanByFetch 19 = .ok (.i2d, 1) := by decide +kernel
theorem dX9_meanByFetch_20 : decode cX9_meanByFetch 20 = .ok (.aload_n 0, 1) := by decide +kernel
theorem dX9_meanByFetch_21 : decode cX9_meanByFetch 21 = .ok (.getfield 7, 3) := by decide +kernel
theorem dX9_meanByFetch_24 : decode cX9_meanByFetch 24 = .ok (.iconst 5, 1) := by decide +kernel
theorem dX9_meanByFetch_25 : decode cX9_meanByFetch 25 = .ok (.iaload, 1) := by decide +kernel
theorem dX9_meanByFetch_26 : decode cX9_meanByFetch 26 = .ok (.i2d, 1) := by decide +kernel
theorem dX9_meanByFetch_27 : decode cX9_meanByFetch 27 = .ok (.ddiv, 1) := by decide +kernel
theorem dX9_meanByFetch_28 : decode cX9_meanByFetch 28 = .ok (.dreturn, 1) := by decide +kernel
set_option maxRecDepth 20000 in
theorem ggX9_meanTicks_X9_meanByFetch : GoodIn wsX9_meanTicks wsX9_meanByFetch := goodIn_r _ [6, 7, 8, 9, 10, 11, 12, 13, 14, 15, 16, 17, 18, 19, 20] rfl (by decide +kernel)
set_option maxRecDepth 20000 in
theorem gX9_meanTicks_X9_meanByFetch : GoodIn wsX9_meanTicks (wsV RX9 246 RX9 yX9_meanByFetch wsX9_meanByFetch) := goodIn_app (goodIn_r _ [2, 3, 4, 5] rfl (by decide +kernel)) ggX9_meanTicks_X9_meanByFetch
theorem dX9_meanTicks_0 : decode cX9_meanTicks 0 = .ok (.aload_n 0, 1) := by decide +kernel
theorem dX9_meanTicks_1 : decode cX9_meanTicks 1 = .ok (.iconst 0, 1) := by decide +kernel
theorem dX9_meanTicks_2 : decode cX9_meanTicks 2 = .ok (.putfield 35, 3) := by decide +kernel
theorem dX9_meanTicks_5 : decode cX9_meanTicks 5 = .ok (.aload_n 0, 1) := by decide +kernel
theorem dX9_meanTicks_6 : decode cX9_meanTicks 6 = .ok (.invokevirtual 246, 3) := by decide +kernel
theorem dX9_meanTicks_9 : decode cX9_meanTicks 9 = .ok (.dreturn, 1) := by decide +kernel
set_option maxRecDepth 20000 in
theorem ggX9_digestShelf_X9_of : GoodIn wsX9_digestShelf wsX9_of := goodIn_r _ [7, 2, 12, 13, 14, 15, 16, 17, 18, 19, 20, 21, 22, 23, 24] rfl (by decide +kernel)
set_option maxRecDepth 20000 in
theorem gX9_digestShelf_X9_of : GoodIn wsX9_digestShelf (wsV RX9 46 RX9 yX9_of wsX9_of) := goodIn_app (goodIn_r _ [3, 4, 5, 6] rfl (by decide +kernel)) ggX9_digestShelf_X9_of
set_option maxRecDepth 20000 in
theorem ggX9_digestShelf_X9_weight : GoodIn wsX9_digestShelf wsX9_weight := goodIn_r _ [11, 2, 3, 4, 5, 6, 7, 12, 13, 14, 15, 16, 17, 18, 19, 20, 21, 22, 23, 24] rfl (by decide +kernel)
set_option maxRecDepth 20000 in
theorem gX9_digestShelf_X9_weight : GoodIn wsX9_digestShelf (wsV RX9 163 RX9 yX9_weight wsX9_weight) := goodIn_app (goodIn_r _ [8, 9, 10, 6] rfl (by decide +kernel)) ggX9_digestShelf_X9_weight
theorem dX9_digestShelf_0 : decode cX9_digestShelf 0 = .ok (.ldc2_w 249, 3) := by decide +kernel
theorem dX9_digestShelf_3 : decode cX9_digestShelf 3 = .ok (.ldc2_w 249, 3) := by decide +kernel
theorem dX9_digestShelf_6 : decode cX9_digestShelf 6 = .ok (.ldc2_w 249, 3) := by decide +kernel
theorem dX9_digestShelf_9 : decode cX9_digestShelf 9 = .ok (.lload_n 1, 1) := by decide +kernel
theorem dX9_digestShelf_10 : decode cX9_digestShelf 10 = .ok (.lmul, 1) := by decide +kernel
theorem dX9_digestShelf_11 : decode cX9_digestShelf 11 = .ok (.aload_n 0, 1) := by decide +kernel
theorem dX9_digestShelf_12 : decode cX9_digestShelf 12 = .ok (.iload_n 3, 1) := by decide +kernel
theorem dX9_digestShelf_13 : decode cX9_digestShelf 13 = .ok (.iconst 0, 1) := by decide +kernel
theorem dX9_digestShelf_14 : decode cX9_digestShelf 14 = .ok (.invokevirtual 46, 3) := by decide +kernel
theorem dX9_digestShelf_17 : decode cX9_digestShelf 17 = .ok (.i2l, 1) := by decide +kernel
theorem dX9_digestShelf_18 : decode cX9_digestShelf 18 = .ok (.ladd, 1) := by decide +kernel
theorem dX9_digestShelf_19 : decode cX9_digestShelf 19 = .ok (.lmul, 1) := by decide +kernel
theorem dX9_digestShelf_20 : decode cX9_digestShelf 20 = .ok (.aload_n 0, 1) := by decide +kernel
theorem dX9_digestShelf_21 : decode cX9_digestShelf 21 = .ok (.iload_n 3, 1) := by decide +kernel
theorem dX9_digestShelf_22 : decode cX9_digestShelf 22 = .ok (.iconst 1, 1) := by decide +kernel
theorem dX9_digestShelf_23 : decode cX9_digestShelf 23 = .ok (.invokevirtual 46, 3) := by decide +kernel
theorem dX9_digestShelf_26 : decode cX9_digestShelf 26 = .ok (.i2l, 1) := by decide +kernel
theorem dX9_digestShelf_27 : decode cX9_digestShelf 27 = .ok (.ladd, 1) := by decide +kernel
theorem dX9_digestShelf_28 : decode cX9_digestShelf 28 = .ok (.lmul, 1) := by decide +kernel
theorem dX9_digestShelf_29 : decode cX9_digestShelf 29 = .ok (.aload_n 0, 1) := by decide +kernel
theorem dX9_digestShelf_30 : decode cX9_digestShelf 30 = .ok (.iload_n 3, 1) := by decide +kernel
theorem dX9_digestShelf_31 : decode cX9_digestShelf 31 = .ok (.iconst 2, 1) := by decide +kernel
theorem dX9_digestShelf_32 : decode cX9_digestShelf 32 = .ok (.invokevirtual 46, 3) := by decide +kernel
theorem dX9_digestShelf_35 : decode cX9_digestShelf 35 = .ok (.i2l, 1) := by decide +kernel
theorem dX9_digestShelf_36 : decode cX9_digestShelf 36 = .ok (.ladd, 1) := by decide +kernel
theorem dX9_digestShelf_37 : decode cX9_digestShelf 37 = .ok (.lstore 4, 2) := by decide +kernel
theorem dX9_digestShelf_39 : decode cX9_digestShelf 39 = .ok (.ldc2_w 249, 3) := by decide +kernel
theorem dX9_digestShelf_42 : decode cX9_digestShelf 42 = .ok (.lload 4, 2) := by decide +kernel
theorem dX9_digestShelf_44 : decode cX9_digestShelf 44 = .ok (.lmul, 1) := by decide +kernel
theorem dX9_digestShelf_45 : decode cX9_digestShelf 45 = .ok (.aload_n 0, 1) := by decide +kernel
theorem dX9_digestShelf_46 : decode cX9_digestShelf 46 = .ok (.getfield 7, 3) := by decide +kernel
theorem dX9_digestShelf_49 : decode cX9_digestShelf 49 = .ok (.iconst 1, 1) := by decide +kernel
theorem dX9_digestShelf_50 : decode cX9_digestShelf 50 = .ok (.iaload, 1) := by decide +kernel
theorem dX9_digestShelf_51 : decode cX9_digestShelf 51 = .ok (.iload_n 3, 1) := by decide +kernel
theorem dX9_digestShelf_52 : decode cX9_digestShelf 52 = .ok (.if_icmp .ne 7, 3) := by decide +kernel
theorem dX9_digestShelf_55 : decode cX9_digestShelf 55 = .ok (.iconst 1, 1) := by decide +kernel
theorem dX9_digestShelf_56 : decode cX9_digestShelf 56 = .ok (.goto 4, 3) := by decide +kernel
theorem dX9_digestShelf_59 : decode cX9_digestShelf 59 = .ok (.iconst 0, 1) := by decide +kernel
theorem dX9_digestShelf_60 : decode cX9_digestShelf 60 = .ok (.i2l, 1) := by decide +kernel
theorem dX9_digestShelf_61 : decode cX9_digestShelf 61 = .ok (.ladd, 1) := by decide +kernel
theorem dX9_digestShelf_62 : decode cX9_digestShelf 62 = .ok (.lstore 4, 2) := by decide +kernel
theorem dX9_digestShelf_64 : decode cX9_digestShelf 64 = .ok (.iconst 0, 1) := by decide +kernel
theorem dX9_digestShelf_65 : decode cX9_digestShelf 65 = .ok (.istore 6, 2) := by decide +kernel
theorem dX9_digestShelf_67 : decode cX9_digestShelf 67 = .ok (.iload 6, 2) := by decide +kernel
theorem dX9_digestShelf_69 : decode cX9_digestShelf 69 = .ok (.bipush 10, 2) := by decide +kernel
theorem dX9_digestShelf_71 : decode cX9_digestShelf 71 = .ok (.if_icmp .ge 28, 3) := by decide +kernel
theorem dX9_digestShelf_74 : decode cX9_digestShelf 74 = .ok (.ldc2_w 249, 3) := by decide +kernel
theorem dX9_digestShelf_77 : decode cX9_digestShelf 77 = .ok (.lload 4, 2) := by decide +kernel
theorem dX9_digestShelf_79 : decode cX9_digestShelf 79 = .ok (.lmul, 1) := by decide +kernel
theorem dX9_digestShelf_80 : decode cX9_digestShelf 80 = .ok (.aload_n 0, 1) := by decide +kernel
theorem dX9_digestShelf_81 : decode cX9_digestShelf 81 = .ok (.iload_n 3, 1) := by decide +kernel
theorem dX9_digestShelf_82 : decode cX9_digestShelf 82 = .ok (.iconst 4, 1) := by decide +kernel
theorem dX9_digestShelf_83 : decode cX9_digestShelf 83 = .ok (.iload 6, 2) := by decide +kernel
theorem dX9_digestShelf_85 : decode cX9_digestShelf 85 = .ok (.iadd, 1) := by decide +kernel
theorem dX9_digestShelf_86 : decode cX9_digestShelf 86 = .ok (.invokevirtual 46, 3) := by decide +kernel
theorem dX9_digestShelf_89 : decode cX9_digestShelf 89 = .ok (.i2l, 1) := by decide +kernel
theorem dX9_digestShelf_90 : decode cX9_digestShelf 90 = .ok (.ladd, 1) := by decide +kernel
theorem dX9_digestShelf_91 : decode cX9_digestShelf 91 = .ok (.lstore 4, 2) := by decide +kernel
theorem dX9_digestShelf_93 : decode cX9_digestShelf 93 = .ok (.iinc 6 1, 3) := by decide +kernel
theorem dX9_digestShelf_96 : decode cX9_digestShelf 96 = .ok (.goto (-29), 3) := by decide +kernel
theorem dX9_digestShelf_99 : decode cX9_digestShelf 99 = .ok (.ldc2_w 249, 3) := by decide +kernel
theorem dX9_digestShelf_102 : decode cX9_digestShelf 102 = .ok (.ldc2_w 249, 3) := by decide +kernel
theorem dX9_digestShelf_105 : decode cX9_digestShelf 105 = .ok (.lload 4, 2) := by decide +kernel
theorem dX9_digestShelf_107 : decode cX9_digestShelf 107 = .ok (.lmul, 1) := by decide +kernel
theorem dX9_digestShelf_108 : decode cX9_digestShelf 108 = .ok (.aload_n 0, 1) := by decide +kernel
theorem dX9_digestShelf_109 : decode cX9_digestShelf 109 = .ok (.iload_n 3, 1) := by decide +kernel
theorem dX9_digestShelf_110 : decode cX9_digestShelf 110 = .ok (.invokevirtual 163, 3) := by decide +kernel
theorem dX9_digestShelf_113 : decode cX9_digestShelf 113 = .ok (.i2l, 1) := by decide +kernel
theorem dX9_digestShelf_114 : decode cX9_digestShelf 114 = .ok (.ladd, 1) := by decide +kernel
theorem dX9_digestShelf_115 : decode cX9_digestShelf 115 = .ok (.lmul, 1) := by decide +kernel
theorem dX9_digestShelf_116 : decode cX9_digestShelf 116 = .ok (.aload_n 0, 1) := by decide +kernel
theorem dX9_digestShelf_117 : decode cX9_digestShelf 117 = .ok (.iload_n 3, 1) := by decide +kernel
theorem dX9_digestShelf_118 : decode cX9_digestShelf 118 = .ok (.iconst 3, 1) := by decide +kernel
theorem dX9_digestShelf_119 : decode cX9_digestShelf 119 = .ok (.invokevirtual 46, 3) := by decide +kernel
theorem dX9_digestShelf_122 : decode cX9_digestShelf 122 = .ok (.i2l, 1) := by decide +kernel
theorem dX9_digestShelf_123 : decode cX9_digestShelf 123 = .ok (.ladd, 1) := by decide +kernel
theorem dX9_digestShelf_124 : decode cX9_digestShelf 124 = .ok (.lreturn, 1) := by decide +kernel
set_option maxRecDepth 20000 in
theorem ggX9_digestTower_X9_on : GoodIn wsX9_digestTower wsX9_on := goodIn_r _ [7, 2, 8, 9, 10, 6, 11, 12, 13, 14, 31, 32, 33, 34, 35, 36, 37, 38, 39, 40, 41, 42, 43] rfl (by decide +kernel)
set_option maxRecDepth 20000 in
theorem gX9_digestTower_X9_on : GoodIn wsX9_digestTower (wsV RX9 50 RX9 yX9_on wsX9_on) := goodIn_app (goodIn_r _ [3, 4, 5, 6] rfl (by decide +kernel)) ggX9_digestTower_X9_on
set_option maxRecDepth 20000 in
theorem ggX9_digestTower_X9_freeMany : GoodIn wsX9_digestTower wsX9_freeMany := goodIn_r _ [18, 3, 4, 5, 6, 7, 2, 8, 9, 10, 11, 12, 13, 14, 31, 32, 33, 34, 35, 36, 37, 38, 39, 40, 41, 42, 43] rfl (by decide +kernel)
set_option maxRecDepth 20000 in
theorem gX9_digestTower_X9_freeMany : GoodIn wsX9_digestTower (wsV RX9 209 RX9 yX9_freeMany wsX9_freeMany) := goodIn_app (goodIn_r _ [15, 16, 17, 6] rfl (by decide +kernel)) ggX9_digestTower_X9_freeMany
set_option maxRecDepth 20000 in
theorem ggX9_digestTower_X9_place : GoodIn wsX9_digestTower wsX9_place := goodIn_r _ [22, 23, 24, 25, 6, 26, 3, 4, 5, 7, 2, 8, 9, 10, 11, 12, 13, 14, 31, 32, 33, 34, 35, 36, 37, 38, 39, 40, 41, 42, 43] rfl (by decide +kernel)
set_option maxRecDepth 20000 in
theorem gX9_digestTower_X9_place : GoodIn wsX9_digestTower (wsV RX9 74 RX9 yX9_place wsX9_place) := goodIn_app (goodIn_r _ [19, 20, 21, 6] rfl (by decide +kernel)) ggX9_digestTower_X9_place
set_option maxRecDepth 20000 in
theorem ggX9_digestTower_X9_gap : GoodIn wsX9_digestTower wsX9_gap := goodIn_r _ [30, 3, 4, 5, 6, 7, 2, 8, 9, 10, 11, 12, 13, 14, 31, 32, 33, 34, 35, 36, 37, 38, 39, 40, 41, 42, 43] rfl (by decide +kernel)
set_option maxRecDepth 20000 in
theorem gX9_digestTower_X9_gap : GoodIn wsX9_digestTower (wsV RX9 212 RX9 yX9_gap wsX9_gap) := goodIn_app (goodIn_r _ [27, 28, 29, 6] rfl (by decide +kernel)) ggX9_digestTower_X9_gap
theorem dX9_digestTower_0 : decode cX9_digestTower 0 = .ok (.lload_n 1, 1) := by decide +kernel
theorem dX9_digestTower_1 : decode cX9_digestTower 1 = .ok (.lstore_n 3, 1) := by decide +kernel
theorem dX9_digestTower_2 : decode cX9_digestTower 2 = .ok (.iconst 0, 1) := by decide +kernel
theorem dX9_digestTower_3 : decode cX9_digestTower 3 = .ok (.istore 5, 2) := by decide +kernel
theorem dX9_digestTower_5 : decode cX9_digestTower 5 = .ok (.iload 5, 2) := by decide +kernel
theorem dX9_digestTower_7 : decode cX9_digestTower 7 = .ok (.bipush 40, 2) := by decide +kernel
theorem dX9_digestTower_9 : decode cX9_digestTower 9 = .ok (.if_icmp .ge 33, 3) := by decide +kernel
theorem dX9_digestTower_12 : decode cX9_digestTower 12 = .ok (.ldc2_w 249, 3) := by decide +kernel
theorem dX9_digestTower_15 : decode cX9_digestTower 15 = .ok (.lload_n 3, 1) := by decide +kernel
theorem dX9_digestTower_16 : decode cX9_digestTower 16 = .ok (.lmul, 1) := by decide +kernel
theorem dX9_digestTower_17 : decode cX9_digestTower 17 = .ok (.aload_n 0, 1) := by decide +kernel
theorem dX9_digestTower_18 : decode cX9_digestTower 18 = .ok (.iload 5, 2) := by decide +kernel
theorem dX9_digestTower_20 : decode cX9_digestTower 20 = .ok (.bipush 20, 2) := by decide +kernel
theorem dX9_digestTower_22 : decode cX9_digestTower 22 = .ok (.idiv, 1) := by decide +kernel
theorem dX9_digestTower_23 : decode cX9_digestTower 23 = .ok (.iload 5, 2) := by decide +kernel
theorem dX9_digestTower_25 : decode cX9_digestTower 25 = .ok (.bipush 20, 2) := by decide +kernel
theorem dX9_digestTower_27 : decode cX9_digestTower 27 = .ok (.irem, 1) := by decide +kernel
theorem dX9_digestTower_28 : decode cX9_digestTower 28 = .ok (.invokevirtual 50, 3) := by decide +kernel
theorem dX9_digestTower_31 : decode cX9_digestTower 31 = .ok (.i2l, 1) := by decide +kernel
theorem dX9_digestTower_32 : decode cX9_digestTower 32 = .ok (.ladd, 1) := by decide +kernel
theorem dX9_digestTower_33 : decode cX9_digestTower 33 = .ok (.lconst 1, 1) := by decide +kernel
theorem dX9_digestTower_34 : decode cX9_digestTower 34 = .ok (.ladd, 1) := by decide +kernel
theorem dX9_digestTower_35 : decode cX9_digestTower 35 = .ok (.lstore_n 3, 1) := by decide +kernel
theorem dX9_digestTower_36 : decode cX9_digestTower 36 = .ok (.iinc 5 1, 3) := by decide +kernel
theorem dX9_digestTower_39 : decode cX9_digestTower 39 = .ok (.goto (-34), 3) := by decide +kernel
theorem dX9_digestTower_42 : decode cX9_digestTower 42 = .ok (.ldc2_w 249, 3) := by decide +kernel
theorem dX9_digestTower_45 : decode cX9_digestTower 45 = .ok (.ldc2_w 249, 3) := by decide +kernel
theorem dX9_digestTower_48 : decode cX9_digestTower 48 = .ok (.lload_n 3, 1) := by decide +kernel
theorem dX9_digestTower_49 : decode cX9_digestTower 49 = .ok (.lmul, 1) := by decide +kernel
theorem dX9_digestTower_50 : decode cX9_digestTower 50 = .ok (.aload_n 0, 1) := by decide +kernel
theorem dX9_digestTower_51 : decode cX9_digestTower 51 = .ok (.invokevirtual 209, 3) := by decide +kernel
theorem dX9_digestTower_54 : decode cX9_digestTower 54 = .ok (.i2l, 1) := by decide +kernel
theorem dX9_digestTower_55 : decode cX9_digestTower 55 = .ok (.ladd, 1) := by decide +kernel
theorem dX9_digestTower_56 : decode cX9_digestTower 56 = .ok (.lmul, 1) := by decide +kernel
theorem dX9_digestTower_57 : decode cX9_digestTower 57 = .ok (.aload_n 0, 1) := by decide +kernel
theorem dX9_digestTower_58 : decode cX9_digestTower 58 = .ok (.invokevirtual 209, 3) := by decide +kernel
theorem dX9_digestTower_61 : decode cX9_digestTower 61 = .ok (.i2l, 1) := by decide +kernel
theorem dX9_digestTower_62 : decode cX9_digestTower 62 = .ok (.ladd, 1) := by decide +kernel
theorem dX9_digestTower_63 : decode cX9_digestTower 63 = .ok (.lstore_n 3, 1) := by decide +kernel
theorem dX9_digestTower_64 : decode cX9_digestTower 64 = .ok (.iconst 1, 1) := by decide +kernel
theorem dX9_digestTower_65 : decode cX9_digestTower 65 = .ok (.istore 5, 2) := by decide +kernel
theorem dX9_digestTower_67 : decode cX9_digestTower 67 = .ok (.iload 5, 2) := by decide +kernel
theorem dX9_digestTower_69 : decode cX9_digestTower 69 = .ok (.iconst 5, 1) := by decide +kernel
theorem dX9_digestTower_70 : decode cX9_digestTower 70 = .ok (.if_icmp .ge 25, 3) := by decide +kernel
theorem dX9_digestTower_73 : decode cX9_digestTower 73 = .ok (.ldc2_w 249, 3) := by decide +kernel
theorem dX9_digestTower_76 : decode cX9_digestTower 76 = .ok (.lload_n 3, 1) := by decide +kernel
theorem dX9_digestTower_77 : decode cX9_digestTower 77 = .ok (.lmul, 1) := by decide +kernel
theorem dX9_digestTower_78 : decode cX9_digestTower 78 = .ok (.aload_n 0, 1) := by decide +kernel
theorem dX9_digestTower_79 : decode cX9_digestTower 79 = .ok (.iload 5, 2) := by decide +kernel
theorem dX9_digestTower_81 : decode cX9_digestTower 81 = .ok (.invokevirtual 74, 3) := by decide +kernel
theorem dX9_digestTower_84 : decode cX9_digestTower 84 = .ok (.i2l, 1) := by decide +kernel
theorem dX9_digestTower_85 : decode cX9_digestTower 85 = .ok (.ladd, 1) := by decide +kernel
theorem dX9_digestTower_86 : decode cX9_digestTower 86 = .ok (.lconst 1, 1) := by decide +kernel
theorem dX9_digestTower_87 : decode cX9_digestTower 87 = .ok (.ladd, 1) := by decide +kernel
theorem dX9_digestTower_88 : decode cX9_digestTower 88 = .ok (.lstore_n 3, 1) := by decide +kernel
theorem dX9_digestTower_89 : decode cX9_digestTower 89 = .ok (.iinc 5 1, 3) := by decide +kernel
theorem dX9_digestTower_92 : decode cX9_digestTower 92 = .ok (.goto (-25), 3) := by decide +kernel
theorem dX9_digestTower_95 : decode cX9_digestTower 95 = .ok (.ldc2_w 249, 3) := by decide +kernel
theorem dX9_digestTower_98 : decode cX9_digestTower 98 = .ok (.ldc2_w 249, 3) := by decide +kernel
theorem dX9_digestTower_101 : decode cX9_digestTower 101 = .ok (.lload_n 3, 1) := by decide +kernel
theorem dX9_digestTower_102 : decode cX9_digestTower 102 = .ok (.lmul, 1) := by decide +kernel
theorem dX9_digestTower_103 : decode cX9_digestTower 103 = .ok (.aload_n 0, 1) := by decide +kernel
theorem dX9_digestTower_104 : decode cX9_digestTower 104 = .ok (.iconst 0, 1) := by decide +kernel
theorem dX9_digestTower_105 : decode cX9_digestTower 105 = .ok (.invokevirtual 212, 3) := by decide +kernel
theorem dX9_digestTower_108 : decode cX9_digestTower 108 = .ok (.i2l, 1) := by decide +kernel
theorem dX9_digestTower_109 : decode cX9_digestTower 109 = .ok (.ladd, 1) := by decide +kernel
theorem dX9_digestTower_110 : decode cX9_digestTower 110 = .ok (.lmul, 1) := by decide +kernel
theorem dX9_digestTower_111 : decode cX9_digestTower 111 = .ok (.aload_n 0, 1) := by decide +kernel
theorem dX9_digestTower_112 : decode cX9_digestTower 112 = .ok (.iconst 1, 1) := by decide +kernel
theorem dX9_digestTower_113 : decode cX9_digestTower 113 = .ok (.invokevirtual 212, 3) := by decide +kernel
theorem dX9_digestTower_116 : decode cX9_digestTower 116 = .ok (.i2l, 1) := by decide +kernel
theorem dX9_digestTower_117 : decode cX9_digestTower 117 = .ok (.ladd, 1) := by decide +kernel
theorem dX9_digestTower_118 : decode cX9_digestTower 118 = .ok (.lstore_n 3, 1) := by decide +kernel
theorem dX9_digestTower_119 : decode cX9_digestTower 119 = .ok (.ldc2_w 249, 3) := by decide +kernel
theorem dX9_digestTower_122 : decode cX9_digestTower 122 = .ok (.ldc2_w 249, 3) := by decide +kernel
theorem dX9_digestTower_125 : decode cX9_digestTower 125 = .ok (.lload_n 3, 1) := by decide +kernel
theorem dX9_digestTower_126 : decode cX9_digestTower 126 = .ok (.lmul, 1) := by decide +kernel
theorem dX9_digestTower_127 : decode cX9_digestTower 127 = .ok (.aload_n 0, 1) := by decide +kernel
theorem dX9_digestTower_128 : decode cX9_digestTower 128 = .ok (.getfield 7, 3) := by decide +kernel
theorem dX9_digestTower_131 : decode cX9_digestTower 131 = .ok (.iconst 2, 1) := by decide +kernel
theorem dX9_digestTower_132 : decode cX9_digestTower 132 = .ok (.iaload, 1) := by decide +kernel
theorem dX9_digestTower_133 : decode cX9_digestTower 133 = .ok (.i2l, 1) := by decide +kernel
theorem dX9_digestTower_134 : decode cX9_digestTower 134 = .ok (.ladd, 1) := by decide +kernel
theorem dX9_digestTower_135 : decode cX9_digestTower 135 = .ok (.lmul, 1) := by decide +kernel
theorem dX9_digestTower_136 : decode cX9_digestTower 136 = .ok (.aload_n 0, 1) := by decide +kernel
theorem dX9_digestTower_137 : decode cX9_digestTower 137 = .ok (.getfield 7, 3) := by decide +kernel
theorem dX9_digestTower_140 : decode cX9_digestTower 140 = .ok (.iconst 3, 1) := by decide +kernel
theorem dX9_digestTower_141 : decode cX9_digestTower 141 = .ok (.iaload, 1) := by decide +kernel
theorem dX9_digestTower_142 : decode cX9_digestTower 142 = .ok (.i2l, 1) := by decide +kernel
theorem dX9_digestTower_143 : decode cX9_digestTower 143 = .ok (.ladd, 1) := by decide +kernel
theorem dX9_digestTower_144 : decode cX9_digestTower 144 = .ok (.lreturn, 1) := by decide +kernel
set_option maxRecDepth 20000 in
theorem ggX9_digestKinds_X9_stock : GoodIn wsX9_digestKinds wsX9_stock := goodIn_r _ [7, 2, 8, 9, 10, 6, 11, 32, 33, 34, 35, 36, 37, 38, 39, 40, 41, 42, 43, 44] rfl (by decide +kernel)
set_option maxRecDepth 20000 in
theorem gX9_digestKinds_X9_stock : GoodIn wsX9_digestKinds (wsV RX9 84 RX9 yX9_stock wsX9_stock) := goodIn_app (goodIn_r _ [3, 4, 5, 6] rfl (by decide +kernel)) ggX9_digestKinds_X9_stock
set_option maxRecDepth 20000 in
theorem ggX9_digestKinds_X9_having : GoodIn wsX9_digestKinds wsX9_having := goodIn_r _ [15, 2, 8, 9, 10, 6, 11, 32, 33, 34, 35, 36, 37, 38, 39, 40, 41, 42, 43, 44] rfl (by decide +kernel)
set_option maxRecDepth 20000 in
theorem gX9_digestKinds_X9_having : GoodIn wsX9_digestKinds (wsV RX9 218 RX9 yX9_having wsX9_having) := goodIn_app (goodIn_r _ [12, 13, 14, 6] rfl (by decide +kernel)) ggX9_digestKinds_X9_having
set_option maxRecDepth 20000 in
theorem ggX9_digestKinds_X9_missing : GoodIn wsX9_digestKinds wsX9_missing := goodIn_r _ [19, 2, 3, 4, 5, 6, 7, 8, 9, 10, 11, 32, 33, 34, 35, 36, 37, 38, 39, 40, 41, 42, 43, 44] rfl (by decide +kernel)
set_option maxRecDepth 20000 in
theorem gX9_digestKinds_X9_missing : GoodIn wsX9_digestKinds (wsV RX9 221 RX9 yX9_missing wsX9_missing) := goodIn_app (goodIn_r _ [16, 17, 18, 6] rfl (by decide +kernel)) ggX9_digestKinds_X9_missing
set_option maxRecDepth 20000 in
theorem ggX9_digestKinds_X9_lacking : GoodIn wsX9_digestKinds wsX9_lacking := goodIn_r _ [23, 16, 17, 18, 6, 19, 2, 3, 4, 5, 7, 8, 9, 10, 11, 32, 33, 34, 35, 36, 37, 38, 39, 40, 41, 42, 43, 44] rfl (by decide +kernel)
set_option maxRecDepth 20000 in
theorem gX9_digestKinds_X9_lacking : GoodIn wsX9_digestKinds (wsV RX9 224 RX9 yX9_lacking wsX9_lacking) := goodIn_app (goodIn_r _ [20, 21, 22, 6] rfl (by decide +kernel)) ggX9_digestKinds_X9_lacking
set_option maxRecDepth 20000 in
theorem ggX9_digestKinds_X9_heavy : GoodIn wsX9_digestKinds wsX9_heavy := goodIn_r _ [27, 2, 8, 9, 10, 6, 11, 28, 29, 30, 31, 32, 33, 34, 35, 36, 37, 38, 39, 40, 41, 42, 43, 44] rfl (by decide +kernel)
set_option maxRecDepth 20000 in
theorem gX9_digestKinds_X9_heavy : GoodIn wsX9_digestKinds (wsV RX9 215 RX9 yX9_heavy wsX9_heavy) := goodIn_app (goodIn_r _ [24, 25, 26, 6] rfl (by decide +kernel)) ggX9_digestKinds_X9_heavy
theorem dX9_digestKinds_0 : decode cX9_digestKinds 0 = .ok (.lload_n 1, 1) := by decide +kernel
theorem dX9_digestKinds_1 : decode cX9_digestKinds 1 = .ok (.lstore_n 3, 1) := by decide +kernel
theorem dX9_digestKinds_2 : decode cX9_digestKinds 2 = .ok (.iconst 0, 1) := by decide +kernel
theorem dX9_digestKinds_3 : decode cX9_digestKinds 3 = .ok (.istore 5, 2) := by decide +kernel
theorem dX9_digestKinds_5 : decode cX9_digestKinds 5 = .ok (.iload 5, 2) := by decide +kernel
theorem dX9_digestKinds_7 : decode cX9_digestKinds 7 = .ok (.bipush 10, 2) := by decide +kernel
theorem dX9_digestKinds_9 : decode cX9_digestKinds 9 = .ok (.if_icmp .ge 100, 3) := by decide +kernel
theorem dX9_digestKinds_12 : decode cX9_digestKinds 12 = .ok (.ldc2_w 249, 3) := by decide +kernel
theorem dX9_digestKinds_15 : decode cX9_digestKinds 15 = .ok (.ldc2_w 249, 3) := by decide +kernel
theorem dX9_digestKinds_18 : decode cX9_digestKinds 18 = .ok (.ldc2_w 249, 3) := by decide +kernel
theorem dX9_digestKinds_21 : decode cX9_digestKinds 21 = .ok (.lload_n 3, 1) := by decide +kernel
theorem dX9_digestKinds_22 : decode cX9_digestKinds 22 = .ok (.lmul, 1) := by decide +kernel
theorem dX9_digestKinds_23 : decode cX9_digestKinds 23 = .ok (.aload_n 0, 1) := by decide +kernel
theorem dX9_digestKinds_24 : decode cX9_digestKinds 24 = .ok (.getfield 7, 3) := by decide +kernel
theorem dX9_digestKinds_27 : decode cX9_digestKinds 27 = .ok (.sipush 177, 3) := by decide +kernel
theorem dX9_digestKinds_30 : decode cX9_digestKinds 30 = .ok (.iload 5, 2) := by decide +kernel
theorem dX9_digestKinds_32 : decode cX9_digestKinds 32 = .ok (.iadd, 1) := by decide +kernel
theorem dX9_digestKinds_33 : decode cX9_digestKinds 33 = .ok (.iaload, 1) := by decide +kernel
theorem dX9_digestKinds_34 : decode cX9_digestKinds 34 = .ok (.i2l, 1) := by decide +kernel
theorem dX9_digestKinds_35 : decode cX9_digestKinds 35 = .ok (.ladd, 1) := by decide +kernel
theorem dX9_digestKinds_36 : decode cX9_digestKinds 36 = .ok (.lmul, 1) := by decide +kernel
theorem dX9_digestKinds_37 : decode cX9_digestKinds 37 = .ok (.aload_n 0, 1) := by decide +kernel
theorem dX9_digestKinds_38 : decode cX9_digestKinds 38 = .ok (.iload 5, 2) := by decide +kernel
theorem dX9_digestKinds_40 : decode cX9_digestKinds 40 = .ok (.invokevirtual 84, 3) := by decide +kernel
theorem dX9_digestKinds_43 : decode cX9_digestKinds 43 = .ok (.i2l, 1) := by decide +kernel
theorem dX9_digestKinds_44 : decode cX9_digestKinds 44 = .ok (.ladd, 1) := by decide +kernel
theorem dX9_digestKinds_45 : decode cX9_digestKinds 45 = .ok (.lmul, 1) := by decide +kernel
theorem dX9_digestKinds_46 : decode cX9_digestKinds 46 = .ok (.aload_n 0, 1) := by decide +kernel
theorem dX9_digestKinds_47 : decode cX9_digestKinds 47 = .ok (.getfield 7, 3) := by decide +kernel
theorem dX9_digestKinds_50 : decode cX9_digestKinds 50 = .ok (.sipush 197, 3) := by decide +kernel
theorem dX9_digestKinds_53 : decode cX9_digestKinds 53 = .ok (.iload 5, 2) := by decide +kernel
theorem dX9_digestKinds_55 : decode cX9_digestKinds 55 = .ok (.iadd, 1) := by decide +kernel
theorem dX9_digestKinds_56 : decode cX9_digestKinds 56 = .ok (.iaload, 1) := by decide +kernel
theorem dX9_digestKinds_57 : decode cX9_digestKinds 57 = .ok (.i2l, 1) := by decide +kernel
theorem dX9_digestKinds_58 : decode cX9_digestKinds 58 = .ok (.ladd, 1) := by decide +kernel
theorem dX9_digestKinds_59 : decode cX9_digestKinds 59 = .ok (.lstore_n 3, 1) := by decide +kernel
theorem dX9_digestKinds_60 : decode cX9_digestKinds 60 = .ok (.ldc2_w 249, 3) := by decide +kernel
theorem dX9_digestKinds_63 : decode cX9_digestKinds 63 = .ok (.ldc2_w 249, 3) := by decide +kernel
theorem dX9_digestKinds_66 : decode cX9_digestKinds 66 = .ok (.ldc2_w 249, 3) := by decide +kernel
theorem dX9_digestKinds_69 : decode cX9_digestKinds 69 = .ok (.lload_n 3, 1) := by decide +kernel
theorem dX9_digestKinds_70 : decode cX9_digestKinds 70 = .ok (.lmul, 1) := by decide +kernel
theorem dX9_digestKinds_71 : decode cX9_digestKinds 71 = .ok (.aload_n 0, 1) := by decide +kernel
theorem dX9_digestKinds_72 : decode cX9_digestKinds 72 = .ok (.iload 5, 2) := by decide +kernel
theorem dX9_digestKinds_74 : decode cX9_digestKinds 74 = .ok (.invokevirtual 218, 3) := by decide +kernel
theorem dX9_digestKinds_77 : decode cX9_digestKinds 77 = .ok (.i2l, 1) := by decide +kernel
theorem dX9_digestKinds_78 : decode cX9_digestKinds 78 = .ok (.ladd, 1) := by decide +kernel
theorem dX9_digestKinds_79 : decode cX9_digestKinds 79 = .ok (.lmul, 1) := by decide +kernel
theorem dX9_digestKinds_80 : decode cX9_digestKinds 80 = .ok (.aload_n 0, 1) := by decide +kernel
theorem dX9_digestKinds_81 : decode cX9_digestKinds 81 = .ok (.getfield 7, 3) := by decide +kernel
theorem dX9_digestKinds_84 : decode cX9_digestKinds 84 = .ok (.sipush 187, 3) := by decide +kernel
theorem dX9_digestKinds_87 : decode cX9_digestKinds 87 = .ok (.iload 5, 2) := by decide +kernel
theorem dX9_digestKinds_89 : decode cX9_digestKinds 89 = .ok (.iadd, 1) := by decide +kernel
theorem dX9_digestKinds_90 : decode cX9_digestKinds 90 = .ok (.iaload, 1) := by decide +kernel
theorem dX9_digestKinds_91 : decode cX9_digestKinds 91 = .ok (.i2l, 1) := by decide +kernel
theorem dX9_digestKinds_92 : decode cX9_digestKinds 92 = .ok (.ladd, 1) := by decide +kernel
theorem dX9_digestKinds_93 : decode cX9_digestKinds 93 = .ok (.lmul, 1) := by decide +kernel
theorem dX9_digestKinds_94 : decode cX9_digestKinds 94 = .ok (.aload_n 0, 1) := by decide +kernel
theorem dX9_digestKinds_95 : decode cX9_digestKinds 95 = .ok (.iload 5, 2) := by decide +kernel
theorem dX9_digestKinds_97 : decode cX9_digestKinds 97 = .ok (.invokevirtual 221, 3) := by decide +kernel
theorem dX9_digestKinds_100 : decode cX9_digestKinds 100 = .ok (.i2l, 1) := by decide +kernel
theorem dX9_digestKinds_101 : decode cX9_digestKinds 101 = .ok (.ladd, 1) := by decide +kernel
theorem dX9_digestKinds_102 : decode cX9_digestKinds 102 = .ok (.lstore_n 3, 1) := by decide +kernel
theorem dX9_digestKinds_103 : decode cX9_digestKinds 103 = .ok (.iinc 5 1, 3) := by decide +kernel
theorem dX9_digestKinds_106 : decode cX9_digestKinds 106 = .ok (.goto (-101), 3) := by decide +kernel
theorem dX9_digestKinds_109 : decode cX9_digestKinds 109 = .ok (.ldc2_w 249, 3) := by decide +kernel
theorem dX9_digestKinds_112 : decode cX9_digestKinds 112 = .ok (.ldc2_w 249, 3) := by decide +kernel
theorem dX9_digestKinds_115 : decode cX9_digestKinds 115 = .ok (.ldc2_w 249, 3) := by decide +kernel
theorem dX9_digestKinds_118 : decode cX9_digestKinds 118 = .ok (.lload_n 3, 1) := by decide +kernel
theorem dX9_digestKinds_119 : decode cX9_digestKinds 119 = .ok (.lmul, 1) := by decide +kernel
theorem dX9_digestKinds_120 : decode cX9_digestKinds 120 = .ok (.aload_n 0, 1) := by decide +kernel
theorem dX9_digestKinds_121 : decode cX9_digestKinds 121 = .ok (.invokevirtual 224, 3) := by decide +kernel
theorem dX9_digestKinds_124 : decode cX9_digestKinds 124 = .ok (.i2l, 1) := by decide +kernel
theorem dX9_digestKinds_125 : decode cX9_digestKinds 125 = .ok (.ladd, 1) := by decide +kernel
theorem dX9_digestKinds_126 : decode cX9_digestKinds 126 = .ok (.lmul, 1) := by decide +kernel
theorem dX9_digestKinds_127 : decode cX9_digestKinds 127 = .ok (.aload_n 0, 1) := by decide +kernel
theorem dX9_digestKinds_128 : decode cX9_digestKinds 128 = .ok (.iconst 0, 1) := by decide +kernel
theorem dX9_digestKinds_129 : decode cX9_digestKinds 129 = .ok (.invokevirtual 215, 3) := by decide +kernel
theorem dX9_digestKinds_132 : decode cX9_digestKinds 132 = .ok (.i2l, 1) := by decide +kernel
theorem dX9_digestKinds_133 : decode cX9_digestKinds 133 = .ok (.ladd, 1) := by decide +kernel
theorem dX9_digestKinds_134 : decode cX9_digestKinds 134 = .ok (.lmul, 1) := by decide +kernel
theorem dX9_digestKinds_135 : decode cX9_digestKinds 135 = .ok (.aload_n 0, 1) := by decide +kernel
theorem dX9_digestKinds_136 : decode cX9_digestKinds 136 = .ok (.iconst 1, 1) := by decide +kernel
theorem dX9_digestKinds_137 : decode cX9_digestKinds 137 = .ok (.invokevirtual 215, 3) := by decide +kernel
theorem dX9_digestKinds_140 : decode cX9_digestKinds 140 = .ok (.i2l, 1) := by decide +kernel
theorem dX9_digestKinds_141 : decode cX9_digestKinds 141 = .ok (.ladd, 1) := by decide +kernel
theorem dX9_digestKinds_142 : decode cX9_digestKinds 142 = .ok (.lreturn, 1) := by decide +kernel
set_option maxRecDepth 20000 in
theorem ggX9_digestOrders_X9_wants : GoodIn wsX9_digestOrders wsX9_wants := goodIn_r _ [7, 2, 112, 113, 114, 115, 116, 117, 118, 119, 120, 121, 122, 123, 124] rfl (by decide +kernel)
set_option maxRecDepth 20000 in
theorem gX9_digestOrders_X9_wants : GoodIn wsX9_digestOrders (wsV RX9 87 RX9 yX9_wants wsX9_wants) := goodIn_app (goodIn_r _ [3, 4, 5, 6] rfl (by decide +kernel)) ggX9_digestOrders_X9_wants
set_option maxRecDepth 20000 in
theorem ggX9_digestOrders_X9_canBe : GoodIn wsX9_digestOrders wsX9_canBe := goodIn_r _ [11, 3, 4, 5, 6, 7, 2, 12, 13, 14, 15, 16, 17, 18, 19, 112, 113, 114, 115, 116, 117, 118, 119, 120, 121, 122, 123, 124] rfl (by decide +kernel)
set_option maxRecDepth 20000 in
theorem gX9_digestOrders_X9_canBe : GoodIn wsX9_digestOrders (wsV RX9 90 RX9 yX9_canBe wsX9_canBe) := goodIn_app (goodIn_r _ [8, 9, 10, 6] rfl (by decide +kernel)) ggX9_digestOrders_X9_canBe
set_option maxRecDepth 20000 in
theorem ggX9_digestOrders_X9_chosen : GoodIn wsX9_digestOrders wsX9_chosen := goodIn_r _ [23, 2, 8, 9, 10, 6, 11, 3, 4, 5, 7, 12, 13, 14, 15, 16, 17, 18, 19, 24, 25, 26, 27, 28, 29, 30, 112, 113, 114, 115, 116, 117, 118, 119, 120, 121, 122, 123, 124] rfl (by decide +kernel)
set_option maxRecDepth 20000 in
theorem gX9_digestOrders_X9_chosen : GoodIn wsX9_digestOrders (wsV RX9 100 RX9 yX9_chosen wsX9_chosen) := goodIn_app (goodIn_r _ [20, 21, 22, 6] rfl (by decide +kernel)) ggX9_digestOrders_X9_chosen
set_option maxRecDepth 20000 in
theorem ggX9_digestOrders_X9_bits : GoodIn wsX9_digestOrders wsX9_bits := goodIn_r _ [26] rfl (by decide +kernel)
set_option maxRecDepth 20000 in
theorem gX9_digestOrders_X9_bits : GoodIn wsX9_digestOrders (va_wsS RX9 94 yX9_bits wsX9_bits) := goodIn_app (goodIn_r _ [24, 25, 6] rfl (by decide +kernel)) ggX9_digestOrders_X9_bits
set_option maxRecDepth 20000 in
theorem ggX9_digestOrders_X9_cheapest : GoodIn wsX9_digestOrders wsX9_cheapest := goodIn_r _ [34, 2, 35, 36, 37, 6, 38, 8, 9, 10, 11, 3, 4, 5, 7, 12, 13, 14, 15, 16, 17, 18, 19, 39, 40, 41, 42, 43, 44, 45, 46, 47, 48, 49, 50, 51, 52, 20, 21, 22, 23, 24, 25, 26, 27, 28, 29, 30, 53, 54, 55, 56, 57, 58, 59, 60, 61, 62, 63, 64, 65, 66, 67, 68, 69, 70, 71, 72, 73, 74, 75, 76, 77, 78, 79, 80, 81, 82, 83, 84, 85, 86, 87, 88, 89, 90, 91, 92, 93, 94, 95, 96, 97, 98, 99, 100, 101, 102, 103, 104, 105, 106, 107, 108, 109, 110, 111, 112, 113, 114, 115, 116, 117, 118, 119, 120, 121, 122, 123, 124] rfl (by decide +kernel)
set_option maxRecDepth 20000 in
theorem gX9_digestOrders_X9_cheapest : GoodIn wsX9_digestOrders (wsV RX9 230 RX9 yX9_cheapest wsX9_cheapest) := goodIn_app (goodIn_r _ [31, 32, 33, 6] rfl (by decide +kernel)) ggX9_digestOrders_X9_cheapest
theorem dX9_digestOrders_0 : decode cX9_digestOrders 0 = .ok (.ldc2_w 249, 3) := by decide +kernel
theorem dX9_digestOrders_3 : decode cX9_digestOrders 3 = .ok (.lload_n 1, 1) := by decide +kernel
theorem dX9_digestOrders_4 : decode cX9_digestOrders 4 = .ok (.lmul, 1) := by decide +kernel
theorem dX9_digestOrders_5 : decode cX9_digestOrders 5 = .ok (.aload_n 0, 1) := by decide +kernel
theorem dX9_digestOrders_6 : decode cX9_digestOrders 6 = .ok (.getfield 7, 3) := by decide +kernel
theorem dX9_digestOrders_9 : decode cX9_digestOrders 9 = .ok (.bipush 8, 2) := by decide +kernel
theorem dX9_digestOrders_11 : decode cX9_digestOrders 11 = .ok (.iaload, 1) := by decide +kernel
theorem dX9_digestOrders_12 : decode cX9_digestOrders 12 = .ok (.i2l, 1) := by decide +kernel
theorem dX9_digestOrders_13 : decode cX9_digestOrders 13 = .ok (.ladd, 1) := by decide +kernel
theorem dX9_digestOrders_14 : decode cX9_digestOrders 14 = .ok (.lstore_n 3, 1) := by decide +kernel
theorem dX9_digestOrders_15 : decode cX9_digestOrders 15 = .ok (.iconst 0, 1) := by decide +kernel
theorem dX9_digestOrders_16 : decode cX9_digestOrders 16 = .ok (.istore 5, 2) := by decide +kernel
theorem dX9_digestOrders_18 : decode cX9_digestOrders 18 = .ok (.iload 5, 2) := by decide +kernel
theorem dX9_digestOrders_20 : decode cX9_digestOrders 20 = .ok (.aload_n 0, 1) := by decide +kernel
theorem dX9_digestOrders_21 : decode cX9_digestOrders 21 = .ok (.getfield 7, 3) := by decide +kernel
theorem dX9_digestOrders_24 : decode cX9_digestOrders 24 = .ok (.bipush 8, 2) := by decide +kernel
theorem dX9_digestOrders_26 : decode cX9_digestOrders 26 = .ok (.iaload, 1) := by decide +kernel
theorem dX9_digestOrders_27 : decode cX9_digestOrders 27 = .ok (.if_icmp .ge 112, 3) := by decide +kernel
theorem dX9_digestOrders_30 : decode cX9_digestOrders 30 = .ok (.iconst 0, 1) := by decide +kernel
theorem dX9_digestOrders_31 : decode cX9_digestOrders 31 = .ok (.istore 6, 2) := by decide +kernel
theorem dX9_digestOrders_33 : decode cX9_digestOrders 33 = .ok (.iload 6, 2) := by decide +kernel
theorem dX9_digestOrders_35 : decode cX9_digestOrders 35 = .ok (.bipush 10, 2) := by decide +kernel
theorem dX9_digestOrders_37 : decode cX9_digestOrders 37 = .ok (.if_icmp .ge 25, 3) := by decide +kernel
theorem dX9_digestOrders_40 : decode cX9_digestOrders 40 = .ok (.ldc2_w 249, 3) := by decide +kernel
theorem dX9_digestOrders_43 : decode cX9_digestOrders 43 = .ok (.lload_n 3, 1) := by decide +kernel
theorem dX9_digestOrders_44 : decode cX9_digestOrders 44 = .ok (.lmul, 1) := by decide +kernel
theorem dX9_digestOrders_45 : decode cX9_digestOrders 45 = .ok (.aload_n 0, 1) := by decide +kernel
theorem dX9_digestOrders_46 : decode cX9_digestOrders 46 = .ok (.iload 5, 2) := by decide +kernel
theorem dX9_digestOrders_48 : decode cX9_digestOrders 48 = .ok (.iload 6, 2) := by decide +kernel
theorem dX9_digestOrders_50 : decode cX9_digestOrders 50 = .ok (.invokevirtual 87, 3) := by decide +kernel
theorem dX9_digestOrders_53 : decode cX9_digestOrders 53 = .ok (.i2l, 1) := by decide +kernel
theorem dX9_digestOrders_54 : decode cX9_digestOrders 54 = .ok (.ladd, 1) := by decide +kernel
theorem dX9_digestOrders_55 : decode cX9_digestOrders 55 = .ok (.lstore_n 3, 1) := by decide +kernel
theorem dX9_digestOrders_56 : decode cX9_digestOrders 56 = .ok (.iinc 6 1, 3) := by decide +kernel
theorem dX9_digestOrders_59 : decode cX9_digestOrders 59 = .ok (.goto (-26), 3) := by decide +kernel
theorem dX9_digestOrders_62 : decode cX9_digestOrders 62 = .ok (.ldc2_w 249, 3) := by decide +kernel
theorem dX9_digestOrders_65 : decode cX9_digestOrders 65 = .ok (.lload_n 3, 1) := by decide +kernel
theorem dX9_digestOrders_66 : decode cX9_digestOrders 66 = .ok (.lmul, 1) := by decide +kernel
theorem dX9_digestOrders_67 : decode cX9_digestOrders 67 = .ok (.aload_n 0, 1) := by decide +kernel
theorem dX9_digestOrders_68 : decode cX9_digestOrders 68 = .ok (.iload 5, 2) := by decide +kernel
theorem dX9_digestOrders_70 : decode cX9_digestOrders 70 = .ok (.invokevirtual 90, 3) := by decide +kernel
theorem dX9_digestOrders_73 : decode cX9_digestOrders 73 = .ok (.ifCond .eq 7, 3) := by decide +kernel
theorem dX9_digestOrders_76 : decode cX9_digestOrders 76 = .ok (.iconst 1, 1) := by decide +kernel
theorem dX9_digestOrders_77 : decode cX9_digestOrders 77 = .ok (.goto 4, 3) := by decide +kernel
theorem dX9_digestOrders_80 : decode cX9_digestOrders 80 = .ok (.iconst 0, 1) := by decide +kernel
theorem dX9_digestOrders_81 : decode cX9_digestOrders 81 = .ok (.i2l, 1) := by decide +kernel
theorem dX9_digestOrders_82 : decode cX9_digestOrders 82 = .ok (.ladd, 1) := by decide +kernel
theorem dX9_digestOrders_83 : decode cX9_digestOrders 83 = .ok (.lstore_n 3, 1) := by decide +kernel
theorem dX9_digestOrders_84 : decode cX9_digestOrders 84 = .ok (.aload_n 0, 1) := by decide +kernel
theorem dX9_digestOrders_85 : decode cX9_digestOrders 85 = .ok (.iload 5, 2) := by decide +kernel
theorem dX9_digestOrders_87 : decode cX9_digestOrders 87 = .ok (.invokevirtual 90, 3) := by decide +kernel
theorem dX9_digestOrders_90 : decode cX9_digestOrders 90 = .ok (.ifCond .eq 43, 3) := by decide +kernel
theorem dX9_digestOrders_93 : decode cX9_digestOrders 93 = .ok (.aload_n 0, 1) := by decide +kernel
theorem dX9_digestOrders_94 : decode cX9_digestOrders 94 = .ok (.iload 5, 2) := by decide +kernel
theorem dX9_digestOrders_96 : decode cX9_digestOrders 96 = .ok (.invokevirtual 100, 3) := by decide +kernel
theorem dX9_digestOrders_99 : decode cX9_digestOrders 99 = .ok (.istore 6, 2) := by decide +kernel
theorem dX9_digestOrders_101 : decode cX9_digestOrders 101 = .ok (.ldc2_w 249, 3) := by decide +kernel
theorem dX9_digestOrders_104 : decode cX9_digestOrders 104 = .ok (.ldc2_w 249, 3) := by decide +kernel
theorem dX9_digestOrders_107 : decode cX9_digestOrders 107 = .ok (.ldc2_w 249, 3) := by decide +kernel
theorem dX9_digestOrders_110 : decode cX9_digestOrders 110 = .ok (.lload_n 3, 1) := by decide +kernel
theorem dX9_digestOrders_111 : decode cX9_digestOrders 111 = .ok (.lmul, 1) := by decide +kernel
theorem dX9_digestOrders_112 : decode cX9_digestOrders 112 = .ok (.iload 6, 2) := by decide +kernel
theorem dX9_digestOrders_114 : decode cX9_digestOrders 114 = .ok (.invokestatic 94, 3) := by decide +kernel
theorem dX9_digestOrders_117 : decode cX9_digestOrders 117 = .ok (.i2l, 1) := by decide +kernel
theorem dX9_digestOrders_118 : decode cX9_digestOrders 118 = .ok (.ladd, 1) := by decide +kernel
theorem dX9_digestOrders_119 : decode cX9_digestOrders 119 = .ok (.lmul, 1) := by decide +kernel
theorem dX9_digestOrders_120 : decode cX9_digestOrders 120 = .ok (.iload 6, 2) := by decide +kernel
theorem dX9_digestOrders_122 : decode cX9_digestOrders 122 = .ok (.invokestatic 94, 3) := by decide +kernel
theorem dX9_digestOrders_125 : decode cX9_digestOrders 125 = .ok (.i2l, 1) := by decide +kernel
theorem dX9_digestOrders_126 : decode cX9_digestOrders 126 = .ok (.ladd, 1) := by decide +kernel
theorem dX9_digestOrders_127 : decode cX9_digestOrders 127 = .ok (.lmul, 1) := by decide +kernel
theorem dX9_digestOrders_128 : decode cX9_digestOrders 128 = .ok (.iload 6, 2) := by decide +kernel
theorem dX9_digestOrders_130 : decode cX9_digestOrders 130 = .ok (.i2l, 1) := by decide +kernel
theorem dX9_digestOrders_131 : decode cX9_digestOrders 131 = .ok (.ladd, 1) := by decide +kernel
theorem dX9_digestOrders_132 : decode cX9_digestOrders 132 = .ok (.lstore_n 3, 1) := by decide +kernel
theorem dX9_digestOrders_133 : decode cX9_digestOrders 133 = .ok (.iinc 5 1, 3) := by decide +kernel
theorem dX9_digestOrders_136 : decode cX9_digestOrders 136 = .ok (.goto (-118), 3) := by decide +kernel
theorem dX9_digestOrders_139 : decode cX9_digestOrders 139 = .ok (.ldc2_w 249, 3) := by decide +kernel
theorem dX9_digestOrders_142 : decode cX9_digestOrders 142 = .ok (.lload_n 3, 1) := by decide +kernel
theorem dX9_digestOrders_143 : decode cX9_digestOrders 143 = .ok (.lmul, 1) := by decide +kernel
theorem dX9_digestOrders_144 : decode cX9_digestOrders 144 = .ok (.aload_n 0, 1) := by decide +kernel
theorem dX9_digestOrders_145 : decode cX9_digestOrders 145 = .ok (.invokevirtual 230, 3) := by decide +kernel
theorem dX9_digestOrders_148 : decode cX9_digestOrders 148 = .ok (.i2l, 1) := by decide +kernel
theorem dX9_digestOrders_149 : decode cX9_digestOrders 149 = .ok (.ladd, 1) := by decide +kernel
theorem dX9_digestOrders_150 : decode cX9_digestOrders 150 = .ok (.lconst 1, 1) := by decide +kernel
theorem dX9_digestOrders_151 : decode cX9_digestOrders 151 = .ok (.ladd, 1) := by decide +kernel
theorem dX9_digestOrders_152 : decode cX9_digestOrders 152 = .ok (.lreturn, 1) := by decide +kernel
set_option maxRecDepth 20000 in
theorem ggX9_digest_X9_digestShelf : GoodIn wsX9_digest wsX9_digestShelf := goodIn_r _ [13, 4, 2, 14, 15, 16, 12, 17, 18, 19, 20, 21, 194, 195, 196, 197, 198, 199, 200, 201, 202, 203, 204, 205, 206] rfl (by decide +kernel)
set_option maxRecDepth 20000 in
theorem gX9_digest_X9_digestShelf : GoodIn wsX9_digest (wsV RX9 253 RX9 yX9_digestShelf wsX9_digestShelf) := goodIn_app (goodIn_r _ [9, 10, 11, 12] rfl (by decide +kernel)) ggX9_digest_X9_digestShelf
set_option maxRecDepth 20000 in
theorem ggX9_digest_X9_digestTower : GoodIn wsX9_digest wsX9_digestTower := goodIn_r _ [25, 4, 2, 26, 27, 28, 12, 29, 14, 15, 16, 17, 30, 31, 32, 33, 34, 35, 36, 37, 38, 39, 40, 41, 42, 43, 44, 45, 46, 47, 48, 194, 195, 196, 197, 198, 199, 200, 201, 202, 203, 204, 205, 206] rfl (by decide +kernel)
set_option maxRecDepth 20000 in
theorem gX9_digest_X9_digestTower : GoodIn wsX9_digest (wsV RX9 257 RX9 yX9_digestTower wsX9_digestTower) := goodIn_app (goodIn_r _ [22, 23, 24, 12] rfl (by decide +kernel)) ggX9_digest_X9_digestTower
set_option maxRecDepth 20000 in
theorem ggX9_digest_X9_digestKinds : GoodIn wsX9_digest wsX9_digestKinds := goodIn_r _ [52, 4, 2, 53, 54, 55, 12, 56, 14, 15, 16, 17, 57, 58, 59, 60, 61, 62, 63, 64, 65, 66, 67, 68, 69, 70, 71, 72, 18, 19, 20, 21, 194, 195, 196, 197, 198, 199, 200, 201, 202, 203, 204, 205, 206] rfl (by decide +kernel)
set_option maxRecDepth 20000 in
theorem gX9_digest_X9_digestKinds : GoodIn wsX9_digest (wsV RX9 261 RX9 yX9_digestKinds wsX9_digestKinds) := goodIn_app (goodIn_r _ [49, 50, 51, 12] rfl (by decide +kernel)) ggX9_digest_X9_digestKinds
set_option maxRecDepth 20000 in
theorem ggX9_digest_X9_digestOrders : GoodIn wsX9_digest wsX9_digestOrders := goodIn_r _ [76, 4, 2, 77, 78, 79, 12, 80, 81, 82, 83, 84, 53, 54, 55, 56, 14, 15, 16, 17, 85, 86, 87, 88, 89, 90, 91, 92, 93, 94, 95, 96, 97, 98, 99, 100, 101, 102, 103, 104, 105, 106, 107, 108, 109, 110, 111, 112, 113, 114, 115, 116, 117, 118, 119, 120, 121, 122, 123, 124, 125, 126, 127, 128, 129, 130, 131, 132, 133, 134, 135, 136, 137, 138, 139, 140, 141, 142, 143, 144, 145, 37, 38, 39, 40, 41, 42, 43, 44, 26, 27, 28, 29, 30, 31, 32, 146, 147, 148, 149, 150, 151, 152, 153, 154, 155, 156, 157, 158, 159, 160, 161, 194, 195, 196, 197, 198, 199, 200, 201, 202, 203, 204, 205, 206] rfl (by decide +kernel)
set_option maxRecDepth 20000 in
theorem gX9_digest_X9_digestOrders : GoodIn wsX9_digest (wsV RX9 264 RX9 yX9_digestOrders wsX9_digestOrders) := goodIn_app (goodIn_r _ [73, 74, 75, 12] rfl (by decide +kernel)) ggX9_digest_X9_digestOrders
set_option maxRecDepth 20000 in
theorem ggX9_digest_X9_dearest : GoodIn wsX9_digest wsX9_dearest := goodIn_r _ [165, 2, 18, 19, 20, 12, 21, 14, 15, 16, 17, 194, 195, 196, 197, 198, 199, 200, 201, 202, 203, 204, 205, 206] rfl (by decide +kernel)
set_option maxRecDepth 20000 in
theorem gX9_digest_X9_dearest : GoodIn wsX9_digest (wsV RX9 233 RX9 yX9_dearest wsX9_dearest) := goodIn_app (goodIn_r _ [162, 163, 164, 12] rfl (by decide +kernel)) ggX9_digest_X9_dearest
set_option maxRecDepth 20000 in
theorem ggX9_digest_X9_favourite : GoodIn wsX9_digest wsX9_favourite := goodIn_r _ [169, 2, 14, 15, 16, 12, 17, 194, 195, 196, 197, 198, 199, 200, 201, 202, 203, 204, 205, 206] rfl (by decide +kernel)
set_option maxRecDepth 20000 in
theorem gX9_digest_X9_favourite : GoodIn wsX9_digest (wsV RX9 236 RX9 yX9_favourite wsX9_favourite) := goodIn_app (goodIn_r _ [166, 167, 168, 12] rfl (by decide +kernel)) ggX9_digest_X9_favourite
set_option maxRecDepth 20000 in
theorem ggX9_digest_X9_waysSum : GoodIn wsX9_digest wsX9_waysSum := goodIn_r _ [173, 2, 14, 15, 16, 12, 17, 126, 127, 128, 129, 194, 195, 196, 197, 198, 199, 200, 201, 202, 203, 204, 205, 206] rfl (by decide +kernel)
set_option maxRecDepth 20000 in
theorem gX9_digest_X9_waysSum : GoodIn wsX9_digest (wsV RX9 239 RX9 yX9_waysSum wsX9_waysSum) := goodIn_app (goodIn_r _ [170, 171, 172, 12] rfl (by decide +kernel)) ggX9_digest_X9_waysSum
set_option maxRecDepth 20000 in
theorem ggX9_digest_X9_meanByFetch : GoodIn wsX9_digest wsX9_meanByFetch := goodIn_r _ [177, 2, 194, 195, 196, 197, 198, 199, 200, 201, 202, 203, 204, 205, 206] rfl (by decide +kernel)
set_option maxRecDepth 20000 in
theorem gX9_digest_X9_meanByFetch : GoodIn wsX9_digest (wsV RX9 246 RX9 yX9_meanByFetch wsX9_meanByFetch) := goodIn_app (goodIn_r _ [174, 175, 176, 12] rfl (by decide +kernel)) ggX9_digest_X9_meanByFetch
set_option maxRecDepth 20000 in
theorem ggX9_digest_Jxe99ae_doubleToLongBits_ccdee : GoodIn wsX9_digest wsJxe99ae_doubleToLongBits_ccdee := goodIn_r _ [181, 182, 183, 184, 185, 186, 187, 188, 180, 189] rfl (by decide +kernel)
set_option maxRecDepth 20000 in
theorem gX9_digest_Jxe99ae_doubleToLongBits_ccdee : GoodIn wsX9_digest (va_wsS RX9 267 yJxe99ae_doubleToLongBits_ccdee wsJxe99ae_doubleToLongBits_ccdee) := goodIn_app (goodIn_r _ [178, 179, 180] rfl (by decide +kernel)) ggX9_digest_Jxe99ae_doubleToLongBits_ccdee
set_option maxRecDepth 20000 in
theorem ggX9_digest_X9_meanByUse : GoodIn wsX9_digest wsX9_meanByUse := goodIn_r _ [193, 2, 14, 15, 16, 12, 17, 170, 171, 172, 173, 126, 127, 128, 129, 194, 195, 196, 197, 198, 199, 200, 201, 202, 203, 204, 205, 206] rfl (by decide +kernel)
set_option maxRecDepth 20000 in
theorem gX9_digest_X9_meanByUse : GoodIn wsX9_digest (wsV RX9 242 RX9 yX9_meanByUse wsX9_meanByUse) := goodIn_app (goodIn_r _ [190, 191, 192, 12] rfl (by decide +kernel)) ggX9_digest_X9_meanByUse
theorem dX9_digest_0 : decode cX9_digest 0 = .ok (.aload_n 0, 1) := by decide +kernel
theorem dX9_digest_1 : decode cX9_digest 1 = .ok (.iconst 0, 1) := by decide +kernel
theorem dX9_digest_2 : decode cX9_digest 2 = .ok (.putfield 35, 3) := by decide +kernel
theorem dX9_digest_5 : decode cX9_digest 5 = .ok (.aload_n 0, 1) := by decide +kernel
theorem dX9_digest_6 : decode cX9_digest 6 = .ok (.getfield 7, 3) := by decide +kernel
theorem dX9_digest_9 : decode cX9_digest 9 = .ok (.iconst 0, 1) := by decide +kernel
theorem dX9_digest_10 : decode cX9_digest 10 = .ok (.iaload, 1) := by decide +kernel
theorem dX9_digest_11 : decode cX9_digest 11 = .ok (.ifCond .le 7, 3) := by decide +kernel
theorem dX9_digest_14 : decode cX9_digest 14 = .ok (.iconst 1, 1) := by decide +kernel
theorem dX9_digest_15 : decode cX9_digest 15 = .ok (.goto 4, 3) := by decide +kernel
theorem dX9_digest_18 : decode cX9_digest 18 = .ok (.iconst 0, 1) := by decide +kernel
theorem dX9_digest_19 : decode cX9_digest 19 = .ok (.istore_n 1, 1) := by decide +kernel
theorem dX9_digest_20 : decode cX9_digest 20 = .ok (.ldc2_w 251, 3) := by decide +kernel
theorem dX9_digest_23 : decode cX9_digest 23 = .ok (.lstore_n 2, 1) := by decide +kernel
theorem dX9_digest_24 : decode cX9_digest 24 = .ok (.ldc2_w 249, 3) := by decide +kernel
theorem dX9_digest_27 : decode cX9_digest 27 = .ok (.lload_n 2, 1) := by decide +kernel
theorem dX9_digest_28 : decode cX9_digest 28 = .ok (.lmul, 1) := by decide +kernel
theorem dX9_digest_29 : decode cX9_digest 29 = .ok (.aload_n 0, 1) := by decide +kernel
theorem dX9_digest_30 : decode cX9_digest 30 = .ok (.getfield 7, 3) := by decide +kernel
theorem dX9_digest_33 : decode cX9_digest 33 = .ok (.iconst 0, 1) := by decide +kernel
theorem dX9_digest_34 : decode cX9_digest 34 = .ok (.iaload, 1) := by decide +kernel
theorem dX9_digest_35 : decode cX9_digest 35 = .ok (.i2l, 1) := by decide +kernel
theorem dX9_digest_36 : decode cX9_digest 36 = .ok (.ladd, 1) := by decide +kernel
theorem dX9_digest_37 : decode cX9_digest 37 = .ok (.lstore_n 2, 1) := by decide +kernel
theorem dX9_digest_38 : decode cX9_digest 38 = .ok (.iconst 0, 1) := by decide +kernel
theorem dX9_digest_39 : decode cX9_digest 39 = .ok (.istore 4, 2) := by decide +kernel
theorem dX9_digest_41 : decode cX9_digest 41 = .ok (.iload 4, 2) := by decide +kernel
theorem dX9_digest_43 : decode cX9_digest 43 = .ok (.aload_n 0, 1) := by decide +kernel
theorem dX9_digest_44 : decode cX9_digest 44 = .ok (.getfield 7, 3) := by decide +kernel
theorem dX9_digest_47 : decode cX9_digest 47 = .ok (.iconst 0, 1) := by decide +kernel
theorem dX9_digest_48 : decode cX9_digest 48 = .ok (.iaload, 1) := by decide +kernel
theorem dX9_digest_49 : decode cX9_digest 49 = .ok (.if_icmp .ge 17, 3) := by decide +kernel
theorem dX9_digest_52 : decode cX9_digest 52 = .ok (.aload_n 0, 1) := by decide +kernel
theorem dX9_digest_53 : decode cX9_digest 53 = .ok (.lload_n 2, 1) := by decide +kernel
theorem dX9_digest_54 : decode cX9_digest 54 = .ok (.iload 4, 2) := by decide +kernel
theorem dX9_digest_56 : decode cX9_digest 56 = .ok (.invokevirtual 253, 3) := by decide +kernel
theorem dX9_digest_59 : decode cX9_digest 59 = .ok (.lstore_n 2, 1) := by decide +kernel
theorem dX9_digest_60 : decode cX9_digest 60 = .ok (.iinc 4 1, 3) := by decide +kernel
theorem dX9_digest_63 : decode cX9_digest 63 = .ok (.goto (-22), 3) := by decide +kernel
theorem dX9_digest_66 : decode cX9_digest 66 = .ok (.aload_n 0, 1) := by decide +kernel
theorem dX9_digest_67 : decode cX9_digest 67 = .ok (.aload_n 0, 1) := by decide +kernel
theorem dX9_digest_68 : decode cX9_digest 68 = .ok (.lload_n 2, 1) := by decide +kernel
theorem dX9_digest_69 : decode cX9_digest 69 = .ok (.invokevirtual 257, 3) := by decide +kernel
theorem dX9_digest_72 : decode cX9_digest 72 = .ok (.invokevirtual 261, 3) := by decide +kernel
theorem dX9_digest_75 : decode cX9_digest 75 = .ok (.lstore_n 2, 1) := by decide +kernel
theorem dX9_digest_76 : decode cX9_digest 76 = .ok (.ldc2_w 249, 3) := by decide +kernel
theorem dX9_digest_79 : decode cX9_digest 79 = .ok (.lload_n 2, 1) := by decide +kernel
theorem dX9_digest_80 : decode cX9_digest 80 = .ok (.lmul, 1) := by decide +kernel
theorem dX9_digest_81 : decode cX9_digest 81 = .ok (.aload_n 0, 1) := by decide +kernel
theorem dX9_digest_82 : decode cX9_digest 82 = .ok (.getfield 7, 3) := by decide +kernel
theorem dX9_digest_85 : decode cX9_digest 85 = .ok (.bipush 7, 2) := by decide +kernel
theorem dX9_digest_87 : decode cX9_digest 87 = .ok (.iaload, 1) := by decide +kernel
theorem dX9_digest_88 : decode cX9_digest 88 = .ok (.i2l, 1) := by decide +kernel
theorem dX9_digest_89 : decode cX9_digest 89 = .ok (.ladd, 1) := by decide +kernel
theorem dX9_digest_90 : decode cX9_digest 90 = .ok (.lstore_n 2, 1) := by decide +kernel
theorem dX9_digest_91 : decode cX9_digest 91 = .ok (.iconst 0, 1) := by decide +kernel
theorem dX9_digest_92 : decode cX9_digest 92 = .ok (.istore 4, 2) := by decide +kernel
theorem dX9_digest_94 : decode cX9_digest 94 = .ok (.iload 4, 2) := by decide +kernel
theorem dX9_digest_96 : decode cX9_digest 96 = .ok (.iconst 2, 1) := by decide +kernel
theorem dX9_digest_97 : decode cX9_digest 97 = .ok (.aload_n 0, 1) := by decide +kernel
theorem dX9_digest_98 : decode cX9_digest 98 = .ok (.getfield 7, 3) := by decide +kernel
theorem dX9_digest_101 : decode cX9_digest 101 = .ok (.bipush 7, 2) := by decide +kernel
theorem dX9_digest_103 : decode cX9_digest 103 = .ok (.iaload, 1) := by decide +kernel
theorem dX9_digest_104 : decode cX9_digest 104 = .ok (.imul, 1) := by decide +kernel
theorem dX9_digest_105 : decode cX9_digest 105 = .ok (.if_icmp .ge 28, 3) := by decide +kernel
theorem dX9_digest_108 : decode cX9_digest 108 = .ok (.ldc2_w 249, 3) := by decide +kernel
theorem dX9_digest_111 : decode cX9_digest 111 = .ok (.lload_n 2, 1) := by decide +kernel
theorem dX9_digest_112 : decode cX9_digest 112 = .ok (.lmul, 1) := by decide +kernel
theorem dX9_digest_113 : decode cX9_digest 113 = .ok (.aload_n 0, 1) := by decide +kernel
theorem dX9_digest_114 : decode cX9_digest 114 = .ok (.getfield 7, 3) := by decide +kernel
theorem dX9_digest_117 : decode cX9_digest 117 = .ok (.sipush 207, 3) := by decide +kernel
theorem dX9_digest_120 : decode cX9_digest 120 = .ok (.iload 4, 2) := by decide +kernel
theorem dX9_digest_122 : decode cX9_digest 122 = .ok (.iadd, 1) := by decide +kernel
theorem dX9_digest_123 : decode cX9_digest 123 = .ok (.iaload, 1) := by decide +kernel
theorem dX9_digest_124 : decode cX9_digest 124 = .ok (.i2l, 1) := by decide +kernel
theorem dX9_digest_125 : decode cX9_digest 125 = .ok (.ladd, 1) := by decide +kernel
theorem dX9_digest_126 : decode cX9_digest 126 = .ok (.lstore_n 2, 1) := by decide +kernel
theorem dX9_digest_127 : decode cX9_digest 127 = .ok (.iinc 4 1, 3) := by decide +kernel
theorem dX9_digest_130 : decode cX9_digest 130 = .ok (.goto (-36), 3) := by decide +kernel
theorem dX9_digest_133 : decode cX9_digest 133 = .ok (.aload_n 0, 1) := by decide +kernel
theorem dX9_digest_134 : decode cX9_digest 134 = .ok (.lload_n 2, 1) := by decide +kernel
theorem dX9_digest_135 : decode cX9_digest 135 = .ok (.invokevirtual 264, 3) := by decide +kernel
theorem dX9_digest_138 : decode cX9_digest 138 = .ok (.lstore_n 2, 1) := by decide +kernel
theorem dX9_digest_139 : decode cX9_digest 139 = .ok (.ldc2_w 249, 3) := by decide +kernel
theorem dX9_digest_142 : decode cX9_digest 142 = .ok (.ldc2_w 249, 3) := by decide +kernel
theorem dX9_digest_145 : decode cX9_digest 145 = .ok (.ldc2_w 249, 3) := by decide +kernel
theorem dX9_digest_148 : decode cX9_digest 148 = .ok (.lload_n 2, 1) := by decide +kernel
theorem dX9_digest_149 : decode cX9_digest 149 = .ok (.lmul, 1) := by decide +kernel
theorem dX9_digest_150 : decode cX9_digest 150 = .ok (.aload_n 0, 1) := by decide +kernel
theorem dX9_digest_151 : decode cX9_digest 151 = .ok (.getfield 7, 3) := by decide +kernel
theorem dX9_digest_154 : decode cX9_digest 154 = .ok (.iconst 4, 1) := by decide +kernel
theorem dX9_digest_155 : decode cX9_digest 155 = .ok (.iaload, 1) := by decide +kernel
theorem dX9_digest_156 : decode cX9_digest 156 = .ok (.i2l, 1) := by decide +kernel
theorem dX9_digest_157 : decode cX9_digest 157 = .ok (.ladd, 1) := by decide +kernel
theorem dX9_digest_158 : decode cX9_digest 158 = .ok (.lmul, 1) := by decide +kernel
theorem dX9_digest_159 : decode cX9_digest 159 = .ok (.aload_n 0, 1) := by decide +kernel
theorem dX9_digest_160 : decode cX9_digest 160 = .ok (.getfield 7, 3) := by decide +kernel
theorem dX9_digest_163 : decode cX9_digest 163 = .ok (.iconst 5, 1) := by decide +kernel
theorem dX9_digest_164 : decode cX9_digest 164 = .ok (.iaload, 1) := by decide +kernel
theorem dX9_digest_165 : decode cX9_digest 165 = .ok (.i2l, 1) := by decide +kernel
theorem dX9_digest_166 : decode cX9_digest 166 = .ok (.ladd, 1) := by decide +kernel
theorem dX9_digest_167 : decode cX9_digest 167 = .ok (.lmul, 1) := by decide +kernel
theorem dX9_digest_168 : decode cX9_digest 168 = .ok (.aload_n 0, 1) := by decide +kernel
theorem dX9_digest_169 : decode cX9_digest 169 = .ok (.getfield 7, 3) := by decide +kernel
theorem dX9_digest_172 : decode cX9_digest 172 = .ok (.bipush 6, 2) := by decide +kernel
theorem dX9_digest_174 : decode cX9_digest 174 = .ok (.iaload, 1) := by decide +kernel
theorem dX9_digest_175 : decode cX9_digest 175 = .ok (.i2l, 1) := by decide +kernel
theorem dX9_digest_176 : decode cX9_digest 176 = .ok (.ladd, 1) := by decide +kernel
theorem dX9_digest_177 : decode cX9_digest 177 = .ok (.lstore_n 2, 1) := by decide +kernel
theorem dX9_digest_178 : decode cX9_digest 178 = .ok (.ldc2_w 249, 3) := by decide +kernel
theorem dX9_digest_181 : decode cX9_digest 181 = .ok (.ldc2_w 249, 3) := by decide +kernel
theorem dX9_digest_184 : decode cX9_digest 184 = .ok (.lload_n 2, 1) := by decide +kernel
theorem dX9_digest_185 : decode cX9_digest 185 = .ok (.lmul, 1) := by decide +kernel
theorem dX9_digest_186 : decode cX9_digest 186 = .ok (.iload_n 1, 1) := by decide +kernel
theorem dX9_digest_187 : decode cX9_digest 187 = .ok (.ifCond .eq 12, 3) := by decide +kernel
theorem dX9_digest_190 : decode cX9_digest 190 = .ok (.aload_n 0, 1) := by decide +kernel
theorem dX9_digest_191 : decode cX9_digest 191 = .ok (.invokevirtual 233, 3) := by decide +kernel
theorem dX9_digest_194 : decode cX9_digest 194 = .ok (.iconst 1, 1) := by decide +kernel
theorem dX9_digest_195 : decode cX9_digest 195 = .ok (.iadd, 1) := by decide +kernel
theorem dX9_digest_196 : decode cX9_digest 196 = .ok (.goto 4, 3) := by decide +kernel
theorem dX9_digest_199 : decode cX9_digest 199 = .ok (.iconst 0, 1) := by decide +kernel
theorem dX9_digest_200 : decode cX9_digest 200 = .ok (.i2l, 1) := by decide +kernel
theorem dX9_digest_201 : decode cX9_digest 201 = .ok (.ladd, 1) := by decide +kernel
theorem dX9_digest_202 : decode cX9_digest 202 = .ok (.lmul, 1) := by decide +kernel
theorem dX9_digest_203 : decode cX9_digest 203 = .ok (.iload_n 1, 1) := by decide +kernel
theorem dX9_digest_204 : decode cX9_digest 204 = .ok (.ifCond .eq 12, 3) := by decide +kernel
theorem dX9_digest_207 : decode cX9_digest 207 = .ok (.aload_n 0, 1) := by decide +kernel
theorem dX9_digest_208 : decode cX9_digest 208 = .ok (.invokevirtual 236, 3) := by decide +kernel
theorem dX9_digest_211 : decode cX9_digest 211 = .ok (.iconst 1, 1) := by decide +kernel
theorem dX9_digest_212 : decode cX9_digest 212 = .ok (.iadd, 1) := by decide +kernel
theorem dX9_digest_213 : decode cX9_digest 213 = .ok (.goto 4, 3) := by decide +kernel
theorem dX9_digest_216 : decode cX9_digest 216 = .ok (.iconst 0, 1) := by decide +kernel
theorem dX9_digest_217 : decode cX9_digest 217 = .ok (.i2l, 1) := by decide +kernel
theorem dX9_digest_218 : decode cX9_digest 218 = .ok (.ladd, 1) := by decide +kernel
theorem dX9_digest_219 : decode cX9_digest 219 = .ok (.lstore_n 2, 1) := by decide +kernel
theorem dX9_digest_220 : decode cX9_digest 220 = .ok (.ldc2_w 249, 3) := by decide +kernel
theorem dX9_digest_223 : decode cX9_digest 223 = .ok (.ldc2_w 249, 3) := by decide +kernel
theorem dX9_digest_226 : decode cX9_digest 226 = .ok (.lload_n 2, 1) := by decide +kernel
theorem dX9_digest_227 : decode cX9_digest 227 = .ok (.lmul, 1) := by decide +kernel
theorem dX9_digest_228 : decode cX9_digest 228 = .ok (.aload_n 0, 1) := by decide +kernel
theorem dX9_digest_229 : decode cX9_digest 229 = .ok (.invokevirtual 239, 3) := by decide +kernel
theorem dX9_digest_232 : decode cX9_digest 232 = .ok (.i2l, 1) := by decide +kernel
theorem dX9_digest_233 : decode cX9_digest 233 = .ok (.ladd, 1) := by decide +kernel
theorem dX9_digest_234 : decode cX9_digest 234 = .ok (.lmul, 1) := by decide +kernel
theorem dX9_digest_235 : decode cX9_digest 235 = .ok (.aload_n 0, 1) := by decide +kernel
theorem dX9_digest_236 : decode cX9_digest 236 = .ok (.getfield 43, 3) := by decide +kernel
theorem dX9_digest_239 : decode cX9_digest 239 = .ok (.i2l, 1) := by decide +kernel
theorem dX9_digest_240 : decode cX9_digest 240 = .ok (.ladd, 1) := by decide +kernel
theorem dX9_digest_241 : decode cX9_digest 241 = .ok (.lstore_n 2, 1) := by decide +kernel
theorem dX9_digest_242 : decode cX9_digest 242 = .ok (.ldc2_w 249, 3) := by decide +kernel
theorem dX9_digest_245 : decode cX9_digest 245 = .ok (.lload_n 2, 1) := by decide +kernel
theorem dX9_digest_246 : decode cX9_digest 246 = .ok (.lmul, 1) := by decide +kernel
theorem dX9_digest_247 : decode cX9_digest 247 = .ok (.aload_n 0, 1) := by decide +kernel
theorem dX9_digest_248 : decode cX9_digest 248 = .ok (.invokevirtual 246, 3) := by decide +kernel
theorem dX9_digest_251 : decode cX9_digest 251 = .ok (.invokestatic 267, 3) := by decide +kernel
theorem dX9_digest_254 : decode cX9_digest 254 = .ok (.ladd, 1) := by decide +kernel
theorem dX9_digest_255 : decode cX9_digest 255 = .ok (.lstore_n 2, 1) := by decide +kernel
theorem dX9_digest_256 : decode cX9_digest 256 = .ok (.ldc2_w 249, 3) := by decide +kernel
theorem dX9_digest_259 : decode cX9_digest 259 = .ok (.lload_n 2, 1) := by decide +kernel
theorem dX9_digest_260 : decode cX9_digest 260 = .ok (.lmul, 1) := by decide +kernel
theorem dX9_digest_261 : decode cX9_digest 261 = .ok (.aload_n 0, 1) := by decide +kernel
theorem dX9_digest_262 : decode cX9_digest 262 = .ok (.invokevirtual 242, 3) := by decide +kernel
theorem dX9_digest_265 : decode cX9_digest 265 = .ok (.invokestatic 267, 3) := by decide +kernel
theorem dX9_digest_268 : decode cX9_digest 268 = .ok (.ladd, 1) := by decide +kernel
theorem dX9_digest_269 : decode cX9_digest 269 = .ok (.lstore_n 2, 1) := by decide +kernel
theorem dX9_digest_270 : decode cX9_digest 270 = .ok (.ldc2_w 249, 3) := by decide +kernel
theorem dX9_digest_273 : decode cX9_digest 273 = .ok (.ldc2_w 249, 3) := by decide +kernel
theorem dX9_digest_276 : decode cX9_digest 276 = .ok (.lload_n 2, 1) := by decide +kernel
theorem dX9_digest_277 : decode cX9_digest 277 = .ok (.lmul, 1) := by decide +kernel
theorem dX9_digest_278 : decode cX9_digest 278 = .ok (.aload_n 0, 1) := by decide +kernel
theorem dX9_digest_279 : decode cX9_digest 279 = .ok (.getfield 22, 3) := by decide +kernel
theorem dX9_digest_282 : decode cX9_digest 282 = .ok (.iconst 0, 1) := by decide +kernel
theorem dX9_digest_283 : decode cX9_digest 283 = .ok (.baload, 1) := by decide +kernel
theorem dX9_digest_284 : decode cX9_digest 284 = .ok (.ifCond .eq 7, 3) := by decide +kernel
theorem dX9_digest_287 : decode cX9_digest 287 = .ok (.iconst 1, 1) := by decide +kernel
theorem dX9_digest_288 : decode cX9_digest 288 = .ok (.goto 4, 3) := by decide +kernel
theorem dX9_digest_291 : decode cX9_digest 291 = .ok (.iconst 0, 1) := by decide +kernel
theorem dX9_digest_292 : decode cX9_digest 292 = .ok (.i2l, 1) := by decide +kernel
theorem dX9_digest_293 : decode cX9_digest 293 = .ok (.ladd, 1) := by decide +kernel
theorem dX9_digest_294 : decode cX9_digest 294 = .ok (.lmul, 1) := by decide +kernel
theorem dX9_digest_295 : decode cX9_digest 295 = .ok (.aload_n 0, 1) := by decide +kernel
theorem dX9_digest_296 : decode cX9_digest 296 = .ok (.getfield 22, 3) := by decide +kernel
theorem dX9_digest_299 : decode cX9_digest 299 = .ok (.iconst 1, 1) := by decide +kernel
theorem dX9_digest_300 : decode cX9_digest 300 = .ok (.baload, 1) := by decide +kernel
theorem dX9_digest_301 : decode cX9_digest 301 = .ok (.ifCond .eq 7, 3) := by decide +kernel
theorem dX9_digest_304 : decode cX9_digest 304 = .ok (.iconst 1, 1) := by decide +kernel
theorem dX9_digest_305 : decode cX9_digest 305 = .ok (.goto 4, 3) := by decide +kernel
theorem dX9_digest_308 : decode cX9_digest 308 = .ok (.iconst 0, 1) := by decide +kernel
theorem dX9_digest_309 : decode cX9_digest 309 = .ok (.i2l, 1) := by decide +kernel
theorem dX9_digest_310 : decode cX9_digest 310 = .ok (.ladd, 1) := by decide +kernel
theorem dX9_digest_311 : decode cX9_digest 311 = .ok (.lstore_n 2, 1) := by decide +kernel
theorem dX9_digest_312 : decode cX9_digest 312 = .ok (.ldc2_w 249, 3) := by decide +kernel
theorem dX9_digest_315 : decode cX9_digest 315 = .ok (.lload_n 2, 1) := by decide +kernel
theorem dX9_digest_316 : decode cX9_digest 316 = .ok (.lmul, 1) := by decide +kernel
theorem dX9_digest_317 : decode cX9_digest 317 = .ok (.aload_n 0, 1) := by decide +kernel
theorem dX9_digest_318 : decode cX9_digest 318 = .ok (.getfield 172, 3) := by decide +kernel
theorem dX9_digest_321 : decode cX9_digest 321 = .ok (.i2l, 1) := by decide +kernel
theorem dX9_digest_322 : decode cX9_digest 322 = .ok (.ladd, 1) := by decide +kernel
theorem dX9_digest_323 : decode cX9_digest 323 = .ok (.lstore_n 2, 1) := by decide +kernel
theorem dX9_digest_324 : decode cX9_digest 324 = .ok (.iconst 0, 1) := by decide +kernel
theorem dX9_digest_325 : decode cX9_digest 325 = .ok (.istore 4, 2) := by decide +kernel
theorem dX9_digest_327 : decode cX9_digest 327 = .ok (.iload 4, 2) := by decide +kernel
theorem dX9_digest_329 : decode cX9_digest 329 = .ok (.aload_n 0, 1) := by decide +kernel
theorem dX9_digest_330 : decode cX9_digest 330 = .ok (.getfield 172, 3) := by decide +kernel
theorem dX9_digest_333 : decode cX9_digest 333 = .ok (.if_icmp .ge 24, 3) := by decide +kernel
theorem dX9_digest_336 : decode cX9_digest 336 = .ok (.ldc2_w 249, 3) := by decide +kernel
theorem dX9_digest_339 : decode cX9_digest 339 = .ok (.lload_n 2, 1) := by decide +kernel
theorem dX9_digest_340 : decode cX9_digest 340 = .ok (.lmul, 1) := by decide +kernel
theorem dX9_digest_341 : decode cX9_digest 341 = .ok (.aload_n 0, 1) := by decide +kernel
theorem dX9_digest_342 : decode cX9_digest 342 = .ok (.getfield 26, 3) := by decide +kernel
theorem dX9_digest_345 : decode cX9_digest 345 = .ok (.iload 4, 2) := by decide +kernel
theorem dX9_digest_347 : decode cX9_digest 347 = .ok (.iaload, 1) := by decide +kernel
theorem dX9_digest_348 : decode cX9_digest 348 = .ok (.i2l, 1) := by decide +kernel
theorem dX9_digest_349 : decode cX9_digest 349 = .ok (.ladd, 1) := by decide +kernel
theorem dX9_digest_350 : decode cX9_digest 350 = .ok (.lstore_n 2, 1) := by decide +kernel
theorem dX9_digest_351 : decode cX9_digest 351 = .ok (.iinc 4 1, 3) := by decide +kernel
theorem dX9_digest_354 : decode cX9_digest 354 = .ok (.goto (-27), 3) := by decide +kernel
theorem dX9_digest_357 : decode cX9_digest 357 = .ok (.lload_n 2, 1) := by decide +kernel
theorem dX9_digest_358 : decode cX9_digest 358 = .ok (.lreturn, 1) := by decide +kernel
