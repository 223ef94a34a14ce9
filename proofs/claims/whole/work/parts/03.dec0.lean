theorem dX0_init_0 : decode cX0_init 0 = .ok (.aload_n 0, 1) := by decide +kernel
theorem dX0_init_1 : decode cX0_init 1 = .ok (.invokespecial 3, 3) := by decide +kernel
theorem dX0_init_4 : decode cX0_init 4 = .ok (.aload_n 0, 1) := by decide +kernel
theorem dX0_init_5 : decode cX0_init 5 = .ok (.bipush 64, 2) := by decide +kernel
theorem dX0_init_7 : decode cX0_init 7 = .ok (.newarray .int, 2) := by decide +kernel
theorem dX0_init_9 : decode cX0_init 9 = .ok (.putfield 9, 3) := by decide +kernel
theorem dX0_init_12 : decode cX0_init 12 = .ok (.return_, 1) := by decide +kernel
set_option maxRecDepth 20000 in
theorem ggX0_erase_J7_fill_53178 : GoodIn wsX0_erase wsJ7_fill_53178 := goodIn_r _ [7] (by decide +kernel) (by decide +kernel)
set_option maxRecDepth 20000 in
theorem gX0_erase_J7_fill_53178 : GoodIn wsX0_erase (va_wsS RX0 15 yJ7_fill_53178 wsJ7_fill_53178) := goodIn_app (goodIn_of _ (by decide +kernel)) ggX0_erase_J7_fill_53178
theorem dX0_erase_0 : decode cX0_erase 0 = .ok (.aload_n 0, 1) := by decide +kernel
theorem dX0_erase_1 : decode cX0_erase 1 = .ok (.getfield 9, 3) := by decide +kernel
theorem dX0_erase_4 : decode cX0_erase 4 = .ok (.iconst 0, 1) := by decide +kernel
theorem dX0_erase_5 : decode cX0_erase 5 = .ok (.invokestatic 15, 3) := by decide +kernel
theorem dX0_erase_8 : decode cX0_erase 8 = .ok (.aload_n 0, 1) := by decide +kernel
theorem dX0_erase_9 : decode cX0_erase 9 = .ok (.iconst 0, 1) := by decide +kernel
theorem dX0_erase_10 : decode cX0_erase 10 = .ok (.putfield 21, 3) := by decide +kernel
theorem dX0_erase_13 : decode cX0_erase 13 = .ok (.aload_n 0, 1) := by decide +kernel
theorem dX0_erase_14 : decode cX0_erase 14 = .ok (.iconst 0, 1) := by decide +kernel
theorem dX0_erase_15 : decode cX0_erase 15 = .ok (.putfield 25, 3) := by decide +kernel
theorem dX0_erase_18 : decode cX0_erase 18 = .ok (.return_, 1) := by decide +kernel
theorem dX0_valueOf_0 : decode cX0_valueOf 0 = .ok (.aload_n 0, 1) := by decide +kernel
theorem dX0_valueOf_1 : decode cX0_valueOf 1 = .ok (.getfield 9, 3) := by decide +kernel
theorem dX0_valueOf_4 : decode cX0_valueOf 4 = .ok (.iload_n 1, 1) := by decide +kernel
theorem dX0_valueOf_5 : decode cX0_valueOf 5 = .ok (.iaload, 1) := by decide +kernel
theorem dX0_valueOf_6 : decode cX0_valueOf 6 = .ok (.ireturn, 1) := by decide +kernel
theorem dX0_load_0 : decode cX0_load 0 = .ok (.aload_n 0, 1) := by decide +kernel
theorem dX0_load_1 : decode cX0_load 1 = .ok (.dup, 1) := by decide +kernel
theorem dX0_load_2 : decode cX0_load 2 = .ok (.getfield 21, 3) := by decide +kernel
theorem dX0_load_5 : decode cX0_load 5 = .ok (.iconst 1, 1) := by decide +kernel
theorem dX0_load_6 : decode cX0_load 6 = .ok (.iadd, 1) := by decide +kernel
theorem dX0_load_7 : decode cX0_load 7 = .ok (.putfield 21, 3) := by decide +kernel
theorem dX0_load_10 : decode cX0_load 10 = .ok (.aload_n 0, 1) := by decide +kernel
theorem dX0_load_11 : decode cX0_load 11 = .ok (.getfield 9, 3) := by decide +kernel
theorem dX0_load_14 : decode cX0_load 14 = .ok (.iload_n 1, 1) := by decide +kernel
theorem dX0_load_15 : decode cX0_load 15 = .ok (.iaload, 1) := by decide +kernel
theorem dX0_load_16 : decode cX0_load 16 = .ok (.ireturn, 1) := by decide +kernel
theorem dX0_store_0 : decode cX0_store 0 = .ok (.aload_n 0, 1) := by decide +kernel
theorem dX0_store_1 : decode cX0_store 1 = .ok (.dup, 1) := by decide +kernel
theorem dX0_store_2 : decode cX0_store 2 = .ok (.getfield 25, 3) := by decide +kernel
theorem dX0_store_5 : decode cX0_store 5 = .ok (.iconst 1, 1) := by decide +kernel
theorem dX0_store_6 : decode cX0_store 6 = .ok (.iadd, 1) := by decide +kernel
theorem dX0_store_7 : decode cX0_store 7 = .ok (.putfield 25, 3) := by decide +kernel
theorem dX0_store_10 : decode cX0_store 10 = .ok (.aload_n 0, 1) := by decide +kernel
theorem dX0_store_11 : decode cX0_store 11 = .ok (.getfield 9, 3) := by decide +kernel
theorem dX0_store_14 : decode cX0_store 14 = .ok (.iload_n 1, 1) := by decide +kernel
theorem dX0_store_15 : decode cX0_store 15 = .ok (.iload_n 2, 1) := by decide +kernel
theorem dX0_store_16 : decode cX0_store 16 = .ok (.iastore, 1) := by decide +kernel
theorem dX0_store_17 : decode cX0_store 17 = .ok (.return_, 1) := by decide +kernel
theorem dX0_loads_0 : decode cX0_loads 0 = .ok (.aload_n 0, 1) := by decide +kernel
theorem dX0_loads_1 : decode cX0_loads 1 = .ok (.getfield 21, 3) := by decide +kernel
theorem dX0_loads_4 : decode cX0_loads 4 = .ok (.ireturn, 1) := by decide +kernel
theorem dX0_stores_0 : decode cX0_stores 0 = .ok (.aload_n 0, 1) := by decide +kernel
theorem dX0_stores_1 : decode cX0_stores 1 = .ok (.getfield 25, 3) := by decide +kernel
theorem dX0_stores_4 : decode cX0_stores 4 = .ok (.ireturn, 1) := by decide +kernel
theorem dX1_init_0 : decode cX1_init 0 = .ok (.aload_n 0, 1) := by decide +kernel
theorem dX1_init_1 : decode cX1_init 1 = .ok (.invokespecial 3, 3) := by decide +kernel
theorem dX1_init_4 : decode cX1_init 4 = .ok (.aload_n 0, 1) := by decide +kernel
theorem dX1_init_5 : decode cX1_init 5 = .ok (.bipush 64, 2) := by decide +kernel
theorem dX1_init_7 : decode cX1_init 7 = .ok (.newarray .boolean, 2) := by decide +kernel
theorem dX1_init_9 : decode cX1_init 9 = .ok (.putfield 9, 3) := by decide +kernel
theorem dX1_init_12 : decode cX1_init 12 = .ok (.aload_n 0, 1) := by decide +kernel
theorem dX1_init_13 : decode cX1_init 13 = .ok (.bipush 64, 2) := by decide +kernel
theorem dX1_init_15 : decode cX1_init 15 = .ok (.newarray .boolean, 2) := by decide +kernel
theorem dX1_init_17 : decode cX1_init 17 = .ok (.putfield 15, 3) := by decide +kernel
theorem dX1_init_20 : decode cX1_init 20 = .ok (.aload_n 0, 1) := by decide +kernel
theorem dX1_init_21 : decode cX1_init 21 = .ok (.bipush 64, 2) := by decide +kernel
theorem dX1_init_23 : decode cX1_init 23 = .ok (.newarray .int, 2) := by decide +kernel
theorem dX1_init_25 : decode cX1_init 25 = .ok (.putfield 18, 3) := by decide +kernel
theorem dX1_init_28 : decode cX1_init 28 = .ok (.aload_n 0, 1) := by decide +kernel
theorem dX1_init_29 : decode cX1_init 29 = .ok (.bipush 64, 2) := by decide +kernel
theorem dX1_init_31 : decode cX1_init 31 = .ok (.newarray .int, 2) := by decide +kernel
theorem dX1_init_33 : decode cX1_init 33 = .ok (.putfield 22, 3) := by decide +kernel
theorem dX1_init_36 : decode cX1_init 36 = .ok (.return_, 1) := by decide +kernel
set_option maxRecDepth 20000 in
theorem ggX1_empty_X1_vacate : GoodIn wsX1_empty wsX1_vacate := goodIn_r _ [7, 8, 9, 10, 11, 12, 13, 14, 15, 16] (by decide +kernel) (by decide +kernel)
set_option maxRecDepth 20000 in
theorem gX1_empty_X1_vacate : GoodIn wsX1_empty (wsV RX1 25 RX1 yX1_vacate wsX1_vacate) := goodIn_app (goodIn_of _ (by decide +kernel)) ggX1_empty_X1_vacate
theorem dX1_empty_0 : decode cX1_empty 0 = .ok (.iconst 0, 1) := by decide +kernel
theorem dX1_empty_1 : decode cX1_empty 1 = .ok (.istore_n 2, 1) := by decide +kernel
theorem dX1_empty_2 : decode cX1_empty 2 = .ok (.iload_n 2, 1) := by decide +kernel
theorem dX1_empty_3 : decode cX1_empty 3 = .ok (.bipush 64, 2) := by decide +kernel
theorem dX1_empty_5 : decode cX1_empty 5 = .ok (.if_icmp .ge 14, 3) := by decide +kernel
theorem dX1_empty_8 : decode cX1_empty 8 = .ok (.aload_n 0, 1) := by decide +kernel
theorem dX1_empty_9 : decode cX1_empty 9 = .ok (.iload_n 2, 1) := by decide +kernel
theorem dX1_empty_10 : decode cX1_empty 10 = .ok (.invokevirtual 25, 3) := by decide +kernel
theorem dX1_empty_13 : decode cX1_empty 13 = .ok (.iinc 2 1, 3) := by decide +kernel
theorem dX1_empty_16 : decode cX1_empty 16 = .ok (.goto (-14), 3) := by decide +kernel
theorem dX1_empty_19 : decode cX1_empty 19 = .ok (.aload_n 0, 1) := by decide +kernel
theorem dX1_empty_20 : decode cX1_empty 20 = .ok (.iconst 0, 1) := by decide +kernel
theorem dX1_empty_21 : decode cX1_empty 21 = .ok (.putfield 29, 3) := by decide +kernel
theorem dX1_empty_24 : decode cX1_empty 24 = .ok (.aload_n 0, 1) := by decide +kernel
theorem dX1_empty_25 : decode cX1_empty 25 = .ok (.iload_n 1, 1) := by decide +kernel
theorem dX1_empty_26 : decode cX1_empty 26 = .ok (.putfield 33, 3) := by decide +kernel
theorem dX1_empty_29 : decode cX1_empty 29 = .ok (.return_, 1) := by decide +kernel
theorem dX1_areFull_0 : decode cX1_areFull 0 = .ok (.aload_n 0, 1) := by decide +kernel
theorem dX1_areFull_1 : decode cX1_areFull 1 = .ok (.getfield 29, 3) := by decide +kernel
theorem dX1_areFull_4 : decode cX1_areFull 4 = .ok (.aload_n 0, 1) := by decide +kernel
theorem dX1_areFull_5 : decode cX1_areFull 5 = .ok (.getfield 33, 3) := by decide +kernel
theorem dX1_areFull_8 : decode cX1_areFull 8 = .ok (.if_icmp .lt 7, 3) := by decide +kernel
theorem dX1_areFull_11 : decode cX1_areFull 11 = .ok (.iconst 1, 1) := by decide +kernel
theorem dX1_areFull_12 : decode cX1_areFull 12 = .ok (.goto 4, 3) := by decide +kernel
theorem dX1_areFull_15 : decode cX1_areFull 15 = .ok (.iconst 0, 1) := by decide +kernel
theorem dX1_areFull_16 : decode cX1_areFull 16 = .ok (.ireturn, 1) := by decide +kernel
theorem dX1_used_0 : decode cX1_used 0 = .ok (.aload_n 0, 1) := by decide +kernel
theorem dX1_used_1 : decode cX1_used 1 = .ok (.getfield 29, 3) := by decide +kernel
theorem dX1_used_4 : decode cX1_used 4 = .ok (.ireturn, 1) := by decide +kernel
theorem dX1_holds_0 : decode cX1_holds 0 = .ok (.aload_n 0, 1) := by decide +kernel
theorem dX1_holds_1 : decode cX1_holds 1 = .ok (.getfield 9, 3) := by decide +kernel
theorem dX1_holds_4 : decode cX1_holds 4 = .ok (.iload_n 1, 1) := by decide +kernel
theorem dX1_holds_5 : decode cX1_holds 5 = .ok (.baload, 1) := by decide +kernel
theorem dX1_holds_6 : decode cX1_holds 6 = .ok (.ireturn, 1) := by decide +kernel
theorem dX1_isChanged_0 : decode cX1_isChanged 0 = .ok (.aload_n 0, 1) := by decide +kernel
theorem dX1_isChanged_1 : decode cX1_isChanged 1 = .ok (.getfield 15, 3) := by decide +kernel
theorem dX1_isChanged_4 : decode cX1_isChanged 4 = .ok (.iload_n 1, 1) := by decide +kernel
theorem dX1_isChanged_5 : decode cX1_isChanged 5 = .ok (.baload, 1) := by decide +kernel
theorem dX1_isChanged_6 : decode cX1_isChanged 6 = .ok (.ireturn, 1) := by decide +kernel
theorem dX1_valueOf_0 : decode cX1_valueOf 0 = .ok (.aload_n 0, 1) := by decide +kernel
theorem dX1_valueOf_1 : decode cX1_valueOf 1 = .ok (.getfield 18, 3) := by decide +kernel
theorem dX1_valueOf_4 : decode cX1_valueOf 4 = .ok (.iload_n 1, 1) := by decide +kernel
theorem dX1_valueOf_5 : decode cX1_valueOf 5 = .ok (.iaload, 1) := by decide +kernel
theorem dX1_valueOf_6 : decode cX1_valueOf 6 = .ok (.ireturn, 1) := by decide +kernel
theorem dX1_pinsOf_0 : decode cX1_pinsOf 0 = .ok (.aload_n 0, 1) := by decide +kernel
theorem dX1_pinsOf_1 : decode cX1_pinsOf 1 = .ok (.getfield 22, 3) := by decide +kernel
theorem dX1_pinsOf_4 : decode cX1_pinsOf 4 = .ok (.iload_n 1, 1) := by decide +kernel
theorem dX1_pinsOf_5 : decode cX1_pinsOf 5 = .ok (.iaload, 1) := by decide +kernel
theorem dX1_pinsOf_6 : decode cX1_pinsOf 6 = .ok (.ireturn, 1) := by decide +kernel
theorem dX1_pageAt_0 : decode cX1_pageAt 0 = .ok (.iconst 0, 1) := by decide +kernel
theorem dX1_pageAt_1 : decode cX1_pageAt 1 = .ok (.istore_n 2, 1) := by decide +kernel
theorem dX1_pageAt_2 : decode cX1_pageAt 2 = .ok (.iconst 0, 1) := by decide +kernel
theorem dX1_pageAt_3 : decode cX1_pageAt 3 = .ok (.istore_n 3, 1) := by decide +kernel
theorem dX1_pageAt_4 : decode cX1_pageAt 4 = .ok (.iload_n 3, 1) := by decide +kernel
theorem dX1_pageAt_5 : decode cX1_pageAt 5 = .ok (.bipush 64, 2) := by decide +kernel
theorem dX1_pageAt_7 : decode cX1_pageAt 7 = .ok (.if_icmp .ge 28, 3) := by decide +kernel
theorem dX1_pageAt_10 : decode cX1_pageAt 10 = .ok (.aload_n 0, 1) := by decide +kernel
theorem dX1_pageAt_11 : decode cX1_pageAt 11 = .ok (.getfield 9, 3) := by decide +kernel
theorem dX1_pageAt_14 : decode cX1_pageAt 14 = .ok (.iload_n 3, 1) := by decide +kernel
theorem dX1_pageAt_15 : decode cX1_pageAt 15 = .ok (.baload, 1) := by decide +kernel
theorem dX1_pageAt_16 : decode cX1_pageAt 16 = .ok (.ifCond .eq 13, 3) := by decide +kernel
theorem dX1_pageAt_19 : decode cX1_pageAt 19 = .ok (.iload_n 2, 1) := by decide +kernel
theorem dX1_pageAt_20 : decode cX1_pageAt 20 = .ok (.iload_n 1, 1) := by decide +kernel
theorem dX1_pageAt_21 : decode cX1_pageAt 21 = .ok (.if_icmp .ne 5, 3) := by decide +kernel
theorem dX1_pageAt_24 : decode cX1_pageAt 24 = .ok (.iload_n 3, 1) := by decide +kernel
theorem dX1_pageAt_25 : decode cX1_pageAt 25 = .ok (.ireturn, 1) := by decide +kernel
theorem dX1_pageAt_26 : decode cX1_pageAt 26 = .ok (.iinc 2 1, 3) := by decide +kernel
theorem dX1_pageAt_29 : decode cX1_pageAt 29 = .ok (.iinc 3 1, 3) := by decide +kernel
theorem dX1_pageAt_32 : decode cX1_pageAt 32 = .ok (.goto (-28), 3) := by decide +kernel
theorem dX1_pageAt_35 : decode cX1_pageAt 35 = .ok (.bipush (-9), 2) := by decide +kernel
theorem dX1_pageAt_37 : decode cX1_pageAt 37 = .ok (.ireturn, 1) := by decide +kernel
theorem dX1_place_0 : decode cX1_place 0 = .ok (.aload_n 0, 1) := by decide +kernel
theorem dX1_place_1 : decode cX1_place 1 = .ok (.getfield 9, 3) := by decide +kernel
theorem dX1_place_4 : decode cX1_place 4 = .ok (.iload_n 1, 1) := by decide +kernel
theorem dX1_place_5 : decode cX1_place 5 = .ok (.iconst 1, 1) := by decide +kernel
theorem dX1_place_6 : decode cX1_place 6 = .ok (.bastore, 1) := by decide +kernel
theorem dX1_place_7 : decode cX1_place 7 = .ok (.aload_n 0, 1) := by decide +kernel
theorem dX1_place_8 : decode cX1_place 8 = .ok (.getfield 18, 3) := by decide +kernel
theorem dX1_place_11 : decode cX1_place 11 = .ok (.iload_n 1, 1) := by decide +kernel
theorem dX1_place_12 : decode cX1_place 12 = .ok (.iload_n 2, 1) := by decide +kernel
theorem dX1_place_13 : decode cX1_place 13 = .ok (.iastore, 1) := by decide +kernel
theorem dX1_place_14 : decode cX1_place 14 = .ok (.aload_n 0, 1) := by decide +kernel
theorem dX1_place_15 : decode cX1_place 15 = .ok (.dup, 1) := by decide +kernel
theorem dX1_place_16 : decode cX1_place 16 = .ok (.getfield 29, 3) := by decide +kernel
theorem dX1_place_19 : decode cX1_place 19 = .ok (.iconst 1, 1) := by decide +kernel
theorem dX1_place_20 : decode cX1_place 20 = .ok (.iadd, 1) := by decide +kernel
theorem dX1_place_21 : decode cX1_place 21 = .ok (.putfield 29, 3) := by decide +kernel
theorem dX1_place_24 : decode cX1_place 24 = .ok (.return_, 1) := by decide +kernel
set_option maxRecDepth 20000 in
theorem ggX1_release_X1_vacate : GoodIn wsX1_release wsX1_vacate := goodIn_r _ [6, 7, 8, 9, 10, 11, 12, 13, 14, 15] (by decide +kernel) (by decide +kernel)
set_option maxRecDepth 20000 in
theorem gX1_release_X1_vacate : GoodIn wsX1_release (wsV RX1 25 RX1 yX1_vacate wsX1_vacate) := goodIn_app (goodIn_of _ (by decide +kernel)) ggX1_release_X1_vacate
theorem dX1_release_0 : decode cX1_release 0 = .ok (.aload_n 0, 1) := by decide +kernel
theorem dX1_release_1 : decode cX1_release 1 = .ok (.iload_n 1, 1) := by decide +kernel
theorem dX1_release_2 : decode cX1_release 2 = .ok (.invokevirtual 25, 3) := by decide +kernel
theorem dX1_release_5 : decode cX1_release 5 = .ok (.aload_n 0, 1) := by decide +kernel
theorem dX1_release_6 : decode cX1_release 6 = .ok (.dup, 1) := by decide +kernel
theorem dX1_release_7 : decode cX1_release 7 = .ok (.getfield 29, 3) := by decide +kernel
theorem dX1_release_10 : decode cX1_release 10 = .ok (.iconst 1, 1) := by decide +kernel
theorem dX1_release_11 : decode cX1_release 11 = .ok (.isub, 1) := by decide +kernel
theorem dX1_release_12 : decode cX1_release 12 = .ok (.putfield 29, 3) := by decide +kernel
theorem dX1_release_15 : decode cX1_release 15 = .ok (.return_, 1) := by decide +kernel
theorem dX1_change_0 : decode cX1_change 0 = .ok (.aload_n 0, 1) := by decide +kernel
theorem dX1_change_1 : decode cX1_change 1 = .ok (.getfield 18, 3) := by decide +kernel
theorem dX1_change_4 : decode cX1_change 4 = .ok (.iload_n 1, 1) := by decide +kernel
theorem dX1_change_5 : decode cX1_change 5 = .ok (.iload_n 2, 1) := by decide +kernel
theorem dX1_change_6 : decode cX1_change 6 = .ok (.iastore, 1) := by decide +kernel
theorem dX1_change_7 : decode cX1_change 7 = .ok (.aload_n 0, 1) := by decide +kernel
theorem dX1_change_8 : decode cX1_change 8 = .ok (.getfield 15, 3) := by decide +kernel
theorem dX1_change_11 : decode cX1_change 11 = .ok (.iload_n 1, 1) := by decide +kernel
theorem dX1_change_12 : decode cX1_change 12 = .ok (.iconst 1, 1) := by decide +kernel
theorem dX1_change_13 : decode cX1_change 13 = .ok (.bastore, 1) := by decide +kernel
theorem dX1_change_14 : decode cX1_change 14 = .ok (.return_, 1) := by decide +kernel
theorem dX1_markClean_0 : decode cX1_markClean 0 = .ok (.aload_n 0, 1) := by decide +kernel
theorem dX1_markClean_1 : decode cX1_markClean 1 = .ok (.getfield 15, 3) := by decide +kernel
theorem dX1_markClean_4 : decode cX1_markClean 4 = .ok (.iload_n 1, 1) := by decide +kernel
theorem dX1_markClean_5 : decode cX1_markClean 5 = .ok (.iconst 0, 1) := by decide +kernel
theorem dX1_markClean_6 : decode cX1_markClean 6 = .ok (.bastore, 1) := by decide +kernel
theorem dX1_markClean_7 : decode cX1_markClean 7 = .ok (.return_, 1) := by decide +kernel
theorem dX1_addPin_0 : decode cX1_addPin 0 = .ok (.aload_n 0, 1) := by decide +kernel
theorem dX1_addPin_1 : decode cX1_addPin 1 = .ok (.getfield 22, 3) := by decide +kernel
theorem dX1_addPin_4 : decode cX1_addPin 4 = .ok (.iload_n 1, 1) := by decide +kernel
theorem dX1_addPin_5 : decode cX1_addPin 5 = .ok (.dup2, 1) := by decide +kernel
theorem dX1_addPin_6 : decode cX1_addPin 6 = .ok (.iaload, 1) := by decide +kernel
theorem dX1_addPin_7 : decode cX1_addPin 7 = .ok (.iconst 1, 1) := by decide +kernel
theorem dX1_addPin_8 : decode cX1_addPin 8 = .ok (.iadd, 1) := by decide +kernel
theorem dX1_addPin_9 : decode cX1_addPin 9 = .ok (.iastore, 1) := by decide +kernel
theorem dX1_addPin_10 : decode cX1_addPin 10 = .ok (.return_, 1) := by decide +kernel
theorem dX1_removePin_0 : decode cX1_removePin 0 = .ok (.aload_n 0, 1) := by decide +kernel
theorem dX1_removePin_1 : decode cX1_removePin 1 = .ok (.getfield 22, 3) := by decide +kernel
theorem dX1_removePin_4 : decode cX1_removePin 4 = .ok (.iload_n 1, 1) := by decide +kernel
theorem dX1_removePin_5 : decode cX1_removePin 5 = .ok (.dup2, 1) := by decide +kernel
theorem dX1_removePin_6 : decode cX1_removePin 6 = .ok (.iaload, 1) := by decide +kernel
theorem dX1_removePin_7 : decode cX1_removePin 7 = .ok (.iconst 1, 1) := by decide +kernel
theorem dX1_removePin_8 : decode cX1_removePin 8 = .ok (.isub, 1) := by decide +kernel
theorem dX1_removePin_9 : decode cX1_removePin 9 = .ok (.iastore, 1) := by decide +kernel
theorem dX1_removePin_10 : decode cX1_removePin 10 = .ok (.return_, 1) := by decide +kernel
theorem dX1_vacate_0 : decode cX1_vacate 0 = .ok (.aload_n 0, 1) := by decide +kernel
theorem dX1_vacate_1 : decode cX1_vacate 1 = .ok (.getfield 9, 3) := by decide +kernel
theorem dX1_vacate_4 : decode cX1_vacate 4 = .ok (.iload_n 1, 1) := by decide +kernel
theorem dX1_vacate_5 : decode cX1_vacate 5 = .ok (.iconst 0, 1) := by decide +kernel
theorem dX1_vacate_6 : decode cX1_vacate 6 = .ok (.bastore, 1) := by decide +kernel
theorem dX1_vacate_7 : decode cX1_vacate 7 = .ok (.aload_n 0, 1) := by decide +kernel
theorem dX1_vacate_8 : decode cX1_vacate 8 = .ok (.getfield 15, 3) := by decide +kernel
theorem dX1_vacate_11 : decode cX1_vacate 11 = .ok (.iload_n 1, 1) := by decide +kernel
theorem dX1_vacate_12 : decode cX1_vacate 12 = .ok (.iconst 0, 1) := by decide +kernel
theorem dX1_vacate_13 : decode cX1_vacate 13 = .ok (.bastore, 1) := by decide +kernel
theorem dX1_vacate_14 : decode cX1_vacate 14 = .ok (.aload_n 0, 1) := by decide +kernel
theorem dX1_vacate_15 : decode cX1_vacate 15 = .ok (.getfield 22, 3) := by decide +kernel
theorem dX1_vacate_18 : decode cX1_vacate 18 = .ok (.iload_n 1, 1) := by decide +kernel
theorem dX1_vacate_19 : decode cX1_vacate 19 = .ok (.iconst 0, 1) := by decide +kernel
theorem dX1_vacate_20 : decode cX1_vacate 20 = .ok (.iastore, 1) := by decide +kernel
theorem dX1_vacate_21 : decode cX1_vacate 21 = .ok (.return_, 1) := by decide +kernel
theorem dX2_init_0 : decode cX2_init 0 = .ok (.aload_n 0, 1) := by decide +kernel
theorem dX2_init_1 : decode cX2_init 1 = .ok (.invokespecial 3, 3) := by decide +kernel
theorem dX2_init_4 : decode cX2_init 4 = .ok (.aload_n 0, 1) := by decide +kernel
theorem dX2_init_5 : decode cX2_init 5 = .ok (.sipush 192, 3) := by decide +kernel
theorem dX2_init_8 : decode cX2_init 8 = .ok (.newarray .int, 2) := by decide +kernel
theorem dX2_init_10 : decode cX2_init 10 = .ok (.putfield 9, 3) := by decide +kernel
theorem dX2_init_13 : decode cX2_init 13 = .ok (.aload_n 0, 1) := by decide +kernel
theorem dX2_init_14 : decode cX2_init 14 = .ok (.bipush 64, 2) := by decide +kernel
theorem dX2_init_16 : decode cX2_init 16 = .ok (.newarray .int, 2) := by decide +kernel
theorem dX2_init_18 : decode cX2_init 18 = .ok (.putfield 15, 3) := by decide +kernel
theorem dX2_init_21 : decode cX2_init 21 = .ok (.return_, 1) := by decide +kernel
set_option maxRecDepth 20000 in
theorem ggX2_forgetAll_J7_fill_53178 : GoodIn wsX2_forgetAll wsJ7_fill_53178 := goodIn_r _ [6] (by decide +kernel) (by decide +kernel)
set_option maxRecDepth 20000 in
theorem gX2_forgetAll_J7_fill_53178 : GoodIn wsX2_forgetAll (va_wsS RX2 18 yJ7_fill_53178 wsJ7_fill_53178) := goodIn_app (goodIn_of _ (by decide +kernel)) ggX2_forgetAll_J7_fill_53178
theorem dX2_forgetAll_0 : decode cX2_forgetAll 0 = .ok (.aload_n 0, 1) := by decide +kernel
theorem dX2_forgetAll_1 : decode cX2_forgetAll 1 = .ok (.getfield 15, 3) := by decide +kernel
theorem dX2_forgetAll_4 : decode cX2_forgetAll 4 = .ok (.iconst 0, 1) := by decide +kernel
theorem dX2_forgetAll_5 : decode cX2_forgetAll 5 = .ok (.invokestatic 18, 3) := by decide +kernel
theorem dX2_forgetAll_8 : decode cX2_forgetAll 8 = .ok (.aload_n 0, 1) := by decide +kernel
theorem dX2_forgetAll_9 : decode cX2_forgetAll 9 = .ok (.iload_n 1, 1) := by decide +kernel
theorem dX2_forgetAll_10 : decode cX2_forgetAll 10 = .ok (.putfield 24, 3) := by decide +kernel
theorem dX2_forgetAll_13 : decode cX2_forgetAll 13 = .ok (.return_, 1) := by decide +kernel
theorem dX2_forget_0 : decode cX2_forget 0 = .ok (.aload_n 0, 1) := by decide +kernel
theorem dX2_forget_1 : decode cX2_forget 1 = .ok (.getfield 15, 3) := by decide +kernel
theorem dX2_forget_4 : decode cX2_forget 4 = .ok (.iload_n 1, 1) := by decide +kernel
theorem dX2_forget_5 : decode cX2_forget 5 = .ok (.iconst 0, 1) := by decide +kernel
theorem dX2_forget_6 : decode cX2_forget 6 = .ok (.iastore, 1) := by decide +kernel
theorem dX2_forget_7 : decode cX2_forget 7 = .ok (.return_, 1) := by decide +kernel
theorem dX2_depth_0 : decode cX2_depth 0 = .ok (.aload_n 0, 1) := by decide +kernel
theorem dX2_depth_1 : decode cX2_depth 1 = .ok (.getfield 24, 3) := by decide +kernel
theorem dX2_depth_4 : decode cX2_depth 4 = .ok (.ireturn, 1) := by decide +kernel
theorem dX2_timeOf_0 : decode cX2_timeOf 0 = .ok (.iload_n 2, 1) := by decide +kernel
theorem dX2_timeOf_1 : decode cX2_timeOf 1 = .ok (.iconst 1, 1) := by decide +kernel
theorem dX2_timeOf_2 : decode cX2_timeOf 2 = .ok (.if_icmp .lt 28, 3) := by decide +kernel
theorem dX2_timeOf_5 : decode cX2_timeOf 5 = .ok (.iload_n 2, 1) := by decide +kernel
theorem dX2_timeOf_6 : decode cX2_timeOf 6 = .ok (.aload_n 0, 1) := by decide +kernel
theorem dX2_timeOf_7 : decode cX2_timeOf 7 = .ok (.getfield 15, 3) := by decide +kernel
theorem dX2_timeOf_10 : decode cX2_timeOf 10 = .ok (.iload_n 1, 1) := by decide +kernel
theorem dX2_timeOf_11 : decode cX2_timeOf 11 = .ok (.iaload, 1) := by decide +kernel
theorem dX2_timeOf_12 : decode cX2_timeOf 12 = .ok (.if_icmp .gt 18, 3) := by decide +kernel
theorem dX2_timeOf_15 : decode cX2_timeOf 15 = .ok (.aload_n 0, 1) := by decide +kernel
theorem dX2_timeOf_16 : decode cX2_timeOf 16 = .ok (.getfield 9, 3) := by decide +kernel
theorem dX2_timeOf_19 : decode cX2_timeOf 19 = .ok (.iload_n 1, 1) := by decide +kernel
theorem dX2_timeOf_20 : decode cX2_timeOf 20 = .ok (.iconst 3, 1) := by decide +kernel
theorem dX2_timeOf_21 : decode cX2_timeOf 21 = .ok (.imul, 1) := by decide +kernel
theorem dX2_timeOf_22 : decode cX2_timeOf 22 = .ok (.iload_n 2, 1) := by decide +kernel
theorem dX2_timeOf_23 : decode cX2_timeOf 23 = .ok (.iadd, 1) := by decide +kernel
theorem dX2_timeOf_24 : decode cX2_timeOf 24 = .ok (.iconst 1, 1) := by decide +kernel
theorem dX2_timeOf_25 : decode cX2_timeOf 25 = .ok (.isub, 1) := by decide +kernel
theorem dX2_timeOf_26 : decode cX2_timeOf 26 = .ok (.iaload, 1) := by decide +kernel
theorem dX2_timeOf_27 : decode cX2_timeOf 27 = .ok (.goto 5, 3) := by decide +kernel
theorem dX2_timeOf_30 : decode cX2_timeOf 30 = .ok (.bipush (-9), 2) := by decide +kernel
theorem dX2_timeOf_32 : decode cX2_timeOf 32 = .ok (.ireturn, 1) := by decide +kernel
theorem dX2_record_0 : decode cX2_record 0 = .ok (.iload_n 1, 1) := by decide +kernel
theorem dX2_record_1 : decode cX2_record 1 = .ok (.iconst 3, 1) := by decide +kernel
theorem dX2_record_2 : decode cX2_record 2 = .ok (.imul, 1) := by decide +kernel
theorem dX2_record_3 : decode cX2_record 3 = .ok (.istore_n 3, 1) := by decide +kernel
theorem dX2_record_4 : decode cX2_record 4 = .ok (.iload_n 3, 1) := by decide +kernel
theorem dX2_record_5 : decode cX2_record 5 = .ok (.iconst 3, 1) := by decide +kernel
theorem dX2_record_6 : decode cX2_record 6 = .ok (.iadd, 1) := by decide +kernel
theorem dX2_record_7 : decode cX2_record 7 = .ok (.iconst 1, 1) := by decide +kernel
theorem dX2_record_8 : decode cX2_record 8 = .ok (.isub, 1) := by decide +kernel
theorem dX2_record_9 : decode cX2_record 9 = .ok (.istore 4, 2) := by decide +kernel
theorem dX2_record_11 : decode cX2_record 11 = .ok (.iload 4, 2) := by decide +kernel
theorem dX2_record_13 : decode cX2_record 13 = .ok (.iload_n 3, 1) := by decide +kernel
theorem dX2_record_14 : decode cX2_record 14 = .ok (.if_icmp .le 25, 3) := by decide +kernel
theorem dX2_record_17 : decode cX2_record 17 = .ok (.aload_n 0, 1) := by decide +kernel
theorem dX2_record_18 : decode cX2_record 18 = .ok (.getfield 9, 3) := by decide +kernel
theorem dX2_record_21 : decode cX2_record 21 = .ok (.iload 4, 2) := by decide +kernel
theorem dX2_record_23 : decode cX2_record 23 = .ok (.aload_n 0, 1) := by decide +kernel
theorem dX2_record_24 : decode cX2_record 24 = .ok (.getfield 9, 3) := by decide +kernel
theorem dX2_record_27 : decode cX2_record 27 = .ok (.iload 4, 2) := by decide +kernel
theorem dX2_record_29 : decode cX2_record 29 = .ok (.iconst 1, 1) := by decide +kernel
theorem dX2_record_30 : decode cX2_record 30 = .ok (.isub, 1) := by decide +kernel
theorem dX2_record_31 : decode cX2_record 31 = .ok (.iaload, 1) := by decide +kernel
theorem dX2_record_32 : decode cX2_record 32 = .ok (.iastore, 1) := by decide +kernel
theorem dX2_record_33 : decode cX2_record 33 = .ok (.iinc 4 (-1), 3) := by decide +kernel
theorem dX2_record_36 : decode cX2_record 36 = .ok (.goto (-25), 3) := by decide +kernel
theorem dX2_record_39 : decode cX2_record 39 = .ok (.aload_n 0, 1) := by decide +kernel
theorem dX2_record_40 : decode cX2_record 40 = .ok (.getfield 9, 3) := by decide +kernel
theorem dX2_record_43 : decode cX2_record 43 = .ok (.iload_n 3, 1) := by decide +kernel
theorem dX2_record_44 : decode cX2_record 44 = .ok (.iload_n 2, 1) := by decide +kernel
theorem dX2_record_45 : decode cX2_record 45 = .ok (.iastore, 1) := by decide +kernel
theorem dX2_record_46 : decode cX2_record 46 = .ok (.aload_n 0, 1) := by decide +kernel
theorem dX2_record_47 : decode cX2_record 47 = .ok (.getfield 15, 3) := by decide +kernel
theorem dX2_record_50 : decode cX2_record 50 = .ok (.iload_n 1, 1) := by decide +kernel
theorem dX2_record_51 : decode cX2_record 51 = .ok (.iaload, 1) := by decide +kernel
theorem dX2_record_52 : decode cX2_record 52 = .ok (.aload_n 0, 1) := by decide +kernel
theorem dX2_record_53 : decode cX2_record 53 = .ok (.getfield 24, 3) := by decide +kernel
theorem dX2_record_56 : decode cX2_record 56 = .ok (.if_icmp .ge 13, 3) := by decide +kernel
theorem dX2_record_59 : decode cX2_record 59 = .ok (.aload_n 0, 1) := by decide +kernel
theorem dX2_record_60 : decode cX2_record 60 = .ok (.getfield 15, 3) := by decide +kernel
theorem dX2_record_63 : decode cX2_record 63 = .ok (.iload_n 1, 1) := by decide +kernel
theorem dX2_record_64 : decode cX2_record 64 = .ok (.dup2, 1) := by decide +kernel
theorem dX2_record_65 : decode cX2_record 65 = .ok (.iaload, 1) := by decide +kernel
theorem dX2_record_66 : decode cX2_record 66 = .ok (.iconst 1, 1) := by decide +kernel
theorem dX2_record_67 : decode cX2_record 67 = .ok (.iadd, 1) := by decide +kernel
theorem dX2_record_68 : decode cX2_record 68 = .ok (.iastore, 1) := by decide +kernel
theorem dX2_record_69 : decode cX2_record 69 = .ok (.return_, 1) := by decide +kernel
set_option maxRecDepth 20000 in
theorem ggX2_goesBefore_X2_timeOf : GoodIn wsX2_goesBefore wsX2_timeOf := goodIn_r _ [7, 1, 8, 9, 10, 11] (by decide +kernel) (by decide +kernel)
set_option maxRecDepth 20000 in
theorem gX2_goesBefore_X2_timeOf : GoodIn wsX2_goesBefore (wsV RX2 28 RX2 yX2_timeOf wsX2_timeOf) := goodIn_app (goodIn_of _ (by decide +kernel)) ggX2_goesBefore_X2_timeOf
theorem dX2_goesBefore_0 : decode cX2_goesBefore 0 = .ok (.aload_n 0, 1) := by decide +kernel
theorem dX2_goesBefore_1 : decode cX2_goesBefore 1 = .ok (.getfield 15, 3) := by decide +kernel
theorem dX2_goesBefore_4 : decode cX2_goesBefore 4 = .ok (.iload_n 1, 1) := by decide +kernel
theorem dX2_goesBefore_5 : decode cX2_goesBefore 5 = .ok (.iaload, 1) := by decide +kernel
theorem dX2_goesBefore_6 : decode cX2_goesBefore 6 = .ok (.aload_n 0, 1) := by decide +kernel
theorem dX2_goesBefore_7 : decode cX2_goesBefore 7 = .ok (.getfield 24, 3) := by decide +kernel
theorem dX2_goesBefore_10 : decode cX2_goesBefore 10 = .ok (.if_icmp .ge 7, 3) := by decide +kernel
theorem dX2_goesBefore_13 : decode cX2_goesBefore 13 = .ok (.iconst 1, 1) := by decide +kernel
theorem dX2_goesBefore_14 : decode cX2_goesBefore 14 = .ok (.goto 4, 3) := by decide +kernel
theorem dX2_goesBefore_17 : decode cX2_goesBefore 17 = .ok (.iconst 0, 1) := by decide +kernel
theorem dX2_goesBefore_18 : decode cX2_goesBefore 18 = .ok (.istore_n 3, 1) := by decide +kernel
theorem dX2_goesBefore_19 : decode cX2_goesBefore 19 = .ok (.aload_n 0, 1) := by decide +kernel
theorem dX2_goesBefore_20 : decode cX2_goesBefore 20 = .ok (.getfield 15, 3) := by decide +kernel
theorem dX2_goesBefore_23 : decode cX2_goesBefore 23 = .ok (.iload_n 2, 1) := by decide +kernel
theorem dX2_goesBefore_24 : decode cX2_goesBefore 24 = .ok (.iaload, 1) := by decide +kernel
theorem dX2_goesBefore_25 : decode cX2_goesBefore 25 = .ok (.aload_n 0, 1) := by decide +kernel
theorem dX2_goesBefore_26 : decode cX2_goesBefore 26 = .ok (.getfield 24, 3) := by decide +kernel
theorem dX2_goesBefore_29 : decode cX2_goesBefore 29 = .ok (.if_icmp .ge 7, 3) := by decide +kernel
theorem dX2_goesBefore_32 : decode cX2_goesBefore 32 = .ok (.iconst 1, 1) := by decide +kernel
theorem dX2_goesBefore_33 : decode cX2_goesBefore 33 = .ok (.goto 4, 3) := by decide +kernel
theorem dX2_goesBefore_36 : decode cX2_goesBefore 36 = .ok (.iconst 0, 1) := by decide +kernel
theorem dX2_goesBefore_37 : decode cX2_goesBefore 37 = .ok (.istore 4, 2) := by decide +kernel
theorem dX2_goesBefore_39 : decode cX2_goesBefore 39 = .ok (.iload_n 3, 1) := by decide +kernel
theorem dX2_goesBefore_40 : decode cX2_goesBefore 40 = .ok (.iload 4, 2) := by decide +kernel
theorem dX2_goesBefore_42 : decode cX2_goesBefore 42 = .ok (.if_icmp .eq 5, 3) := by decide +kernel
theorem dX2_goesBefore_45 : decode cX2_goesBefore 45 = .ok (.iload_n 3, 1) := by decide +kernel
theorem dX2_goesBefore_46 : decode cX2_goesBefore 46 = .ok (.ireturn, 1) := by decide +kernel
theorem dX2_goesBefore_47 : decode cX2_goesBefore 47 = .ok (.iload_n 3, 1) := by decide +kernel
theorem dX2_goesBefore_48 : decode cX2_goesBefore 48 = .ok (.ifCond .eq 7, 3) := by decide +kernel
theorem dX2_goesBefore_51 : decode cX2_goesBefore 51 = .ok (.iconst 1, 1) := by decide +kernel
theorem dX2_goesBefore_52 : decode cX2_goesBefore 52 = .ok (.goto 7, 3) := by decide +kernel
theorem dX2_goesBefore_55 : decode cX2_goesBefore 55 = .ok (.aload_n 0, 1) := by decide +kernel
theorem dX2_goesBefore_56 : decode cX2_goesBefore 56 = .ok (.getfield 24, 3) := by decide +kernel
theorem dX2_goesBefore_59 : decode cX2_goesBefore 59 = .ok (.istore 5, 2) := by decide +kernel
theorem dX2_goesBefore_61 : decode cX2_goesBefore 61 = .ok (.aload_n 0, 1) := by decide +kernel
theorem dX2_goesBefore_62 : decode cX2_goesBefore 62 = .ok (.iload_n 1, 1) := by decide +kernel
theorem dX2_goesBefore_63 : decode cX2_goesBefore 63 = .ok (.iload 5, 2) := by decide +kernel
theorem dX2_goesBefore_65 : decode cX2_goesBefore 65 = .ok (.invokevirtual 28, 3) := by decide +kernel
theorem dX2_goesBefore_68 : decode cX2_goesBefore 68 = .ok (.aload_n 0, 1) := by decide +kernel
theorem dX2_goesBefore_69 : decode cX2_goesBefore 69 = .ok (.iload_n 2, 1) := by decide +kernel
theorem dX2_goesBefore_70 : decode cX2_goesBefore 70 = .ok (.iload 5, 2) := by decide +kernel
theorem dX2_goesBefore_72 : decode cX2_goesBefore 72 = .ok (.invokevirtual 28, 3) := by decide +kernel
theorem dX2_goesBefore_75 : decode cX2_goesBefore 75 = .ok (.if_icmp .ge 7, 3) := by decide +kernel
theorem dX2_goesBefore_78 : decode cX2_goesBefore 78 = .ok (.iconst 1, 1) := by decide +kernel
theorem dX2_goesBefore_79 : decode cX2_goesBefore 79 = .ok (.goto 4, 3) := by decide +kernel
theorem dX2_goesBefore_82 : decode cX2_goesBefore 82 = .ok (.iconst 0, 1) := by decide +kernel
theorem dX2_goesBefore_83 : decode cX2_goesBefore 83 = .ok (.ireturn, 1) := by decide +kernel
theorem dX3_init_0 : decode cX3_init 0 = .ok (.aload_n 0, 1) := by decide +kernel
theorem dX3_init_1 : decode cX3_init 1 = .ok (.invokespecial 3, 3) := by decide +kernel
theorem dX3_init_4 : decode cX3_init 4 = .ok (.aload_n 0, 1) := by decide +kernel
theorem dX3_init_5 : decode cX3_init 5 = .ok (.bipush 8, 2) := by decide +kernel
theorem dX3_init_7 : decode cX3_init 7 = .ok (.newarray .int, 2) := by decide +kernel
theorem dX3_init_9 : decode cX3_init 9 = .ok (.putfield 9, 3) := by decide +kernel
theorem dX3_init_12 : decode cX3_init 12 = .ok (.aload_n 0, 1) := by decide +kernel
theorem dX3_init_13 : decode cX3_init 13 = .ok (.bipush 8, 2) := by decide +kernel
theorem dX3_init_15 : decode cX3_init 15 = .ok (.newarray .int, 2) := by decide +kernel
theorem dX3_init_17 : decode cX3_init 17 = .ok (.putfield 15, 3) := by decide +kernel
theorem dX3_init_20 : decode cX3_init 20 = .ok (.return_, 1) := by decide +kernel
theorem dX3_empty_0 : decode cX3_empty 0 = .ok (.aload_n 0, 1) := by decide +kernel
theorem dX3_empty_1 : decode cX3_empty 1 = .ok (.iconst 0, 1) := by decide +kernel
theorem dX3_empty_2 : decode cX3_empty 2 = .ok (.putfield 18, 3) := by decide +kernel
theorem dX3_empty_5 : decode cX3_empty 5 = .ok (.aload_n 0, 1) := by decide +kernel
theorem dX3_empty_6 : decode cX3_empty 6 = .ok (.iload_n 1, 1) := by decide +kernel
theorem dX3_empty_7 : decode cX3_empty 7 = .ok (.putfield 22, 3) := by decide +kernel
theorem dX3_empty_10 : decode cX3_empty 10 = .ok (.return_, 1) := by decide +kernel
theorem dX3_length_0 : decode cX3_length 0 = .ok (.aload_n 0, 1) := by decide +kernel
theorem dX3_length_1 : decode cX3_length 1 = .ok (.getfield 18, 3) := by decide +kernel
theorem dX3_length_4 : decode cX3_length 4 = .ok (.ireturn, 1) := by decide +kernel
theorem dX3_isFull_0 : decode cX3_isFull 0 = .ok (.aload_n 0, 1) := by decide +kernel
theorem dX3_isFull_1 : decode cX3_isFull 1 = .ok (.getfield 18, 3) := by decide +kernel
theorem dX3_isFull_4 : decode cX3_isFull 4 = .ok (.aload_n 0, 1) := by decide +kernel
theorem dX3_isFull_5 : decode cX3_isFull 5 = .ok (.getfield 22, 3) := by decide +kernel
theorem dX3_isFull_8 : decode cX3_isFull 8 = .ok (.if_icmp .lt 7, 3) := by decide +kernel
theorem dX3_isFull_11 : decode cX3_isFull 11 = .ok (.iconst 1, 1) := by decide +kernel
theorem dX3_isFull_12 : decode cX3_isFull 12 = .ok (.goto 4, 3) := by decide +kernel
theorem dX3_isFull_15 : decode cX3_isFull 15 = .ok (.iconst 0, 1) := by decide +kernel
theorem dX3_isFull_16 : decode cX3_isFull 16 = .ok (.ireturn, 1) := by decide +kernel
set_option maxRecDepth 20000 in
theorem ggX3_pageAt_X3_has : GoodIn wsX3_pageAt wsX3_has := goodIn_r _ [6, 7, 8, 9, 10, 11] (by decide +kernel) (by decide +kernel)
set_option maxRecDepth 20000 in
theorem gX3_pageAt_X3_has : GoodIn wsX3_pageAt (wsV RX3 25 RX3 yX3_has wsX3_has) := goodIn_app (goodIn_of _ (by decide +kernel)) ggX3_pageAt_X3_has
theorem dX3_pageAt_0 : decode cX3_pageAt 0 = .ok (.aload_n 0, 1) := by decide +kernel
theorem dX3_pageAt_1 : decode cX3_pageAt 1 = .ok (.iload_n 1, 1) := by decide +kernel
theorem dX3_pageAt_2 : decode cX3_pageAt 2 = .ok (.invokevirtual 25, 3) := by decide +kernel
theorem dX3_pageAt_5 : decode cX3_pageAt 5 = .ok (.ifCond .eq 12, 3) := by decide +kernel
theorem dX3_pageAt_8 : decode cX3_pageAt 8 = .ok (.aload_n 0, 1) := by decide +kernel
theorem dX3_pageAt_9 : decode cX3_pageAt 9 = .ok (.getfield 9, 3) := by decide +kernel
theorem dX3_pageAt_12 : decode cX3_pageAt 12 = .ok (.iload_n 1, 1) := by decide +kernel
theorem dX3_pageAt_13 : decode cX3_pageAt 13 = .ok (.iaload, 1) := by decide +kernel
theorem dX3_pageAt_14 : decode cX3_pageAt 14 = .ok (.goto 5, 3) := by decide +kernel
theorem dX3_pageAt_17 : decode cX3_pageAt 17 = .ok (.bipush (-9), 2) := by decide +kernel
theorem dX3_pageAt_19 : decode cX3_pageAt 19 = .ok (.ireturn, 1) := by decide +kernel
set_option maxRecDepth 20000 in
theorem ggX3_valueAt_X3_has : GoodIn wsX3_valueAt wsX3_has := goodIn_r _ [6, 7, 8, 9, 10, 11] (by decide +kernel) (by decide +kernel)
set_option maxRecDepth 20000 in
theorem gX3_valueAt_X3_has : GoodIn wsX3_valueAt (wsV RX3 25 RX3 yX3_has wsX3_has) := goodIn_app (goodIn_of _ (by decide +kernel)) ggX3_valueAt_X3_has
theorem dX3_valueAt_0 : decode cX3_valueAt 0 = .ok (.aload_n 0, 1) := by decide +kernel
theorem dX3_valueAt_1 : decode cX3_valueAt 1 = .ok (.iload_n 1, 1) := by decide +kernel
theorem dX3_valueAt_2 : decode cX3_valueAt 2 = .ok (.invokevirtual 25, 3) := by decide +kernel
theorem dX3_valueAt_5 : decode cX3_valueAt 5 = .ok (.ifCond .eq 12, 3) := by decide +kernel
theorem dX3_valueAt_8 : decode cX3_valueAt 8 = .ok (.aload_n 0, 1) := by decide +kernel
theorem dX3_valueAt_9 : decode cX3_valueAt 9 = .ok (.getfield 15, 3) := by decide +kernel
theorem dX3_valueAt_12 : decode cX3_valueAt 12 = .ok (.iload_n 1, 1) := by decide +kernel
theorem dX3_valueAt_13 : decode cX3_valueAt 13 = .ok (.iaload, 1) := by decide +kernel
theorem dX3_valueAt_14 : decode cX3_valueAt 14 = .ok (.goto 5, 3) := by decide +kernel
theorem dX3_valueAt_17 : decode cX3_valueAt 17 = .ok (.bipush (-9), 2) := by decide +kernel
theorem dX3_valueAt_19 : decode cX3_valueAt 19 = .ok (.ireturn, 1) := by decide +kernel
theorem dX3_positionOf_0 : decode cX3_positionOf 0 = .ok (.iconst 0, 1) := by decide +kernel
theorem dX3_positionOf_1 : decode cX3_positionOf 1 = .ok (.istore_n 2, 1) := by decide +kernel
theorem dX3_positionOf_2 : decode cX3_positionOf 2 = .ok (.iload_n 2, 1) := by decide +kernel
theorem dX3_positionOf_3 : decode cX3_positionOf 3 = .ok (.aload_n 0, 1) := by decide +kernel
theorem dX3_positionOf_4 : decode cX3_positionOf 4 = .ok (.getfield 18, 3) := by decide +kernel
theorem dX3_positionOf_7 : decode cX3_positionOf 7 = .ok (.if_icmp .ge 21, 3) := by decide +kernel
theorem dX3_positionOf_10 : decode cX3_positionOf 10 = .ok (.aload_n 0, 1) := by decide +kernel
theorem dX3_positionOf_11 : decode cX3_positionOf 11 = .ok (.getfield 9, 3) := by decide +kernel
theorem dX3_positionOf_14 : decode cX3_positionOf 14 = .ok (.iload_n 2, 1) := by decide +kernel
theorem dX3_positionOf_15 : decode cX3_positionOf 15 = .ok (.iaload, 1) := by decide +kernel
theorem dX3_positionOf_16 : decode cX3_positionOf 16 = .ok (.iload_n 1, 1) := by decide +kernel
theorem dX3_positionOf_17 : decode cX3_positionOf 17 = .ok (.if_icmp .ne 5, 3) := by decide +kernel
theorem dX3_positionOf_20 : decode cX3_positionOf 20 = .ok (.iload_n 2, 1) := by decide +kernel
theorem dX3_positionOf_21 : decode cX3_positionOf 21 = .ok (.ireturn, 1) := by decide +kernel
theorem dX3_positionOf_22 : decode cX3_positionOf 22 = .ok (.iinc 2 1, 3) := by decide +kernel
theorem dX3_positionOf_25 : decode cX3_positionOf 25 = .ok (.goto (-23), 3) := by decide +kernel
theorem dX3_positionOf_28 : decode cX3_positionOf 28 = .ok (.bipush (-9), 2) := by decide +kernel
theorem dX3_positionOf_30 : decode cX3_positionOf 30 = .ok (.ireturn, 1) := by decide +kernel
set_option maxRecDepth 20000 in
theorem ggX3_append_X3_isFull : GoodIn wsX3_append wsX3_isFull := goodIn_r _ [8, 2, 9, 10, 11, 12, 13] (by decide +kernel) (by decide +kernel)
set_option maxRecDepth 20000 in
theorem gX3_append_X3_isFull : GoodIn wsX3_append (wsV RX3 29 RX3 yX3_isFull wsX3_isFull) := goodIn_app (goodIn_of _ (by decide +kernel)) ggX3_append_X3_isFull
theorem dX3_append_0 : decode cX3_append 0 = .ok (.aload_n 0, 1) := by decide +kernel
theorem dX3_append_1 : decode cX3_append 1 = .ok (.invokevirtual 29, 3) := by decide +kernel
theorem dX3_append_4 : decode cX3_append 4 = .ok (.ifCond .eq 4, 3) := by decide +kernel
theorem dX3_append_7 : decode cX3_append 7 = .ok (.return_, 1) := by decide +kernel
theorem dX3_append_8 : decode cX3_append 8 = .ok (.aload_n 0, 1) := by decide +kernel
theorem dX3_append_9 : decode cX3_append 9 = .ok (.getfield 9, 3) := by decide +kernel
theorem dX3_append_12 : decode cX3_append 12 = .ok (.aload_n 0, 1) := by decide +kernel
theorem dX3_append_13 : decode cX3_append 13 = .ok (.getfield 18, 3) := by decide +kernel
theorem dX3_append_16 : decode cX3_append 16 = .ok (.iload_n 1, 1) := by decide +kernel
theorem dX3_append_17 : decode cX3_append 17 = .ok (.iastore, 1) := by decide +kernel
theorem dX3_append_18 : decode cX3_append 18 = .ok (.aload_n 0, 1) := by decide +kernel
theorem dX3_append_19 : decode cX3_append 19 = .ok (.getfield 15, 3) := by decide +kernel
theorem dX3_append_22 : decode cX3_append 22 = .ok (.aload_n 0, 1) := by decide +kernel
theorem dX3_append_23 : decode cX3_append 23 = .ok (.getfield 18, 3) := by decide +kernel
theorem dX3_append_26 : decode cX3_append 26 = .ok (.iload_n 2, 1) := by decide +kernel
theorem dX3_append_27 : decode cX3_append 27 = .ok (.iastore, 1) := by decide +kernel
theorem dX3_append_28 : decode cX3_append 28 = .ok (.aload_n 0, 1) := by decide +kernel
theorem dX3_append_29 : decode cX3_append 29 = .ok (.dup, 1) := by decide +kernel
theorem dX3_append_30 : decode cX3_append 30 = .ok (.getfield 18, 3) := by decide +kernel
theorem dX3_append_33 : decode cX3_append 33 = .ok (.iconst 1, 1) := by decide +kernel
theorem dX3_append_34 : decode cX3_append 34 = .ok (.iadd, 1) := by decide +kernel
theorem dX3_append_35 : decode cX3_append 35 = .ok (.putfield 18, 3) := by decide +kernel
theorem dX3_append_38 : decode cX3_append 38 = .ok (.return_, 1) := by decide +kernel
set_option maxRecDepth 20000 in
theorem ggX3_removeAt_X3_has : GoodIn wsX3_removeAt wsX3_has := goodIn_r _ [8, 1, 9, 10, 11, 12] (by decide +kernel) (by decide +kernel)
set_option maxRecDepth 20000 in
theorem gX3_removeAt_X3_has : GoodIn wsX3_removeAt (wsV RX3 25 RX3 yX3_has wsX3_has) := goodIn_app (goodIn_of _ (by decide +kernel)) ggX3_removeAt_X3_has
theorem dX3_removeAt_0 : decode cX3_removeAt 0 = .ok (.aload_n 0, 1) := by decide +kernel
theorem dX3_removeAt_1 : decode cX3_removeAt 1 = .ok (.iload_n 1, 1) := by decide +kernel
theorem dX3_removeAt_2 : decode cX3_removeAt 2 = .ok (.invokevirtual 25, 3) := by decide +kernel
theorem dX3_removeAt_5 : decode cX3_removeAt 5 = .ok (.ifCond .ne 4, 3) := by decide +kernel
theorem dX3_removeAt_8 : decode cX3_removeAt 8 = .ok (.return_, 1) := by decide +kernel
theorem dX3_removeAt_9 : decode cX3_removeAt 9 = .ok (.aload_n 0, 1) := by decide +kernel
theorem dX3_removeAt_10 : decode cX3_removeAt 10 = .ok (.dup, 1) := by decide +kernel
theorem dX3_removeAt_11 : decode cX3_removeAt 11 = .ok (.getfield 18, 3) := by decide +kernel
theorem dX3_removeAt_14 : decode cX3_removeAt 14 = .ok (.iconst 1, 1) := by decide +kernel
theorem dX3_removeAt_15 : decode cX3_removeAt 15 = .ok (.isub, 1) := by decide +kernel
theorem dX3_removeAt_16 : decode cX3_removeAt 16 = .ok (.putfield 18, 3) := by decide +kernel
theorem dX3_removeAt_19 : decode cX3_removeAt 19 = .ok (.iload_n 1, 1) := by decide +kernel
theorem dX3_removeAt_20 : decode cX3_removeAt 20 = .ok (.istore_n 2, 1) := by decide +kernel
theorem dX3_removeAt_21 : decode cX3_removeAt 21 = .ok (.iload_n 2, 1) := by decide +kernel
theorem dX3_removeAt_22 : decode cX3_removeAt 22 = .ok (.aload_n 0, 1) := by decide +kernel
theorem dX3_removeAt_23 : decode cX3_removeAt 23 = .ok (.getfield 18, 3) := by decide +kernel
theorem dX3_removeAt_26 : decode cX3_removeAt 26 = .ok (.if_icmp .ge 37, 3) := by decide +kernel
theorem dX3_removeAt_29 : decode cX3_removeAt 29 = .ok (.aload_n 0, 1) := by decide +kernel
theorem dX3_removeAt_30 : decode cX3_removeAt 30 = .ok (.getfield 9, 3) := by decide +kernel
theorem dX3_removeAt_33 : decode cX3_removeAt 33 = .ok (.iload_n 2, 1) := by decide +kernel
theorem dX3_removeAt_34 : decode cX3_removeAt 34 = .ok (.aload_n 0, 1) := by decide +kernel
theorem dX3_removeAt_35 : decode cX3_removeAt 35 = .ok (.getfield 9, 3) := by decide +kernel
theorem dX3_removeAt_38 : decode cX3_removeAt 38 = .ok (.iload_n 2, 1) := by decide +kernel
theorem dX3_removeAt_39 : decode cX3_removeAt 39 = .ok (.iconst 1, 1) := by decide +kernel
theorem dX3_removeAt_40 : decode cX3_removeAt 40 = .ok (.iadd, 1) := by decide +kernel
theorem dX3_removeAt_41 : decode cX3_removeAt 41 = .ok (.iaload, 1) := by decide +kernel
theorem dX3_removeAt_42 : decode cX3_removeAt 42 = .ok (.iastore, 1) := by decide +kernel
theorem dX3_removeAt_43 : decode cX3_removeAt 43 = .ok (.aload_n 0, 1) := by decide +kernel
theorem dX3_removeAt_44 : decode cX3_removeAt 44 = .ok (.getfield 15, 3) := by decide +kernel
theorem dX3_removeAt_47 : decode cX3_removeAt 47 = .ok (.iload_n 2, 1) := by decide +kernel
theorem dX3_removeAt_48 : decode cX3_removeAt 48 = .ok (.aload_n 0, 1) := by decide +kernel
theorem dX3_removeAt_49 : decode cX3_removeAt 49 = .ok (.getfield 15, 3) := by decide +kernel
theorem dX3_removeAt_52 : decode cX3_removeAt 52 = .ok (.iload_n 2, 1) := by decide +kernel
theorem dX3_removeAt_53 : decode cX3_removeAt 53 = .ok (.iconst 1, 1) := by decide +kernel
theorem dX3_removeAt_54 : decode cX3_removeAt 54 = .ok (.iadd, 1) := by decide +kernel
theorem dX3_removeAt_55 : decode cX3_removeAt 55 = .ok (.iaload, 1) := by decide +kernel
theorem dX3_removeAt_56 : decode cX3_removeAt 56 = .ok (.iastore, 1) := by decide +kernel
theorem dX3_removeAt_57 : decode cX3_removeAt 57 = .ok (.iinc 2 1, 3) := by decide +kernel
theorem dX3_removeAt_60 : decode cX3_removeAt 60 = .ok (.goto (-39), 3) := by decide +kernel
theorem dX3_removeAt_63 : decode cX3_removeAt 63 = .ok (.return_, 1) := by decide +kernel
theorem dX3_has_0 : decode cX3_has 0 = .ok (.iload_n 1, 1) := by decide +kernel
theorem dX3_has_1 : decode cX3_has 1 = .ok (.ifCond .lt 15, 3) := by decide +kernel
theorem dX3_has_4 : decode cX3_has 4 = .ok (.iload_n 1, 1) := by decide +kernel
theorem dX3_has_5 : decode cX3_has 5 = .ok (.aload_n 0, 1) := by decide +kernel
theorem dX3_has_6 : decode cX3_has 6 = .ok (.getfield 18, 3) := by decide +kernel
theorem dX3_has_9 : decode cX3_has 9 = .ok (.if_icmp .ge 7, 3) := by decide +kernel
theorem dX3_has_12 : decode cX3_has 12 = .ok (.iconst 1, 1) := by decide +kernel
theorem dX3_has_13 : decode cX3_has 13 = .ok (.goto 4, 3) := by decide +kernel
theorem dX3_has_16 : decode cX3_has 16 = .ok (.iconst 0, 1) := by decide +kernel
theorem dX3_has_17 : decode cX3_has 17 = .ok (.ireturn, 1) := by decide +kernel
theorem dJ9_min_7cf53_0 : decode cJ9_min_7cf53 0 = .ok (.iload_n 0, 1) := by decide +kernel
theorem dJ9_min_7cf53_1 : decode cJ9_min_7cf53 1 = .ok (.iload_n 1, 1) := by decide +kernel
theorem dJ9_min_7cf53_2 : decode cJ9_min_7cf53 2 = .ok (.if_icmp .gt 7, 3) := by decide +kernel
theorem dJ9_min_7cf53_5 : decode cJ9_min_7cf53 5 = .ok (.iload_n 0, 1) := by decide +kernel
theorem dJ9_min_7cf53_6 : decode cJ9_min_7cf53 6 = .ok (.goto 4, 3) := by decide +kernel
theorem dJ9_min_7cf53_9 : decode cJ9_min_7cf53 9 = .ok (.iload_n 1, 1) := by decide +kernel
theorem dJ9_min_7cf53_10 : decode cJ9_min_7cf53 10 = .ok (.ireturn, 1) := by decide +kernel
theorem dJ7_fill_53178_0 : decode cJ7_fill_53178 0 = .ok (.iconst 0, 1) := by decide +kernel
theorem dJ7_fill_53178_1 : decode cJ7_fill_53178 1 = .ok (.istore_n 2, 1) := by decide +kernel
theorem dJ7_fill_53178_2 : decode cJ7_fill_53178 2 = .ok (.aload_n 0, 1) := by decide +kernel
theorem dJ7_fill_53178_3 : decode cJ7_fill_53178 3 = .ok (.arraylength, 1) := by decide +kernel
theorem dJ7_fill_53178_4 : decode cJ7_fill_53178 4 = .ok (.istore_n 3, 1) := by decide +kernel
theorem dJ7_fill_53178_5 : decode cJ7_fill_53178 5 = .ok (.iload_n 2, 1) := by decide +kernel
theorem dJ7_fill_53178_6 : decode cJ7_fill_53178 6 = .ok (.iload_n 3, 1) := by decide +kernel
theorem dJ7_fill_53178_7 : decode cJ7_fill_53178 7 = .ok (.if_icmp .ge 13, 3) := by decide +kernel
theorem dJ7_fill_53178_10 : decode cJ7_fill_53178 10 = .ok (.aload_n 0, 1) := by decide +kernel
theorem dJ7_fill_53178_11 : decode cJ7_fill_53178 11 = .ok (.iload_n 2, 1) := by decide +kernel
theorem dJ7_fill_53178_12 : decode cJ7_fill_53178 12 = .ok (.iload_n 1, 1) := by decide +kernel
theorem dJ7_fill_53178_13 : decode cJ7_fill_53178 13 = .ok (.iastore, 1) := by decide +kernel
theorem dJ7_fill_53178_14 : decode cJ7_fill_53178 14 = .ok (.iinc 2 1, 3) := by decide +kernel
theorem dJ7_fill_53178_17 : decode cJ7_fill_53178 17 = .ok (.goto (-12), 3) := by decide +kernel
theorem dJ7_fill_53178_20 : decode cJ7_fill_53178 20 = .ok (.return_, 1) := by decide +kernel
