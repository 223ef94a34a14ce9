set_option maxRecDepth 20000 in
theorem ggX4_init_X0_init : GoodIn wsX4_init wsX0_init := goodIn_r _ [22, 23, 2, 3, 24, 25, 90, 91, 92] (by decide +kernel) (by decide +kernel)
set_option maxRecDepth 20000 in
theorem gX4_init_X0_init : GoodIn wsX4_init (wsX0_init) := ggX4_init_X0_init
set_option maxRecDepth 20000 in
theorem ggX4_init_X1_init : GoodIn wsX4_init wsX1_init := goodIn_r _ [28, 29, 2, 3, 30, 31, 32, 24, 33, 34, 103, 104, 105, 106, 107, 108] (by decide +kernel) (by decide +kernel)
set_option maxRecDepth 20000 in
theorem gX4_init_X1_init : GoodIn wsX4_init (wsX1_init) := ggX4_init_X1_init
set_option maxRecDepth 20000 in
theorem ggX4_init_X3_init : GoodIn wsX4_init wsX3_init := goodIn_r _ [37, 38, 2, 3, 24, 39, 40, 109, 110, 111, 112] (by decide +kernel) (by decide +kernel)
set_option maxRecDepth 20000 in
theorem gX4_init_X3_init : GoodIn wsX4_init (wsX3_init) := ggX4_init_X3_init
set_option maxRecDepth 20000 in
theorem ggX4_init_X2_init : GoodIn wsX4_init wsX2_init := goodIn_r _ [43, 44, 2, 3, 24, 45, 46, 113, 114, 115] (by decide +kernel) (by decide +kernel)
set_option maxRecDepth 20000 in
theorem gX4_init_X2_init : GoodIn wsX4_init (wsX2_init) := ggX4_init_X2_init
set_option maxRecDepth 20000 in
theorem ggX4_init_X4_startAnew : GoodIn wsX4_init wsX4_startAnew := goodIn_r _ [51, 7, 11, 15, 19, 52, 53, 54, 55, 56, 57, 58, 59, 60, 6, 61, 25, 62, 63, 64, 65, 66, 67, 68, 69, 70, 10, 71, 72, 73, 74, 75, 76, 77, 31, 32, 34, 78, 79, 80, 14, 81, 82, 83, 84, 85, 86, 18, 87, 46, 88, 89, 93, 94, 95, 96, 97, 98, 99, 100, 101, 102, 90, 91, 92, 103, 104, 105, 106, 107, 108, 109, 110, 111, 112, 113, 114, 115] (by decide +kernel) (by decide +kernel)
set_option maxRecDepth 20000 in
theorem gX4_init_X4_startAnew : GoodIn wsX4_init (wsV RX4 37 RX4 yX4_startAnew wsX4_startAnew) := goodIn_app (goodIn_of _ (by decide +kernel)) ggX4_init_X4_startAnew
theorem dX4_init_0 : decode cX4_init 0 = .ok (.aload_n 0, 1) := by decide +kernel
theorem dX4_init_1 : decode cX4_init 1 = .ok (.invokespecial 1, 3) := by decide +kernel
theorem dX4_init_4 : decode cX4_init 4 = .ok (.aload_n 0, 1) := by decide +kernel
theorem dX4_init_5 : decode cX4_init 5 = .ok (.new 7, 3) := by decide +kernel
theorem dX4_init_8 : decode cX4_init 8 = .ok (.dup, 1) := by decide +kernel
theorem dX4_init_9 : decode cX4_init 9 = .ok (.invokespecial 9, 3) := by decide +kernel
theorem dX4_init_12 : decode cX4_init 12 = .ok (.putfield 10, 3) := by decide +kernel
theorem dX4_init_15 : decode cX4_init 15 = .ok (.aload_n 0, 1) := by decide +kernel
theorem dX4_init_16 : decode cX4_init 16 = .ok (.new 16, 3) := by decide +kernel
theorem dX4_init_19 : decode cX4_init 19 = .ok (.dup, 1) := by decide +kernel
theorem dX4_init_20 : decode cX4_init 20 = .ok (.invokespecial 18, 3) := by decide +kernel
theorem dX4_init_23 : decode cX4_init 23 = .ok (.putfield 19, 3) := by decide +kernel
theorem dX4_init_26 : decode cX4_init 26 = .ok (.aload_n 0, 1) := by decide +kernel
theorem dX4_init_27 : decode cX4_init 27 = .ok (.new 23, 3) := by decide +kernel
theorem dX4_init_30 : decode cX4_init 30 = .ok (.dup, 1) := by decide +kernel
theorem dX4_init_31 : decode cX4_init 31 = .ok (.invokespecial 25, 3) := by decide +kernel
theorem dX4_init_34 : decode cX4_init 34 = .ok (.putfield 26, 3) := by decide +kernel
theorem dX4_init_37 : decode cX4_init 37 = .ok (.aload_n 0, 1) := by decide +kernel
theorem dX4_init_38 : decode cX4_init 38 = .ok (.new 30, 3) := by decide +kernel
theorem dX4_init_41 : decode cX4_init 41 = .ok (.dup, 1) := by decide +kernel
theorem dX4_init_42 : decode cX4_init 42 = .ok (.invokespecial 32, 3) := by decide +kernel
theorem dX4_init_45 : decode cX4_init 45 = .ok (.putfield 33, 3) := by decide +kernel
theorem dX4_init_48 : decode cX4_init 48 = .ok (.aload_n 0, 1) := by decide +kernel
theorem dX4_init_49 : decode cX4_init 49 = .ok (.iconst 4, 1) := by decide +kernel
theorem dX4_init_50 : decode cX4_init 50 = .ok (.iconst 2, 1) := by decide +kernel
theorem dX4_init_51 : decode cX4_init 51 = .ok (.iconst 3, 1) := by decide +kernel
theorem dX4_init_52 : decode cX4_init 52 = .ok (.bipush 100, 2) := by decide +kernel
theorem dX4_init_54 : decode cX4_init 54 = .ok (.invokevirtual 37, 3) := by decide +kernel
theorem dX4_init_57 : decode cX4_init 57 = .ok (.return_, 1) := by decide +kernel
set_option maxRecDepth 20000 in
theorem ggX4_reset_X4_isWithin : GoodIn wsX4_reset wsX4_isWithin := goodIn_r _ [4] (by decide +kernel) (by decide +kernel)
set_option maxRecDepth 20000 in
theorem gX4_reset_X4_isWithin : GoodIn wsX4_reset (va_wsS RX4 41 yX4_isWithin wsX4_isWithin) := goodIn_app (goodIn_of _ (by decide +kernel)) ggX4_reset_X4_isWithin
set_option maxRecDepth 20000 in
theorem ggX4_reset_X4_startAnew : GoodIn wsX4_reset wsX4_startAnew := goodIn_r _ [8, 9, 10, 11, 12, 13, 14, 15, 16, 17, 18, 19, 20, 21, 22, 23, 24, 25, 26, 27, 28, 29, 30, 31, 32, 33, 34, 35, 36, 37, 38, 39, 40, 41, 42, 43, 44, 45, 46, 47, 48, 49, 50, 51, 52, 53, 54, 55, 56, 57, 58, 59, 60, 61, 62, 63, 64, 65, 66, 67, 68, 69, 70, 71, 72, 73, 74, 75, 76, 77, 78, 79, 80, 81, 82, 83, 84, 85] (by decide +kernel) (by decide +kernel)
set_option maxRecDepth 20000 in
theorem gX4_reset_X4_startAnew : GoodIn wsX4_reset (wsV RX4 37 RX4 yX4_startAnew wsX4_startAnew) := goodIn_app (goodIn_of _ (by decide +kernel)) ggX4_reset_X4_startAnew
theorem dX4_reset_0 : decode cX4_reset 0 = .ok (.iload_n 1, 1) := by decide +kernel
theorem dX4_reset_1 : decode cX4_reset 1 = .ok (.iconst 1, 1) := by decide +kernel
theorem dX4_reset_2 : decode cX4_reset 2 = .ok (.bipush 16, 2) := by decide +kernel
theorem dX4_reset_4 : decode cX4_reset 4 = .ok (.invokestatic 41, 3) := by decide +kernel
theorem dX4_reset_7 : decode cX4_reset 7 = .ok (.ifCond .eq 34, 3) := by decide +kernel
theorem dX4_reset_10 : decode cX4_reset 10 = .ok (.iload_n 2, 1) := by decide +kernel
theorem dX4_reset_11 : decode cX4_reset 11 = .ok (.iconst 1, 1) := by decide +kernel
theorem dX4_reset_12 : decode cX4_reset 12 = .ok (.iconst 3, 1) := by decide +kernel
theorem dX4_reset_13 : decode cX4_reset 13 = .ok (.invokestatic 41, 3) := by decide +kernel
theorem dX4_reset_16 : decode cX4_reset 16 = .ok (.ifCond .eq 25, 3) := by decide +kernel
theorem dX4_reset_19 : decode cX4_reset 19 = .ok (.iload_n 3, 1) := by decide +kernel
theorem dX4_reset_20 : decode cX4_reset 20 = .ok (.iconst 1, 1) := by decide +kernel
theorem dX4_reset_21 : decode cX4_reset 21 = .ok (.bipush 8, 2) := by decide +kernel
theorem dX4_reset_23 : decode cX4_reset 23 = .ok (.invokestatic 41, 3) := by decide +kernel
theorem dX4_reset_26 : decode cX4_reset 26 = .ok (.ifCond .eq 15, 3) := by decide +kernel
theorem dX4_reset_29 : decode cX4_reset 29 = .ok (.iload 4, 2) := by decide +kernel
theorem dX4_reset_31 : decode cX4_reset 31 = .ok (.iconst 0, 1) := by decide +kernel
theorem dX4_reset_32 : decode cX4_reset 32 = .ok (.sipush 9999, 3) := by decide +kernel
theorem dX4_reset_35 : decode cX4_reset 35 = .ok (.invokestatic 41, 3) := by decide +kernel
theorem dX4_reset_38 : decode cX4_reset 38 = .ok (.ifCond .ne 6, 3) := by decide +kernel
theorem dX4_reset_41 : decode cX4_reset 41 = .ok (.bipush (-8), 2) := by decide +kernel
theorem dX4_reset_43 : decode cX4_reset 43 = .ok (.ireturn, 1) := by decide +kernel
theorem dX4_reset_44 : decode cX4_reset 44 = .ok (.aload_n 0, 1) := by decide +kernel
theorem dX4_reset_45 : decode cX4_reset 45 = .ok (.iload_n 1, 1) := by decide +kernel
theorem dX4_reset_46 : decode cX4_reset 46 = .ok (.iload_n 2, 1) := by decide +kernel
theorem dX4_reset_47 : decode cX4_reset 47 = .ok (.iload_n 3, 1) := by decide +kernel
theorem dX4_reset_48 : decode cX4_reset 48 = .ok (.iload 4, 2) := by decide +kernel
theorem dX4_reset_50 : decode cX4_reset 50 = .ok (.invokevirtual 37, 3) := by decide +kernel
theorem dX4_reset_53 : decode cX4_reset 53 = .ok (.iconst 0, 1) := by decide +kernel
theorem dX4_reset_54 : decode cX4_reset 54 = .ok (.ireturn, 1) := by decide +kernel
set_option maxRecDepth 20000 in
theorem ggX4_read_X4_isPage : GoodIn wsX4_read wsX4_isPage := goodIn_r _ [5, 6, 7, 4, 8] (by decide +kernel) (by decide +kernel)
set_option maxRecDepth 20000 in
theorem gX4_read_X4_isPage : GoodIn wsX4_read (va_wsS RX4 45 yX4_isPage wsX4_isPage) := goodIn_app (goodIn_of _ (by decide +kernel)) ggX4_read_X4_isPage
set_option maxRecDepth 20000 in
theorem ggX4_read_X4_canReference : GoodIn wsX4_read wsX4_canReference := goodIn_r _ [12, 1, 13, 14, 15, 16, 17, 18, 19, 20, 21, 22, 23, 24, 25, 26, 27, 4, 28, 29, 30, 31, 32, 33, 34, 35, 36, 37, 38, 39, 40, 41, 42, 43, 44, 45, 46, 160, 161, 162, 163, 164, 165, 166, 167, 168, 169, 170, 171, 172, 173, 174, 175, 176, 177, 178] (by decide +kernel) (by decide +kernel)
set_option maxRecDepth 20000 in
theorem gX4_read_X4_canReference : GoodIn wsX4_read (wsV RX4 49 RX4 yX4_canReference wsX4_canReference) := goodIn_app (goodIn_of _ (by decide +kernel)) ggX4_read_X4_canReference
set_option maxRecDepth 20000 in
theorem ggX4_read_X4_reference : GoodIn wsX4_read wsX4_reference := goodIn_r _ [50, 51, 1, 52, 53, 29, 13, 14, 15, 16, 17, 18, 54, 55, 56, 4, 57, 58, 19, 20, 21, 22, 23, 24, 25, 26, 27, 28, 30, 31, 32, 33, 34, 35, 36, 37, 38, 39, 40, 41, 42, 43, 44, 45, 46, 59, 60, 61, 62, 63, 64, 65, 66, 67, 68, 69, 70, 71, 72, 73, 74, 75, 76, 77, 78, 79, 80, 81, 82, 83, 84, 85, 86, 87, 88, 89, 90, 91, 92, 93, 94, 95, 96, 97, 98, 99, 100, 101, 102, 103, 104, 105, 106, 107, 108, 109, 110, 111, 112, 113, 114, 115, 116, 117, 118, 119, 120, 121, 122, 123, 124, 125, 126, 127, 128, 129, 130, 131, 132, 133, 134, 135, 136, 137, 138, 139, 140, 141, 142, 143, 144, 145, 146, 147, 148, 149, 150, 151, 152, 153, 154, 155, 156, 157, 158, 159, 160, 161, 162, 163, 164, 165, 166, 167, 168, 169, 170, 171, 172, 173, 174, 175, 176, 177, 178, 179, 180, 181, 182, 183, 184, 185] (by decide +kernel) (by decide +kernel)
set_option maxRecDepth 20000 in
theorem gX4_read_X4_reference : GoodIn wsX4_read (wsV RX4 52 RX4 yX4_reference wsX4_reference) := goodIn_app (goodIn_of _ (by decide +kernel)) ggX4_read_X4_reference
set_option maxRecDepth 20000 in
theorem ggX4_read_X1_valueOf : GoodIn wsX4_read wsX1_valueOf := goodIn_r _ [110, 111, 170, 171, 172, 173, 174, 175] (by decide +kernel) (by decide +kernel)
set_option maxRecDepth 20000 in
theorem gX4_read_X1_valueOf : GoodIn wsX4_read (wsV RX4 56 RX1 yX1_valueOf wsX1_valueOf) := goodIn_app (goodIn_of _ (by decide +kernel)) ggX4_read_X1_valueOf
theorem dX4_read_0 : decode cX4_read 0 = .ok (.iload_n 1, 1) := by decide +kernel
theorem dX4_read_1 : decode cX4_read 1 = .ok (.invokestatic 45, 3) := by decide +kernel
theorem dX4_read_4 : decode cX4_read 4 = .ok (.ifCond .ne 5, 3) := by decide +kernel
theorem dX4_read_7 : decode cX4_read 7 = .ok (.iconst (-1), 1) := by decide +kernel
theorem dX4_read_8 : decode cX4_read 8 = .ok (.ireturn, 1) := by decide +kernel
theorem dX4_read_9 : decode cX4_read 9 = .ok (.aload_n 0, 1) := by decide +kernel
theorem dX4_read_10 : decode cX4_read 10 = .ok (.iload_n 1, 1) := by decide +kernel
theorem dX4_read_11 : decode cX4_read 11 = .ok (.invokevirtual 49, 3) := by decide +kernel
theorem dX4_read_14 : decode cX4_read 14 = .ok (.ifCond .ne 6, 3) := by decide +kernel
theorem dX4_read_17 : decode cX4_read 17 = .ok (.bipush (-3), 2) := by decide +kernel
theorem dX4_read_19 : decode cX4_read 19 = .ok (.ireturn, 1) := by decide +kernel
theorem dX4_read_20 : decode cX4_read 20 = .ok (.aload_n 0, 1) := by decide +kernel
theorem dX4_read_21 : decode cX4_read 21 = .ok (.iload_n 1, 1) := by decide +kernel
theorem dX4_read_22 : decode cX4_read 22 = .ok (.invokevirtual 52, 3) := by decide +kernel
theorem dX4_read_25 : decode cX4_read 25 = .ok (.aload_n 0, 1) := by decide +kernel
theorem dX4_read_26 : decode cX4_read 26 = .ok (.getfield 19, 3) := by decide +kernel
theorem dX4_read_29 : decode cX4_read 29 = .ok (.iload_n 1, 1) := by decide +kernel
theorem dX4_read_30 : decode cX4_read 30 = .ok (.invokevirtual 56, 3) := by decide +kernel
theorem dX4_read_33 : decode cX4_read 33 = .ok (.ireturn, 1) := by decide +kernel
set_option maxRecDepth 20000 in
theorem ggX4_write_X4_isPage : GoodIn wsX4_write wsX4_isPage := goodIn_r _ [5, 6, 7, 4, 8] (by decide +kernel) (by decide +kernel)
set_option maxRecDepth 20000 in
theorem gX4_write_X4_isPage : GoodIn wsX4_write (va_wsS RX4 45 yX4_isPage wsX4_isPage) := goodIn_app (goodIn_of _ (by decide +kernel)) ggX4_write_X4_isPage
set_option maxRecDepth 20000 in
theorem ggX4_write_X4_isWithin : GoodIn wsX4_write wsX4_isWithin := goodIn_r _ [8] (by decide +kernel) (by decide +kernel)
set_option maxRecDepth 20000 in
theorem gX4_write_X4_isWithin : GoodIn wsX4_write (va_wsS RX4 41 yX4_isWithin wsX4_isWithin) := goodIn_app (goodIn_of _ (by decide +kernel)) ggX4_write_X4_isWithin
set_option maxRecDepth 20000 in
theorem ggX4_write_X4_canReference : GoodIn wsX4_write wsX4_canReference := goodIn_r _ [12, 1, 13, 14, 15, 16, 17, 18, 19, 20, 21, 22, 23, 24, 25, 26, 27, 4, 28, 29, 30, 31, 32, 33, 34, 35, 36, 37, 38, 39, 40, 41, 42, 43, 44, 45, 46, 160, 161, 162, 163, 164, 165, 166, 167, 168, 169, 170, 171, 172, 173, 174, 175, 176, 177, 178] (by decide +kernel) (by decide +kernel)
set_option maxRecDepth 20000 in
theorem gX4_write_X4_canReference : GoodIn wsX4_write (wsV RX4 49 RX4 yX4_canReference wsX4_canReference) := goodIn_app (goodIn_of _ (by decide +kernel)) ggX4_write_X4_canReference
set_option maxRecDepth 20000 in
theorem ggX4_write_X4_reference : GoodIn wsX4_write wsX4_reference := goodIn_r _ [50, 51, 1, 52, 53, 29, 13, 14, 15, 16, 17, 18, 54, 55, 56, 4, 57, 58, 19, 20, 21, 22, 23, 24, 25, 26, 27, 28, 30, 31, 32, 33, 34, 35, 36, 37, 38, 39, 40, 41, 42, 43, 44, 45, 46, 59, 60, 61, 62, 63, 64, 65, 66, 67, 68, 69, 70, 71, 72, 73, 74, 75, 76, 77, 78, 79, 80, 81, 82, 83, 84, 85, 86, 87, 88, 89, 90, 91, 92, 93, 94, 95, 96, 97, 98, 99, 100, 101, 102, 103, 104, 105, 106, 107, 108, 109, 110, 111, 112, 113, 114, 115, 116, 117, 118, 119, 120, 121, 122, 123, 124, 125, 126, 127, 128, 129, 130, 131, 132, 133, 134, 135, 136, 137, 138, 139, 140, 141, 142, 143, 144, 145, 146, 147, 148, 149, 150, 151, 152, 153, 154, 155, 156, 157, 158, 159, 160, 161, 162, 163, 164, 165, 166, 167, 168, 169, 170, 171, 172, 173, 174, 175, 176, 177, 178, 179, 180, 181, 182, 183, 184, 185] (by decide +kernel) (by decide +kernel)
set_option maxRecDepth 20000 in
theorem gX4_write_X4_reference : GoodIn wsX4_write (wsV RX4 52 RX4 yX4_reference wsX4_reference) := goodIn_app (goodIn_of _ (by decide +kernel)) ggX4_write_X4_reference
set_option maxRecDepth 20000 in
theorem ggX4_write_X1_valueOf : GoodIn wsX4_write wsX1_valueOf := goodIn_r _ [110, 111, 170, 171, 172, 173, 174, 175] (by decide +kernel) (by decide +kernel)
set_option maxRecDepth 20000 in
theorem gX4_write_X1_valueOf : GoodIn wsX4_write (wsV RX4 56 RX1 yX1_valueOf wsX1_valueOf) := goodIn_app (goodIn_of _ (by decide +kernel)) ggX4_write_X1_valueOf
set_option maxRecDepth 20000 in
theorem ggX4_write_X1_change : GoodIn wsX4_write wsX1_change := goodIn_r _ [145, 111, 63, 170, 171, 172, 173, 174, 175] (by decide +kernel) (by decide +kernel)
set_option maxRecDepth 20000 in
theorem gX4_write_X1_change : GoodIn wsX4_write (wsV RX4 60 RX1 yX1_change wsX1_change) := goodIn_app (goodIn_of _ (by decide +kernel)) ggX4_write_X1_change
theorem dX4_write_0 : decode cX4_write 0 = .ok (.iload_n 1, 1) := by decide +kernel
theorem dX4_write_1 : decode cX4_write 1 = .ok (.invokestatic 45, 3) := by decide +kernel
theorem dX4_write_4 : decode cX4_write 4 = .ok (.ifCond .ne 5, 3) := by decide +kernel
theorem dX4_write_7 : decode cX4_write 7 = .ok (.iconst (-1), 1) := by decide +kernel
theorem dX4_write_8 : decode cX4_write 8 = .ok (.ireturn, 1) := by decide +kernel
theorem dX4_write_9 : decode cX4_write 9 = .ok (.iload_n 2, 1) := by decide +kernel
theorem dX4_write_10 : decode cX4_write 10 = .ok (.iconst 0, 1) := by decide +kernel
theorem dX4_write_11 : decode cX4_write 11 = .ok (.sipush 9999, 3) := by decide +kernel
theorem dX4_write_14 : decode cX4_write 14 = .ok (.invokestatic 41, 3) := by decide +kernel
theorem dX4_write_17 : decode cX4_write 17 = .ok (.ifCond .ne 6, 3) := by decide +kernel
theorem dX4_write_20 : decode cX4_write 20 = .ok (.bipush (-2), 2) := by decide +kernel
theorem dX4_write_22 : decode cX4_write 22 = .ok (.ireturn, 1) := by decide +kernel
theorem dX4_write_23 : decode cX4_write 23 = .ok (.aload_n 0, 1) := by decide +kernel
theorem dX4_write_24 : decode cX4_write 24 = .ok (.iload_n 1, 1) := by decide +kernel
theorem dX4_write_25 : decode cX4_write 25 = .ok (.invokevirtual 49, 3) := by decide +kernel
theorem dX4_write_28 : decode cX4_write 28 = .ok (.ifCond .ne 6, 3) := by decide +kernel
theorem dX4_write_31 : decode cX4_write 31 = .ok (.bipush (-3), 2) := by decide +kernel
theorem dX4_write_33 : decode cX4_write 33 = .ok (.ireturn, 1) := by decide +kernel
theorem dX4_write_34 : decode cX4_write 34 = .ok (.aload_n 0, 1) := by decide +kernel
theorem dX4_write_35 : decode cX4_write 35 = .ok (.iload_n 1, 1) := by decide +kernel
theorem dX4_write_36 : decode cX4_write 36 = .ok (.invokevirtual 52, 3) := by decide +kernel
theorem dX4_write_39 : decode cX4_write 39 = .ok (.aload_n 0, 1) := by decide +kernel
theorem dX4_write_40 : decode cX4_write 40 = .ok (.getfield 19, 3) := by decide +kernel
theorem dX4_write_43 : decode cX4_write 43 = .ok (.iload_n 1, 1) := by decide +kernel
theorem dX4_write_44 : decode cX4_write 44 = .ok (.invokevirtual 56, 3) := by decide +kernel
theorem dX4_write_47 : decode cX4_write 47 = .ok (.istore_n 3, 1) := by decide +kernel
theorem dX4_write_48 : decode cX4_write 48 = .ok (.aload_n 0, 1) := by decide +kernel
theorem dX4_write_49 : decode cX4_write 49 = .ok (.getfield 19, 3) := by decide +kernel
theorem dX4_write_52 : decode cX4_write 52 = .ok (.iload_n 1, 1) := by decide +kernel
theorem dX4_write_53 : decode cX4_write 53 = .ok (.iload_n 2, 1) := by decide +kernel
theorem dX4_write_54 : decode cX4_write 54 = .ok (.invokevirtual 60, 3) := by decide +kernel
theorem dX4_write_57 : decode cX4_write 57 = .ok (.iload_n 3, 1) := by decide +kernel
theorem dX4_write_58 : decode cX4_write 58 = .ok (.ireturn, 1) := by decide +kernel
set_option maxRecDepth 20000 in
theorem ggX4_pin_X4_isPage : GoodIn wsX4_pin wsX4_isPage := goodIn_r _ [5, 6, 7, 4, 8] (by decide +kernel) (by decide +kernel)
set_option maxRecDepth 20000 in
theorem gX4_pin_X4_isPage : GoodIn wsX4_pin (va_wsS RX4 45 yX4_isPage wsX4_isPage) := goodIn_app (goodIn_of _ (by decide +kernel)) ggX4_pin_X4_isPage
set_option maxRecDepth 20000 in
theorem ggX4_pin_X1_pinsOf : GoodIn wsX4_pin wsX1_pinsOf := goodIn_r _ [13, 14, 174, 175, 176, 177, 178, 179] (by decide +kernel) (by decide +kernel)
set_option maxRecDepth 20000 in
theorem gX4_pin_X1_pinsOf : GoodIn wsX4_pin (wsV RX4 64 RX1 yX1_pinsOf wsX1_pinsOf) := goodIn_app (goodIn_of _ (by decide +kernel)) ggX4_pin_X1_pinsOf
set_option maxRecDepth 20000 in
theorem ggX4_pin_X4_canReference : GoodIn wsX4_pin wsX4_canReference := goodIn_r _ [18, 1, 19, 20, 21, 12, 22, 23, 24, 25, 26, 27, 28, 29, 30, 31, 32, 4, 33, 34, 9, 10, 11, 13, 14, 35, 36, 37, 38, 39, 40, 41, 42, 43, 44, 45, 46, 164, 165, 166, 167, 168, 169, 170, 171, 172, 173, 174, 175, 176, 177, 178, 179, 180, 181, 182] (by decide +kernel) (by decide +kernel)
set_option maxRecDepth 20000 in
theorem gX4_pin_X4_canReference : GoodIn wsX4_pin (wsV RX4 49 RX4 yX4_canReference wsX4_canReference) := goodIn_app (goodIn_of _ (by decide +kernel)) ggX4_pin_X4_canReference
set_option maxRecDepth 20000 in
theorem ggX4_pin_X4_reference : GoodIn wsX4_pin wsX4_reference := goodIn_r _ [50, 51, 1, 52, 53, 34, 19, 20, 21, 12, 22, 23, 54, 55, 56, 4, 57, 58, 24, 25, 26, 27, 28, 29, 30, 31, 32, 33, 9, 10, 11, 13, 14, 35, 36, 37, 38, 39, 40, 41, 42, 43, 44, 45, 46, 59, 60, 61, 62, 63, 64, 65, 66, 67, 68, 69, 70, 71, 72, 73, 74, 75, 76, 77, 78, 79, 80, 81, 82, 83, 84, 85, 86, 87, 88, 89, 90, 91, 92, 93, 94, 95, 96, 97, 98, 99, 100, 101, 102, 103, 104, 105, 106, 107, 108, 109, 110, 111, 112, 113, 114, 115, 116, 117, 118, 119, 120, 121, 122, 123, 124, 125, 126, 127, 128, 129, 130, 131, 132, 133, 134, 135, 136, 137, 138, 139, 140, 141, 142, 143, 144, 145, 146, 147, 148, 149, 150, 151, 152, 153, 154, 155, 156, 157, 158, 159, 164, 165, 166, 167, 168, 169, 170, 171, 172, 173, 174, 175, 176, 177, 178, 179, 180, 181, 182, 183, 184, 185, 186, 187, 188, 189] (by decide +kernel) (by decide +kernel)
set_option maxRecDepth 20000 in
theorem gX4_pin_X4_reference : GoodIn wsX4_pin (wsV RX4 52 RX4 yX4_reference wsX4_reference) := goodIn_app (goodIn_of _ (by decide +kernel)) ggX4_pin_X4_reference
set_option maxRecDepth 20000 in
theorem ggX4_pin_X1_addPin : GoodIn wsX4_pin wsX1_addPin := goodIn_r _ [163, 14, 174, 175, 176, 177, 178, 179] (by decide +kernel) (by decide +kernel)
set_option maxRecDepth 20000 in
theorem gX4_pin_X1_addPin : GoodIn wsX4_pin (wsV RX4 67 RX1 yX1_addPin wsX1_addPin) := goodIn_app (goodIn_of _ (by decide +kernel)) ggX4_pin_X1_addPin
theorem dX4_pin_0 : decode cX4_pin 0 = .ok (.iload_n 1, 1) := by decide +kernel
theorem dX4_pin_1 : decode cX4_pin 1 = .ok (.invokestatic 45, 3) := by decide +kernel
theorem dX4_pin_4 : decode cX4_pin 4 = .ok (.ifCond .ne 5, 3) := by decide +kernel
theorem dX4_pin_7 : decode cX4_pin 7 = .ok (.iconst (-1), 1) := by decide +kernel
theorem dX4_pin_8 : decode cX4_pin 8 = .ok (.ireturn, 1) := by decide +kernel
theorem dX4_pin_9 : decode cX4_pin 9 = .ok (.aload_n 0, 1) := by decide +kernel
theorem dX4_pin_10 : decode cX4_pin 10 = .ok (.getfield 19, 3) := by decide +kernel
theorem dX4_pin_13 : decode cX4_pin 13 = .ok (.iload_n 1, 1) := by decide +kernel
theorem dX4_pin_14 : decode cX4_pin 14 = .ok (.invokevirtual 64, 3) := by decide +kernel
theorem dX4_pin_17 : decode cX4_pin 17 = .ok (.bipush 9, 2) := by decide +kernel
theorem dX4_pin_19 : decode cX4_pin 19 = .ok (.if_icmp .lt 6, 3) := by decide +kernel
theorem dX4_pin_22 : decode cX4_pin 22 = .ok (.bipush (-6), 2) := by decide +kernel
theorem dX4_pin_24 : decode cX4_pin 24 = .ok (.ireturn, 1) := by decide +kernel
theorem dX4_pin_25 : decode cX4_pin 25 = .ok (.aload_n 0, 1) := by decide +kernel
theorem dX4_pin_26 : decode cX4_pin 26 = .ok (.iload_n 1, 1) := by decide +kernel
theorem dX4_pin_27 : decode cX4_pin 27 = .ok (.invokevirtual 49, 3) := by decide +kernel
theorem dX4_pin_30 : decode cX4_pin 30 = .ok (.ifCond .ne 6, 3) := by decide +kernel
theorem dX4_pin_33 : decode cX4_pin 33 = .ok (.bipush (-3), 2) := by decide +kernel
theorem dX4_pin_35 : decode cX4_pin 35 = .ok (.ireturn, 1) := by decide +kernel
theorem dX4_pin_36 : decode cX4_pin 36 = .ok (.aload_n 0, 1) := by decide +kernel
theorem dX4_pin_37 : decode cX4_pin 37 = .ok (.iload_n 1, 1) := by decide +kernel
theorem dX4_pin_38 : decode cX4_pin 38 = .ok (.invokevirtual 52, 3) := by decide +kernel
theorem dX4_pin_41 : decode cX4_pin 41 = .ok (.aload_n 0, 1) := by decide +kernel
theorem dX4_pin_42 : decode cX4_pin 42 = .ok (.getfield 19, 3) := by decide +kernel
theorem dX4_pin_45 : decode cX4_pin 45 = .ok (.iload_n 1, 1) := by decide +kernel
theorem dX4_pin_46 : decode cX4_pin 46 = .ok (.invokevirtual 67, 3) := by decide +kernel
theorem dX4_pin_49 : decode cX4_pin 49 = .ok (.aload_n 0, 1) := by decide +kernel
theorem dX4_pin_50 : decode cX4_pin 50 = .ok (.getfield 19, 3) := by decide +kernel
theorem dX4_pin_53 : decode cX4_pin 53 = .ok (.iload_n 1, 1) := by decide +kernel
theorem dX4_pin_54 : decode cX4_pin 54 = .ok (.invokevirtual 64, 3) := by decide +kernel
theorem dX4_pin_57 : decode cX4_pin 57 = .ok (.ireturn, 1) := by decide +kernel
set_option maxRecDepth 20000 in
theorem ggX4_unpin_X4_isPage : GoodIn wsX4_unpin wsX4_isPage := goodIn_r _ [5, 6, 7, 4, 8] (by decide +kernel) (by decide +kernel)
set_option maxRecDepth 20000 in
theorem gX4_unpin_X4_isPage : GoodIn wsX4_unpin (va_wsS RX4 45 yX4_isPage wsX4_isPage) := goodIn_app (goodIn_of _ (by decide +kernel)) ggX4_unpin_X4_isPage
set_option maxRecDepth 20000 in
theorem ggX4_unpin_X1_holds : GoodIn wsX4_unpin wsX1_holds := goodIn_r _ [13, 14, 34, 35, 36, 37, 38, 39] (by decide +kernel) (by decide +kernel)
set_option maxRecDepth 20000 in
theorem gX4_unpin_X1_holds : GoodIn wsX4_unpin (wsV RX4 70 RX1 yX1_holds wsX1_holds) := goodIn_app (goodIn_of _ (by decide +kernel)) ggX4_unpin_X1_holds
set_option maxRecDepth 20000 in
theorem ggX4_unpin_X1_pinsOf : GoodIn wsX4_unpin wsX1_pinsOf := goodIn_r _ [18, 19, 34, 35, 36, 37, 38, 39] (by decide +kernel) (by decide +kernel)
set_option maxRecDepth 20000 in
theorem gX4_unpin_X1_pinsOf : GoodIn wsX4_unpin (wsV RX4 64 RX1 yX1_pinsOf wsX1_pinsOf) := goodIn_app (goodIn_of _ (by decide +kernel)) ggX4_unpin_X1_pinsOf
set_option maxRecDepth 20000 in
theorem ggX4_unpin_X1_removePin : GoodIn wsX4_unpin wsX1_removePin := goodIn_r _ [23, 19, 34, 35, 36, 37, 38, 39] (by decide +kernel) (by decide +kernel)
set_option maxRecDepth 20000 in
theorem gX4_unpin_X1_removePin : GoodIn wsX4_unpin (wsV RX4 73 RX1 yX1_removePin wsX1_removePin) := goodIn_app (goodIn_of _ (by decide +kernel)) ggX4_unpin_X1_removePin
theorem dX4_unpin_0 : decode cX4_unpin 0 = .ok (.iload_n 1, 1) := by decide +kernel
theorem dX4_unpin_1 : decode cX4_unpin 1 = .ok (.invokestatic 45, 3) := by decide +kernel
theorem dX4_unpin_4 : decode cX4_unpin 4 = .ok (.ifCond .ne 5, 3) := by decide +kernel
theorem dX4_unpin_7 : decode cX4_unpin 7 = .ok (.iconst (-1), 1) := by decide +kernel
theorem dX4_unpin_8 : decode cX4_unpin 8 = .ok (.ireturn, 1) := by decide +kernel
theorem dX4_unpin_9 : decode cX4_unpin 9 = .ok (.aload_n 0, 1) := by decide +kernel
theorem dX4_unpin_10 : decode cX4_unpin 10 = .ok (.getfield 19, 3) := by decide +kernel
theorem dX4_unpin_13 : decode cX4_unpin 13 = .ok (.iload_n 1, 1) := by decide +kernel
theorem dX4_unpin_14 : decode cX4_unpin 14 = .ok (.invokevirtual 70, 3) := by decide +kernel
theorem dX4_unpin_17 : decode cX4_unpin 17 = .ok (.ifCond .ne 6, 3) := by decide +kernel
theorem dX4_unpin_20 : decode cX4_unpin 20 = .ok (.bipush (-4), 2) := by decide +kernel
theorem dX4_unpin_22 : decode cX4_unpin 22 = .ok (.ireturn, 1) := by decide +kernel
theorem dX4_unpin_23 : decode cX4_unpin 23 = .ok (.aload_n 0, 1) := by decide +kernel
theorem dX4_unpin_24 : decode cX4_unpin 24 = .ok (.getfield 19, 3) := by decide +kernel
theorem dX4_unpin_27 : decode cX4_unpin 27 = .ok (.iload_n 1, 1) := by decide +kernel
theorem dX4_unpin_28 : decode cX4_unpin 28 = .ok (.invokevirtual 64, 3) := by decide +kernel
theorem dX4_unpin_31 : decode cX4_unpin 31 = .ok (.ifCond .ne 6, 3) := by decide +kernel
theorem dX4_unpin_34 : decode cX4_unpin 34 = .ok (.bipush (-5), 2) := by decide +kernel
theorem dX4_unpin_36 : decode cX4_unpin 36 = .ok (.ireturn, 1) := by decide +kernel
theorem dX4_unpin_37 : decode cX4_unpin 37 = .ok (.aload_n 0, 1) := by decide +kernel
theorem dX4_unpin_38 : decode cX4_unpin 38 = .ok (.getfield 19, 3) := by decide +kernel
theorem dX4_unpin_41 : decode cX4_unpin 41 = .ok (.iload_n 1, 1) := by decide +kernel
theorem dX4_unpin_42 : decode cX4_unpin 42 = .ok (.invokevirtual 73, 3) := by decide +kernel
theorem dX4_unpin_45 : decode cX4_unpin 45 = .ok (.aload_n 0, 1) := by decide +kernel
theorem dX4_unpin_46 : decode cX4_unpin 46 = .ok (.getfield 19, 3) := by decide +kernel
theorem dX4_unpin_49 : decode cX4_unpin 49 = .ok (.iload_n 1, 1) := by decide +kernel
theorem dX4_unpin_50 : decode cX4_unpin 50 = .ok (.invokevirtual 64, 3) := by decide +kernel
theorem dX4_unpin_53 : decode cX4_unpin 53 = .ok (.ireturn, 1) := by decide +kernel
set_option maxRecDepth 20000 in
theorem ggX4_flush_X4_isPage : GoodIn wsX4_flush wsX4_isPage := goodIn_r _ [6, 7, 8, 5, 9] (by decide +kernel) (by decide +kernel)
set_option maxRecDepth 20000 in
theorem gX4_flush_X4_isPage : GoodIn wsX4_flush (va_wsS RX4 45 yX4_isPage wsX4_isPage) := goodIn_app (goodIn_of _ (by decide +kernel)) ggX4_flush_X4_isPage
set_option maxRecDepth 20000 in
theorem ggX4_flush_X1_isChanged : GoodIn wsX4_flush wsX1_isChanged := goodIn_r _ [14, 15, 75, 76, 77, 78, 79, 80] (by decide +kernel) (by decide +kernel)
set_option maxRecDepth 20000 in
theorem gX4_flush_X1_isChanged : GoodIn wsX4_flush (wsV RX4 76 RX1 yX1_isChanged wsX1_isChanged) := goodIn_app (goodIn_of _ (by decide +kernel)) ggX4_flush_X1_isChanged
set_option maxRecDepth 20000 in
theorem ggX4_flush_X4_writeFrame : GoodIn wsX4_flush wsX4_writeFrame := goodIn_r _ [19, 20, 1, 21, 22, 23, 13, 24, 25, 26, 27, 28, 29, 30, 31, 32, 33, 34, 35, 36, 15, 65, 66, 67, 68, 69, 70, 71, 72, 73, 74, 75, 76, 77, 78, 79, 80, 81, 82, 83] (by decide +kernel) (by decide +kernel)
set_option maxRecDepth 20000 in
theorem gX4_flush_X4_writeFrame : GoodIn wsX4_flush (wsV RX4 79 RX4 yX4_writeFrame wsX4_writeFrame) := goodIn_app (goodIn_of _ (by decide +kernel)) ggX4_flush_X4_writeFrame
set_option maxRecDepth 20000 in
theorem ggX4_flush_X3_positionOf : GoodIn wsX4_flush wsX3_positionOf := goodIn_r _ [41, 42, 43, 84, 85, 86, 87] (by decide +kernel) (by decide +kernel)
set_option maxRecDepth 20000 in
theorem gX4_flush_X3_positionOf : GoodIn wsX4_flush (wsV RX4 82 RX3 yX3_positionOf wsX3_positionOf) := goodIn_app (goodIn_of _ (by decide +kernel)) ggX4_flush_X3_positionOf
set_option maxRecDepth 20000 in
theorem ggX4_flush_X4_writeEntry : GoodIn wsX4_flush wsX4_writeEntry := goodIn_r _ [47, 2, 20, 48, 49, 50, 40, 51, 43, 52, 53, 54, 55, 42, 56, 57, 58, 59, 60, 26, 27, 28, 29, 30, 31, 32, 61, 62, 63, 64, 65, 66, 67, 68, 69, 70, 71, 72, 73, 74, 84, 85, 86, 87, 81, 82, 83] (by decide +kernel) (by decide +kernel)
set_option maxRecDepth 20000 in
theorem gX4_flush_X4_writeEntry : GoodIn wsX4_flush (wsV RX4 85 RX4 yX4_writeEntry wsX4_writeEntry) := goodIn_app (goodIn_of _ (by decide +kernel)) ggX4_flush_X4_writeEntry
theorem dX4_flush_0 : decode cX4_flush 0 = .ok (.iload_n 1, 1) := by decide +kernel
theorem dX4_flush_1 : decode cX4_flush 1 = .ok (.invokestatic 45, 3) := by decide +kernel
theorem dX4_flush_4 : decode cX4_flush 4 = .ok (.ifCond .ne 5, 3) := by decide +kernel
theorem dX4_flush_7 : decode cX4_flush 7 = .ok (.iconst (-1), 1) := by decide +kernel
theorem dX4_flush_8 : decode cX4_flush 8 = .ok (.ireturn, 1) := by decide +kernel
theorem dX4_flush_9 : decode cX4_flush 9 = .ok (.aload_n 0, 1) := by decide +kernel
theorem dX4_flush_10 : decode cX4_flush 10 = .ok (.getfield 19, 3) := by decide +kernel
theorem dX4_flush_13 : decode cX4_flush 13 = .ok (.iload_n 1, 1) := by decide +kernel
theorem dX4_flush_14 : decode cX4_flush 14 = .ok (.invokevirtual 76, 3) := by decide +kernel
theorem dX4_flush_17 : decode cX4_flush 17 = .ok (.ifCond .eq 10, 3) := by decide +kernel
theorem dX4_flush_20 : decode cX4_flush 20 = .ok (.aload_n 0, 1) := by decide +kernel
theorem dX4_flush_21 : decode cX4_flush 21 = .ok (.iload_n 1, 1) := by decide +kernel
theorem dX4_flush_22 : decode cX4_flush 22 = .ok (.invokevirtual 79, 3) := by decide +kernel
theorem dX4_flush_25 : decode cX4_flush 25 = .ok (.iconst 1, 1) := by decide +kernel
theorem dX4_flush_26 : decode cX4_flush 26 = .ok (.ireturn, 1) := by decide +kernel
theorem dX4_flush_27 : decode cX4_flush 27 = .ok (.aload_n 0, 1) := by decide +kernel
theorem dX4_flush_28 : decode cX4_flush 28 = .ok (.getfield 26, 3) := by decide +kernel
theorem dX4_flush_31 : decode cX4_flush 31 = .ok (.iload_n 1, 1) := by decide +kernel
theorem dX4_flush_32 : decode cX4_flush 32 = .ok (.invokevirtual 82, 3) := by decide +kernel
theorem dX4_flush_35 : decode cX4_flush 35 = .ok (.istore_n 2, 1) := by decide +kernel
theorem dX4_flush_36 : decode cX4_flush 36 = .ok (.iload_n 2, 1) := by decide +kernel
theorem dX4_flush_37 : decode cX4_flush 37 = .ok (.bipush (-9), 2) := by decide +kernel
theorem dX4_flush_39 : decode cX4_flush 39 = .ok (.if_icmp .ne 5, 3) := by decide +kernel
theorem dX4_flush_42 : decode cX4_flush 42 = .ok (.iconst 0, 1) := by decide +kernel
theorem dX4_flush_43 : decode cX4_flush 43 = .ok (.ireturn, 1) := by decide +kernel
theorem dX4_flush_44 : decode cX4_flush 44 = .ok (.aload_n 0, 1) := by decide +kernel
theorem dX4_flush_45 : decode cX4_flush 45 = .ok (.iload_n 2, 1) := by decide +kernel
theorem dX4_flush_46 : decode cX4_flush 46 = .ok (.invokevirtual 85, 3) := by decide +kernel
theorem dX4_flush_49 : decode cX4_flush 49 = .ok (.iconst 1, 1) := by decide +kernel
theorem dX4_flush_50 : decode cX4_flush 50 = .ok (.ireturn, 1) := by decide +kernel
set_option maxRecDepth 20000 in
theorem ggX4_flushAll_X3_length : GoodIn wsX4_flushAll wsX3_length := goodIn_r _ [7, 8, 77, 78, 79, 80] (by decide +kernel) (by decide +kernel)
set_option maxRecDepth 20000 in
theorem gX4_flushAll_X3_length : GoodIn wsX4_flushAll (wsV RX4 88 RX3 yX3_length wsX3_length) := goodIn_app (goodIn_of _ (by decide +kernel)) ggX4_flushAll_X3_length
set_option maxRecDepth 20000 in
theorem ggX4_flushAll_X4_writeOldest : GoodIn wsX4_flushAll wsX4_writeOldest := goodIn_r _ [13, 1, 14, 15, 16, 17, 3, 4, 5, 6, 7, 8, 18, 19, 20, 12, 21, 22, 23, 24, 25, 26, 27, 28, 29, 30, 31, 32, 33, 34, 35, 36, 37, 38, 39, 40, 41, 42, 43, 44, 45, 46, 47, 67, 68, 69, 70, 71, 72, 73, 74, 75, 76, 77, 78, 79, 80, 81, 82, 83] (by decide +kernel) (by decide +kernel)
set_option maxRecDepth 20000 in
theorem gX4_flushAll_X4_writeOldest : GoodIn wsX4_flushAll (wsV RX4 92 RX4 yX4_writeOldest wsX4_writeOldest) := goodIn_app (goodIn_of _ (by decide +kernel)) ggX4_flushAll_X4_writeOldest
set_option maxRecDepth 20000 in
theorem ggX4_flushAll_X1_isChanged : GoodIn wsX4_flushAll wsX1_isChanged := goodIn_r _ [52, 53, 84, 85, 86, 87, 88, 89] (by decide +kernel) (by decide +kernel)
set_option maxRecDepth 20000 in
theorem gX4_flushAll_X1_isChanged : GoodIn wsX4_flushAll (wsV RX4 76 RX1 yX1_isChanged wsX1_isChanged) := goodIn_app (goodIn_of _ (by decide +kernel)) ggX4_flushAll_X1_isChanged
set_option maxRecDepth 20000 in
theorem ggX4_flushAll_X4_writeFrame : GoodIn wsX4_flushAll wsX4_writeFrame := goodIn_r _ [57, 22, 2, 58, 59, 60, 51, 61, 62, 37, 38, 39, 40, 41, 42, 43, 63, 64, 65, 66, 53, 67, 68, 69, 70, 71, 72, 73, 74, 75, 76, 84, 85, 86, 87, 88, 89, 81, 82, 83] (by decide +kernel) (by decide +kernel)
set_option maxRecDepth 20000 in
theorem gX4_flushAll_X4_writeFrame : GoodIn wsX4_flushAll (wsV RX4 79 RX4 yX4_writeFrame wsX4_writeFrame) := goodIn_app (goodIn_of _ (by decide +kernel)) ggX4_flushAll_X4_writeFrame
theorem dX4_flushAll_0 : decode cX4_flushAll 0 = .ok (.aload_n 0, 1) := by decide +kernel
theorem dX4_flushAll_1 : decode cX4_flushAll 1 = .ok (.aload_n 0, 1) := by decide +kernel
theorem dX4_flushAll_2 : decode cX4_flushAll 2 = .ok (.getfield 26, 3) := by decide +kernel
theorem dX4_flushAll_5 : decode cX4_flushAll 5 = .ok (.invokevirtual 88, 3) := by decide +kernel
theorem dX4_flushAll_8 : decode cX4_flushAll 8 = .ok (.invokevirtual 92, 3) := by decide +kernel
theorem dX4_flushAll_11 : decode cX4_flushAll 11 = .ok (.istore_n 1, 1) := by decide +kernel
theorem dX4_flushAll_12 : decode cX4_flushAll 12 = .ok (.iconst 0, 1) := by decide +kernel
theorem dX4_flushAll_13 : decode cX4_flushAll 13 = .ok (.istore_n 2, 1) := by decide +kernel
theorem dX4_flushAll_14 : decode cX4_flushAll 14 = .ok (.iload_n 2, 1) := by decide +kernel
theorem dX4_flushAll_15 : decode cX4_flushAll 15 = .ok (.bipush 64, 2) := by decide +kernel
theorem dX4_flushAll_17 : decode cX4_flushAll 17 = .ok (.if_icmp .ge 28, 3) := by decide +kernel
theorem dX4_flushAll_20 : decode cX4_flushAll 20 = .ok (.aload_n 0, 1) := by decide +kernel
theorem dX4_flushAll_21 : decode cX4_flushAll 21 = .ok (.getfield 19, 3) := by decide +kernel
theorem dX4_flushAll_24 : decode cX4_flushAll 24 = .ok (.iload_n 2, 1) := by decide +kernel
theorem dX4_flushAll_25 : decode cX4_flushAll 25 = .ok (.invokevirtual 76, 3) := by decide +kernel
theorem dX4_flushAll_28 : decode cX4_flushAll 28 = .ok (.ifCond .eq 11, 3) := by decide +kernel
theorem dX4_flushAll_31 : decode cX4_flushAll 31 = .ok (.aload_n 0, 1) := by decide +kernel
theorem dX4_flushAll_32 : decode cX4_flushAll 32 = .ok (.iload_n 2, 1) := by decide +kernel
theorem dX4_flushAll_33 : decode cX4_flushAll 33 = .ok (.invokevirtual 79, 3) := by decide +kernel
theorem dX4_flushAll_36 : decode cX4_flushAll 36 = .ok (.iinc 1 1, 3) := by decide +kernel
theorem dX4_flushAll_39 : decode cX4_flushAll 39 = .ok (.iinc 2 1, 3) := by decide +kernel
theorem dX4_flushAll_42 : decode cX4_flushAll 42 = .ok (.goto (-28), 3) := by decide +kernel
theorem dX4_flushAll_45 : decode cX4_flushAll 45 = .ok (.iload_n 1, 1) := by decide +kernel
theorem dX4_flushAll_46 : decode cX4_flushAll 46 = .ok (.ireturn, 1) := by decide +kernel
set_option maxRecDepth 20000 in
theorem ggX4_drain_X4_isWithin : GoodIn wsX4_drain wsX4_isWithin := goodIn_r _ [4] (by decide +kernel) (by decide +kernel)
set_option maxRecDepth 20000 in
theorem gX4_drain_X4_isWithin : GoodIn wsX4_drain (va_wsS RX4 41 yX4_isWithin wsX4_isWithin) := goodIn_app (goodIn_of _ (by decide +kernel)) ggX4_drain_X4_isWithin
set_option maxRecDepth 20000 in
theorem ggX4_drain_X4_writeOldest : GoodIn wsX4_drain wsX4_writeOldest := goodIn_r _ [8, 9, 10, 11, 12, 13, 14, 15, 16, 17, 18, 19, 20, 21, 22, 3, 23, 24, 25, 26, 27, 28, 29, 30, 31, 32, 33, 34, 35, 36, 37, 38, 39, 40, 41, 42, 43, 44, 45, 46, 47, 48, 49, 50, 51, 52, 53, 54, 55, 56, 57, 58, 59, 60, 61, 62, 63, 64, 65, 66] (by decide +kernel) (by decide +kernel)
set_option maxRecDepth 20000 in
theorem gX4_drain_X4_writeOldest : GoodIn wsX4_drain (wsV RX4 92 RX4 yX4_writeOldest wsX4_writeOldest) := goodIn_app (goodIn_of _ (by decide +kernel)) ggX4_drain_X4_writeOldest
theorem dX4_drain_0 : decode cX4_drain 0 = .ok (.iload_n 1, 1) := by decide +kernel
theorem dX4_drain_1 : decode cX4_drain 1 = .ok (.iconst 0, 1) := by decide +kernel
theorem dX4_drain_2 : decode cX4_drain 2 = .ok (.bipush 8, 2) := by decide +kernel
theorem dX4_drain_4 : decode cX4_drain 4 = .ok (.invokestatic 41, 3) := by decide +kernel
theorem dX4_drain_7 : decode cX4_drain 7 = .ok (.ifCond .ne 6, 3) := by decide +kernel
theorem dX4_drain_10 : decode cX4_drain 10 = .ok (.bipush (-8), 2) := by decide +kernel
theorem dX4_drain_12 : decode cX4_drain 12 = .ok (.ireturn, 1) := by decide +kernel
theorem dX4_drain_13 : decode cX4_drain 13 = .ok (.aload_n 0, 1) := by decide +kernel
theorem dX4_drain_14 : decode cX4_drain 14 = .ok (.iload_n 1, 1) := by decide +kernel
theorem dX4_drain_15 : decode cX4_drain 15 = .ok (.invokevirtual 92, 3) := by decide +kernel
theorem dX4_drain_18 : decode cX4_drain 18 = .ok (.ireturn, 1) := by decide +kernel
set_option maxRecDepth 20000 in
theorem ggX4_discard_X4_isPage : GoodIn wsX4_discard wsX4_isPage := goodIn_r _ [7, 8, 9, 6, 10] (by decide +kernel) (by decide +kernel)
set_option maxRecDepth 20000 in
theorem gX4_discard_X4_isPage : GoodIn wsX4_discard (va_wsS RX4 45 yX4_isPage wsX4_isPage) := goodIn_app (goodIn_of _ (by decide +kernel)) ggX4_discard_X4_isPage
set_option maxRecDepth 20000 in
theorem ggX4_discard_X1_pinsOf : GoodIn wsX4_discard wsX1_pinsOf := goodIn_r _ [15, 16, 64, 65, 66, 67, 68, 69] (by decide +kernel) (by decide +kernel)
set_option maxRecDepth 20000 in
theorem gX4_discard_X1_pinsOf : GoodIn wsX4_discard (wsV RX4 64 RX1 yX1_pinsOf wsX1_pinsOf) := goodIn_app (goodIn_of _ (by decide +kernel)) ggX4_discard_X1_pinsOf
set_option maxRecDepth 20000 in
theorem ggX4_discard_X2_forget : GoodIn wsX4_discard wsX2_forget := goodIn_r _ [21, 22, 70, 71, 72] (by decide +kernel) (by decide +kernel)
set_option maxRecDepth 20000 in
theorem gX4_discard_X2_forget : GoodIn wsX4_discard (wsV RX4 95 RX2 yX2_forget wsX2_forget) := goodIn_app (goodIn_of _ (by decide +kernel)) ggX4_discard_X2_forget
set_option maxRecDepth 20000 in
theorem ggX4_discard_X1_holds : GoodIn wsX4_discard wsX1_holds := goodIn_r _ [26, 27, 64, 65, 66, 67, 68, 69] (by decide +kernel) (by decide +kernel)
set_option maxRecDepth 20000 in
theorem gX4_discard_X1_holds : GoodIn wsX4_discard (wsV RX4 70 RX1 yX1_holds wsX1_holds) := goodIn_app (goodIn_of _ (by decide +kernel)) ggX4_discard_X1_holds
set_option maxRecDepth 20000 in
theorem ggX4_discard_X1_release : GoodIn wsX4_discard wsX1_release := goodIn_r _ [31, 32, 33, 34, 35, 14, 36, 27, 37, 16, 64, 65, 66, 67, 68, 69] (by decide +kernel) (by decide +kernel)
set_option maxRecDepth 20000 in
theorem gX4_discard_X1_release : GoodIn wsX4_discard (wsV RX4 98 RX1 yX1_release wsX1_release) := goodIn_app (goodIn_of _ (by decide +kernel)) ggX4_discard_X1_release
set_option maxRecDepth 20000 in
theorem ggX4_discard_X3_positionOf : GoodIn wsX4_discard wsX3_positionOf := goodIn_r _ [42, 43, 44, 73, 74, 75, 76] (by decide +kernel) (by decide +kernel)
set_option maxRecDepth 20000 in
theorem gX4_discard_X3_positionOf : GoodIn wsX4_discard (wsV RX4 82 RX3 yX3_positionOf wsX3_positionOf) := goodIn_app (goodIn_of _ (by decide +kernel)) ggX4_discard_X3_positionOf
set_option maxRecDepth 20000 in
theorem ggX4_discard_X3_removeAt : GoodIn wsX4_discard wsX3_removeAt := goodIn_r _ [48, 43, 44, 49, 50, 51, 52, 41, 53, 73, 74, 75, 76] (by decide +kernel) (by decide +kernel)
set_option maxRecDepth 20000 in
theorem gX4_discard_X3_removeAt : GoodIn wsX4_discard (wsV RX4 101 RX3 yX3_removeAt wsX3_removeAt) := goodIn_app (goodIn_of _ (by decide +kernel)) ggX4_discard_X3_removeAt
theorem dX4_discard_0 : decode cX4_discard 0 = .ok (.iload_n 1, 1) := by decide +kernel
theorem dX4_discard_1 : decode cX4_discard 1 = .ok (.invokestatic 45, 3) := by decide +kernel
theorem dX4_discard_4 : decode cX4_discard 4 = .ok (.ifCond .ne 5, 3) := by decide +kernel
theorem dX4_discard_7 : decode cX4_discard 7 = .ok (.iconst (-1), 1) := by decide +kernel
theorem dX4_discard_8 : decode cX4_discard 8 = .ok (.ireturn, 1) := by decide +kernel
theorem dX4_discard_9 : decode cX4_discard 9 = .ok (.aload_n 0, 1) := by decide +kernel
theorem dX4_discard_10 : decode cX4_discard 10 = .ok (.getfield 19, 3) := by decide +kernel
theorem dX4_discard_13 : decode cX4_discard 13 = .ok (.iload_n 1, 1) := by decide +kernel
theorem dX4_discard_14 : decode cX4_discard 14 = .ok (.invokevirtual 64, 3) := by decide +kernel
theorem dX4_discard_17 : decode cX4_discard 17 = .ok (.ifCond .le 6, 3) := by decide +kernel
theorem dX4_discard_20 : decode cX4_discard 20 = .ok (.bipush (-7), 2) := by decide +kernel
theorem dX4_discard_22 : decode cX4_discard 22 = .ok (.ireturn, 1) := by decide +kernel
theorem dX4_discard_23 : decode cX4_discard 23 = .ok (.aload_n 0, 1) := by decide +kernel
theorem dX4_discard_24 : decode cX4_discard 24 = .ok (.getfield 33, 3) := by decide +kernel
theorem dX4_discard_27 : decode cX4_discard 27 = .ok (.iload_n 1, 1) := by decide +kernel
theorem dX4_discard_28 : decode cX4_discard 28 = .ok (.invokevirtual 95, 3) := by decide +kernel
theorem dX4_discard_31 : decode cX4_discard 31 = .ok (.aload_n 0, 1) := by decide +kernel
theorem dX4_discard_32 : decode cX4_discard 32 = .ok (.getfield 19, 3) := by decide +kernel
theorem dX4_discard_35 : decode cX4_discard 35 = .ok (.iload_n 1, 1) := by decide +kernel
theorem dX4_discard_36 : decode cX4_discard 36 = .ok (.invokevirtual 70, 3) := by decide +kernel
theorem dX4_discard_39 : decode cX4_discard 39 = .ok (.ifCond .eq 13, 3) := by decide +kernel
theorem dX4_discard_42 : decode cX4_discard 42 = .ok (.aload_n 0, 1) := by decide +kernel
theorem dX4_discard_43 : decode cX4_discard 43 = .ok (.getfield 19, 3) := by decide +kernel
theorem dX4_discard_46 : decode cX4_discard 46 = .ok (.iload_n 1, 1) := by decide +kernel
theorem dX4_discard_47 : decode cX4_discard 47 = .ok (.invokevirtual 98, 3) := by decide +kernel
theorem dX4_discard_50 : decode cX4_discard 50 = .ok (.iconst 1, 1) := by decide +kernel
theorem dX4_discard_51 : decode cX4_discard 51 = .ok (.ireturn, 1) := by decide +kernel
theorem dX4_discard_52 : decode cX4_discard 52 = .ok (.aload_n 0, 1) := by decide +kernel
theorem dX4_discard_53 : decode cX4_discard 53 = .ok (.getfield 26, 3) := by decide +kernel
theorem dX4_discard_56 : decode cX4_discard 56 = .ok (.iload_n 1, 1) := by decide +kernel
theorem dX4_discard_57 : decode cX4_discard 57 = .ok (.invokevirtual 82, 3) := by decide +kernel
theorem dX4_discard_60 : decode cX4_discard 60 = .ok (.istore_n 2, 1) := by decide +kernel
theorem dX4_discard_61 : decode cX4_discard 61 = .ok (.iload_n 2, 1) := by decide +kernel
theorem dX4_discard_62 : decode cX4_discard 62 = .ok (.bipush (-9), 2) := by decide +kernel
theorem dX4_discard_64 : decode cX4_discard 64 = .ok (.if_icmp .ne 5, 3) := by decide +kernel
theorem dX4_discard_67 : decode cX4_discard 67 = .ok (.iconst 0, 1) := by decide +kernel
theorem dX4_discard_68 : decode cX4_discard 68 = .ok (.ireturn, 1) := by decide +kernel
theorem dX4_discard_69 : decode cX4_discard 69 = .ok (.aload_n 0, 1) := by decide +kernel
theorem dX4_discard_70 : decode cX4_discard 70 = .ok (.getfield 26, 3) := by decide +kernel
theorem dX4_discard_73 : decode cX4_discard 73 = .ok (.iload_n 2, 1) := by decide +kernel
theorem dX4_discard_74 : decode cX4_discard 74 = .ok (.invokevirtual 101, 3) := by decide +kernel
theorem dX4_discard_77 : decode cX4_discard 77 = .ok (.iconst 1, 1) := by decide +kernel
theorem dX4_discard_78 : decode cX4_discard 78 = .ok (.ireturn, 1) := by decide +kernel
set_option maxRecDepth 20000 in
theorem ggX4_isResident_X4_isPage : GoodIn wsX4_isResident wsX4_isPage := goodIn_r _ [5, 6, 7, 4, 8] (by decide +kernel) (by decide +kernel)
set_option maxRecDepth 20000 in
theorem gX4_isResident_X4_isPage : GoodIn wsX4_isResident (va_wsS RX4 45 yX4_isPage wsX4_isPage) := goodIn_app (goodIn_of _ (by decide +kernel)) ggX4_isResident_X4_isPage
set_option maxRecDepth 20000 in
theorem ggX4_isResident_X1_holds : GoodIn wsX4_isResident wsX1_holds := goodIn_r _ [13, 14, 25, 26, 27, 28, 29, 30] (by decide +kernel) (by decide +kernel)
set_option maxRecDepth 20000 in
theorem gX4_isResident_X1_holds : GoodIn wsX4_isResident (wsV RX4 70 RX1 yX1_holds wsX1_holds) := goodIn_app (goodIn_of _ (by decide +kernel)) ggX4_isResident_X1_holds
theorem dX4_isResident_0 : decode cX4_isResident 0 = .ok (.iload_n 1, 1) := by decide +kernel
theorem dX4_isResident_1 : decode cX4_isResident 1 = .ok (.invokestatic 45, 3) := by decide +kernel
theorem dX4_isResident_4 : decode cX4_isResident 4 = .ok (.ifCond .ne 5, 3) := by decide +kernel
theorem dX4_isResident_7 : decode cX4_isResident 7 = .ok (.iconst (-1), 1) := by decide +kernel
theorem dX4_isResident_8 : decode cX4_isResident 8 = .ok (.ireturn, 1) := by decide +kernel
theorem dX4_isResident_9 : decode cX4_isResident 9 = .ok (.aload_n 0, 1) := by decide +kernel
theorem dX4_isResident_10 : decode cX4_isResident 10 = .ok (.getfield 19, 3) := by decide +kernel
theorem dX4_isResident_13 : decode cX4_isResident 13 = .ok (.iload_n 1, 1) := by decide +kernel
theorem dX4_isResident_14 : decode cX4_isResident 14 = .ok (.invokevirtual 70, 3) := by decide +kernel
theorem dX4_isResident_17 : decode cX4_isResident 17 = .ok (.ifCond .eq 7, 3) := by decide +kernel
theorem dX4_isResident_20 : decode cX4_isResident 20 = .ok (.iconst 1, 1) := by decide +kernel
theorem dX4_isResident_21 : decode cX4_isResident 21 = .ok (.goto 4, 3) := by decide +kernel
theorem dX4_isResident_24 : decode cX4_isResident 24 = .ok (.iconst 0, 1) := by decide +kernel
theorem dX4_isResident_25 : decode cX4_isResident 25 = .ok (.ireturn, 1) := by decide +kernel
set_option maxRecDepth 20000 in
theorem ggX4_isDirty_X4_isPage : GoodIn wsX4_isDirty wsX4_isPage := goodIn_r _ [5, 6, 7, 4, 8] (by decide +kernel) (by decide +kernel)
set_option maxRecDepth 20000 in
theorem gX4_isDirty_X4_isPage : GoodIn wsX4_isDirty (va_wsS RX4 45 yX4_isPage wsX4_isPage) := goodIn_app (goodIn_of _ (by decide +kernel)) ggX4_isDirty_X4_isPage
set_option maxRecDepth 20000 in
theorem ggX4_isDirty_X1_holds : GoodIn wsX4_isDirty wsX1_holds := goodIn_r _ [13, 14, 30, 31, 32, 33, 34, 35] (by decide +kernel) (by decide +kernel)
set_option maxRecDepth 20000 in
theorem gX4_isDirty_X1_holds : GoodIn wsX4_isDirty (wsV RX4 70 RX1 yX1_holds wsX1_holds) := goodIn_app (goodIn_of _ (by decide +kernel)) ggX4_isDirty_X1_holds
set_option maxRecDepth 20000 in
theorem ggX4_isDirty_X1_isChanged : GoodIn wsX4_isDirty wsX1_isChanged := goodIn_r _ [18, 19, 30, 31, 32, 33, 34, 35] (by decide +kernel) (by decide +kernel)
set_option maxRecDepth 20000 in
theorem gX4_isDirty_X1_isChanged : GoodIn wsX4_isDirty (wsV RX4 76 RX1 yX1_isChanged wsX1_isChanged) := goodIn_app (goodIn_of _ (by decide +kernel)) ggX4_isDirty_X1_isChanged
theorem dX4_isDirty_0 : decode cX4_isDirty 0 = .ok (.iload_n 1, 1) := by decide +kernel
theorem dX4_isDirty_1 : decode cX4_isDirty 1 = .ok (.invokestatic 45, 3) := by decide +kernel
theorem dX4_isDirty_4 : decode cX4_isDirty 4 = .ok (.ifCond .ne 5, 3) := by decide +kernel
theorem dX4_isDirty_7 : decode cX4_isDirty 7 = .ok (.iconst (-1), 1) := by decide +kernel
theorem dX4_isDirty_8 : decode cX4_isDirty 8 = .ok (.ireturn, 1) := by decide +kernel
theorem dX4_isDirty_9 : decode cX4_isDirty 9 = .ok (.aload_n 0, 1) := by decide +kernel
theorem dX4_isDirty_10 : decode cX4_isDirty 10 = .ok (.getfield 19, 3) := by decide +kernel
theorem dX4_isDirty_13 : decode cX4_isDirty 13 = .ok (.iload_n 1, 1) := by decide +kernel
theorem dX4_isDirty_14 : decode cX4_isDirty 14 = .ok (.invokevirtual 70, 3) := by decide +kernel
theorem dX4_isDirty_17 : decode cX4_isDirty 17 = .ok (.ifCond .ne 6, 3) := by decide +kernel
theorem dX4_isDirty_20 : decode cX4_isDirty 20 = .ok (.bipush (-4), 2) := by decide +kernel
theorem dX4_isDirty_22 : decode cX4_isDirty 22 = .ok (.ireturn, 1) := by decide +kernel
theorem dX4_isDirty_23 : decode cX4_isDirty 23 = .ok (.aload_n 0, 1) := by decide +kernel
theorem dX4_isDirty_24 : decode cX4_isDirty 24 = .ok (.getfield 19, 3) := by decide +kernel
theorem dX4_isDirty_27 : decode cX4_isDirty 27 = .ok (.iload_n 1, 1) := by decide +kernel
theorem dX4_isDirty_28 : decode cX4_isDirty 28 = .ok (.invokevirtual 76, 3) := by decide +kernel
theorem dX4_isDirty_31 : decode cX4_isDirty 31 = .ok (.ifCond .eq 7, 3) := by decide +kernel
theorem dX4_isDirty_34 : decode cX4_isDirty 34 = .ok (.iconst 1, 1) := by decide +kernel
theorem dX4_isDirty_35 : decode cX4_isDirty 35 = .ok (.goto 4, 3) := by decide +kernel
theorem dX4_isDirty_38 : decode cX4_isDirty 38 = .ok (.iconst 0, 1) := by decide +kernel
theorem dX4_isDirty_39 : decode cX4_isDirty 39 = .ok (.ireturn, 1) := by decide +kernel
set_option maxRecDepth 20000 in
theorem ggX4_pinCount_X4_isPage : GoodIn wsX4_pinCount wsX4_isPage := goodIn_r _ [5, 6, 7, 4, 8] (by decide +kernel) (by decide +kernel)
set_option maxRecDepth 20000 in
theorem gX4_pinCount_X4_isPage : GoodIn wsX4_pinCount (va_wsS RX4 45 yX4_isPage wsX4_isPage) := goodIn_app (goodIn_of _ (by decide +kernel)) ggX4_pinCount_X4_isPage
set_option maxRecDepth 20000 in
theorem ggX4_pinCount_X1_holds : GoodIn wsX4_pinCount wsX1_holds := goodIn_r _ [13, 14, 30, 31, 32, 33, 34, 35] (by decide +kernel) (by decide +kernel)
set_option maxRecDepth 20000 in
theorem gX4_pinCount_X1_holds : GoodIn wsX4_pinCount (wsV RX4 70 RX1 yX1_holds wsX1_holds) := goodIn_app (goodIn_of _ (by decide +kernel)) ggX4_pinCount_X1_holds
set_option maxRecDepth 20000 in
theorem ggX4_pinCount_X1_pinsOf : GoodIn wsX4_pinCount wsX1_pinsOf := goodIn_r _ [18, 19, 30, 31, 32, 33, 34, 35] (by decide +kernel) (by decide +kernel)
set_option maxRecDepth 20000 in
theorem gX4_pinCount_X1_pinsOf : GoodIn wsX4_pinCount (wsV RX4 64 RX1 yX1_pinsOf wsX1_pinsOf) := goodIn_app (goodIn_of _ (by decide +kernel)) ggX4_pinCount_X1_pinsOf
theorem dX4_pinCount_0 : decode cX4_pinCount 0 = .ok (.iload_n 1, 1) := by decide +kernel
theorem dX4_pinCount_1 : decode cX4_pinCount 1 = .ok (.invokestatic 45, 3) := by decide +kernel
theorem dX4_pinCount_4 : decode cX4_pinCount 4 = .ok (.ifCond .ne 5, 3) := by decide +kernel
theorem dX4_pinCount_7 : decode cX4_pinCount 7 = .ok (.iconst (-1), 1) := by decide +kernel
theorem dX4_pinCount_8 : decode cX4_pinCount 8 = .ok (.ireturn, 1) := by decide +kernel
theorem dX4_pinCount_9 : decode cX4_pinCount 9 = .ok (.aload_n 0, 1) := by decide +kernel
theorem dX4_pinCount_10 : decode cX4_pinCount 10 = .ok (.getfield 19, 3) := by decide +kernel
theorem dX4_pinCount_13 : decode cX4_pinCount 13 = .ok (.iload_n 1, 1) := by decide +kernel
theorem dX4_pinCount_14 : decode cX4_pinCount 14 = .ok (.invokevirtual 70, 3) := by decide +kernel
theorem dX4_pinCount_17 : decode cX4_pinCount 17 = .ok (.ifCond .ne 6, 3) := by decide +kernel
theorem dX4_pinCount_20 : decode cX4_pinCount 20 = .ok (.bipush (-4), 2) := by decide +kernel
theorem dX4_pinCount_22 : decode cX4_pinCount 22 = .ok (.ireturn, 1) := by decide +kernel
theorem dX4_pinCount_23 : decode cX4_pinCount 23 = .ok (.aload_n 0, 1) := by decide +kernel
theorem dX4_pinCount_24 : decode cX4_pinCount 24 = .ok (.getfield 19, 3) := by decide +kernel
theorem dX4_pinCount_27 : decode cX4_pinCount 27 = .ok (.iload_n 1, 1) := by decide +kernel
theorem dX4_pinCount_28 : decode cX4_pinCount 28 = .ok (.invokevirtual 64, 3) := by decide +kernel
theorem dX4_pinCount_31 : decode cX4_pinCount 31 = .ok (.ireturn, 1) := by decide +kernel
set_option maxRecDepth 20000 in
theorem ggX4_referenceTime_X4_isPage : GoodIn wsX4_referenceTime wsX4_isPage := goodIn_r _ [5, 6, 7, 4, 8] (by decide +kernel) (by decide +kernel)
set_option maxRecDepth 20000 in
theorem gX4_referenceTime_X4_isPage : GoodIn wsX4_referenceTime (va_wsS RX4 45 yX4_isPage wsX4_isPage) := goodIn_app (goodIn_of _ (by decide +kernel)) ggX4_referenceTime_X4_isPage
set_option maxRecDepth 20000 in
theorem ggX4_referenceTime_X2_depth : GoodIn wsX4_referenceTime wsX2_depth := goodIn_r _ [13, 14, 31, 32, 33] (by decide +kernel) (by decide +kernel)
set_option maxRecDepth 20000 in
theorem gX4_referenceTime_X2_depth : GoodIn wsX4_referenceTime (wsV RX4 104 RX2 yX2_depth wsX2_depth) := goodIn_app (goodIn_of _ (by decide +kernel)) ggX4_referenceTime_X2_depth
set_option maxRecDepth 20000 in
theorem ggX4_referenceTime_X4_isWithin : GoodIn wsX4_referenceTime wsX4_isWithin := goodIn_r _ [8] (by decide +kernel) (by decide +kernel)
set_option maxRecDepth 20000 in
theorem gX4_referenceTime_X4_isWithin : GoodIn wsX4_referenceTime (va_wsS RX4 41 yX4_isWithin wsX4_isWithin) := goodIn_app (goodIn_of _ (by decide +kernel)) ggX4_referenceTime_X4_isWithin
set_option maxRecDepth 20000 in
theorem ggX4_referenceTime_X2_timeOf : GoodIn wsX4_referenceTime wsX2_timeOf := goodIn_r _ [18, 19, 20, 31, 32, 33] (by decide +kernel) (by decide +kernel)
set_option maxRecDepth 20000 in
theorem gX4_referenceTime_X2_timeOf : GoodIn wsX4_referenceTime (wsV RX4 107 RX2 yX2_timeOf wsX2_timeOf) := goodIn_app (goodIn_of _ (by decide +kernel)) ggX4_referenceTime_X2_timeOf
theorem dX4_referenceTime_0 : decode cX4_referenceTime 0 = .ok (.iload_n 1, 1) := by decide +kernel
theorem dX4_referenceTime_1 : decode cX4_referenceTime 1 = .ok (.invokestatic 45, 3) := by decide +kernel
theorem dX4_referenceTime_4 : decode cX4_referenceTime 4 = .ok (.ifCond .ne 5, 3) := by decide +kernel
theorem dX4_referenceTime_7 : decode cX4_referenceTime 7 = .ok (.iconst (-1), 1) := by decide +kernel
theorem dX4_referenceTime_8 : decode cX4_referenceTime 8 = .ok (.ireturn, 1) := by decide +kernel
theorem dX4_referenceTime_9 : decode cX4_referenceTime 9 = .ok (.iload_n 2, 1) := by decide +kernel
theorem dX4_referenceTime_10 : decode cX4_referenceTime 10 = .ok (.iconst 1, 1) := by decide +kernel
theorem dX4_referenceTime_11 : decode cX4_referenceTime 11 = .ok (.aload_n 0, 1) := by decide +kernel
theorem dX4_referenceTime_12 : decode cX4_referenceTime 12 = .ok (.getfield 33, 3) := by decide +kernel
theorem dX4_referenceTime_15 : decode cX4_referenceTime 15 = .ok (.invokevirtual 104, 3) := by decide +kernel
theorem dX4_referenceTime_18 : decode cX4_referenceTime 18 = .ok (.invokestatic 41, 3) := by decide +kernel
theorem dX4_referenceTime_21 : decode cX4_referenceTime 21 = .ok (.ifCond .ne 6, 3) := by decide +kernel
theorem dX4_referenceTime_24 : decode cX4_referenceTime 24 = .ok (.bipush (-8), 2) := by decide +kernel
theorem dX4_referenceTime_26 : decode cX4_referenceTime 26 = .ok (.ireturn, 1) := by decide +kernel
theorem dX4_referenceTime_27 : decode cX4_referenceTime 27 = .ok (.aload_n 0, 1) := by decide +kernel
theorem dX4_referenceTime_28 : decode cX4_referenceTime 28 = .ok (.getfield 33, 3) := by decide +kernel
theorem dX4_referenceTime_31 : decode cX4_referenceTime 31 = .ok (.iload_n 1, 1) := by decide +kernel
theorem dX4_referenceTime_32 : decode cX4_referenceTime 32 = .ok (.iload_n 2, 1) := by decide +kernel
theorem dX4_referenceTime_33 : decode cX4_referenceTime 33 = .ok (.invokevirtual 107, 3) := by decide +kernel
theorem dX4_referenceTime_36 : decode cX4_referenceTime 36 = .ok (.ireturn, 1) := by decide +kernel
set_option maxRecDepth 20000 in
theorem ggX4_backwardKDistance_X4_isPage : GoodIn wsX4_backwardKDistance wsX4_isPage := goodIn_r _ [6, 7, 8, 5, 9] (by decide +kernel) (by decide +kernel)
set_option maxRecDepth 20000 in
theorem gX4_backwardKDistance_X4_isPage : GoodIn wsX4_backwardKDistance (va_wsS RX4 45 yX4_isPage wsX4_isPage) := goodIn_app (goodIn_of _ (by decide +kernel)) ggX4_backwardKDistance_X4_isPage
set_option maxRecDepth 20000 in
theorem ggX4_backwardKDistance_X2_depth : GoodIn wsX4_backwardKDistance wsX2_depth := goodIn_r _ [14, 15, 32, 33, 34] (by decide +kernel) (by decide +kernel)
set_option maxRecDepth 20000 in
theorem gX4_backwardKDistance_X2_depth : GoodIn wsX4_backwardKDistance (wsV RX4 104 RX2 yX2_depth wsX2_depth) := goodIn_app (goodIn_of _ (by decide +kernel)) ggX4_backwardKDistance_X2_depth
set_option maxRecDepth 20000 in
theorem ggX4_backwardKDistance_X2_timeOf : GoodIn wsX4_backwardKDistance wsX2_timeOf := goodIn_r _ [19, 20, 21, 32, 33, 34] (by decide +kernel) (by decide +kernel)
set_option maxRecDepth 20000 in
theorem gX4_backwardKDistance_X2_timeOf : GoodIn wsX4_backwardKDistance (wsV RX4 107 RX2 yX2_timeOf wsX2_timeOf) := goodIn_app (goodIn_of _ (by decide +kernel)) ggX4_backwardKDistance_X2_timeOf
theorem dX4_backwardKDistance_0 : decode cX4_backwardKDistance 0 = .ok (.iload_n 1, 1) := by decide +kernel
theorem dX4_backwardKDistance_1 : decode cX4_backwardKDistance 1 = .ok (.invokestatic 45, 3) := by decide +kernel
theorem dX4_backwardKDistance_4 : decode cX4_backwardKDistance 4 = .ok (.ifCond .ne 5, 3) := by decide +kernel
theorem dX4_backwardKDistance_7 : decode cX4_backwardKDistance 7 = .ok (.iconst (-1), 1) := by decide +kernel
theorem dX4_backwardKDistance_8 : decode cX4_backwardKDistance 8 = .ok (.ireturn, 1) := by decide +kernel
theorem dX4_backwardKDistance_9 : decode cX4_backwardKDistance 9 = .ok (.aload_n 0, 1) := by decide +kernel
theorem dX4_backwardKDistance_10 : decode cX4_backwardKDistance 10 = .ok (.getfield 33, 3) := by decide +kernel
theorem dX4_backwardKDistance_13 : decode cX4_backwardKDistance 13 = .ok (.iload_n 1, 1) := by decide +kernel
theorem dX4_backwardKDistance_14 : decode cX4_backwardKDistance 14 = .ok (.aload_n 0, 1) := by decide +kernel
theorem dX4_backwardKDistance_15 : decode cX4_backwardKDistance 15 = .ok (.getfield 33, 3) := by decide +kernel
theorem dX4_backwardKDistance_18 : decode cX4_backwardKDistance 18 = .ok (.invokevirtual 104, 3) := by decide +kernel
theorem dX4_backwardKDistance_21 : decode cX4_backwardKDistance 21 = .ok (.invokevirtual 107, 3) := by decide +kernel
theorem dX4_backwardKDistance_24 : decode cX4_backwardKDistance 24 = .ok (.istore_n 2, 1) := by decide +kernel
theorem dX4_backwardKDistance_25 : decode cX4_backwardKDistance 25 = .ok (.iload_n 2, 1) := by decide +kernel
theorem dX4_backwardKDistance_26 : decode cX4_backwardKDistance 26 = .ok (.bipush (-9), 2) := by decide +kernel
theorem dX4_backwardKDistance_28 : decode cX4_backwardKDistance 28 = .ok (.if_icmp .ne 8, 3) := by decide +kernel
theorem dX4_backwardKDistance_31 : decode cX4_backwardKDistance 31 = .ok (.bipush (-9), 2) := by decide +kernel
theorem dX4_backwardKDistance_33 : decode cX4_backwardKDistance 33 = .ok (.goto 9, 3) := by decide +kernel
theorem dX4_backwardKDistance_36 : decode cX4_backwardKDistance 36 = .ok (.aload_n 0, 1) := by decide +kernel
theorem dX4_backwardKDistance_37 : decode cX4_backwardKDistance 37 = .ok (.getfield 111, 3) := by decide +kernel
theorem dX4_backwardKDistance_40 : decode cX4_backwardKDistance 40 = .ok (.iload_n 2, 1) := by decide +kernel
theorem dX4_backwardKDistance_41 : decode cX4_backwardKDistance 41 = .ok (.isub, 1) := by decide +kernel
theorem dX4_backwardKDistance_42 : decode cX4_backwardKDistance 42 = .ok (.ireturn, 1) := by decide +kernel
set_option maxRecDepth 20000 in
theorem ggX4_victim_X4_chooseVictim : GoodIn wsX4_victim wsX4_chooseVictim := goodIn_r _ [5, 6, 7, 8, 9, 10, 11, 12, 13, 14, 15, 16, 17, 18, 19, 20, 21, 22, 23, 24, 25, 26, 27, 28, 29, 30, 31, 32, 33, 34, 35, 36, 37, 38, 39, 40, 41, 42, 43, 44, 45, 46, 47, 48, 49] (by decide +kernel) (by decide +kernel)
set_option maxRecDepth 20000 in
theorem gX4_victim_X4_chooseVictim : GoodIn wsX4_victim (wsV RX4 115 RX4 yX4_chooseVictim wsX4_chooseVictim) := goodIn_app (goodIn_of _ (by decide +kernel)) ggX4_victim_X4_chooseVictim
theorem dX4_victim_0 : decode cX4_victim 0 = .ok (.aload_n 0, 1) := by decide +kernel
theorem dX4_victim_1 : decode cX4_victim 1 = .ok (.invokevirtual 115, 3) := by decide +kernel
theorem dX4_victim_4 : decode cX4_victim 4 = .ok (.ireturn, 1) := by decide +kernel
set_option maxRecDepth 20000 in
theorem ggX4_diskValue_X4_isPage : GoodIn wsX4_diskValue wsX4_isPage := goodIn_r _ [5, 6, 7, 4, 8] (by decide +kernel) (by decide +kernel)
set_option maxRecDepth 20000 in
theorem gX4_diskValue_X4_isPage : GoodIn wsX4_diskValue (va_wsS RX4 45 yX4_isPage wsX4_isPage) := goodIn_app (goodIn_of _ (by decide +kernel)) ggX4_diskValue_X4_isPage
set_option maxRecDepth 20000 in
theorem ggX4_diskValue_X0_valueOf : GoodIn wsX4_diskValue wsX0_valueOf := goodIn_r _ [13, 14, 25, 26, 27] (by decide +kernel) (by decide +kernel)
set_option maxRecDepth 20000 in
theorem gX4_diskValue_X0_valueOf : GoodIn wsX4_diskValue (wsV RX4 118 RX0 yX0_valueOf wsX0_valueOf) := goodIn_app (goodIn_of _ (by decide +kernel)) ggX4_diskValue_X0_valueOf
theorem dX4_diskValue_0 : decode cX4_diskValue 0 = .ok (.iload_n 1, 1) := by decide +kernel
theorem dX4_diskValue_1 : decode cX4_diskValue 1 = .ok (.invokestatic 45, 3) := by decide +kernel
theorem dX4_diskValue_4 : decode cX4_diskValue 4 = .ok (.ifCond .ne 5, 3) := by decide +kernel
theorem dX4_diskValue_7 : decode cX4_diskValue 7 = .ok (.iconst (-1), 1) := by decide +kernel
theorem dX4_diskValue_8 : decode cX4_diskValue 8 = .ok (.ireturn, 1) := by decide +kernel
theorem dX4_diskValue_9 : decode cX4_diskValue 9 = .ok (.aload_n 0, 1) := by decide +kernel
theorem dX4_diskValue_10 : decode cX4_diskValue 10 = .ok (.getfield 10, 3) := by decide +kernel
theorem dX4_diskValue_13 : decode cX4_diskValue 13 = .ok (.iload_n 1, 1) := by decide +kernel
theorem dX4_diskValue_14 : decode cX4_diskValue 14 = .ok (.invokevirtual 118, 3) := by decide +kernel
theorem dX4_diskValue_17 : decode cX4_diskValue 17 = .ok (.ireturn, 1) := by decide +kernel
set_option maxRecDepth 20000 in
theorem ggX4_residentCount_X1_used : GoodIn wsX4_residentCount wsX1_used := goodIn_r _ [6, 7, 18, 19, 20, 21, 22, 23] (by decide +kernel) (by decide +kernel)
set_option maxRecDepth 20000 in
theorem gX4_residentCount_X1_used : GoodIn wsX4_residentCount (wsV RX4 119 RX1 yX1_used wsX1_used) := goodIn_app (goodIn_of _ (by decide +kernel)) ggX4_residentCount_X1_used
theorem dX4_residentCount_0 : decode cX4_residentCount 0 = .ok (.aload_n 0, 1) := by decide +kernel
theorem dX4_residentCount_1 : decode cX4_residentCount 1 = .ok (.getfield 19, 3) := by decide +kernel
theorem dX4_residentCount_4 : decode cX4_residentCount 4 = .ok (.invokevirtual 119, 3) := by decide +kernel
theorem dX4_residentCount_7 : decode cX4_residentCount 7 = .ok (.ireturn, 1) := by decide +kernel
set_option maxRecDepth 20000 in
theorem ggX4_residentPage_X1_pageAt : GoodIn wsX4_residentPage wsX1_pageAt := goodIn_r _ [6, 7, 18, 19, 20, 21, 22, 23] (by decide +kernel) (by decide +kernel)
set_option maxRecDepth 20000 in
theorem gX4_residentPage_X1_pageAt : GoodIn wsX4_residentPage (wsV RX4 122 RX1 yX1_pageAt wsX1_pageAt) := goodIn_app (goodIn_of _ (by decide +kernel)) ggX4_residentPage_X1_pageAt
theorem dX4_residentPage_0 : decode cX4_residentPage 0 = .ok (.aload_n 0, 1) := by decide +kernel
theorem dX4_residentPage_1 : decode cX4_residentPage 1 = .ok (.getfield 19, 3) := by decide +kernel
theorem dX4_residentPage_4 : decode cX4_residentPage 4 = .ok (.iload_n 1, 1) := by decide +kernel
theorem dX4_residentPage_5 : decode cX4_residentPage 5 = .ok (.invokevirtual 122, 3) := by decide +kernel
theorem dX4_residentPage_8 : decode cX4_residentPage 8 = .ok (.ireturn, 1) := by decide +kernel
set_option maxRecDepth 20000 in
theorem ggX4_queueSize_X3_length : GoodIn wsX4_queueSize wsX3_length := goodIn_r _ [6, 7, 18, 19, 20, 21] (by decide +kernel) (by decide +kernel)
set_option maxRecDepth 20000 in
theorem gX4_queueSize_X3_length : GoodIn wsX4_queueSize (wsV RX4 88 RX3 yX3_length wsX3_length) := goodIn_app (goodIn_of _ (by decide +kernel)) ggX4_queueSize_X3_length
theorem dX4_queueSize_0 : decode cX4_queueSize 0 = .ok (.aload_n 0, 1) := by decide +kernel
theorem dX4_queueSize_1 : decode cX4_queueSize 1 = .ok (.getfield 26, 3) := by decide +kernel
theorem dX4_queueSize_4 : decode cX4_queueSize 4 = .ok (.invokevirtual 88, 3) := by decide +kernel
theorem dX4_queueSize_7 : decode cX4_queueSize 7 = .ok (.ireturn, 1) := by decide +kernel
set_option maxRecDepth 20000 in
theorem ggX4_queuedPage_X3_pageAt : GoodIn wsX4_queuedPage wsX3_pageAt := goodIn_r _ [6, 7, 8, 9, 10, 5, 11, 12, 23, 24, 25, 26] (by decide +kernel) (by decide +kernel)
set_option maxRecDepth 20000 in
theorem gX4_queuedPage_X3_pageAt : GoodIn wsX4_queuedPage (wsV RX4 125 RX3 yX3_pageAt wsX3_pageAt) := goodIn_app (goodIn_of _ (by decide +kernel)) ggX4_queuedPage_X3_pageAt
theorem dX4_queuedPage_0 : decode cX4_queuedPage 0 = .ok (.aload_n 0, 1) := by decide +kernel
theorem dX4_queuedPage_1 : decode cX4_queuedPage 1 = .ok (.getfield 26, 3) := by decide +kernel
theorem dX4_queuedPage_4 : decode cX4_queuedPage 4 = .ok (.iload_n 1, 1) := by decide +kernel
theorem dX4_queuedPage_5 : decode cX4_queuedPage 5 = .ok (.invokevirtual 125, 3) := by decide +kernel
theorem dX4_queuedPage_8 : decode cX4_queuedPage 8 = .ok (.ireturn, 1) := by decide +kernel
set_option maxRecDepth 20000 in
theorem ggX4_queuedValue_X3_valueAt : GoodIn wsX4_queuedValue wsX3_valueAt := goodIn_r _ [6, 7, 8, 9, 10, 5, 11, 12, 23, 24, 25, 26] (by decide +kernel) (by decide +kernel)
set_option maxRecDepth 20000 in
theorem gX4_queuedValue_X3_valueAt : GoodIn wsX4_queuedValue (wsV RX4 126 RX3 yX3_valueAt wsX3_valueAt) := goodIn_app (goodIn_of _ (by decide +kernel)) ggX4_queuedValue_X3_valueAt
theorem dX4_queuedValue_0 : decode cX4_queuedValue 0 = .ok (.aload_n 0, 1) := by decide +kernel
theorem dX4_queuedValue_1 : decode cX4_queuedValue 1 = .ok (.getfield 26, 3) := by decide +kernel
theorem dX4_queuedValue_4 : decode cX4_queuedValue 4 = .ok (.iload_n 1, 1) := by decide +kernel
theorem dX4_queuedValue_5 : decode cX4_queuedValue 5 = .ok (.invokevirtual 126, 3) := by decide +kernel
theorem dX4_queuedValue_8 : decode cX4_queuedValue 8 = .ok (.ireturn, 1) := by decide +kernel
theorem dX4_clock_0 : decode cX4_clock 0 = .ok (.aload_n 0, 1) := by decide +kernel
theorem dX4_clock_1 : decode cX4_clock 1 = .ok (.getfield 111, 3) := by decide +kernel
theorem dX4_clock_4 : decode cX4_clock 4 = .ok (.ireturn, 1) := by decide +kernel
theorem dX4_hits_0 : decode cX4_hits 0 = .ok (.aload_n 0, 1) := by decide +kernel
theorem dX4_hits_1 : decode cX4_hits 1 = .ok (.getfield 129, 3) := by decide +kernel
theorem dX4_hits_4 : decode cX4_hits 4 = .ok (.ireturn, 1) := by decide +kernel
theorem dX4_misses_0 : decode cX4_misses 0 = .ok (.aload_n 0, 1) := by decide +kernel
theorem dX4_misses_1 : decode cX4_misses 1 = .ok (.getfield 132, 3) := by decide +kernel
theorem dX4_misses_4 : decode cX4_misses 4 = .ok (.ireturn, 1) := by decide +kernel
theorem dX4_evictions_0 : decode cX4_evictions 0 = .ok (.aload_n 0, 1) := by decide +kernel
theorem dX4_evictions_1 : decode cX4_evictions 1 = .ok (.getfield 135, 3) := by decide +kernel
theorem dX4_evictions_4 : decode cX4_evictions 4 = .ok (.ireturn, 1) := by decide +kernel
set_option maxRecDepth 20000 in
theorem ggX4_diskReads_X0_loads : GoodIn wsX4_diskReads wsX0_loads := goodIn_r _ [6, 7, 18, 19, 20] (by decide +kernel) (by decide +kernel)
set_option maxRecDepth 20000 in
theorem gX4_diskReads_X0_loads : GoodIn wsX4_diskReads (wsV RX4 138 RX0 yX0_loads wsX0_loads) := goodIn_app (goodIn_of _ (by decide +kernel)) ggX4_diskReads_X0_loads
theorem dX4_diskReads_0 : decode cX4_diskReads 0 = .ok (.aload_n 0, 1) := by decide +kernel
theorem dX4_diskReads_1 : decode cX4_diskReads 1 = .ok (.getfield 10, 3) := by decide +kernel
theorem dX4_diskReads_4 : decode cX4_diskReads 4 = .ok (.invokevirtual 138, 3) := by decide +kernel
theorem dX4_diskReads_7 : decode cX4_diskReads 7 = .ok (.ireturn, 1) := by decide +kernel
set_option maxRecDepth 20000 in
theorem ggX4_diskWrites_X0_stores : GoodIn wsX4_diskWrites wsX0_stores := goodIn_r _ [6, 7, 18, 19, 20] (by decide +kernel) (by decide +kernel)
set_option maxRecDepth 20000 in
theorem gX4_diskWrites_X0_stores : GoodIn wsX4_diskWrites (wsV RX4 141 RX0 yX0_stores wsX0_stores) := goodIn_app (goodIn_of _ (by decide +kernel)) ggX4_diskWrites_X0_stores
theorem dX4_diskWrites_0 : decode cX4_diskWrites 0 = .ok (.aload_n 0, 1) := by decide +kernel
theorem dX4_diskWrites_1 : decode cX4_diskWrites 1 = .ok (.getfield 10, 3) := by decide +kernel
theorem dX4_diskWrites_4 : decode cX4_diskWrites 4 = .ok (.invokevirtual 141, 3) := by decide +kernel
theorem dX4_diskWrites_7 : decode cX4_diskWrites 7 = .ok (.ireturn, 1) := by decide +kernel
theorem dX4_stalls_0 : decode cX4_stalls 0 = .ok (.aload_n 0, 1) := by decide +kernel
theorem dX4_stalls_1 : decode cX4_stalls 1 = .ok (.getfield 144, 3) := by decide +kernel
theorem dX4_stalls_4 : decode cX4_stalls 4 = .ok (.ireturn, 1) := by decide +kernel
set_option maxRecDepth 20000 in
theorem ggX4_isPage_X4_isWithin : GoodIn wsX4_isPage wsX4_isWithin := goodIn_r _ [4] (by decide +kernel) (by decide +kernel)
set_option maxRecDepth 20000 in
theorem gX4_isPage_X4_isWithin : GoodIn wsX4_isPage (va_wsS RX4 41 yX4_isWithin wsX4_isWithin) := goodIn_app (goodIn_of _ (by decide +kernel)) ggX4_isPage_X4_isWithin
theorem dX4_isPage_0 : decode cX4_isPage 0 = .ok (.iload_n 0, 1) := by decide +kernel
theorem dX4_isPage_1 : decode cX4_isPage 1 = .ok (.iconst 0, 1) := by decide +kernel
theorem dX4_isPage_2 : decode cX4_isPage 2 = .ok (.bipush 63, 2) := by decide +kernel
theorem dX4_isPage_4 : decode cX4_isPage 4 = .ok (.invokestatic 41, 3) := by decide +kernel
theorem dX4_isPage_7 : decode cX4_isPage 7 = .ok (.ireturn, 1) := by decide +kernel
theorem dX4_isWithin_0 : decode cX4_isWithin 0 = .ok (.iload_n 0, 1) := by decide +kernel
theorem dX4_isWithin_1 : decode cX4_isWithin 1 = .ok (.iload_n 1, 1) := by decide +kernel
theorem dX4_isWithin_2 : decode cX4_isWithin 2 = .ok (.if_icmp .lt 12, 3) := by decide +kernel
theorem dX4_isWithin_5 : decode cX4_isWithin 5 = .ok (.iload_n 0, 1) := by decide +kernel
theorem dX4_isWithin_6 : decode cX4_isWithin 6 = .ok (.iload_n 2, 1) := by decide +kernel
theorem dX4_isWithin_7 : decode cX4_isWithin 7 = .ok (.if_icmp .gt 7, 3) := by decide +kernel
theorem dX4_isWithin_10 : decode cX4_isWithin 10 = .ok (.iconst 1, 1) := by decide +kernel
theorem dX4_isWithin_11 : decode cX4_isWithin 11 = .ok (.goto 4, 3) := by decide +kernel
theorem dX4_isWithin_14 : decode cX4_isWithin 14 = .ok (.iconst 0, 1) := by decide +kernel
theorem dX4_isWithin_15 : decode cX4_isWithin 15 = .ok (.ireturn, 1) := by decide +kernel
set_option maxRecDepth 20000 in
theorem ggX4_startAnew_X0_erase : GoodIn wsX4_startAnew wsX0_erase := goodIn_r _ [15, 16, 17, 18, 19, 20, 21, 22, 62, 63, 64] (by decide +kernel) (by decide +kernel)
set_option maxRecDepth 20000 in
theorem gX4_startAnew_X0_erase : GoodIn wsX4_startAnew (wsV RX4 147 RX0 yX0_erase wsX0_erase) := goodIn_app (goodIn_of _ (by decide +kernel)) ggX4_startAnew_X0_erase
set_option maxRecDepth 20000 in
theorem ggX4_startAnew_X1_empty : GoodIn wsX4_startAnew wsX1_empty := goodIn_r _ [27, 28, 29, 30, 31, 32, 26, 33, 34, 35, 36, 65, 66, 67, 68, 69, 70] (by decide +kernel) (by decide +kernel)
set_option maxRecDepth 20000 in
theorem gX4_startAnew_X1_empty : GoodIn wsX4_startAnew (wsV RX4 150 RX1 yX1_empty wsX1_empty) := goodIn_app (goodIn_of _ (by decide +kernel)) ggX4_startAnew_X1_empty
set_option maxRecDepth 20000 in
theorem ggX4_startAnew_X3_empty : GoodIn wsX4_startAnew wsX3_empty := goodIn_r _ [41, 42, 43, 71, 72, 73, 74] (by decide +kernel) (by decide +kernel)
set_option maxRecDepth 20000 in
theorem gX4_startAnew_X3_empty : GoodIn wsX4_startAnew (wsV RX4 153 RX3 yX3_empty wsX3_empty) := goodIn_app (goodIn_of _ (by decide +kernel)) ggX4_startAnew_X3_empty
set_option maxRecDepth 20000 in
theorem ggX4_startAnew_X2_forgetAll : GoodIn wsX4_startAnew wsX2_forgetAll := goodIn_r _ [48, 49, 50, 51, 20, 21, 22, 75, 76, 77] (by decide +kernel) (by decide +kernel)
set_option maxRecDepth 20000 in
theorem gX4_startAnew_X2_forgetAll : GoodIn wsX4_startAnew (wsV RX4 154 RX2 yX2_forgetAll wsX2_forgetAll) := goodIn_app (goodIn_of _ (by decide +kernel)) ggX4_startAnew_X2_forgetAll
theorem dX4_startAnew_0 : decode cX4_startAnew 0 = .ok (.aload_n 0, 1) := by decide +kernel
theorem dX4_startAnew_1 : decode cX4_startAnew 1 = .ok (.getfield 10, 3) := by decide +kernel
theorem dX4_startAnew_4 : decode cX4_startAnew 4 = .ok (.invokevirtual 147, 3) := by decide +kernel
theorem dX4_startAnew_7 : decode cX4_startAnew 7 = .ok (.aload_n 0, 1) := by decide +kernel
theorem dX4_startAnew_8 : decode cX4_startAnew 8 = .ok (.getfield 19, 3) := by decide +kernel
theorem dX4_startAnew_11 : decode cX4_startAnew 11 = .ok (.iload_n 1, 1) := by decide +kernel
theorem dX4_startAnew_12 : decode cX4_startAnew 12 = .ok (.invokevirtual 150, 3) := by decide +kernel
theorem dX4_startAnew_15 : decode cX4_startAnew 15 = .ok (.aload_n 0, 1) := by decide +kernel
theorem dX4_startAnew_16 : decode cX4_startAnew 16 = .ok (.getfield 26, 3) := by decide +kernel
theorem dX4_startAnew_19 : decode cX4_startAnew 19 = .ok (.iload_n 3, 1) := by decide +kernel
theorem dX4_startAnew_20 : decode cX4_startAnew 20 = .ok (.invokevirtual 153, 3) := by decide +kernel
theorem dX4_startAnew_23 : decode cX4_startAnew 23 = .ok (.aload_n 0, 1) := by decide +kernel
theorem dX4_startAnew_24 : decode cX4_startAnew 24 = .ok (.getfield 33, 3) := by decide +kernel
theorem dX4_startAnew_27 : decode cX4_startAnew 27 = .ok (.iload_n 2, 1) := by decide +kernel
theorem dX4_startAnew_28 : decode cX4_startAnew 28 = .ok (.invokevirtual 154, 3) := by decide +kernel
theorem dX4_startAnew_31 : decode cX4_startAnew 31 = .ok (.aload_n 0, 1) := by decide +kernel
theorem dX4_startAnew_32 : decode cX4_startAnew 32 = .ok (.iload 4, 2) := by decide +kernel
theorem dX4_startAnew_34 : decode cX4_startAnew 34 = .ok (.putfield 157, 3) := by decide +kernel
theorem dX4_startAnew_37 : decode cX4_startAnew 37 = .ok (.aload_n 0, 1) := by decide +kernel
theorem dX4_startAnew_38 : decode cX4_startAnew 38 = .ok (.iconst 0, 1) := by decide +kernel
theorem dX4_startAnew_39 : decode cX4_startAnew 39 = .ok (.putfield 111, 3) := by decide +kernel
theorem dX4_startAnew_42 : decode cX4_startAnew 42 = .ok (.aload_n 0, 1) := by decide +kernel
theorem dX4_startAnew_43 : decode cX4_startAnew 43 = .ok (.iconst 0, 1) := by decide +kernel
theorem dX4_startAnew_44 : decode cX4_startAnew 44 = .ok (.putfield 129, 3) := by decide +kernel
theorem dX4_startAnew_47 : decode cX4_startAnew 47 = .ok (.aload_n 0, 1) := by decide +kernel
theorem dX4_startAnew_48 : decode cX4_startAnew 48 = .ok (.iconst 0, 1) := by decide +kernel
theorem dX4_startAnew_49 : decode cX4_startAnew 49 = .ok (.putfield 132, 3) := by decide +kernel
theorem dX4_startAnew_52 : decode cX4_startAnew 52 = .ok (.aload_n 0, 1) := by decide +kernel
theorem dX4_startAnew_53 : decode cX4_startAnew 53 = .ok (.iconst 0, 1) := by decide +kernel
theorem dX4_startAnew_54 : decode cX4_startAnew 54 = .ok (.putfield 135, 3) := by decide +kernel
theorem dX4_startAnew_57 : decode cX4_startAnew 57 = .ok (.aload_n 0, 1) := by decide +kernel
theorem dX4_startAnew_58 : decode cX4_startAnew 58 = .ok (.iconst 0, 1) := by decide +kernel
theorem dX4_startAnew_59 : decode cX4_startAnew 59 = .ok (.putfield 144, 3) := by decide +kernel
theorem dX4_startAnew_62 : decode cX4_startAnew 62 = .ok (.return_, 1) := by decide +kernel
set_option maxRecDepth 20000 in
theorem ggX4_canReference_X1_holds : GoodIn wsX4_canReference wsX1_holds := goodIn_r _ [6, 7, 47, 48, 49, 50, 51, 52] (by decide +kernel) (by decide +kernel)
set_option maxRecDepth 20000 in
theorem gX4_canReference_X1_holds : GoodIn wsX4_canReference (wsV RX4 70 RX1 yX1_holds wsX1_holds) := goodIn_app (goodIn_of _ (by decide +kernel)) ggX4_canReference_X1_holds
set_option maxRecDepth 20000 in
theorem ggX4_canReference_X1_areFull : GoodIn wsX4_canReference wsX1_areFull := goodIn_r _ [11, 12, 13, 47, 48, 49, 50, 51, 52] (by decide +kernel) (by decide +kernel)
set_option maxRecDepth 20000 in
theorem gX4_canReference_X1_areFull : GoodIn wsX4_canReference (wsV RX4 160 RX1 yX1_areFull wsX1_areFull) := goodIn_app (goodIn_of _ (by decide +kernel)) ggX4_canReference_X1_areFull
set_option maxRecDepth 20000 in
theorem ggX4_canReference_X4_chooseVictim : GoodIn wsX4_canReference wsX4_chooseVictim := goodIn_r _ [18, 1, 19, 2, 3, 4, 5, 6, 7, 20, 21, 22, 23, 24, 25, 26, 27, 28, 29, 30, 31, 32, 33, 34, 35, 36, 37, 38, 39, 40, 41, 42, 43, 44, 45, 46, 47, 48, 49, 50, 51, 52, 53, 54, 55] (by decide +kernel) (by decide +kernel)
set_option maxRecDepth 20000 in
theorem gX4_canReference_X4_chooseVictim : GoodIn wsX4_canReference (wsV RX4 115 RX4 yX4_chooseVictim wsX4_chooseVictim) := goodIn_app (goodIn_of _ (by decide +kernel)) ggX4_canReference_X4_chooseVictim
theorem dX4_canReference_0 : decode cX4_canReference 0 = .ok (.aload_n 0, 1) := by decide +kernel
theorem dX4_canReference_1 : decode cX4_canReference 1 = .ok (.getfield 19, 3) := by decide +kernel
theorem dX4_canReference_4 : decode cX4_canReference 4 = .ok (.iload_n 1, 1) := by decide +kernel
theorem dX4_canReference_5 : decode cX4_canReference 5 = .ok (.invokevirtual 70, 3) := by decide +kernel
theorem dX4_canReference_8 : decode cX4_canReference 8 = .ok (.ifCond .ne 22, 3) := by decide +kernel
theorem dX4_canReference_11 : decode cX4_canReference 11 = .ok (.aload_n 0, 1) := by decide +kernel
theorem dX4_canReference_12 : decode cX4_canReference 12 = .ok (.getfield 19, 3) := by decide +kernel
theorem dX4_canReference_15 : decode cX4_canReference 15 = .ok (.invokevirtual 160, 3) := by decide +kernel
theorem dX4_canReference_18 : decode cX4_canReference 18 = .ok (.ifCond .eq 12, 3) := by decide +kernel
theorem dX4_canReference_21 : decode cX4_canReference 21 = .ok (.aload_n 0, 1) := by decide +kernel
theorem dX4_canReference_22 : decode cX4_canReference 22 = .ok (.invokevirtual 115, 3) := by decide +kernel
theorem dX4_canReference_25 : decode cX4_canReference 25 = .ok (.bipush (-9), 2) := by decide +kernel
theorem dX4_canReference_27 : decode cX4_canReference 27 = .ok (.if_icmp .eq 7, 3) := by decide +kernel
theorem dX4_canReference_30 : decode cX4_canReference 30 = .ok (.iconst 1, 1) := by decide +kernel
theorem dX4_canReference_31 : decode cX4_canReference 31 = .ok (.goto 4, 3) := by decide +kernel
theorem dX4_canReference_34 : decode cX4_canReference 34 = .ok (.iconst 0, 1) := by decide +kernel
theorem dX4_canReference_35 : decode cX4_canReference 35 = .ok (.ireturn, 1) := by decide +kernel
set_option maxRecDepth 20000 in
theorem ggX4_reference_X1_holds : GoodIn wsX4_reference wsX1_holds := goodIn_r _ [10, 11, 156, 157, 158, 159, 160, 161] (by decide +kernel) (by decide +kernel)
set_option maxRecDepth 20000 in
theorem gX4_reference_X1_holds : GoodIn wsX4_reference (wsV RX4 70 RX1 yX1_holds wsX1_holds) := goodIn_app (goodIn_of _ (by decide +kernel)) ggX4_reference_X1_holds
set_option maxRecDepth 20000 in
theorem ggX4_reference_X4_makeRoom : GoodIn wsX4_reference wsX4_makeRoom := goodIn_r _ [16, 2, 17, 18, 19, 20, 9, 21, 22, 23, 24, 25, 26, 15, 27, 5, 6, 7, 8, 10, 11, 28, 29, 30, 31, 32, 33, 34, 35, 36, 37, 38, 39, 40, 41, 42, 43, 44, 45, 46, 47, 48, 49, 50, 51, 52, 53, 54, 55, 56, 57, 58, 59, 60, 61, 62, 63, 64, 65, 66, 67, 68, 69, 70, 71, 72, 73, 74, 75, 76, 77, 78, 79, 80, 81, 82, 83, 84, 85, 86, 87, 88, 89, 90, 91, 92, 93, 94, 95, 96, 97, 98, 99, 100, 101, 102, 103, 104, 105, 106, 107, 108, 109, 110, 146, 147, 148, 149, 150, 151, 152, 153, 154, 155, 156, 157, 158, 159, 160, 161, 162, 163, 164, 165, 166, 167, 168, 169, 170, 171] (by decide +kernel) (by decide +kernel)
set_option maxRecDepth 20000 in
theorem gX4_reference_X4_makeRoom : GoodIn wsX4_reference (wsV RX4 164 RX4 yX4_makeRoom wsX4_makeRoom) := goodIn_app (goodIn_of _ (by decide +kernel)) ggX4_reference_X4_makeRoom
set_option maxRecDepth 20000 in
theorem ggX4_reference_X4_load : GoodIn wsX4_reference wsX4_load := goodIn_r _ [114, 54, 2, 67, 115, 116, 117, 59, 118, 61, 72, 119, 120, 121, 85, 122, 123, 88, 124, 125, 126, 9, 127, 11, 97, 22, 77, 78, 79, 80, 81, 73, 74, 75, 76, 89, 90, 91, 92, 128, 129, 130, 131, 49, 146, 147, 148, 149, 150, 151, 152, 153, 154, 155, 165, 166, 167, 168, 169, 170, 171, 156, 157, 158, 159, 160, 161] (by decide +kernel) (by decide +kernel)
set_option maxRecDepth 20000 in
theorem gX4_reference_X4_load : GoodIn wsX4_reference (wsV RX4 167 RX4 yX4_load wsX4_load) := goodIn_app (goodIn_of _ (by decide +kernel)) ggX4_reference_X4_load
set_option maxRecDepth 20000 in
theorem ggX4_reference_X4_forgetIfStale : GoodIn wsX4_reference wsX4_forgetIfStale := goodIn_r _ [135, 5, 1, 136, 137, 41, 42, 36, 43, 38, 44, 138, 139, 140, 141, 146, 147, 148, 149, 150, 151, 152, 153, 154, 155, 162, 163, 164] (by decide +kernel) (by decide +kernel)
set_option maxRecDepth 20000 in
theorem gX4_reference_X4_forgetIfStale : GoodIn wsX4_reference (wsV RX4 170 RX4 yX4_forgetIfStale wsX4_forgetIfStale) := goodIn_app (goodIn_of _ (by decide +kernel)) ggX4_reference_X4_forgetIfStale
set_option maxRecDepth 20000 in
theorem ggX4_reference_X2_record : GoodIn wsX4_reference wsX2_record := goodIn_r _ [145, 44, 38, 39, 162, 163, 164] (by decide +kernel) (by decide +kernel)
set_option maxRecDepth 20000 in
theorem gX4_reference_X2_record : GoodIn wsX4_reference (wsV RX4 173 RX2 yX2_record wsX2_record) := goodIn_app (goodIn_of _ (by decide +kernel)) ggX4_reference_X2_record
theorem dX4_reference_0 : decode cX4_reference 0 = .ok (.aload_n 0, 1) := by decide +kernel
theorem dX4_reference_1 : decode cX4_reference 1 = .ok (.dup, 1) := by decide +kernel
theorem dX4_reference_2 : decode cX4_reference 2 = .ok (.getfield 111, 3) := by decide +kernel
theorem dX4_reference_5 : decode cX4_reference 5 = .ok (.iconst 1, 1) := by decide +kernel
theorem dX4_reference_6 : decode cX4_reference 6 = .ok (.iadd, 1) := by decide +kernel
theorem dX4_reference_7 : decode cX4_reference 7 = .ok (.putfield 111, 3) := by decide +kernel
theorem dX4_reference_10 : decode cX4_reference 10 = .ok (.aload_n 0, 1) := by decide +kernel
theorem dX4_reference_11 : decode cX4_reference 11 = .ok (.getfield 19, 3) := by decide +kernel
theorem dX4_reference_14 : decode cX4_reference 14 = .ok (.iload_n 1, 1) := by decide +kernel
theorem dX4_reference_15 : decode cX4_reference 15 = .ok (.invokevirtual 70, 3) := by decide +kernel
theorem dX4_reference_18 : decode cX4_reference 18 = .ok (.ifCond .eq 16, 3) := by decide +kernel
theorem dX4_reference_21 : decode cX4_reference 21 = .ok (.aload_n 0, 1) := by decide +kernel
theorem dX4_reference_22 : decode cX4_reference 22 = .ok (.dup, 1) := by decide +kernel
theorem dX4_reference_23 : decode cX4_reference 23 = .ok (.getfield 129, 3) := by decide +kernel
theorem dX4_reference_26 : decode cX4_reference 26 = .ok (.iconst 1, 1) := by decide +kernel
theorem dX4_reference_27 : decode cX4_reference 27 = .ok (.iadd, 1) := by decide +kernel
theorem dX4_reference_28 : decode cX4_reference 28 = .ok (.putfield 129, 3) := by decide +kernel
theorem dX4_reference_31 : decode cX4_reference 31 = .ok (.goto 27, 3) := by decide +kernel
theorem dX4_reference_34 : decode cX4_reference 34 = .ok (.aload_n 0, 1) := by decide +kernel
theorem dX4_reference_35 : decode cX4_reference 35 = .ok (.dup, 1) := by decide +kernel
theorem dX4_reference_36 : decode cX4_reference 36 = .ok (.getfield 132, 3) := by decide +kernel
theorem dX4_reference_39 : decode cX4_reference 39 = .ok (.iconst 1, 1) := by decide +kernel
theorem dX4_reference_40 : decode cX4_reference 40 = .ok (.iadd, 1) := by decide +kernel
theorem dX4_reference_41 : decode cX4_reference 41 = .ok (.putfield 132, 3) := by decide +kernel
theorem dX4_reference_44 : decode cX4_reference 44 = .ok (.aload_n 0, 1) := by decide +kernel
theorem dX4_reference_45 : decode cX4_reference 45 = .ok (.invokevirtual 164, 3) := by decide +kernel
theorem dX4_reference_48 : decode cX4_reference 48 = .ok (.aload_n 0, 1) := by decide +kernel
theorem dX4_reference_49 : decode cX4_reference 49 = .ok (.iload_n 1, 1) := by decide +kernel
theorem dX4_reference_50 : decode cX4_reference 50 = .ok (.invokevirtual 167, 3) := by decide +kernel
theorem dX4_reference_53 : decode cX4_reference 53 = .ok (.aload_n 0, 1) := by decide +kernel
theorem dX4_reference_54 : decode cX4_reference 54 = .ok (.iload_n 1, 1) := by decide +kernel
theorem dX4_reference_55 : decode cX4_reference 55 = .ok (.invokevirtual 170, 3) := by decide +kernel
theorem dX4_reference_58 : decode cX4_reference 58 = .ok (.aload_n 0, 1) := by decide +kernel
theorem dX4_reference_59 : decode cX4_reference 59 = .ok (.getfield 33, 3) := by decide +kernel
theorem dX4_reference_62 : decode cX4_reference 62 = .ok (.iload_n 1, 1) := by decide +kernel
theorem dX4_reference_63 : decode cX4_reference 63 = .ok (.aload_n 0, 1) := by decide +kernel
theorem dX4_reference_64 : decode cX4_reference 64 = .ok (.getfield 111, 3) := by decide +kernel
theorem dX4_reference_67 : decode cX4_reference 67 = .ok (.invokevirtual 173, 3) := by decide +kernel
theorem dX4_reference_70 : decode cX4_reference 70 = .ok (.return_, 1) := by decide +kernel
set_option maxRecDepth 20000 in
theorem ggX4_makeRoom_X1_areFull : GoodIn wsX4_makeRoom wsX1_areFull := goodIn_r _ [7, 8, 9, 114, 115, 116, 117, 118, 119] (by decide +kernel) (by decide +kernel)
set_option maxRecDepth 20000 in
theorem gX4_makeRoom_X1_areFull : GoodIn wsX4_makeRoom (wsV RX4 160 RX1 yX1_areFull wsX1_areFull) := goodIn_app (goodIn_of _ (by decide +kernel)) ggX4_makeRoom_X1_areFull
set_option maxRecDepth 20000 in
theorem ggX4_makeRoom_X4_chooseVictim : GoodIn wsX4_makeRoom wsX4_chooseVictim := goodIn_r _ [14, 1, 15, 16, 17, 18, 6, 19, 20, 21, 22, 23, 24, 25, 26, 27, 28, 29, 30, 31, 32, 33, 34, 35, 36, 37, 104, 105, 106, 107, 108, 109, 110, 111, 112, 113, 114, 115, 116, 117, 118, 119, 120, 121, 122] (by decide +kernel) (by decide +kernel)
set_option maxRecDepth 20000 in
theorem gX4_makeRoom_X4_chooseVictim : GoodIn wsX4_makeRoom (wsV RX4 115 RX4 yX4_chooseVictim wsX4_chooseVictim) := goodIn_app (goodIn_of _ (by decide +kernel)) ggX4_makeRoom_X4_chooseVictim
set_option maxRecDepth 20000 in
theorem ggX4_makeRoom_X1_isChanged : GoodIn wsX4_makeRoom wsX1_isChanged := goodIn_r _ [41, 42, 114, 115, 116, 117, 118, 119] (by decide +kernel) (by decide +kernel)
set_option maxRecDepth 20000 in
theorem gX4_makeRoom_X1_isChanged : GoodIn wsX4_makeRoom (wsV RX4 76 RX1 yX1_isChanged wsX1_isChanged) := goodIn_app (goodIn_of _ (by decide +kernel)) ggX4_makeRoom_X1_isChanged
set_option maxRecDepth 20000 in
theorem ggX4_makeRoom_X4_enqueue : GoodIn wsX4_makeRoom wsX4_enqueue := goodIn_r _ [46, 47, 48, 1, 49, 50, 51, 52, 53, 54, 55, 56, 57, 58, 13, 59, 60, 61, 62, 63, 64, 65, 66, 67, 68, 69, 70, 71, 72, 73, 74, 75, 76, 77, 78, 79, 80, 81, 82, 83, 84, 85, 86, 87, 88, 6, 89, 90, 91, 92, 93, 94, 95, 104, 105, 106, 107, 108, 109, 110, 111, 112, 113, 123, 124, 125, 126, 127, 128, 129, 114, 115, 116, 117, 118, 119] (by decide +kernel) (by decide +kernel)
set_option maxRecDepth 20000 in
theorem gX4_makeRoom_X4_enqueue : GoodIn wsX4_makeRoom (wsV RX4 176 RX4 yX4_enqueue wsX4_enqueue) := goodIn_app (goodIn_of _ (by decide +kernel)) ggX4_makeRoom_X4_enqueue
set_option maxRecDepth 20000 in
theorem ggX4_makeRoom_X1_release : GoodIn wsX4_makeRoom wsX1_release := goodIn_r _ [99, 8, 100, 101, 102, 6, 103, 20, 42, 25, 114, 115, 116, 117, 118, 119] (by decide +kernel) (by decide +kernel)
set_option maxRecDepth 20000 in
theorem gX4_makeRoom_X1_release : GoodIn wsX4_makeRoom (wsV RX4 98 RX1 yX1_release wsX1_release) := goodIn_app (goodIn_of _ (by decide +kernel)) ggX4_makeRoom_X1_release
theorem dX4_makeRoom_0 : decode cX4_makeRoom 0 = .ok (.aload_n 0, 1) := by decide +kernel
theorem dX4_makeRoom_1 : decode cX4_makeRoom 1 = .ok (.getfield 19, 3) := by decide +kernel
theorem dX4_makeRoom_4 : decode cX4_makeRoom 4 = .ok (.invokevirtual 160, 3) := by decide +kernel
theorem dX4_makeRoom_7 : decode cX4_makeRoom 7 = .ok (.ifCond .ne 4, 3) := by decide +kernel
theorem dX4_makeRoom_10 : decode cX4_makeRoom 10 = .ok (.return_, 1) := by decide +kernel
theorem dX4_makeRoom_11 : decode cX4_makeRoom 11 = .ok (.aload_n 0, 1) := by decide +kernel
theorem dX4_makeRoom_12 : decode cX4_makeRoom 12 = .ok (.invokevirtual 115, 3) := by decide +kernel
theorem dX4_makeRoom_15 : decode cX4_makeRoom 15 = .ok (.istore_n 1, 1) := by decide +kernel
theorem dX4_makeRoom_16 : decode cX4_makeRoom 16 = .ok (.iload_n 1, 1) := by decide +kernel
theorem dX4_makeRoom_17 : decode cX4_makeRoom 17 = .ok (.bipush (-9), 2) := by decide +kernel
theorem dX4_makeRoom_19 : decode cX4_makeRoom 19 = .ok (.if_icmp .ne 4, 3) := by decide +kernel
theorem dX4_makeRoom_22 : decode cX4_makeRoom 22 = .ok (.return_, 1) := by decide +kernel
theorem dX4_makeRoom_23 : decode cX4_makeRoom 23 = .ok (.aload_n 0, 1) := by decide +kernel
theorem dX4_makeRoom_24 : decode cX4_makeRoom 24 = .ok (.getfield 19, 3) := by decide +kernel
theorem dX4_makeRoom_27 : decode cX4_makeRoom 27 = .ok (.iload_n 1, 1) := by decide +kernel
theorem dX4_makeRoom_28 : decode cX4_makeRoom 28 = .ok (.invokevirtual 76, 3) := by decide +kernel
theorem dX4_makeRoom_31 : decode cX4_makeRoom 31 = .ok (.ifCond .eq 8, 3) := by decide +kernel
theorem dX4_makeRoom_34 : decode cX4_makeRoom 34 = .ok (.aload_n 0, 1) := by decide +kernel
theorem dX4_makeRoom_35 : decode cX4_makeRoom 35 = .ok (.iload_n 1, 1) := by decide +kernel
theorem dX4_makeRoom_36 : decode cX4_makeRoom 36 = .ok (.invokevirtual 176, 3) := by decide +kernel
theorem dX4_makeRoom_39 : decode cX4_makeRoom 39 = .ok (.aload_n 0, 1) := by decide +kernel
theorem dX4_makeRoom_40 : decode cX4_makeRoom 40 = .ok (.getfield 19, 3) := by decide +kernel
theorem dX4_makeRoom_43 : decode cX4_makeRoom 43 = .ok (.iload_n 1, 1) := by decide +kernel
theorem dX4_makeRoom_44 : decode cX4_makeRoom 44 = .ok (.invokevirtual 98, 3) := by decide +kernel
theorem dX4_makeRoom_47 : decode cX4_makeRoom 47 = .ok (.aload_n 0, 1) := by decide +kernel
theorem dX4_makeRoom_48 : decode cX4_makeRoom 48 = .ok (.dup, 1) := by decide +kernel
theorem dX4_makeRoom_49 : decode cX4_makeRoom 49 = .ok (.getfield 135, 3) := by decide +kernel
theorem dX4_makeRoom_52 : decode cX4_makeRoom 52 = .ok (.iconst 1, 1) := by decide +kernel
theorem dX4_makeRoom_53 : decode cX4_makeRoom 53 = .ok (.iadd, 1) := by decide +kernel
theorem dX4_makeRoom_54 : decode cX4_makeRoom 54 = .ok (.putfield 135, 3) := by decide +kernel
theorem dX4_makeRoom_57 : decode cX4_makeRoom 57 = .ok (.return_, 1) := by decide +kernel
set_option maxRecDepth 20000 in
theorem ggX4_enqueue_X3_isFull : GoodIn wsX4_enqueue wsX3_isFull := goodIn_r _ [8, 9, 10, 63, 64, 65, 66] (by decide +kernel) (by decide +kernel)
set_option maxRecDepth 20000 in
theorem gX4_enqueue_X3_isFull : GoodIn wsX4_enqueue (wsV RX4 179 RX3 yX3_isFull wsX3_isFull) := goodIn_app (goodIn_of _ (by decide +kernel)) ggX4_enqueue_X3_isFull
set_option maxRecDepth 20000 in
theorem ggX4_enqueue_X4_writeEntry : GoodIn wsX4_enqueue wsX4_writeEntry := goodIn_r _ [15, 1, 16, 17, 18, 19, 7, 20, 21, 22, 23, 24, 25, 9, 26, 27, 28, 29, 30, 31, 32, 33, 34, 35, 36, 37, 38, 39, 40, 41, 53, 54, 55, 56, 57, 58, 59, 60, 61, 62, 63, 64, 65, 66, 67, 68, 69] (by decide +kernel) (by decide +kernel)
set_option maxRecDepth 20000 in
theorem gX4_enqueue_X4_writeEntry : GoodIn wsX4_enqueue (wsV RX4 85 RX4 yX4_writeEntry wsX4_writeEntry) := goodIn_app (goodIn_of _ (by decide +kernel)) ggX4_enqueue_X4_writeEntry
set_option maxRecDepth 20000 in
theorem ggX4_enqueue_X1_valueOf : GoodIn wsX4_enqueue wsX1_valueOf := goodIn_r _ [46, 47, 70, 71, 72, 73, 74, 75] (by decide +kernel) (by decide +kernel)
set_option maxRecDepth 20000 in
theorem gX4_enqueue_X1_valueOf : GoodIn wsX4_enqueue (wsV RX4 56 RX1 yX1_valueOf wsX1_valueOf) := goodIn_app (goodIn_of _ (by decide +kernel)) ggX4_enqueue_X1_valueOf
set_option maxRecDepth 20000 in
theorem ggX4_enqueue_X3_append : GoodIn wsX4_enqueue wsX3_append := goodIn_r _ [51, 21, 9, 30, 52, 5, 6, 7, 8, 10, 63, 64, 65, 66] (by decide +kernel) (by decide +kernel)
set_option maxRecDepth 20000 in
theorem gX4_enqueue_X3_append : GoodIn wsX4_enqueue (wsV RX4 182 RX3 yX3_append wsX3_append) := goodIn_app (goodIn_of _ (by decide +kernel)) ggX4_enqueue_X3_append
theorem dX4_enqueue_0 : decode cX4_enqueue 0 = .ok (.aload_n 0, 1) := by decide +kernel
theorem dX4_enqueue_1 : decode cX4_enqueue 1 = .ok (.getfield 26, 3) := by decide +kernel
theorem dX4_enqueue_4 : decode cX4_enqueue 4 = .ok (.invokevirtual 179, 3) := by decide +kernel
theorem dX4_enqueue_7 : decode cX4_enqueue 7 = .ok (.ifCond .eq 18, 3) := by decide +kernel
theorem dX4_enqueue_10 : decode cX4_enqueue 10 = .ok (.aload_n 0, 1) := by decide +kernel
theorem dX4_enqueue_11 : decode cX4_enqueue 11 = .ok (.iconst 0, 1) := by decide +kernel
theorem dX4_enqueue_12 : decode cX4_enqueue 12 = .ok (.invokevirtual 85, 3) := by decide +kernel
theorem dX4_enqueue_15 : decode cX4_enqueue 15 = .ok (.aload_n 0, 1) := by decide +kernel
theorem dX4_enqueue_16 : decode cX4_enqueue 16 = .ok (.dup, 1) := by decide +kernel
theorem dX4_enqueue_17 : decode cX4_enqueue 17 = .ok (.getfield 144, 3) := by decide +kernel
theorem dX4_enqueue_20 : decode cX4_enqueue 20 = .ok (.iconst 1, 1) := by decide +kernel
theorem dX4_enqueue_21 : decode cX4_enqueue 21 = .ok (.iadd, 1) := by decide +kernel
theorem dX4_enqueue_22 : decode cX4_enqueue 22 = .ok (.putfield 144, 3) := by decide +kernel
theorem dX4_enqueue_25 : decode cX4_enqueue 25 = .ok (.aload_n 0, 1) := by decide +kernel
theorem dX4_enqueue_26 : decode cX4_enqueue 26 = .ok (.getfield 26, 3) := by decide +kernel
theorem dX4_enqueue_29 : decode cX4_enqueue 29 = .ok (.iload_n 1, 1) := by decide +kernel
theorem dX4_enqueue_30 : decode cX4_enqueue 30 = .ok (.aload_n 0, 1) := by decide +kernel
theorem dX4_enqueue_31 : decode cX4_enqueue 31 = .ok (.getfield 19, 3) := by decide +kernel
theorem dX4_enqueue_34 : decode cX4_enqueue 34 = .ok (.iload_n 1, 1) := by decide +kernel
theorem dX4_enqueue_35 : decode cX4_enqueue 35 = .ok (.invokevirtual 56, 3) := by decide +kernel
theorem dX4_enqueue_38 : decode cX4_enqueue 38 = .ok (.invokevirtual 182, 3) := by decide +kernel
theorem dX4_enqueue_41 : decode cX4_enqueue 41 = .ok (.return_, 1) := by decide +kernel
set_option maxRecDepth 20000 in
theorem ggX4_load_X3_positionOf : GoodIn wsX4_load wsX3_positionOf := goodIn_r _ [8, 9, 10, 54, 55, 56, 57] (by decide +kernel) (by decide +kernel)
set_option maxRecDepth 20000 in
theorem gX4_load_X3_positionOf : GoodIn wsX4_load (wsV RX4 82 RX3 yX3_positionOf wsX3_positionOf) := goodIn_app (goodIn_of _ (by decide +kernel)) ggX4_load_X3_positionOf
set_option maxRecDepth 20000 in
theorem ggX4_load_X0_load : GoodIn wsX4_load wsX0_load := goodIn_r _ [15, 16, 17, 58, 59, 60] (by decide +kernel) (by decide +kernel)
set_option maxRecDepth 20000 in
theorem gX4_load_X0_load : GoodIn wsX4_load (wsV RX4 185 RX0 yX0_load wsX0_load) := goodIn_app (goodIn_of _ (by decide +kernel)) ggX4_load_X0_load
set_option maxRecDepth 20000 in
theorem ggX4_load_X1_place : GoodIn wsX4_load wsX1_place := goodIn_r _ [22, 23, 24, 25, 61, 62, 63, 64, 65, 66] (by decide +kernel) (by decide +kernel)
set_option maxRecDepth 20000 in
theorem gX4_load_X1_place : GoodIn wsX4_load (wsV RX4 187 RX1 yX1_place wsX1_place) := goodIn_app (goodIn_of _ (by decide +kernel)) ggX4_load_X1_place
set_option maxRecDepth 20000 in
theorem ggX4_load_X3_valueAt : GoodIn wsX4_load wsX3_valueAt := goodIn_r _ [29, 30, 31, 32, 33, 7, 34, 9, 54, 55, 56, 57] (by decide +kernel) (by decide +kernel)
set_option maxRecDepth 20000 in
theorem gX4_load_X3_valueAt : GoodIn wsX4_load (wsV RX4 126 RX3 yX3_valueAt wsX3_valueAt) := goodIn_app (goodIn_of _ (by decide +kernel)) ggX4_load_X3_valueAt
set_option maxRecDepth 20000 in
theorem ggX4_load_X3_removeAt : GoodIn wsX4_load wsX3_removeAt := goodIn_r _ [38, 9, 10, 30, 31, 32, 33, 7, 34, 54, 55, 56, 57] (by decide +kernel) (by decide +kernel)
set_option maxRecDepth 20000 in
theorem gX4_load_X3_removeAt : GoodIn wsX4_load (wsV RX4 101 RX3 yX3_removeAt wsX3_removeAt) := goodIn_app (goodIn_of _ (by decide +kernel)) ggX4_load_X3_removeAt
set_option maxRecDepth 20000 in
theorem ggX4_load_X1_change : GoodIn wsX4_load wsX1_change := goodIn_r _ [42, 24, 43, 61, 62, 63, 64, 65, 66] (by decide +kernel) (by decide +kernel)
set_option maxRecDepth 20000 in
theorem gX4_load_X1_change : GoodIn wsX4_load (wsV RX4 60 RX1 yX1_change wsX1_change) := goodIn_app (goodIn_of _ (by decide +kernel)) ggX4_load_X1_change
theorem dX4_load_0 : decode cX4_load 0 = .ok (.aload_n 0, 1) := by decide +kernel
theorem dX4_load_1 : decode cX4_load 1 = .ok (.getfield 26, 3) := by decide +kernel
theorem dX4_load_4 : decode cX4_load 4 = .ok (.iload_n 1, 1) := by decide +kernel
theorem dX4_load_5 : decode cX4_load 5 = .ok (.invokevirtual 82, 3) := by decide +kernel
theorem dX4_load_8 : decode cX4_load 8 = .ok (.istore_n 2, 1) := by decide +kernel
theorem dX4_load_9 : decode cX4_load 9 = .ok (.iload_n 2, 1) := by decide +kernel
theorem dX4_load_10 : decode cX4_load 10 = .ok (.bipush (-9), 2) := by decide +kernel
theorem dX4_load_12 : decode cX4_load 12 = .ok (.if_icmp .ne 20, 3) := by decide +kernel
theorem dX4_load_15 : decode cX4_load 15 = .ok (.aload_n 0, 1) := by decide +kernel
theorem dX4_load_16 : decode cX4_load 16 = .ok (.getfield 19, 3) := by decide +kernel
theorem dX4_load_19 : decode cX4_load 19 = .ok (.iload_n 1, 1) := by decide +kernel
theorem dX4_load_20 : decode cX4_load 20 = .ok (.aload_n 0, 1) := by decide +kernel
theorem dX4_load_21 : decode cX4_load 21 = .ok (.getfield 10, 3) := by decide +kernel
theorem dX4_load_24 : decode cX4_load 24 = .ok (.iload_n 1, 1) := by decide +kernel
theorem dX4_load_25 : decode cX4_load 25 = .ok (.invokevirtual 185, 3) := by decide +kernel
theorem dX4_load_28 : decode cX4_load 28 = .ok (.invokevirtual 187, 3) := by decide +kernel
theorem dX4_load_31 : decode cX4_load 31 = .ok (.return_, 1) := by decide +kernel
theorem dX4_load_32 : decode cX4_load 32 = .ok (.aload_n 0, 1) := by decide +kernel
theorem dX4_load_33 : decode cX4_load 33 = .ok (.getfield 26, 3) := by decide +kernel
theorem dX4_load_36 : decode cX4_load 36 = .ok (.iload_n 2, 1) := by decide +kernel
theorem dX4_load_37 : decode cX4_load 37 = .ok (.invokevirtual 126, 3) := by decide +kernel
theorem dX4_load_40 : decode cX4_load 40 = .ok (.istore_n 3, 1) := by decide +kernel
theorem dX4_load_41 : decode cX4_load 41 = .ok (.aload_n 0, 1) := by decide +kernel
theorem dX4_load_42 : decode cX4_load 42 = .ok (.getfield 26, 3) := by decide +kernel
theorem dX4_load_45 : decode cX4_load 45 = .ok (.iload_n 2, 1) := by decide +kernel
theorem dX4_load_46 : decode cX4_load 46 = .ok (.invokevirtual 101, 3) := by decide +kernel
theorem dX4_load_49 : decode cX4_load 49 = .ok (.aload_n 0, 1) := by decide +kernel
theorem dX4_load_50 : decode cX4_load 50 = .ok (.getfield 19, 3) := by decide +kernel
theorem dX4_load_53 : decode cX4_load 53 = .ok (.iload_n 1, 1) := by decide +kernel
theorem dX4_load_54 : decode cX4_load 54 = .ok (.iload_n 3, 1) := by decide +kernel
theorem dX4_load_55 : decode cX4_load 55 = .ok (.invokevirtual 187, 3) := by decide +kernel
theorem dX4_load_58 : decode cX4_load 58 = .ok (.aload_n 0, 1) := by decide +kernel
theorem dX4_load_59 : decode cX4_load 59 = .ok (.getfield 19, 3) := by decide +kernel
theorem dX4_load_62 : decode cX4_load 62 = .ok (.iload_n 1, 1) := by decide +kernel
theorem dX4_load_63 : decode cX4_load 63 = .ok (.iload_n 3, 1) := by decide +kernel
theorem dX4_load_64 : decode cX4_load 64 = .ok (.invokevirtual 60, 3) := by decide +kernel
theorem dX4_load_67 : decode cX4_load 67 = .ok (.return_, 1) := by decide +kernel
set_option maxRecDepth 20000 in
theorem ggX4_forgetIfStale_X2_timeOf : GoodIn wsX4_forgetIfStale wsX2_timeOf := goodIn_r _ [8, 9, 10, 25, 26, 27] (by decide +kernel) (by decide +kernel)
set_option maxRecDepth 20000 in
theorem gX4_forgetIfStale_X2_timeOf : GoodIn wsX4_forgetIfStale (wsV RX4 107 RX2 yX2_timeOf wsX2_timeOf) := goodIn_app (goodIn_of _ (by decide +kernel)) ggX4_forgetIfStale_X2_timeOf
set_option maxRecDepth 20000 in
theorem ggX4_forgetIfStale_X2_forget : GoodIn wsX4_forgetIfStale wsX2_forget := goodIn_r _ [14, 9, 25, 26, 27] (by decide +kernel) (by decide +kernel)
set_option maxRecDepth 20000 in
theorem gX4_forgetIfStale_X2_forget : GoodIn wsX4_forgetIfStale (wsV RX4 95 RX2 yX2_forget wsX2_forget) := goodIn_app (goodIn_of _ (by decide +kernel)) ggX4_forgetIfStale_X2_forget
theorem dX4_forgetIfStale_0 : decode cX4_forgetIfStale 0 = .ok (.aload_n 0, 1) := by decide +kernel
theorem dX4_forgetIfStale_1 : decode cX4_forgetIfStale 1 = .ok (.getfield 33, 3) := by decide +kernel
theorem dX4_forgetIfStale_4 : decode cX4_forgetIfStale 4 = .ok (.iload_n 1, 1) := by decide +kernel
theorem dX4_forgetIfStale_5 : decode cX4_forgetIfStale 5 = .ok (.iconst 1, 1) := by decide +kernel
theorem dX4_forgetIfStale_6 : decode cX4_forgetIfStale 6 = .ok (.invokevirtual 107, 3) := by decide +kernel
theorem dX4_forgetIfStale_9 : decode cX4_forgetIfStale 9 = .ok (.istore_n 2, 1) := by decide +kernel
theorem dX4_forgetIfStale_10 : decode cX4_forgetIfStale 10 = .ok (.iload_n 2, 1) := by decide +kernel
theorem dX4_forgetIfStale_11 : decode cX4_forgetIfStale 11 = .ok (.bipush (-9), 2) := by decide +kernel
theorem dX4_forgetIfStale_13 : decode cX4_forgetIfStale 13 = .ok (.if_icmp .eq 24, 3) := by decide +kernel
theorem dX4_forgetIfStale_16 : decode cX4_forgetIfStale 16 = .ok (.aload_n 0, 1) := by decide +kernel
theorem dX4_forgetIfStale_17 : decode cX4_forgetIfStale 17 = .ok (.getfield 111, 3) := by decide +kernel
theorem dX4_forgetIfStale_20 : decode cX4_forgetIfStale 20 = .ok (.iload_n 2, 1) := by decide +kernel
theorem dX4_forgetIfStale_21 : decode cX4_forgetIfStale 21 = .ok (.isub, 1) := by decide +kernel
theorem dX4_forgetIfStale_22 : decode cX4_forgetIfStale 22 = .ok (.aload_n 0, 1) := by decide +kernel
theorem dX4_forgetIfStale_23 : decode cX4_forgetIfStale 23 = .ok (.getfield 157, 3) := by decide +kernel
theorem dX4_forgetIfStale_26 : decode cX4_forgetIfStale 26 = .ok (.if_icmp .le 11, 3) := by decide +kernel
theorem dX4_forgetIfStale_29 : decode cX4_forgetIfStale 29 = .ok (.aload_n 0, 1) := by decide +kernel
theorem dX4_forgetIfStale_30 : decode cX4_forgetIfStale 30 = .ok (.getfield 33, 3) := by decide +kernel
theorem dX4_forgetIfStale_33 : decode cX4_forgetIfStale 33 = .ok (.iload_n 1, 1) := by decide +kernel
theorem dX4_forgetIfStale_34 : decode cX4_forgetIfStale 34 = .ok (.invokevirtual 95, 3) := by decide +kernel
theorem dX4_forgetIfStale_37 : decode cX4_forgetIfStale 37 = .ok (.return_, 1) := by decide +kernel
set_option maxRecDepth 20000 in
theorem ggX4_chooseVictim_X1_holds : GoodIn wsX4_chooseVictim wsX1_holds := goodIn_r _ [7, 8, 36, 37, 38, 39, 40, 41] (by decide +kernel) (by decide +kernel)
set_option maxRecDepth 20000 in
theorem gX4_chooseVictim_X1_holds : GoodIn wsX4_chooseVictim (wsV RX4 70 RX1 yX1_holds wsX1_holds) := goodIn_app (goodIn_of _ (by decide +kernel)) ggX4_chooseVictim_X1_holds
set_option maxRecDepth 20000 in
theorem ggX4_chooseVictim_X1_pinsOf : GoodIn wsX4_chooseVictim wsX1_pinsOf := goodIn_r _ [12, 13, 36, 37, 38, 39, 40, 41] (by decide +kernel) (by decide +kernel)
set_option maxRecDepth 20000 in
theorem gX4_chooseVictim_X1_pinsOf : GoodIn wsX4_chooseVictim (wsV RX4 64 RX1 yX1_pinsOf wsX1_pinsOf) := goodIn_app (goodIn_of _ (by decide +kernel)) ggX4_chooseVictim_X1_pinsOf
set_option maxRecDepth 20000 in
theorem ggX4_chooseVictim_X2_goesBefore : GoodIn wsX4_chooseVictim wsX2_goesBefore := goodIn_r _ [18, 19, 20, 21, 22, 23, 17, 24, 25, 42, 43, 44] (by decide +kernel) (by decide +kernel)
set_option maxRecDepth 20000 in
theorem gX4_chooseVictim_X2_goesBefore : GoodIn wsX4_chooseVictim (wsV RX4 190 RX2 yX2_goesBefore wsX2_goesBefore) := goodIn_app (goodIn_of _ (by decide +kernel)) ggX4_chooseVictim_X2_goesBefore
theorem dX4_chooseVictim_0 : decode cX4_chooseVictim 0 = .ok (.bipush (-9), 2) := by decide +kernel
theorem dX4_chooseVictim_2 : decode cX4_chooseVictim 2 = .ok (.istore_n 1, 1) := by decide +kernel
theorem dX4_chooseVictim_3 : decode cX4_chooseVictim 3 = .ok (.iconst 0, 1) := by decide +kernel
theorem dX4_chooseVictim_4 : decode cX4_chooseVictim 4 = .ok (.istore_n 2, 1) := by decide +kernel
theorem dX4_chooseVictim_5 : decode cX4_chooseVictim 5 = .ok (.iload_n 2, 1) := by decide +kernel
theorem dX4_chooseVictim_6 : decode cX4_chooseVictim 6 = .ok (.bipush 64, 2) := by decide +kernel
theorem dX4_chooseVictim_8 : decode cX4_chooseVictim 8 = .ok (.if_icmp .ge 51, 3) := by decide +kernel
theorem dX4_chooseVictim_11 : decode cX4_chooseVictim 11 = .ok (.aload_n 0, 1) := by decide +kernel
theorem dX4_chooseVictim_12 : decode cX4_chooseVictim 12 = .ok (.getfield 19, 3) := by decide +kernel
theorem dX4_chooseVictim_15 : decode cX4_chooseVictim 15 = .ok (.iload_n 2, 1) := by decide +kernel
theorem dX4_chooseVictim_16 : decode cX4_chooseVictim 16 = .ok (.invokevirtual 70, 3) := by decide +kernel
theorem dX4_chooseVictim_19 : decode cX4_chooseVictim 19 = .ok (.ifCond .eq 34, 3) := by decide +kernel
theorem dX4_chooseVictim_22 : decode cX4_chooseVictim 22 = .ok (.aload_n 0, 1) := by decide +kernel
theorem dX4_chooseVictim_23 : decode cX4_chooseVictim 23 = .ok (.getfield 19, 3) := by decide +kernel
theorem dX4_chooseVictim_26 : decode cX4_chooseVictim 26 = .ok (.iload_n 2, 1) := by decide +kernel
theorem dX4_chooseVictim_27 : decode cX4_chooseVictim 27 = .ok (.invokevirtual 64, 3) := by decide +kernel
theorem dX4_chooseVictim_30 : decode cX4_chooseVictim 30 = .ok (.ifCond .ne 23, 3) := by decide +kernel
theorem dX4_chooseVictim_33 : decode cX4_chooseVictim 33 = .ok (.iload_n 1, 1) := by decide +kernel
theorem dX4_chooseVictim_34 : decode cX4_chooseVictim 34 = .ok (.bipush (-9), 2) := by decide +kernel
theorem dX4_chooseVictim_36 : decode cX4_chooseVictim 36 = .ok (.if_icmp .eq 15, 3) := by decide +kernel
theorem dX4_chooseVictim_39 : decode cX4_chooseVictim 39 = .ok (.aload_n 0, 1) := by decide +kernel
theorem dX4_chooseVictim_40 : decode cX4_chooseVictim 40 = .ok (.getfield 33, 3) := by decide +kernel
theorem dX4_chooseVictim_43 : decode cX4_chooseVictim 43 = .ok (.iload_n 2, 1) := by decide +kernel
theorem dX4_chooseVictim_44 : decode cX4_chooseVictim 44 = .ok (.iload_n 1, 1) := by decide +kernel
theorem dX4_chooseVictim_45 : decode cX4_chooseVictim 45 = .ok (.invokevirtual 190, 3) := by decide +kernel
theorem dX4_chooseVictim_48 : decode cX4_chooseVictim 48 = .ok (.ifCond .eq 5, 3) := by decide +kernel
theorem dX4_chooseVictim_51 : decode cX4_chooseVictim 51 = .ok (.iload_n 2, 1) := by decide +kernel
theorem dX4_chooseVictim_52 : decode cX4_chooseVictim 52 = .ok (.istore_n 1, 1) := by decide +kernel
theorem dX4_chooseVictim_53 : decode cX4_chooseVictim 53 = .ok (.iinc 2 1, 3) := by decide +kernel
theorem dX4_chooseVictim_56 : decode cX4_chooseVictim 56 = .ok (.goto (-51), 3) := by decide +kernel
theorem dX4_chooseVictim_59 : decode cX4_chooseVictim 59 = .ok (.iload_n 1, 1) := by decide +kernel
theorem dX4_chooseVictim_60 : decode cX4_chooseVictim 60 = .ok (.ireturn, 1) := by decide +kernel
set_option maxRecDepth 20000 in
theorem ggX4_writeFrame_X1_valueOf : GoodIn wsX4_writeFrame wsX1_valueOf := goodIn_r _ [7, 8, 31, 32, 33, 34, 35, 36] (by decide +kernel) (by decide +kernel)
set_option maxRecDepth 20000 in
theorem gX4_writeFrame_X1_valueOf : GoodIn wsX4_writeFrame (wsV RX4 56 RX1 yX1_valueOf wsX1_valueOf) := goodIn_app (goodIn_of _ (by decide +kernel)) ggX4_writeFrame_X1_valueOf
set_option maxRecDepth 20000 in
theorem ggX4_writeFrame_X0_store : GoodIn wsX4_writeFrame wsX0_store := goodIn_r _ [13, 14, 15, 37, 38, 39] (by decide +kernel) (by decide +kernel)
set_option maxRecDepth 20000 in
theorem gX4_writeFrame_X0_store : GoodIn wsX4_writeFrame (wsV RX4 194 RX0 yX0_store wsX0_store) := goodIn_app (goodIn_of _ (by decide +kernel)) ggX4_writeFrame_X0_store
set_option maxRecDepth 20000 in
theorem ggX4_writeFrame_X1_markClean : GoodIn wsX4_writeFrame wsX1_markClean := goodIn_r _ [19, 20, 31, 32, 33, 34, 35, 36] (by decide +kernel) (by decide +kernel)
set_option maxRecDepth 20000 in
theorem gX4_writeFrame_X1_markClean : GoodIn wsX4_writeFrame (wsV RX4 197 RX1 yX1_markClean wsX1_markClean) := goodIn_app (goodIn_of _ (by decide +kernel)) ggX4_writeFrame_X1_markClean
theorem dX4_writeFrame_0 : decode cX4_writeFrame 0 = .ok (.aload_n 0, 1) := by decide +kernel
theorem dX4_writeFrame_1 : decode cX4_writeFrame 1 = .ok (.getfield 10, 3) := by decide +kernel
theorem dX4_writeFrame_4 : decode cX4_writeFrame 4 = .ok (.iload_n 1, 1) := by decide +kernel
theorem dX4_writeFrame_5 : decode cX4_writeFrame 5 = .ok (.aload_n 0, 1) := by decide +kernel
theorem dX4_writeFrame_6 : decode cX4_writeFrame 6 = .ok (.getfield 19, 3) := by decide +kernel
theorem dX4_writeFrame_9 : decode cX4_writeFrame 9 = .ok (.iload_n 1, 1) := by decide +kernel
theorem dX4_writeFrame_10 : decode cX4_writeFrame 10 = .ok (.invokevirtual 56, 3) := by decide +kernel
theorem dX4_writeFrame_13 : decode cX4_writeFrame 13 = .ok (.invokevirtual 194, 3) := by decide +kernel
theorem dX4_writeFrame_16 : decode cX4_writeFrame 16 = .ok (.aload_n 0, 1) := by decide +kernel
theorem dX4_writeFrame_17 : decode cX4_writeFrame 17 = .ok (.getfield 19, 3) := by decide +kernel
theorem dX4_writeFrame_20 : decode cX4_writeFrame 20 = .ok (.iload_n 1, 1) := by decide +kernel
theorem dX4_writeFrame_21 : decode cX4_writeFrame 21 = .ok (.invokevirtual 197, 3) := by decide +kernel
theorem dX4_writeFrame_24 : decode cX4_writeFrame 24 = .ok (.return_, 1) := by decide +kernel
set_option maxRecDepth 20000 in
theorem ggX4_writeOldest_X3_length : GoodIn wsX4_writeOldest wsX3_length := goodIn_r _ [10, 11, 53, 54, 55, 56] (by decide +kernel) (by decide +kernel)
set_option maxRecDepth 20000 in
theorem gX4_writeOldest_X3_length : GoodIn wsX4_writeOldest (wsV RX4 88 RX3 yX3_length wsX3_length) := goodIn_app (goodIn_of _ (by decide +kernel)) ggX4_writeOldest_X3_length
set_option maxRecDepth 20000 in
theorem ggX4_writeOldest_X4_writeEntry : GoodIn wsX4_writeOldest wsX4_writeEntry := goodIn_r _ [16, 1, 17, 18, 19, 20, 9, 21, 22, 23, 24, 25, 26, 11, 27, 28, 29, 30, 31, 32, 33, 34, 35, 36, 37, 38, 39, 40, 41, 42, 43, 44, 45, 46, 47, 48, 49, 50, 51, 52, 53, 54, 55, 56, 57, 58, 59] (by decide +kernel) (by decide +kernel)
set_option maxRecDepth 20000 in
theorem gX4_writeOldest_X4_writeEntry : GoodIn wsX4_writeOldest (wsV RX4 85 RX4 yX4_writeEntry wsX4_writeEntry) := goodIn_app (goodIn_of _ (by decide +kernel)) ggX4_writeOldest_X4_writeEntry
theorem dX4_writeOldest_0 : decode cX4_writeOldest 0 = .ok (.iload_n 1, 1) := by decide +kernel
theorem dX4_writeOldest_1 : decode cX4_writeOldest 1 = .ok (.aload_n 0, 1) := by decide +kernel
theorem dX4_writeOldest_2 : decode cX4_writeOldest 2 = .ok (.getfield 26, 3) := by decide +kernel
theorem dX4_writeOldest_5 : decode cX4_writeOldest 5 = .ok (.invokevirtual 88, 3) := by decide +kernel
theorem dX4_writeOldest_8 : decode cX4_writeOldest 8 = .ok (.invokestatic 200, 3) := by decide +kernel
theorem dX4_writeOldest_11 : decode cX4_writeOldest 11 = .ok (.istore_n 2, 1) := by decide +kernel
theorem dX4_writeOldest_12 : decode cX4_writeOldest 12 = .ok (.iconst 0, 1) := by decide +kernel
theorem dX4_writeOldest_13 : decode cX4_writeOldest 13 = .ok (.istore_n 3, 1) := by decide +kernel
theorem dX4_writeOldest_14 : decode cX4_writeOldest 14 = .ok (.iload_n 3, 1) := by decide +kernel
theorem dX4_writeOldest_15 : decode cX4_writeOldest 15 = .ok (.iload_n 2, 1) := by decide +kernel
theorem dX4_writeOldest_16 : decode cX4_writeOldest 16 = .ok (.if_icmp .ge 14, 3) := by decide +kernel
theorem dX4_writeOldest_19 : decode cX4_writeOldest 19 = .ok (.aload_n 0, 1) := by decide +kernel
theorem dX4_writeOldest_20 : decode cX4_writeOldest 20 = .ok (.iconst 0, 1) := by decide +kernel
theorem dX4_writeOldest_21 : decode cX4_writeOldest 21 = .ok (.invokevirtual 85, 3) := by decide +kernel
theorem dX4_writeOldest_24 : decode cX4_writeOldest 24 = .ok (.iinc 3 1, 3) := by decide +kernel
theorem dX4_writeOldest_27 : decode cX4_writeOldest 27 = .ok (.goto (-13), 3) := by decide +kernel
theorem dX4_writeOldest_30 : decode cX4_writeOldest 30 = .ok (.iload_n 2, 1) := by decide +kernel
theorem dX4_writeOldest_31 : decode cX4_writeOldest 31 = .ok (.ireturn, 1) := by decide +kernel
set_option maxRecDepth 20000 in
theorem ggX4_writeEntry_X3_pageAt : GoodIn wsX4_writeEntry wsX3_pageAt := goodIn_r _ [7, 8, 9, 10, 11, 6, 12, 13, 40, 41, 42, 43] (by decide +kernel) (by decide +kernel)
set_option maxRecDepth 20000 in
theorem gX4_writeEntry_X3_pageAt : GoodIn wsX4_writeEntry (wsV RX4 125 RX3 yX3_pageAt wsX3_pageAt) := goodIn_app (goodIn_of _ (by decide +kernel)) ggX4_writeEntry_X3_pageAt
set_option maxRecDepth 20000 in
theorem ggX4_writeEntry_X3_valueAt : GoodIn wsX4_writeEntry wsX3_valueAt := goodIn_r _ [17, 18, 9, 10, 11, 6, 12, 13, 40, 41, 42, 43] (by decide +kernel) (by decide +kernel)
set_option maxRecDepth 20000 in
theorem gX4_writeEntry_X3_valueAt : GoodIn wsX4_writeEntry (wsV RX4 126 RX3 yX3_valueAt wsX3_valueAt) := goodIn_app (goodIn_of _ (by decide +kernel)) ggX4_writeEntry_X3_valueAt
set_option maxRecDepth 20000 in
theorem ggX4_writeEntry_X0_store : GoodIn wsX4_writeEntry wsX0_store := goodIn_r _ [23, 24, 25, 44, 45, 46] (by decide +kernel) (by decide +kernel)
set_option maxRecDepth 20000 in
theorem gX4_writeEntry_X0_store : GoodIn wsX4_writeEntry (wsV RX4 194 RX0 yX0_store wsX0_store) := goodIn_app (goodIn_of _ (by decide +kernel)) ggX4_writeEntry_X0_store
set_option maxRecDepth 20000 in
theorem ggX4_writeEntry_X3_removeAt : GoodIn wsX4_writeEntry wsX3_removeAt := goodIn_r _ [29, 13, 8, 18, 9, 10, 11, 6, 12, 40, 41, 42, 43] (by decide +kernel) (by decide +kernel)
set_option maxRecDepth 20000 in
theorem gX4_writeEntry_X3_removeAt : GoodIn wsX4_writeEntry (wsV RX4 101 RX3 yX3_removeAt wsX3_removeAt) := goodIn_app (goodIn_of _ (by decide +kernel)) ggX4_writeEntry_X3_removeAt
theorem dX4_writeEntry_0 : decode cX4_writeEntry 0 = .ok (.aload_n 0, 1) := by decide +kernel
theorem dX4_writeEntry_1 : decode cX4_writeEntry 1 = .ok (.getfield 26, 3) := by decide +kernel
theorem dX4_writeEntry_4 : decode cX4_writeEntry 4 = .ok (.iload_n 1, 1) := by decide +kernel
theorem dX4_writeEntry_5 : decode cX4_writeEntry 5 = .ok (.invokevirtual 125, 3) := by decide +kernel
theorem dX4_writeEntry_8 : decode cX4_writeEntry 8 = .ok (.istore_n 2, 1) := by decide +kernel
theorem dX4_writeEntry_9 : decode cX4_writeEntry 9 = .ok (.iload_n 2, 1) := by decide +kernel
theorem dX4_writeEntry_10 : decode cX4_writeEntry 10 = .ok (.bipush (-9), 2) := by decide +kernel
theorem dX4_writeEntry_12 : decode cX4_writeEntry 12 = .ok (.if_icmp .ne 4, 3) := by decide +kernel
theorem dX4_writeEntry_15 : decode cX4_writeEntry 15 = .ok (.return_, 1) := by decide +kernel
theorem dX4_writeEntry_16 : decode cX4_writeEntry 16 = .ok (.aload_n 0, 1) := by decide +kernel
theorem dX4_writeEntry_17 : decode cX4_writeEntry 17 = .ok (.getfield 10, 3) := by decide +kernel
theorem dX4_writeEntry_20 : decode cX4_writeEntry 20 = .ok (.iload_n 2, 1) := by decide +kernel
theorem dX4_writeEntry_21 : decode cX4_writeEntry 21 = .ok (.aload_n 0, 1) := by decide +kernel
theorem dX4_writeEntry_22 : decode cX4_writeEntry 22 = .ok (.getfield 26, 3) := by decide +kernel
theorem dX4_writeEntry_25 : decode cX4_writeEntry 25 = .ok (.iload_n 1, 1) := by decide +kernel
theorem dX4_writeEntry_26 : decode cX4_writeEntry 26 = .ok (.invokevirtual 126, 3) := by decide +kernel
theorem dX4_writeEntry_29 : decode cX4_writeEntry 29 = .ok (.invokevirtual 194, 3) := by decide +kernel
theorem dX4_writeEntry_32 : decode cX4_writeEntry 32 = .ok (.aload_n 0, 1) := by decide +kernel
theorem dX4_writeEntry_33 : decode cX4_writeEntry 33 = .ok (.getfield 26, 3) := by decide +kernel
theorem dX4_writeEntry_36 : decode cX4_writeEntry 36 = .ok (.iload_n 1, 1) := by decide +kernel
theorem dX4_writeEntry_37 : decode cX4_writeEntry 37 = .ok (.invokevirtual 101, 3) := by decide +kernel
theorem dX4_writeEntry_40 : decode cX4_writeEntry 40 = .ok (.return_, 1) := by decide +kernel
