set_option maxRecDepth 20000 in
theorem ggX5_init_X5_reset : GoodIn wsX5_init wsX5_reset := goodIn_r _ [19, 20, 21, 22, 23, 24, 25, 26, 27, 28, 29, 30, 31, 5, 9, 12, 32, 33, 18, 34, 35, 36, 37, 38, 39, 40, 41, 42, 43, 44, 45, 46, 47, 48, 49, 50, 51, 52, 53, 54, 55] (by decide +kernel) (by decide +kernel)
set_option maxRecDepth 20000 in
theorem gX5_init_X5_reset : GoodIn wsX5_init (wsV RX5 38 RX5 yX5_reset wsX5_reset) := goodIn_app (goodIn_of _ (by decide +kernel)) ggX5_init_X5_reset
theorem dX5_init_0 : decode cX5_init 0 = .ok (.aload_n 0, 1) := by decide +kernel
theorem dX5_init_1 : decode cX5_init 1 = .ok (.invokespecial 1, 3) := by decide +kernel
theorem dX5_init_4 : decode cX5_init 4 = .ok (.aload_n 0, 1) := by decide +kernel
theorem dX5_init_5 : decode cX5_init 5 = .ok (.bipush 64, 2) := by decide +kernel
theorem dX5_init_7 : decode cX5_init 7 = .ok (.newarray .int, 2) := by decide +kernel
theorem dX5_init_9 : decode cX5_init 9 = .ok (.putfield 7, 3) := by decide +kernel
theorem dX5_init_12 : decode cX5_init 12 = .ok (.aload_n 0, 1) := by decide +kernel
theorem dX5_init_13 : decode cX5_init 13 = .ok (.bipush 64, 2) := by decide +kernel
theorem dX5_init_15 : decode cX5_init 15 = .ok (.newarray .int, 2) := by decide +kernel
theorem dX5_init_17 : decode cX5_init 17 = .ok (.putfield 13, 3) := by decide +kernel
theorem dX5_init_20 : decode cX5_init 20 = .ok (.aload_n 0, 1) := by decide +kernel
theorem dX5_init_21 : decode cX5_init 21 = .ok (.bipush 64, 2) := by decide +kernel
theorem dX5_init_23 : decode cX5_init 23 = .ok (.newarray .int, 2) := by decide +kernel
theorem dX5_init_25 : decode cX5_init 25 = .ok (.putfield 16, 3) := by decide +kernel
theorem dX5_init_28 : decode cX5_init 28 = .ok (.aload_n 0, 1) := by decide +kernel
theorem dX5_init_29 : decode cX5_init 29 = .ok (.bipush 64, 2) := by decide +kernel
theorem dX5_init_31 : decode cX5_init 31 = .ok (.newarray .boolean, 2) := by decide +kernel
theorem dX5_init_33 : decode cX5_init 33 = .ok (.putfield 19, 3) := by decide +kernel
theorem dX5_init_36 : decode cX5_init 36 = .ok (.aload_n 0, 1) := by decide +kernel
theorem dX5_init_37 : decode cX5_init 37 = .ok (.bipush 64, 2) := by decide +kernel
theorem dX5_init_39 : decode cX5_init 39 = .ok (.newarray .boolean, 2) := by decide +kernel
theorem dX5_init_41 : decode cX5_init 41 = .ok (.putfield 23, 3) := by decide +kernel
theorem dX5_init_44 : decode cX5_init 44 = .ok (.aload_n 0, 1) := by decide +kernel
theorem dX5_init_45 : decode cX5_init 45 = .ok (.sipush 192, 3) := by decide +kernel
theorem dX5_init_48 : decode cX5_init 48 = .ok (.newarray .int, 2) := by decide +kernel
theorem dX5_init_50 : decode cX5_init 50 = .ok (.putfield 26, 3) := by decide +kernel
theorem dX5_init_53 : decode cX5_init 53 = .ok (.aload_n 0, 1) := by decide +kernel
theorem dX5_init_54 : decode cX5_init 54 = .ok (.bipush 64, 2) := by decide +kernel
theorem dX5_init_56 : decode cX5_init 56 = .ok (.newarray .int, 2) := by decide +kernel
theorem dX5_init_58 : decode cX5_init 58 = .ok (.putfield 29, 3) := by decide +kernel
theorem dX5_init_61 : decode cX5_init 61 = .ok (.aload_n 0, 1) := by decide +kernel
theorem dX5_init_62 : decode cX5_init 62 = .ok (.bipush 8, 2) := by decide +kernel
theorem dX5_init_64 : decode cX5_init 64 = .ok (.newarray .int, 2) := by decide +kernel
theorem dX5_init_66 : decode cX5_init 66 = .ok (.putfield 32, 3) := by decide +kernel
theorem dX5_init_69 : decode cX5_init 69 = .ok (.aload_n 0, 1) := by decide +kernel
theorem dX5_init_70 : decode cX5_init 70 = .ok (.bipush 8, 2) := by decide +kernel
theorem dX5_init_72 : decode cX5_init 72 = .ok (.newarray .int, 2) := by decide +kernel
theorem dX5_init_74 : decode cX5_init 74 = .ok (.putfield 35, 3) := by decide +kernel
theorem dX5_init_77 : decode cX5_init 77 = .ok (.aload_n 0, 1) := by decide +kernel
theorem dX5_init_78 : decode cX5_init 78 = .ok (.iconst 4, 1) := by decide +kernel
theorem dX5_init_79 : decode cX5_init 79 = .ok (.iconst 2, 1) := by decide +kernel
theorem dX5_init_80 : decode cX5_init 80 = .ok (.iconst 3, 1) := by decide +kernel
theorem dX5_init_81 : decode cX5_init 81 = .ok (.bipush 100, 2) := by decide +kernel
theorem dX5_init_83 : decode cX5_init 83 = .ok (.invokevirtual 38, 3) := by decide +kernel
theorem dX5_init_86 : decode cX5_init 86 = .ok (.istore_n 1, 1) := by decide +kernel
theorem dX5_init_87 : decode cX5_init 87 = .ok (.return_, 1) := by decide +kernel
theorem dX5_isFrom_0 : decode cX5_isFrom 0 = .ok (.iload_n 0, 1) := by decide +kernel
theorem dX5_isFrom_1 : decode cX5_isFrom 1 = .ok (.iload_n 1, 1) := by decide +kernel
theorem dX5_isFrom_2 : decode cX5_isFrom 2 = .ok (.if_icmp .lt 12, 3) := by decide +kernel
theorem dX5_isFrom_5 : decode cX5_isFrom 5 = .ok (.iload_n 0, 1) := by decide +kernel
theorem dX5_isFrom_6 : decode cX5_isFrom 6 = .ok (.iload_n 2, 1) := by decide +kernel
theorem dX5_isFrom_7 : decode cX5_isFrom 7 = .ok (.if_icmp .gt 7, 3) := by decide +kernel
theorem dX5_isFrom_10 : decode cX5_isFrom 10 = .ok (.iconst 1, 1) := by decide +kernel
theorem dX5_isFrom_11 : decode cX5_isFrom 11 = .ok (.goto 4, 3) := by decide +kernel
theorem dX5_isFrom_14 : decode cX5_isFrom 14 = .ok (.iconst 0, 1) := by decide +kernel
theorem dX5_isFrom_15 : decode cX5_isFrom 15 = .ok (.ireturn, 1) := by decide +kernel
set_option maxRecDepth 20000 in
theorem ggX5_isPage_X5_isFrom : GoodIn wsX5_isPage wsX5_isFrom := goodIn_r _ [4] (by decide +kernel) (by decide +kernel)
set_option maxRecDepth 20000 in
theorem gX5_isPage_X5_isFrom : GoodIn wsX5_isPage (va_wsS RX5 42 yX5_isFrom wsX5_isFrom) := goodIn_app (goodIn_of _ (by decide +kernel)) ggX5_isPage_X5_isFrom
theorem dX5_isPage_0 : decode cX5_isPage 0 = .ok (.iload_n 0, 1) := by decide +kernel
theorem dX5_isPage_1 : decode cX5_isPage 1 = .ok (.iconst 0, 1) := by decide +kernel
theorem dX5_isPage_2 : decode cX5_isPage 2 = .ok (.bipush 63, 2) := by decide +kernel
theorem dX5_isPage_4 : decode cX5_isPage 4 = .ok (.invokestatic 42, 3) := by decide +kernel
theorem dX5_isPage_7 : decode cX5_isPage 7 = .ok (.ireturn, 1) := by decide +kernel
set_option maxRecDepth 20000 in
theorem ggX5_reset_X5_isFrom : GoodIn wsX5_reset wsX5_isFrom := goodIn_r _ [19] (by decide +kernel) (by decide +kernel)
set_option maxRecDepth 20000 in
theorem gX5_reset_X5_isFrom : GoodIn wsX5_reset (va_wsS RX5 42 yX5_isFrom wsX5_isFrom) := goodIn_app (goodIn_of _ (by decide +kernel)) ggX5_reset_X5_isFrom
theorem dX5_reset_0 : decode cX5_reset 0 = .ok (.iload_n 1, 1) := by decide +kernel
theorem dX5_reset_1 : decode cX5_reset 1 = .ok (.iconst 1, 1) := by decide +kernel
theorem dX5_reset_2 : decode cX5_reset 2 = .ok (.bipush 16, 2) := by decide +kernel
theorem dX5_reset_4 : decode cX5_reset 4 = .ok (.invokestatic 42, 3) := by decide +kernel
theorem dX5_reset_7 : decode cX5_reset 7 = .ok (.ifCond .eq 12, 3) := by decide +kernel
theorem dX5_reset_10 : decode cX5_reset 10 = .ok (.iload_n 2, 1) := by decide +kernel
theorem dX5_reset_11 : decode cX5_reset 11 = .ok (.iconst 1, 1) := by decide +kernel
theorem dX5_reset_12 : decode cX5_reset 12 = .ok (.iconst 3, 1) := by decide +kernel
theorem dX5_reset_13 : decode cX5_reset 13 = .ok (.invokestatic 42, 3) := by decide +kernel
theorem dX5_reset_16 : decode cX5_reset 16 = .ok (.ifCond .ne 6, 3) := by decide +kernel
theorem dX5_reset_19 : decode cX5_reset 19 = .ok (.bipush (-8), 2) := by decide +kernel
theorem dX5_reset_21 : decode cX5_reset 21 = .ok (.ireturn, 1) := by decide +kernel
theorem dX5_reset_22 : decode cX5_reset 22 = .ok (.iload_n 3, 1) := by decide +kernel
theorem dX5_reset_23 : decode cX5_reset 23 = .ok (.iconst 1, 1) := by decide +kernel
theorem dX5_reset_24 : decode cX5_reset 24 = .ok (.bipush 8, 2) := by decide +kernel
theorem dX5_reset_26 : decode cX5_reset 26 = .ok (.invokestatic 42, 3) := by decide +kernel
theorem dX5_reset_29 : decode cX5_reset 29 = .ok (.ifCond .eq 15, 3) := by decide +kernel
theorem dX5_reset_32 : decode cX5_reset 32 = .ok (.iload 4, 2) := by decide +kernel
theorem dX5_reset_34 : decode cX5_reset 34 = .ok (.iconst 0, 1) := by decide +kernel
theorem dX5_reset_35 : decode cX5_reset 35 = .ok (.sipush 9999, 3) := by decide +kernel
theorem dX5_reset_38 : decode cX5_reset 38 = .ok (.invokestatic 42, 3) := by decide +kernel
theorem dX5_reset_41 : decode cX5_reset 41 = .ok (.ifCond .ne 6, 3) := by decide +kernel
theorem dX5_reset_44 : decode cX5_reset 44 = .ok (.bipush (-8), 2) := by decide +kernel
theorem dX5_reset_46 : decode cX5_reset 46 = .ok (.ireturn, 1) := by decide +kernel
theorem dX5_reset_47 : decode cX5_reset 47 = .ok (.aload_n 0, 1) := by decide +kernel
theorem dX5_reset_48 : decode cX5_reset 48 = .ok (.iload_n 1, 1) := by decide +kernel
theorem dX5_reset_49 : decode cX5_reset 49 = .ok (.putfield 46, 3) := by decide +kernel
theorem dX5_reset_52 : decode cX5_reset 52 = .ok (.aload_n 0, 1) := by decide +kernel
theorem dX5_reset_53 : decode cX5_reset 53 = .ok (.iload_n 2, 1) := by decide +kernel
theorem dX5_reset_54 : decode cX5_reset 54 = .ok (.putfield 50, 3) := by decide +kernel
theorem dX5_reset_57 : decode cX5_reset 57 = .ok (.aload_n 0, 1) := by decide +kernel
theorem dX5_reset_58 : decode cX5_reset 58 = .ok (.iload_n 3, 1) := by decide +kernel
theorem dX5_reset_59 : decode cX5_reset 59 = .ok (.putfield 53, 3) := by decide +kernel
theorem dX5_reset_62 : decode cX5_reset 62 = .ok (.aload_n 0, 1) := by decide +kernel
theorem dX5_reset_63 : decode cX5_reset 63 = .ok (.iload 4, 2) := by decide +kernel
theorem dX5_reset_65 : decode cX5_reset 65 = .ok (.putfield 56, 3) := by decide +kernel
theorem dX5_reset_68 : decode cX5_reset 68 = .ok (.aload_n 0, 1) := by decide +kernel
theorem dX5_reset_69 : decode cX5_reset 69 = .ok (.iconst 0, 1) := by decide +kernel
theorem dX5_reset_70 : decode cX5_reset 70 = .ok (.putfield 59, 3) := by decide +kernel
theorem dX5_reset_73 : decode cX5_reset 73 = .ok (.aload_n 0, 1) := by decide +kernel
theorem dX5_reset_74 : decode cX5_reset 74 = .ok (.iconst 0, 1) := by decide +kernel
theorem dX5_reset_75 : decode cX5_reset 75 = .ok (.putfield 62, 3) := by decide +kernel
theorem dX5_reset_78 : decode cX5_reset 78 = .ok (.aload_n 0, 1) := by decide +kernel
theorem dX5_reset_79 : decode cX5_reset 79 = .ok (.iconst 0, 1) := by decide +kernel
theorem dX5_reset_80 : decode cX5_reset 80 = .ok (.putfield 65, 3) := by decide +kernel
theorem dX5_reset_83 : decode cX5_reset 83 = .ok (.aload_n 0, 1) := by decide +kernel
theorem dX5_reset_84 : decode cX5_reset 84 = .ok (.iconst 0, 1) := by decide +kernel
theorem dX5_reset_85 : decode cX5_reset 85 = .ok (.putfield 68, 3) := by decide +kernel
theorem dX5_reset_88 : decode cX5_reset 88 = .ok (.aload_n 0, 1) := by decide +kernel
theorem dX5_reset_89 : decode cX5_reset 89 = .ok (.iconst 0, 1) := by decide +kernel
theorem dX5_reset_90 : decode cX5_reset 90 = .ok (.putfield 71, 3) := by decide +kernel
theorem dX5_reset_93 : decode cX5_reset 93 = .ok (.aload_n 0, 1) := by decide +kernel
theorem dX5_reset_94 : decode cX5_reset 94 = .ok (.iconst 0, 1) := by decide +kernel
theorem dX5_reset_95 : decode cX5_reset 95 = .ok (.putfield 74, 3) := by decide +kernel
theorem dX5_reset_98 : decode cX5_reset 98 = .ok (.aload_n 0, 1) := by decide +kernel
theorem dX5_reset_99 : decode cX5_reset 99 = .ok (.iconst 0, 1) := by decide +kernel
theorem dX5_reset_100 : decode cX5_reset 100 = .ok (.putfield 77, 3) := by decide +kernel
theorem dX5_reset_103 : decode cX5_reset 103 = .ok (.aload_n 0, 1) := by decide +kernel
theorem dX5_reset_104 : decode cX5_reset 104 = .ok (.iconst 0, 1) := by decide +kernel
theorem dX5_reset_105 : decode cX5_reset 105 = .ok (.putfield 80, 3) := by decide +kernel
theorem dX5_reset_108 : decode cX5_reset 108 = .ok (.iconst 0, 1) := by decide +kernel
theorem dX5_reset_109 : decode cX5_reset 109 = .ok (.istore 5, 2) := by decide +kernel
theorem dX5_reset_111 : decode cX5_reset 111 = .ok (.iload 5, 2) := by decide +kernel
theorem dX5_reset_113 : decode cX5_reset 113 = .ok (.bipush 64, 2) := by decide +kernel
theorem dX5_reset_115 : decode cX5_reset 115 = .ok (.if_icmp .ge 33, 3) := by decide +kernel
theorem dX5_reset_118 : decode cX5_reset 118 = .ok (.aload_n 0, 1) := by decide +kernel
theorem dX5_reset_119 : decode cX5_reset 119 = .ok (.getfield 7, 3) := by decide +kernel
theorem dX5_reset_122 : decode cX5_reset 122 = .ok (.iload 5, 2) := by decide +kernel
theorem dX5_reset_124 : decode cX5_reset 124 = .ok (.iconst 0, 1) := by decide +kernel
theorem dX5_reset_125 : decode cX5_reset 125 = .ok (.iastore, 1) := by decide +kernel
theorem dX5_reset_126 : decode cX5_reset 126 = .ok (.aload_n 0, 1) := by decide +kernel
theorem dX5_reset_127 : decode cX5_reset 127 = .ok (.getfield 19, 3) := by decide +kernel
theorem dX5_reset_130 : decode cX5_reset 130 = .ok (.iload 5, 2) := by decide +kernel
theorem dX5_reset_132 : decode cX5_reset 132 = .ok (.iconst 0, 1) := by decide +kernel
theorem dX5_reset_133 : decode cX5_reset 133 = .ok (.bastore, 1) := by decide +kernel
theorem dX5_reset_134 : decode cX5_reset 134 = .ok (.aload_n 0, 1) := by decide +kernel
theorem dX5_reset_135 : decode cX5_reset 135 = .ok (.getfield 29, 3) := by decide +kernel
theorem dX5_reset_138 : decode cX5_reset 138 = .ok (.iload 5, 2) := by decide +kernel
theorem dX5_reset_140 : decode cX5_reset 140 = .ok (.iconst 0, 1) := by decide +kernel
theorem dX5_reset_141 : decode cX5_reset 141 = .ok (.iastore, 1) := by decide +kernel
theorem dX5_reset_142 : decode cX5_reset 142 = .ok (.iinc 5 1, 3) := by decide +kernel
theorem dX5_reset_145 : decode cX5_reset 145 = .ok (.goto (-34), 3) := by decide +kernel
theorem dX5_reset_148 : decode cX5_reset 148 = .ok (.iconst 0, 1) := by decide +kernel
theorem dX5_reset_149 : decode cX5_reset 149 = .ok (.ireturn, 1) := by decide +kernel
theorem dX5_time_0 : decode cX5_time 0 = .ok (.aload_n 0, 1) := by decide +kernel
theorem dX5_time_1 : decode cX5_time 1 = .ok (.getfield 26, 3) := by decide +kernel
theorem dX5_time_4 : decode cX5_time 4 = .ok (.iconst 3, 1) := by decide +kernel
theorem dX5_time_5 : decode cX5_time 5 = .ok (.iload_n 1, 1) := by decide +kernel
theorem dX5_time_6 : decode cX5_time 6 = .ok (.imul, 1) := by decide +kernel
theorem dX5_time_7 : decode cX5_time 7 = .ok (.iload_n 2, 1) := by decide +kernel
theorem dX5_time_8 : decode cX5_time 8 = .ok (.iadd, 1) := by decide +kernel
theorem dX5_time_9 : decode cX5_time 9 = .ok (.iconst 1, 1) := by decide +kernel
theorem dX5_time_10 : decode cX5_time 10 = .ok (.isub, 1) := by decide +kernel
theorem dX5_time_11 : decode cX5_time 11 = .ok (.iaload, 1) := by decide +kernel
theorem dX5_time_12 : decode cX5_time 12 = .ok (.ireturn, 1) := by decide +kernel
set_option maxRecDepth 20000 in
theorem ggX5_record_X5_time : GoodIn wsX5_record wsX5_time := goodIn_r _ [11, 6, 12, 13, 14, 15, 16, 17, 18, 19, 20, 21, 22, 23, 24, 25, 26, 27, 28, 29, 30, 31, 32] (by decide +kernel) (by decide +kernel)
set_option maxRecDepth 20000 in
theorem gX5_record_X5_time : GoodIn wsX5_record (wsV RX5 83 RX5 yX5_time wsX5_time) := goodIn_app (goodIn_of _ (by decide +kernel)) ggX5_record_X5_time
theorem dX5_record_0 : decode cX5_record 0 = .ok (.aload_n 0, 1) := by decide +kernel
theorem dX5_record_1 : decode cX5_record 1 = .ok (.dup, 1) := by decide +kernel
theorem dX5_record_2 : decode cX5_record 2 = .ok (.getfield 59, 3) := by decide +kernel
theorem dX5_record_5 : decode cX5_record 5 = .ok (.iconst 1, 1) := by decide +kernel
theorem dX5_record_6 : decode cX5_record 6 = .ok (.iadd, 1) := by decide +kernel
theorem dX5_record_7 : decode cX5_record 7 = .ok (.putfield 59, 3) := by decide +kernel
theorem dX5_record_10 : decode cX5_record 10 = .ok (.aload_n 0, 1) := by decide +kernel
theorem dX5_record_11 : decode cX5_record 11 = .ok (.getfield 19, 3) := by decide +kernel
theorem dX5_record_14 : decode cX5_record 14 = .ok (.iload_n 1, 1) := by decide +kernel
theorem dX5_record_15 : decode cX5_record 15 = .ok (.baload, 1) := by decide +kernel
theorem dX5_record_16 : decode cX5_record 16 = .ok (.ifCond .ne 37, 3) := by decide +kernel
theorem dX5_record_19 : decode cX5_record 19 = .ok (.aload_n 0, 1) := by decide +kernel
theorem dX5_record_20 : decode cX5_record 20 = .ok (.getfield 29, 3) := by decide +kernel
theorem dX5_record_23 : decode cX5_record 23 = .ok (.iload_n 1, 1) := by decide +kernel
theorem dX5_record_24 : decode cX5_record 24 = .ok (.iaload, 1) := by decide +kernel
theorem dX5_record_25 : decode cX5_record 25 = .ok (.ifCond .le 28, 3) := by decide +kernel
theorem dX5_record_28 : decode cX5_record 28 = .ok (.aload_n 0, 1) := by decide +kernel
theorem dX5_record_29 : decode cX5_record 29 = .ok (.getfield 59, 3) := by decide +kernel
theorem dX5_record_32 : decode cX5_record 32 = .ok (.aload_n 0, 1) := by decide +kernel
theorem dX5_record_33 : decode cX5_record 33 = .ok (.iload_n 1, 1) := by decide +kernel
theorem dX5_record_34 : decode cX5_record 34 = .ok (.iconst 1, 1) := by decide +kernel
theorem dX5_record_35 : decode cX5_record 35 = .ok (.invokevirtual 83, 3) := by decide +kernel
theorem dX5_record_38 : decode cX5_record 38 = .ok (.isub, 1) := by decide +kernel
theorem dX5_record_39 : decode cX5_record 39 = .ok (.aload_n 0, 1) := by decide +kernel
theorem dX5_record_40 : decode cX5_record 40 = .ok (.getfield 56, 3) := by decide +kernel
theorem dX5_record_43 : decode cX5_record 43 = .ok (.if_icmp .le 10, 3) := by decide +kernel
theorem dX5_record_46 : decode cX5_record 46 = .ok (.aload_n 0, 1) := by decide +kernel
theorem dX5_record_47 : decode cX5_record 47 = .ok (.getfield 29, 3) := by decide +kernel
theorem dX5_record_50 : decode cX5_record 50 = .ok (.iload_n 1, 1) := by decide +kernel
theorem dX5_record_51 : decode cX5_record 51 = .ok (.iconst 0, 1) := by decide +kernel
theorem dX5_record_52 : decode cX5_record 52 = .ok (.iastore, 1) := by decide +kernel
theorem dX5_record_53 : decode cX5_record 53 = .ok (.aload_n 0, 1) := by decide +kernel
theorem dX5_record_54 : decode cX5_record 54 = .ok (.getfield 50, 3) := by decide +kernel
theorem dX5_record_57 : decode cX5_record 57 = .ok (.istore_n 2, 1) := by decide +kernel
theorem dX5_record_58 : decode cX5_record 58 = .ok (.iload_n 2, 1) := by decide +kernel
theorem dX5_record_59 : decode cX5_record 59 = .ok (.iconst 1, 1) := by decide +kernel
theorem dX5_record_60 : decode cX5_record 60 = .ok (.if_icmp .le 33, 3) := by decide +kernel
theorem dX5_record_63 : decode cX5_record 63 = .ok (.aload_n 0, 1) := by decide +kernel
theorem dX5_record_64 : decode cX5_record 64 = .ok (.getfield 26, 3) := by decide +kernel
theorem dX5_record_67 : decode cX5_record 67 = .ok (.iconst 3, 1) := by decide +kernel
theorem dX5_record_68 : decode cX5_record 68 = .ok (.iload_n 1, 1) := by decide +kernel
theorem dX5_record_69 : decode cX5_record 69 = .ok (.imul, 1) := by decide +kernel
theorem dX5_record_70 : decode cX5_record 70 = .ok (.iload_n 2, 1) := by decide +kernel
theorem dX5_record_71 : decode cX5_record 71 = .ok (.iadd, 1) := by decide +kernel
theorem dX5_record_72 : decode cX5_record 72 = .ok (.iconst 1, 1) := by decide +kernel
theorem dX5_record_73 : decode cX5_record 73 = .ok (.isub, 1) := by decide +kernel
theorem dX5_record_74 : decode cX5_record 74 = .ok (.aload_n 0, 1) := by decide +kernel
theorem dX5_record_75 : decode cX5_record 75 = .ok (.getfield 26, 3) := by decide +kernel
theorem dX5_record_78 : decode cX5_record 78 = .ok (.iconst 3, 1) := by decide +kernel
theorem dX5_record_79 : decode cX5_record 79 = .ok (.iload_n 1, 1) := by decide +kernel
theorem dX5_record_80 : decode cX5_record 80 = .ok (.imul, 1) := by decide +kernel
theorem dX5_record_81 : decode cX5_record 81 = .ok (.iload_n 2, 1) := by decide +kernel
theorem dX5_record_82 : decode cX5_record 82 = .ok (.iadd, 1) := by decide +kernel
theorem dX5_record_83 : decode cX5_record 83 = .ok (.iconst 2, 1) := by decide +kernel
theorem dX5_record_84 : decode cX5_record 84 = .ok (.isub, 1) := by decide +kernel
theorem dX5_record_85 : decode cX5_record 85 = .ok (.iaload, 1) := by decide +kernel
theorem dX5_record_86 : decode cX5_record 86 = .ok (.iastore, 1) := by decide +kernel
theorem dX5_record_87 : decode cX5_record 87 = .ok (.iinc 2 (-1), 3) := by decide +kernel
theorem dX5_record_90 : decode cX5_record 90 = .ok (.goto (-32), 3) := by decide +kernel
theorem dX5_record_93 : decode cX5_record 93 = .ok (.aload_n 0, 1) := by decide +kernel
theorem dX5_record_94 : decode cX5_record 94 = .ok (.getfield 26, 3) := by decide +kernel
theorem dX5_record_97 : decode cX5_record 97 = .ok (.iconst 3, 1) := by decide +kernel
theorem dX5_record_98 : decode cX5_record 98 = .ok (.iload_n 1, 1) := by decide +kernel
theorem dX5_record_99 : decode cX5_record 99 = .ok (.imul, 1) := by decide +kernel
theorem dX5_record_100 : decode cX5_record 100 = .ok (.aload_n 0, 1) := by decide +kernel
theorem dX5_record_101 : decode cX5_record 101 = .ok (.getfield 59, 3) := by decide +kernel
theorem dX5_record_104 : decode cX5_record 104 = .ok (.iastore, 1) := by decide +kernel
theorem dX5_record_105 : decode cX5_record 105 = .ok (.aload_n 0, 1) := by decide +kernel
theorem dX5_record_106 : decode cX5_record 106 = .ok (.getfield 29, 3) := by decide +kernel
theorem dX5_record_109 : decode cX5_record 109 = .ok (.iload_n 1, 1) := by decide +kernel
theorem dX5_record_110 : decode cX5_record 110 = .ok (.iaload, 1) := by decide +kernel
theorem dX5_record_111 : decode cX5_record 111 = .ok (.aload_n 0, 1) := by decide +kernel
theorem dX5_record_112 : decode cX5_record 112 = .ok (.getfield 50, 3) := by decide +kernel
theorem dX5_record_115 : decode cX5_record 115 = .ok (.if_icmp .ge 13, 3) := by decide +kernel
theorem dX5_record_118 : decode cX5_record 118 = .ok (.aload_n 0, 1) := by decide +kernel
theorem dX5_record_119 : decode cX5_record 119 = .ok (.getfield 29, 3) := by decide +kernel
theorem dX5_record_122 : decode cX5_record 122 = .ok (.iload_n 1, 1) := by decide +kernel
theorem dX5_record_123 : decode cX5_record 123 = .ok (.dup2, 1) := by decide +kernel
theorem dX5_record_124 : decode cX5_record 124 = .ok (.iaload, 1) := by decide +kernel
theorem dX5_record_125 : decode cX5_record 125 = .ok (.iconst 1, 1) := by decide +kernel
theorem dX5_record_126 : decode cX5_record 126 = .ok (.iadd, 1) := by decide +kernel
theorem dX5_record_127 : decode cX5_record 127 = .ok (.iastore, 1) := by decide +kernel
theorem dX5_record_128 : decode cX5_record 128 = .ok (.return_, 1) := by decide +kernel
set_option maxRecDepth 20000 in
theorem ggX5_goesFirst_X5_time : GoodIn wsX5_goesFirst wsX5_time := goodIn_r _ [7, 8, 9, 10, 11, 12, 13, 14, 15, 16, 17, 18, 19, 20, 21, 22, 23, 24, 25, 26, 27, 28, 29] (by decide +kernel) (by decide +kernel)
set_option maxRecDepth 20000 in
theorem gX5_goesFirst_X5_time : GoodIn wsX5_goesFirst (wsV RX5 83 RX5 yX5_time wsX5_time) := goodIn_app (goodIn_of _ (by decide +kernel)) ggX5_goesFirst_X5_time
theorem dX5_goesFirst_0 : decode cX5_goesFirst 0 = .ok (.aload_n 0, 1) := by decide +kernel
theorem dX5_goesFirst_1 : decode cX5_goesFirst 1 = .ok (.getfield 29, 3) := by decide +kernel
theorem dX5_goesFirst_4 : decode cX5_goesFirst 4 = .ok (.iload_n 1, 1) := by decide +kernel
theorem dX5_goesFirst_5 : decode cX5_goesFirst 5 = .ok (.iaload, 1) := by decide +kernel
theorem dX5_goesFirst_6 : decode cX5_goesFirst 6 = .ok (.aload_n 0, 1) := by decide +kernel
theorem dX5_goesFirst_7 : decode cX5_goesFirst 7 = .ok (.getfield 50, 3) := by decide +kernel
theorem dX5_goesFirst_10 : decode cX5_goesFirst 10 = .ok (.if_icmp .ge 7, 3) := by decide +kernel
theorem dX5_goesFirst_13 : decode cX5_goesFirst 13 = .ok (.iconst 1, 1) := by decide +kernel
theorem dX5_goesFirst_14 : decode cX5_goesFirst 14 = .ok (.goto 4, 3) := by decide +kernel
theorem dX5_goesFirst_17 : decode cX5_goesFirst 17 = .ok (.iconst 0, 1) := by decide +kernel
theorem dX5_goesFirst_18 : decode cX5_goesFirst 18 = .ok (.istore_n 3, 1) := by decide +kernel
theorem dX5_goesFirst_19 : decode cX5_goesFirst 19 = .ok (.iload_n 3, 1) := by decide +kernel
theorem dX5_goesFirst_20 : decode cX5_goesFirst 20 = .ok (.aload_n 0, 1) := by decide +kernel
theorem dX5_goesFirst_21 : decode cX5_goesFirst 21 = .ok (.getfield 29, 3) := by decide +kernel
theorem dX5_goesFirst_24 : decode cX5_goesFirst 24 = .ok (.iload_n 2, 1) := by decide +kernel
theorem dX5_goesFirst_25 : decode cX5_goesFirst 25 = .ok (.iaload, 1) := by decide +kernel
theorem dX5_goesFirst_26 : decode cX5_goesFirst 26 = .ok (.aload_n 0, 1) := by decide +kernel
theorem dX5_goesFirst_27 : decode cX5_goesFirst 27 = .ok (.getfield 50, 3) := by decide +kernel
theorem dX5_goesFirst_30 : decode cX5_goesFirst 30 = .ok (.if_icmp .ge 7, 3) := by decide +kernel
theorem dX5_goesFirst_33 : decode cX5_goesFirst 33 = .ok (.iconst 1, 1) := by decide +kernel
theorem dX5_goesFirst_34 : decode cX5_goesFirst 34 = .ok (.goto 4, 3) := by decide +kernel
theorem dX5_goesFirst_37 : decode cX5_goesFirst 37 = .ok (.iconst 0, 1) := by decide +kernel
theorem dX5_goesFirst_38 : decode cX5_goesFirst 38 = .ok (.if_icmp .eq 5, 3) := by decide +kernel
theorem dX5_goesFirst_41 : decode cX5_goesFirst 41 = .ok (.iload_n 3, 1) := by decide +kernel
theorem dX5_goesFirst_42 : decode cX5_goesFirst 42 = .ok (.ireturn, 1) := by decide +kernel
theorem dX5_goesFirst_43 : decode cX5_goesFirst 43 = .ok (.iload_n 3, 1) := by decide +kernel
theorem dX5_goesFirst_44 : decode cX5_goesFirst 44 = .ok (.ifCond .eq 26, 3) := by decide +kernel
theorem dX5_goesFirst_47 : decode cX5_goesFirst 47 = .ok (.aload_n 0, 1) := by decide +kernel
theorem dX5_goesFirst_48 : decode cX5_goesFirst 48 = .ok (.iload_n 1, 1) := by decide +kernel
theorem dX5_goesFirst_49 : decode cX5_goesFirst 49 = .ok (.iconst 1, 1) := by decide +kernel
theorem dX5_goesFirst_50 : decode cX5_goesFirst 50 = .ok (.invokevirtual 83, 3) := by decide +kernel
theorem dX5_goesFirst_53 : decode cX5_goesFirst 53 = .ok (.aload_n 0, 1) := by decide +kernel
theorem dX5_goesFirst_54 : decode cX5_goesFirst 54 = .ok (.iload_n 2, 1) := by decide +kernel
theorem dX5_goesFirst_55 : decode cX5_goesFirst 55 = .ok (.iconst 1, 1) := by decide +kernel
theorem dX5_goesFirst_56 : decode cX5_goesFirst 56 = .ok (.invokevirtual 83, 3) := by decide +kernel
theorem dX5_goesFirst_59 : decode cX5_goesFirst 59 = .ok (.if_icmp .ge 7, 3) := by decide +kernel
theorem dX5_goesFirst_62 : decode cX5_goesFirst 62 = .ok (.iconst 1, 1) := by decide +kernel
theorem dX5_goesFirst_63 : decode cX5_goesFirst 63 = .ok (.goto 33, 3) := by decide +kernel
theorem dX5_goesFirst_66 : decode cX5_goesFirst 66 = .ok (.iconst 0, 1) := by decide +kernel
theorem dX5_goesFirst_67 : decode cX5_goesFirst 67 = .ok (.goto 29, 3) := by decide +kernel
theorem dX5_goesFirst_70 : decode cX5_goesFirst 70 = .ok (.aload_n 0, 1) := by decide +kernel
theorem dX5_goesFirst_71 : decode cX5_goesFirst 71 = .ok (.iload_n 1, 1) := by decide +kernel
theorem dX5_goesFirst_72 : decode cX5_goesFirst 72 = .ok (.aload_n 0, 1) := by decide +kernel
theorem dX5_goesFirst_73 : decode cX5_goesFirst 73 = .ok (.getfield 50, 3) := by decide +kernel
theorem dX5_goesFirst_76 : decode cX5_goesFirst 76 = .ok (.invokevirtual 83, 3) := by decide +kernel
theorem dX5_goesFirst_79 : decode cX5_goesFirst 79 = .ok (.aload_n 0, 1) := by decide +kernel
theorem dX5_goesFirst_80 : decode cX5_goesFirst 80 = .ok (.iload_n 2, 1) := by decide +kernel
theorem dX5_goesFirst_81 : decode cX5_goesFirst 81 = .ok (.aload_n 0, 1) := by decide +kernel
theorem dX5_goesFirst_82 : decode cX5_goesFirst 82 = .ok (.getfield 50, 3) := by decide +kernel
theorem dX5_goesFirst_85 : decode cX5_goesFirst 85 = .ok (.invokevirtual 83, 3) := by decide +kernel
theorem dX5_goesFirst_88 : decode cX5_goesFirst 88 = .ok (.if_icmp .ge 7, 3) := by decide +kernel
theorem dX5_goesFirst_91 : decode cX5_goesFirst 91 = .ok (.iconst 1, 1) := by decide +kernel
theorem dX5_goesFirst_92 : decode cX5_goesFirst 92 = .ok (.goto 4, 3) := by decide +kernel
theorem dX5_goesFirst_95 : decode cX5_goesFirst 95 = .ok (.iconst 0, 1) := by decide +kernel
theorem dX5_goesFirst_96 : decode cX5_goesFirst 96 = .ok (.ireturn, 1) := by decide +kernel
set_option maxRecDepth 20000 in
theorem ggX5_victim_X5_goesFirst : GoodIn wsX5_victim wsX5_goesFirst := goodIn_r _ [7, 8, 9, 10, 11, 12, 6, 13, 14, 15, 16, 17, 18, 19, 20, 21, 22, 23, 24, 25, 26, 27, 28, 29, 30, 31, 32, 33, 34, 35] (by decide +kernel) (by decide +kernel)
set_option maxRecDepth 20000 in
theorem gX5_victim_X5_goesFirst : GoodIn wsX5_victim (wsV RX5 87 RX5 yX5_goesFirst wsX5_goesFirst) := goodIn_app (goodIn_of _ (by decide +kernel)) ggX5_victim_X5_goesFirst
theorem dX5_victim_0 : decode cX5_victim 0 = .ok (.bipush (-9), 2) := by decide +kernel
theorem dX5_victim_2 : decode cX5_victim 2 = .ok (.istore_n 1, 1) := by decide +kernel
theorem dX5_victim_3 : decode cX5_victim 3 = .ok (.iconst 0, 1) := by decide +kernel
theorem dX5_victim_4 : decode cX5_victim 4 = .ok (.istore_n 2, 1) := by decide +kernel
theorem dX5_victim_5 : decode cX5_victim 5 = .ok (.iload_n 2, 1) := by decide +kernel
theorem dX5_victim_6 : decode cX5_victim 6 = .ok (.bipush 64, 2) := by decide +kernel
theorem dX5_victim_8 : decode cX5_victim 8 = .ok (.if_icmp .ge 47, 3) := by decide +kernel
theorem dX5_victim_11 : decode cX5_victim 11 = .ok (.aload_n 0, 1) := by decide +kernel
theorem dX5_victim_12 : decode cX5_victim 12 = .ok (.getfield 19, 3) := by decide +kernel
theorem dX5_victim_15 : decode cX5_victim 15 = .ok (.iload_n 2, 1) := by decide +kernel
theorem dX5_victim_16 : decode cX5_victim 16 = .ok (.baload, 1) := by decide +kernel
theorem dX5_victim_17 : decode cX5_victim 17 = .ok (.ifCond .eq 32, 3) := by decide +kernel
theorem dX5_victim_20 : decode cX5_victim 20 = .ok (.aload_n 0, 1) := by decide +kernel
theorem dX5_victim_21 : decode cX5_victim 21 = .ok (.getfield 16, 3) := by decide +kernel
theorem dX5_victim_24 : decode cX5_victim 24 = .ok (.iload_n 2, 1) := by decide +kernel
theorem dX5_victim_25 : decode cX5_victim 25 = .ok (.iaload, 1) := by decide +kernel
theorem dX5_victim_26 : decode cX5_victim 26 = .ok (.ifCond .le 6, 3) := by decide +kernel
theorem dX5_victim_29 : decode cX5_victim 29 = .ok (.goto 20, 3) := by decide +kernel
theorem dX5_victim_32 : decode cX5_victim 32 = .ok (.iload_n 1, 1) := by decide +kernel
theorem dX5_victim_33 : decode cX5_victim 33 = .ok (.bipush (-9), 2) := by decide +kernel
theorem dX5_victim_35 : decode cX5_victim 35 = .ok (.if_icmp .eq 12, 3) := by decide +kernel
theorem dX5_victim_38 : decode cX5_victim 38 = .ok (.aload_n 0, 1) := by decide +kernel
theorem dX5_victim_39 : decode cX5_victim 39 = .ok (.iload_n 2, 1) := by decide +kernel
theorem dX5_victim_40 : decode cX5_victim 40 = .ok (.iload_n 1, 1) := by decide +kernel
theorem dX5_victim_41 : decode cX5_victim 41 = .ok (.invokevirtual 87, 3) := by decide +kernel
theorem dX5_victim_44 : decode cX5_victim 44 = .ok (.ifCond .eq 5, 3) := by decide +kernel
theorem dX5_victim_47 : decode cX5_victim 47 = .ok (.iload_n 2, 1) := by decide +kernel
theorem dX5_victim_48 : decode cX5_victim 48 = .ok (.istore_n 1, 1) := by decide +kernel
theorem dX5_victim_49 : decode cX5_victim 49 = .ok (.iinc 2 1, 3) := by decide +kernel
theorem dX5_victim_52 : decode cX5_victim 52 = .ok (.goto (-47), 3) := by decide +kernel
theorem dX5_victim_55 : decode cX5_victim 55 = .ok (.iload_n 1, 1) := by decide +kernel
theorem dX5_victim_56 : decode cX5_victim 56 = .ok (.ireturn, 1) := by decide +kernel
set_option maxRecDepth 20000 in
theorem ggX5_canLoad_X5_residentCount : GoodIn wsX5_canLoad wsX5_residentCount := goodIn_r _ [6, 7, 24, 25, 26, 27, 28, 29, 30, 31, 32, 33, 34, 35, 36, 37, 38, 39, 40, 41, 42, 43, 44] (by decide +kernel) (by decide +kernel)
set_option maxRecDepth 20000 in
theorem gX5_canLoad_X5_residentCount : GoodIn wsX5_canLoad (wsV RX5 91 RX5 yX5_residentCount wsX5_residentCount) := goodIn_app (goodIn_of _ (by decide +kernel)) ggX5_canLoad_X5_residentCount
set_option maxRecDepth 20000 in
theorem ggX5_canLoad_X5_victim : GoodIn wsX5_canLoad wsX5_victim := goodIn_r _ [11, 7, 12, 13, 14, 15, 5, 16, 17, 18, 19, 20, 21, 22, 23, 24, 25, 26, 27, 28, 29, 30, 31, 32, 33, 34, 35, 36, 37, 38, 39, 40, 41, 42, 43, 44] (by decide +kernel) (by decide +kernel)
set_option maxRecDepth 20000 in
theorem gX5_canLoad_X5_victim : GoodIn wsX5_canLoad (wsV RX5 95 RX5 yX5_victim wsX5_victim) := goodIn_app (goodIn_of _ (by decide +kernel)) ggX5_canLoad_X5_victim
theorem dX5_canLoad_0 : decode cX5_canLoad 0 = .ok (.aload_n 0, 1) := by decide +kernel
theorem dX5_canLoad_1 : decode cX5_canLoad 1 = .ok (.invokevirtual 91, 3) := by decide +kernel
theorem dX5_canLoad_4 : decode cX5_canLoad 4 = .ok (.aload_n 0, 1) := by decide +kernel
theorem dX5_canLoad_5 : decode cX5_canLoad 5 = .ok (.getfield 46, 3) := by decide +kernel
theorem dX5_canLoad_8 : decode cX5_canLoad 8 = .ok (.if_icmp .lt 12, 3) := by decide +kernel
theorem dX5_canLoad_11 : decode cX5_canLoad 11 = .ok (.aload_n 0, 1) := by decide +kernel
theorem dX5_canLoad_12 : decode cX5_canLoad 12 = .ok (.invokevirtual 95, 3) := by decide +kernel
theorem dX5_canLoad_15 : decode cX5_canLoad 15 = .ok (.bipush (-9), 2) := by decide +kernel
theorem dX5_canLoad_17 : decode cX5_canLoad 17 = .ok (.if_icmp .eq 7, 3) := by decide +kernel
theorem dX5_canLoad_20 : decode cX5_canLoad 20 = .ok (.iconst 1, 1) := by decide +kernel
theorem dX5_canLoad_21 : decode cX5_canLoad 21 = .ok (.goto 4, 3) := by decide +kernel
theorem dX5_canLoad_24 : decode cX5_canLoad 24 = .ok (.iconst 0, 1) := by decide +kernel
theorem dX5_canLoad_25 : decode cX5_canLoad 25 = .ok (.ireturn, 1) := by decide +kernel
theorem dX5_writeToDisk_0 : decode cX5_writeToDisk 0 = .ok (.aload_n 0, 1) := by decide +kernel
theorem dX5_writeToDisk_1 : decode cX5_writeToDisk 1 = .ok (.getfield 7, 3) := by decide +kernel
theorem dX5_writeToDisk_4 : decode cX5_writeToDisk 4 = .ok (.iload_n 1, 1) := by decide +kernel
theorem dX5_writeToDisk_5 : decode cX5_writeToDisk 5 = .ok (.iload_n 2, 1) := by decide +kernel
theorem dX5_writeToDisk_6 : decode cX5_writeToDisk 6 = .ok (.iastore, 1) := by decide +kernel
theorem dX5_writeToDisk_7 : decode cX5_writeToDisk 7 = .ok (.aload_n 0, 1) := by decide +kernel
theorem dX5_writeToDisk_8 : decode cX5_writeToDisk 8 = .ok (.dup, 1) := by decide +kernel
theorem dX5_writeToDisk_9 : decode cX5_writeToDisk 9 = .ok (.getfield 74, 3) := by decide +kernel
theorem dX5_writeToDisk_12 : decode cX5_writeToDisk 12 = .ok (.iconst 1, 1) := by decide +kernel
theorem dX5_writeToDisk_13 : decode cX5_writeToDisk 13 = .ok (.iadd, 1) := by decide +kernel
theorem dX5_writeToDisk_14 : decode cX5_writeToDisk 14 = .ok (.putfield 74, 3) := by decide +kernel
theorem dX5_writeToDisk_17 : decode cX5_writeToDisk 17 = .ok (.return_, 1) := by decide +kernel
theorem dX5_removeEntry_0 : decode cX5_removeEntry 0 = .ok (.aload_n 0, 1) := by decide +kernel
theorem dX5_removeEntry_1 : decode cX5_removeEntry 1 = .ok (.dup, 1) := by decide +kernel
theorem dX5_removeEntry_2 : decode cX5_removeEntry 2 = .ok (.getfield 80, 3) := by decide +kernel
theorem dX5_removeEntry_5 : decode cX5_removeEntry 5 = .ok (.iconst 1, 1) := by decide +kernel
theorem dX5_removeEntry_6 : decode cX5_removeEntry 6 = .ok (.isub, 1) := by decide +kernel
theorem dX5_removeEntry_7 : decode cX5_removeEntry 7 = .ok (.putfield 80, 3) := by decide +kernel
theorem dX5_removeEntry_10 : decode cX5_removeEntry 10 = .ok (.iload_n 1, 1) := by decide +kernel
theorem dX5_removeEntry_11 : decode cX5_removeEntry 11 = .ok (.istore_n 2, 1) := by decide +kernel
theorem dX5_removeEntry_12 : decode cX5_removeEntry 12 = .ok (.iload_n 2, 1) := by decide +kernel
theorem dX5_removeEntry_13 : decode cX5_removeEntry 13 = .ok (.aload_n 0, 1) := by decide +kernel
theorem dX5_removeEntry_14 : decode cX5_removeEntry 14 = .ok (.getfield 80, 3) := by decide +kernel
theorem dX5_removeEntry_17 : decode cX5_removeEntry 17 = .ok (.if_icmp .ge 37, 3) := by decide +kernel
theorem dX5_removeEntry_20 : decode cX5_removeEntry 20 = .ok (.aload_n 0, 1) := by decide +kernel
theorem dX5_removeEntry_21 : decode cX5_removeEntry 21 = .ok (.getfield 32, 3) := by decide +kernel
theorem dX5_removeEntry_24 : decode cX5_removeEntry 24 = .ok (.iload_n 2, 1) := by decide +kernel
theorem dX5_removeEntry_25 : decode cX5_removeEntry 25 = .ok (.aload_n 0, 1) := by decide +kernel
theorem dX5_removeEntry_26 : decode cX5_removeEntry 26 = .ok (.getfield 32, 3) := by decide +kernel
theorem dX5_removeEntry_29 : decode cX5_removeEntry 29 = .ok (.iload_n 2, 1) := by decide +kernel
theorem dX5_removeEntry_30 : decode cX5_removeEntry 30 = .ok (.iconst 1, 1) := by decide +kernel
theorem dX5_removeEntry_31 : decode cX5_removeEntry 31 = .ok (.iadd, 1) := by decide +kernel
theorem dX5_removeEntry_32 : decode cX5_removeEntry 32 = .ok (.iaload, 1) := by decide +kernel
theorem dX5_removeEntry_33 : decode cX5_removeEntry 33 = .ok (.iastore, 1) := by decide +kernel
theorem dX5_removeEntry_34 : decode cX5_removeEntry 34 = .ok (.aload_n 0, 1) := by decide +kernel
theorem dX5_removeEntry_35 : decode cX5_removeEntry 35 = .ok (.getfield 35, 3) := by decide +kernel
theorem dX5_removeEntry_38 : decode cX5_removeEntry 38 = .ok (.iload_n 2, 1) := by decide +kernel
theorem dX5_removeEntry_39 : decode cX5_removeEntry 39 = .ok (.aload_n 0, 1) := by decide +kernel
theorem dX5_removeEntry_40 : decode cX5_removeEntry 40 = .ok (.getfield 35, 3) := by decide +kernel
theorem dX5_removeEntry_43 : decode cX5_removeEntry 43 = .ok (.iload_n 2, 1) := by decide +kernel
theorem dX5_removeEntry_44 : decode cX5_removeEntry 44 = .ok (.iconst 1, 1) := by decide +kernel
theorem dX5_removeEntry_45 : decode cX5_removeEntry 45 = .ok (.iadd, 1) := by decide +kernel
theorem dX5_removeEntry_46 : decode cX5_removeEntry 46 = .ok (.iaload, 1) := by decide +kernel
theorem dX5_removeEntry_47 : decode cX5_removeEntry 47 = .ok (.iastore, 1) := by decide +kernel
theorem dX5_removeEntry_48 : decode cX5_removeEntry 48 = .ok (.iinc 2 1, 3) := by decide +kernel
theorem dX5_removeEntry_51 : decode cX5_removeEntry 51 = .ok (.goto (-39), 3) := by decide +kernel
theorem dX5_removeEntry_54 : decode cX5_removeEntry 54 = .ok (.return_, 1) := by decide +kernel
set_option maxRecDepth 20000 in
theorem ggX5_writeOldest_X5_writeToDisk : GoodIn wsX5_writeOldest wsX5_writeToDisk := goodIn_r _ [7, 8, 9, 15, 16, 17, 18, 19, 20, 21, 22, 23, 24, 25, 26, 27, 28, 29, 30, 31, 32, 33, 34, 35] (by decide +kernel) (by decide +kernel)
set_option maxRecDepth 20000 in
theorem gX5_writeOldest_X5_writeToDisk : GoodIn wsX5_writeOldest (wsV RX5 98 RX5 yX5_writeToDisk wsX5_writeToDisk) := goodIn_app (goodIn_of _ (by decide +kernel)) ggX5_writeOldest_X5_writeToDisk
set_option maxRecDepth 20000 in
theorem ggX5_writeOldest_X5_removeEntry : GoodIn wsX5_writeOldest wsX5_removeEntry := goodIn_r _ [13, 14, 1, 2, 15, 16, 17, 18, 19, 20, 21, 22, 23, 24, 25, 26, 27, 28, 29, 30, 31, 32, 33, 34, 35] (by decide +kernel) (by decide +kernel)
set_option maxRecDepth 20000 in
theorem gX5_writeOldest_X5_removeEntry : GoodIn wsX5_writeOldest (wsV RX5 102 RX5 yX5_removeEntry wsX5_removeEntry) := goodIn_app (goodIn_of _ (by decide +kernel)) ggX5_writeOldest_X5_removeEntry
theorem dX5_writeOldest_0 : decode cX5_writeOldest 0 = .ok (.aload_n 0, 1) := by decide +kernel
theorem dX5_writeOldest_1 : decode cX5_writeOldest 1 = .ok (.aload_n 0, 1) := by decide +kernel
theorem dX5_writeOldest_2 : decode cX5_writeOldest 2 = .ok (.getfield 32, 3) := by decide +kernel
theorem dX5_writeOldest_5 : decode cX5_writeOldest 5 = .ok (.iconst 0, 1) := by decide +kernel
theorem dX5_writeOldest_6 : decode cX5_writeOldest 6 = .ok (.iaload, 1) := by decide +kernel
theorem dX5_writeOldest_7 : decode cX5_writeOldest 7 = .ok (.aload_n 0, 1) := by decide +kernel
theorem dX5_writeOldest_8 : decode cX5_writeOldest 8 = .ok (.getfield 35, 3) := by decide +kernel
theorem dX5_writeOldest_11 : decode cX5_writeOldest 11 = .ok (.iconst 0, 1) := by decide +kernel
theorem dX5_writeOldest_12 : decode cX5_writeOldest 12 = .ok (.iaload, 1) := by decide +kernel
theorem dX5_writeOldest_13 : decode cX5_writeOldest 13 = .ok (.invokevirtual 98, 3) := by decide +kernel
theorem dX5_writeOldest_16 : decode cX5_writeOldest 16 = .ok (.aload_n 0, 1) := by decide +kernel
theorem dX5_writeOldest_17 : decode cX5_writeOldest 17 = .ok (.iconst 0, 1) := by decide +kernel
theorem dX5_writeOldest_18 : decode cX5_writeOldest 18 = .ok (.invokevirtual 102, 3) := by decide +kernel
theorem dX5_writeOldest_21 : decode cX5_writeOldest 21 = .ok (.return_, 1) := by decide +kernel
theorem dX5_positionInQueue_0 : decode cX5_positionInQueue 0 = .ok (.iconst 0, 1) := by decide +kernel
theorem dX5_positionInQueue_1 : decode cX5_positionInQueue 1 = .ok (.istore_n 2, 1) := by decide +kernel
theorem dX5_positionInQueue_2 : decode cX5_positionInQueue 2 = .ok (.iload_n 2, 1) := by decide +kernel
theorem dX5_positionInQueue_3 : decode cX5_positionInQueue 3 = .ok (.aload_n 0, 1) := by decide +kernel
theorem dX5_positionInQueue_4 : decode cX5_positionInQueue 4 = .ok (.getfield 80, 3) := by decide +kernel
theorem dX5_positionInQueue_7 : decode cX5_positionInQueue 7 = .ok (.if_icmp .ge 21, 3) := by decide +kernel
theorem dX5_positionInQueue_10 : decode cX5_positionInQueue 10 = .ok (.aload_n 0, 1) := by decide +kernel
theorem dX5_positionInQueue_11 : decode cX5_positionInQueue 11 = .ok (.getfield 32, 3) := by decide +kernel
theorem dX5_positionInQueue_14 : decode cX5_positionInQueue 14 = .ok (.iload_n 2, 1) := by decide +kernel
theorem dX5_positionInQueue_15 : decode cX5_positionInQueue 15 = .ok (.iaload, 1) := by decide +kernel
theorem dX5_positionInQueue_16 : decode cX5_positionInQueue 16 = .ok (.iload_n 1, 1) := by decide +kernel
theorem dX5_positionInQueue_17 : decode cX5_positionInQueue 17 = .ok (.if_icmp .ne 5, 3) := by decide +kernel
theorem dX5_positionInQueue_20 : decode cX5_positionInQueue 20 = .ok (.iload_n 2, 1) := by decide +kernel
theorem dX5_positionInQueue_21 : decode cX5_positionInQueue 21 = .ok (.ireturn, 1) := by decide +kernel
theorem dX5_positionInQueue_22 : decode cX5_positionInQueue 22 = .ok (.iinc 2 1, 3) := by decide +kernel
theorem dX5_positionInQueue_25 : decode cX5_positionInQueue 25 = .ok (.goto (-23), 3) := by decide +kernel
theorem dX5_positionInQueue_28 : decode cX5_positionInQueue 28 = .ok (.bipush (-9), 2) := by decide +kernel
theorem dX5_positionInQueue_30 : decode cX5_positionInQueue 30 = .ok (.ireturn, 1) := by decide +kernel
set_option maxRecDepth 20000 in
theorem ggX5_evict_X5_writeOldest : GoodIn wsX5_evict wsX5_writeOldest := goodIn_r _ [14, 7, 8, 15, 16, 17, 13, 18, 19, 20, 21, 22, 23, 24, 4, 25, 26, 27, 28, 29, 30, 31, 32, 33, 34, 35, 36, 37, 38, 39, 40, 41, 42, 43, 44, 45] (by decide +kernel) (by decide +kernel)
set_option maxRecDepth 20000 in
theorem gX5_evict_X5_writeOldest : GoodIn wsX5_evict (wsV RX5 106 RX5 yX5_writeOldest wsX5_writeOldest) := goodIn_app (goodIn_of _ (by decide +kernel)) ggX5_evict_X5_writeOldest
theorem dX5_evict_0 : decode cX5_evict 0 = .ok (.aload_n 0, 1) := by decide +kernel
theorem dX5_evict_1 : decode cX5_evict 1 = .ok (.dup, 1) := by decide +kernel
theorem dX5_evict_2 : decode cX5_evict 2 = .ok (.getfield 68, 3) := by decide +kernel
theorem dX5_evict_5 : decode cX5_evict 5 = .ok (.iconst 1, 1) := by decide +kernel
theorem dX5_evict_6 : decode cX5_evict 6 = .ok (.iadd, 1) := by decide +kernel
theorem dX5_evict_7 : decode cX5_evict 7 = .ok (.putfield 68, 3) := by decide +kernel
theorem dX5_evict_10 : decode cX5_evict 10 = .ok (.aload_n 0, 1) := by decide +kernel
theorem dX5_evict_11 : decode cX5_evict 11 = .ok (.getfield 19, 3) := by decide +kernel
theorem dX5_evict_14 : decode cX5_evict 14 = .ok (.iload_n 1, 1) := by decide +kernel
theorem dX5_evict_15 : decode cX5_evict 15 = .ok (.iconst 0, 1) := by decide +kernel
theorem dX5_evict_16 : decode cX5_evict 16 = .ok (.bastore, 1) := by decide +kernel
theorem dX5_evict_17 : decode cX5_evict 17 = .ok (.aload_n 0, 1) := by decide +kernel
theorem dX5_evict_18 : decode cX5_evict 18 = .ok (.getfield 23, 3) := by decide +kernel
theorem dX5_evict_21 : decode cX5_evict 21 = .ok (.iload_n 1, 1) := by decide +kernel
theorem dX5_evict_22 : decode cX5_evict 22 = .ok (.baload, 1) := by decide +kernel
theorem dX5_evict_23 : decode cX5_evict 23 = .ok (.ifCond .ne 4, 3) := by decide +kernel
theorem dX5_evict_26 : decode cX5_evict 26 = .ok (.return_, 1) := by decide +kernel
theorem dX5_evict_27 : decode cX5_evict 27 = .ok (.aload_n 0, 1) := by decide +kernel
theorem dX5_evict_28 : decode cX5_evict 28 = .ok (.getfield 80, 3) := by decide +kernel
theorem dX5_evict_31 : decode cX5_evict 31 = .ok (.aload_n 0, 1) := by decide +kernel
theorem dX5_evict_32 : decode cX5_evict 32 = .ok (.getfield 53, 3) := by decide +kernel
theorem dX5_evict_35 : decode cX5_evict 35 = .ok (.if_icmp .ne 17, 3) := by decide +kernel
theorem dX5_evict_38 : decode cX5_evict 38 = .ok (.aload_n 0, 1) := by decide +kernel
theorem dX5_evict_39 : decode cX5_evict 39 = .ok (.dup, 1) := by decide +kernel
theorem dX5_evict_40 : decode cX5_evict 40 = .ok (.getfield 77, 3) := by decide +kernel
theorem dX5_evict_43 : decode cX5_evict 43 = .ok (.iconst 1, 1) := by decide +kernel
theorem dX5_evict_44 : decode cX5_evict 44 = .ok (.iadd, 1) := by decide +kernel
theorem dX5_evict_45 : decode cX5_evict 45 = .ok (.putfield 77, 3) := by decide +kernel
theorem dX5_evict_48 : decode cX5_evict 48 = .ok (.aload_n 0, 1) := by decide +kernel
theorem dX5_evict_49 : decode cX5_evict 49 = .ok (.invokevirtual 106, 3) := by decide +kernel
theorem dX5_evict_52 : decode cX5_evict 52 = .ok (.aload_n 0, 1) := by decide +kernel
theorem dX5_evict_53 : decode cX5_evict 53 = .ok (.getfield 32, 3) := by decide +kernel
theorem dX5_evict_56 : decode cX5_evict 56 = .ok (.aload_n 0, 1) := by decide +kernel
theorem dX5_evict_57 : decode cX5_evict 57 = .ok (.getfield 80, 3) := by decide +kernel
theorem dX5_evict_60 : decode cX5_evict 60 = .ok (.iload_n 1, 1) := by decide +kernel
theorem dX5_evict_61 : decode cX5_evict 61 = .ok (.iastore, 1) := by decide +kernel
theorem dX5_evict_62 : decode cX5_evict 62 = .ok (.aload_n 0, 1) := by decide +kernel
theorem dX5_evict_63 : decode cX5_evict 63 = .ok (.getfield 35, 3) := by decide +kernel
theorem dX5_evict_66 : decode cX5_evict 66 = .ok (.aload_n 0, 1) := by decide +kernel
theorem dX5_evict_67 : decode cX5_evict 67 = .ok (.getfield 80, 3) := by decide +kernel
theorem dX5_evict_70 : decode cX5_evict 70 = .ok (.aload_n 0, 1) := by decide +kernel
theorem dX5_evict_71 : decode cX5_evict 71 = .ok (.getfield 13, 3) := by decide +kernel
theorem dX5_evict_74 : decode cX5_evict 74 = .ok (.iload_n 1, 1) := by decide +kernel
theorem dX5_evict_75 : decode cX5_evict 75 = .ok (.iaload, 1) := by decide +kernel
theorem dX5_evict_76 : decode cX5_evict 76 = .ok (.iastore, 1) := by decide +kernel
theorem dX5_evict_77 : decode cX5_evict 77 = .ok (.aload_n 0, 1) := by decide +kernel
theorem dX5_evict_78 : decode cX5_evict 78 = .ok (.dup, 1) := by decide +kernel
theorem dX5_evict_79 : decode cX5_evict 79 = .ok (.getfield 80, 3) := by decide +kernel
theorem dX5_evict_82 : decode cX5_evict 82 = .ok (.iconst 1, 1) := by decide +kernel
theorem dX5_evict_83 : decode cX5_evict 83 = .ok (.iadd, 1) := by decide +kernel
theorem dX5_evict_84 : decode cX5_evict 84 = .ok (.putfield 80, 3) := by decide +kernel
theorem dX5_evict_87 : decode cX5_evict 87 = .ok (.return_, 1) := by decide +kernel
set_option maxRecDepth 20000 in
theorem ggX5_load_X5_residentCount : GoodIn wsX5_load wsX5_residentCount := goodIn_r _ [13, 2, 55, 56, 57, 58, 59, 60, 61, 62, 63, 64, 65, 66, 67, 68, 69, 70, 71, 72, 73, 74, 75] (by decide +kernel) (by decide +kernel)
set_option maxRecDepth 20000 in
theorem gX5_load_X5_residentCount : GoodIn wsX5_load (wsV RX5 91 RX5 yX5_residentCount wsX5_residentCount) := goodIn_app (goodIn_of _ (by decide +kernel)) ggX5_load_X5_residentCount
set_option maxRecDepth 20000 in
theorem ggX5_load_X5_victim : GoodIn wsX5_load wsX5_victim := goodIn_r _ [17, 2, 4, 18, 19, 20, 12, 21, 22, 23, 24, 25, 26, 27, 28, 55, 56, 57, 58, 59, 60, 61, 62, 63, 64, 65, 66, 67, 68, 69, 70, 71, 72, 73, 74, 75] (by decide +kernel) (by decide +kernel)
set_option maxRecDepth 20000 in
theorem gX5_load_X5_victim : GoodIn wsX5_load (wsV RX5 95 RX5 yX5_victim wsX5_victim) := goodIn_app (goodIn_of _ (by decide +kernel)) ggX5_load_X5_victim
set_option maxRecDepth 20000 in
theorem ggX5_load_X5_evict : GoodIn wsX5_load wsX5_evict := goodIn_r _ [32, 33, 2, 3, 34, 35, 36, 37, 8, 5, 38, 39, 40, 12, 41, 42, 43, 44, 45, 6, 46, 47, 48, 49, 50, 55, 56, 57, 58, 59, 60, 61, 62, 63, 64, 65, 66, 67, 68, 69, 70, 71, 72, 73, 74, 75] (by decide +kernel) (by decide +kernel)
set_option maxRecDepth 20000 in
theorem gX5_load_X5_evict : GoodIn wsX5_load (wsV RX5 109 RX5 yX5_evict wsX5_evict) := goodIn_app (goodIn_of _ (by decide +kernel)) ggX5_load_X5_evict
set_option maxRecDepth 20000 in
theorem ggX5_load_X5_positionInQueue : GoodIn wsX5_load wsX5_positionInQueue := goodIn_r _ [54, 34, 37, 55, 56, 57, 58, 59, 60, 61, 62, 63, 64, 65, 66, 67, 68, 69, 70, 71, 72, 73, 74, 75] (by decide +kernel) (by decide +kernel)
set_option maxRecDepth 20000 in
theorem gX5_load_X5_positionInQueue : GoodIn wsX5_load (wsV RX5 112 RX5 yX5_positionInQueue wsX5_positionInQueue) := goodIn_app (goodIn_of _ (by decide +kernel)) ggX5_load_X5_positionInQueue
set_option maxRecDepth 20000 in
theorem ggX5_load_X5_removeEntry : GoodIn wsX5_load wsX5_removeEntry := goodIn_r _ [50, 34, 37, 8, 55, 56, 57, 58, 59, 60, 61, 62, 63, 64, 65, 66, 67, 68, 69, 70, 71, 72, 73, 74, 75] (by decide +kernel) (by decide +kernel)
set_option maxRecDepth 20000 in
theorem gX5_load_X5_removeEntry : GoodIn wsX5_load (wsV RX5 102 RX5 yX5_removeEntry wsX5_removeEntry) := goodIn_app (goodIn_of _ (by decide +kernel)) ggX5_load_X5_removeEntry
theorem dX5_load_0 : decode cX5_load 0 = .ok (.aload_n 0, 1) := by decide +kernel
theorem dX5_load_1 : decode cX5_load 1 = .ok (.invokevirtual 91, 3) := by decide +kernel
theorem dX5_load_4 : decode cX5_load 4 = .ok (.aload_n 0, 1) := by decide +kernel
theorem dX5_load_5 : decode cX5_load 5 = .ok (.getfield 46, 3) := by decide +kernel
theorem dX5_load_8 : decode cX5_load 8 = .ok (.if_icmp .ne 11, 3) := by decide +kernel
theorem dX5_load_11 : decode cX5_load 11 = .ok (.aload_n 0, 1) := by decide +kernel
theorem dX5_load_12 : decode cX5_load 12 = .ok (.aload_n 0, 1) := by decide +kernel
theorem dX5_load_13 : decode cX5_load 13 = .ok (.invokevirtual 95, 3) := by decide +kernel
theorem dX5_load_16 : decode cX5_load 16 = .ok (.invokevirtual 109, 3) := by decide +kernel
theorem dX5_load_19 : decode cX5_load 19 = .ok (.aload_n 0, 1) := by decide +kernel
theorem dX5_load_20 : decode cX5_load 20 = .ok (.iload_n 1, 1) := by decide +kernel
theorem dX5_load_21 : decode cX5_load 21 = .ok (.invokevirtual 112, 3) := by decide +kernel
theorem dX5_load_24 : decode cX5_load 24 = .ok (.istore_n 2, 1) := by decide +kernel
theorem dX5_load_25 : decode cX5_load 25 = .ok (.aload_n 0, 1) := by decide +kernel
theorem dX5_load_26 : decode cX5_load 26 = .ok (.getfield 19, 3) := by decide +kernel
theorem dX5_load_29 : decode cX5_load 29 = .ok (.iload_n 1, 1) := by decide +kernel
theorem dX5_load_30 : decode cX5_load 30 = .ok (.iconst 1, 1) := by decide +kernel
theorem dX5_load_31 : decode cX5_load 31 = .ok (.bastore, 1) := by decide +kernel
theorem dX5_load_32 : decode cX5_load 32 = .ok (.aload_n 0, 1) := by decide +kernel
theorem dX5_load_33 : decode cX5_load 33 = .ok (.getfield 23, 3) := by decide +kernel
theorem dX5_load_36 : decode cX5_load 36 = .ok (.iload_n 1, 1) := by decide +kernel
theorem dX5_load_37 : decode cX5_load 37 = .ok (.iload_n 2, 1) := by decide +kernel
theorem dX5_load_38 : decode cX5_load 38 = .ok (.bipush (-9), 2) := by decide +kernel
theorem dX5_load_40 : decode cX5_load 40 = .ok (.if_icmp .eq 7, 3) := by decide +kernel
theorem dX5_load_43 : decode cX5_load 43 = .ok (.iconst 1, 1) := by decide +kernel
theorem dX5_load_44 : decode cX5_load 44 = .ok (.goto 4, 3) := by decide +kernel
theorem dX5_load_47 : decode cX5_load 47 = .ok (.iconst 0, 1) := by decide +kernel
theorem dX5_load_48 : decode cX5_load 48 = .ok (.bastore, 1) := by decide +kernel
theorem dX5_load_49 : decode cX5_load 49 = .ok (.aload_n 0, 1) := by decide +kernel
theorem dX5_load_50 : decode cX5_load 50 = .ok (.getfield 16, 3) := by decide +kernel
theorem dX5_load_53 : decode cX5_load 53 = .ok (.iload_n 1, 1) := by decide +kernel
theorem dX5_load_54 : decode cX5_load 54 = .ok (.iconst 0, 1) := by decide +kernel
theorem dX5_load_55 : decode cX5_load 55 = .ok (.iastore, 1) := by decide +kernel
theorem dX5_load_56 : decode cX5_load 56 = .ok (.iload_n 2, 1) := by decide +kernel
theorem dX5_load_57 : decode cX5_load 57 = .ok (.bipush (-9), 2) := by decide +kernel
theorem dX5_load_59 : decode cX5_load 59 = .ok (.if_icmp .ne 28, 3) := by decide +kernel
theorem dX5_load_62 : decode cX5_load 62 = .ok (.aload_n 0, 1) := by decide +kernel
theorem dX5_load_63 : decode cX5_load 63 = .ok (.getfield 13, 3) := by decide +kernel
theorem dX5_load_66 : decode cX5_load 66 = .ok (.iload_n 1, 1) := by decide +kernel
theorem dX5_load_67 : decode cX5_load 67 = .ok (.aload_n 0, 1) := by decide +kernel
theorem dX5_load_68 : decode cX5_load 68 = .ok (.getfield 7, 3) := by decide +kernel
theorem dX5_load_71 : decode cX5_load 71 = .ok (.iload_n 1, 1) := by decide +kernel
theorem dX5_load_72 : decode cX5_load 72 = .ok (.iaload, 1) := by decide +kernel
theorem dX5_load_73 : decode cX5_load 73 = .ok (.iastore, 1) := by decide +kernel
theorem dX5_load_74 : decode cX5_load 74 = .ok (.aload_n 0, 1) := by decide +kernel
theorem dX5_load_75 : decode cX5_load 75 = .ok (.dup, 1) := by decide +kernel
theorem dX5_load_76 : decode cX5_load 76 = .ok (.getfield 71, 3) := by decide +kernel
theorem dX5_load_79 : decode cX5_load 79 = .ok (.iconst 1, 1) := by decide +kernel
theorem dX5_load_80 : decode cX5_load 80 = .ok (.iadd, 1) := by decide +kernel
theorem dX5_load_81 : decode cX5_load 81 = .ok (.putfield 71, 3) := by decide +kernel
theorem dX5_load_84 : decode cX5_load 84 = .ok (.goto 20, 3) := by decide +kernel
theorem dX5_load_87 : decode cX5_load 87 = .ok (.aload_n 0, 1) := by decide +kernel
theorem dX5_load_88 : decode cX5_load 88 = .ok (.getfield 13, 3) := by decide +kernel
theorem dX5_load_91 : decode cX5_load 91 = .ok (.iload_n 1, 1) := by decide +kernel
theorem dX5_load_92 : decode cX5_load 92 = .ok (.aload_n 0, 1) := by decide +kernel
theorem dX5_load_93 : decode cX5_load 93 = .ok (.getfield 35, 3) := by decide +kernel
theorem dX5_load_96 : decode cX5_load 96 = .ok (.iload_n 2, 1) := by decide +kernel
theorem dX5_load_97 : decode cX5_load 97 = .ok (.iaload, 1) := by decide +kernel
theorem dX5_load_98 : decode cX5_load 98 = .ok (.iastore, 1) := by decide +kernel
theorem dX5_load_99 : decode cX5_load 99 = .ok (.aload_n 0, 1) := by decide +kernel
theorem dX5_load_100 : decode cX5_load 100 = .ok (.iload_n 2, 1) := by decide +kernel
theorem dX5_load_101 : decode cX5_load 101 = .ok (.invokevirtual 102, 3) := by decide +kernel
theorem dX5_load_104 : decode cX5_load 104 = .ok (.return_, 1) := by decide +kernel
set_option maxRecDepth 20000 in
theorem ggX5_reference_X5_record : GoodIn wsX5_reference wsX5_record := goodIn_r _ [8, 9, 1, 10, 11, 12, 13, 14, 15, 16, 7, 17, 67, 68, 69, 70, 71, 72, 73, 74, 75, 76, 77, 78, 79, 80, 81, 82, 83, 84, 85, 86, 87] (by decide +kernel) (by decide +kernel)
set_option maxRecDepth 20000 in
theorem gX5_reference_X5_record : GoodIn wsX5_reference (wsV RX5 116 RX5 yX5_record wsX5_record) := goodIn_app (goodIn_of _ (by decide +kernel)) ggX5_reference_X5_record
set_option maxRecDepth 20000 in
theorem ggX5_reference_X5_load : GoodIn wsX5_reference wsX5_load := goodIn_r _ [21, 22, 1, 23, 24, 25, 26, 27, 28, 29, 30, 31, 7, 32, 33, 34, 35, 36, 37, 38, 39, 40, 10, 12, 14, 15, 16, 17, 13, 41, 42, 43, 44, 45, 46, 47, 48, 49, 50, 51, 52, 53, 54, 55, 56, 57, 58, 59, 60, 61, 62, 63, 64, 65, 66, 67, 68, 69, 70, 71, 72, 73, 74, 75, 76, 77, 78, 79, 80, 81, 82, 83, 84, 85, 86, 87] (by decide +kernel) (by decide +kernel)
set_option maxRecDepth 20000 in
theorem gX5_reference_X5_load : GoodIn wsX5_reference (wsV RX5 119 RX5 yX5_load wsX5_load) := goodIn_app (goodIn_of _ (by decide +kernel)) ggX5_reference_X5_load
theorem dX5_reference_0 : decode cX5_reference 0 = .ok (.aload_n 0, 1) := by decide +kernel
theorem dX5_reference_1 : decode cX5_reference 1 = .ok (.iload_n 1, 1) := by decide +kernel
theorem dX5_reference_2 : decode cX5_reference 2 = .ok (.invokevirtual 116, 3) := by decide +kernel
theorem dX5_reference_5 : decode cX5_reference 5 = .ok (.aload_n 0, 1) := by decide +kernel
theorem dX5_reference_6 : decode cX5_reference 6 = .ok (.getfield 19, 3) := by decide +kernel
theorem dX5_reference_9 : decode cX5_reference 9 = .ok (.iload_n 1, 1) := by decide +kernel
theorem dX5_reference_10 : decode cX5_reference 10 = .ok (.baload, 1) := by decide +kernel
theorem dX5_reference_11 : decode cX5_reference 11 = .ok (.ifCond .eq 16, 3) := by decide +kernel
theorem dX5_reference_14 : decode cX5_reference 14 = .ok (.aload_n 0, 1) := by decide +kernel
theorem dX5_reference_15 : decode cX5_reference 15 = .ok (.dup, 1) := by decide +kernel
theorem dX5_reference_16 : decode cX5_reference 16 = .ok (.getfield 62, 3) := by decide +kernel
theorem dX5_reference_19 : decode cX5_reference 19 = .ok (.iconst 1, 1) := by decide +kernel
theorem dX5_reference_20 : decode cX5_reference 20 = .ok (.iadd, 1) := by decide +kernel
theorem dX5_reference_21 : decode cX5_reference 21 = .ok (.putfield 62, 3) := by decide +kernel
theorem dX5_reference_24 : decode cX5_reference 24 = .ok (.goto 18, 3) := by decide +kernel
theorem dX5_reference_27 : decode cX5_reference 27 = .ok (.aload_n 0, 1) := by decide +kernel
theorem dX5_reference_28 : decode cX5_reference 28 = .ok (.dup, 1) := by decide +kernel
theorem dX5_reference_29 : decode cX5_reference 29 = .ok (.getfield 65, 3) := by decide +kernel
theorem dX5_reference_32 : decode cX5_reference 32 = .ok (.iconst 1, 1) := by decide +kernel
theorem dX5_reference_33 : decode cX5_reference 33 = .ok (.iadd, 1) := by decide +kernel
theorem dX5_reference_34 : decode cX5_reference 34 = .ok (.putfield 65, 3) := by decide +kernel
theorem dX5_reference_37 : decode cX5_reference 37 = .ok (.aload_n 0, 1) := by decide +kernel
theorem dX5_reference_38 : decode cX5_reference 38 = .ok (.iload_n 1, 1) := by decide +kernel
theorem dX5_reference_39 : decode cX5_reference 39 = .ok (.invokevirtual 119, 3) := by decide +kernel
theorem dX5_reference_42 : decode cX5_reference 42 = .ok (.return_, 1) := by decide +kernel
set_option maxRecDepth 20000 in
theorem ggX5_isStuck_X5_canLoad : GoodIn wsX5_isStuck wsX5_canLoad := goodIn_r _ [6, 7, 8, 9, 10, 5, 11, 1, 12, 13, 14, 15, 16, 17, 18, 19, 20, 21, 22, 23, 24, 25, 26, 27, 28, 29, 30, 31, 32, 33, 34, 35, 36, 37, 38, 39, 40, 41, 42, 43, 44, 45, 46, 47, 48] (by decide +kernel) (by decide +kernel)
set_option maxRecDepth 20000 in
theorem gX5_isStuck_X5_canLoad : GoodIn wsX5_isStuck (wsV RX5 122 RX5 yX5_canLoad wsX5_canLoad) := goodIn_app (goodIn_of _ (by decide +kernel)) ggX5_isStuck_X5_canLoad
theorem dX5_isStuck_0 : decode cX5_isStuck 0 = .ok (.aload_n 0, 1) := by decide +kernel
theorem dX5_isStuck_1 : decode cX5_isStuck 1 = .ok (.getfield 19, 3) := by decide +kernel
theorem dX5_isStuck_4 : decode cX5_isStuck 4 = .ok (.iload_n 1, 1) := by decide +kernel
theorem dX5_isStuck_5 : decode cX5_isStuck 5 = .ok (.baload, 1) := by decide +kernel
theorem dX5_isStuck_6 : decode cX5_isStuck 6 = .ok (.ifCond .ne 14, 3) := by decide +kernel
theorem dX5_isStuck_9 : decode cX5_isStuck 9 = .ok (.aload_n 0, 1) := by decide +kernel
theorem dX5_isStuck_10 : decode cX5_isStuck 10 = .ok (.invokevirtual 122, 3) := by decide +kernel
theorem dX5_isStuck_13 : decode cX5_isStuck 13 = .ok (.ifCond .ne 7, 3) := by decide +kernel
theorem dX5_isStuck_16 : decode cX5_isStuck 16 = .ok (.iconst 1, 1) := by decide +kernel
theorem dX5_isStuck_17 : decode cX5_isStuck 17 = .ok (.goto 4, 3) := by decide +kernel
theorem dX5_isStuck_20 : decode cX5_isStuck 20 = .ok (.iconst 0, 1) := by decide +kernel
theorem dX5_isStuck_21 : decode cX5_isStuck 21 = .ok (.ireturn, 1) := by decide +kernel
set_option maxRecDepth 20000 in
theorem ggX5_read_X5_isPage : GoodIn wsX5_read wsX5_isPage := goodIn_r _ [5, 6, 7, 4, 8] (by decide +kernel) (by decide +kernel)
set_option maxRecDepth 20000 in
theorem gX5_read_X5_isPage : GoodIn wsX5_read (va_wsS RX5 126 yX5_isPage wsX5_isPage) := goodIn_app (goodIn_of _ (by decide +kernel)) ggX5_read_X5_isPage
set_option maxRecDepth 20000 in
theorem ggX5_read_X5_isStuck : GoodIn wsX5_read wsX5_isStuck := goodIn_r _ [12, 13, 14, 15, 16, 4, 17, 18, 19, 20, 21, 22, 23, 24, 25, 26, 27, 28, 29, 30, 31, 32, 33, 34, 35, 36, 37, 38, 85, 86, 87, 88, 89, 90, 91, 92, 93, 94, 95, 96, 97, 98, 99, 100, 101, 102, 103, 104, 105] (by decide +kernel) (by decide +kernel)
set_option maxRecDepth 20000 in
theorem gX5_read_X5_isStuck : GoodIn wsX5_read (wsV RX5 130 RX5 yX5_isStuck wsX5_isStuck) := goodIn_app (goodIn_of _ (by decide +kernel)) ggX5_read_X5_isStuck
set_option maxRecDepth 20000 in
theorem ggX5_read_X5_reference : GoodIn wsX5_read wsX5_reference := goodIn_r _ [42, 13, 43, 44, 45, 46, 47, 4, 48, 49, 32, 50, 33, 38, 34, 35, 36, 37, 51, 52, 53, 54, 18, 55, 27, 1, 56, 57, 58, 19, 20, 21, 22, 23, 24, 25, 26, 28, 29, 30, 31, 59, 60, 61, 62, 63, 64, 65, 66, 67, 68, 69, 70, 71, 72, 73, 74, 75, 76, 77, 78, 79, 80, 81, 82, 83, 84, 85, 86, 87, 88, 89, 90, 91, 92, 93, 94, 95, 96, 97, 98, 99, 100, 101, 102, 103, 104, 105] (by decide +kernel) (by decide +kernel)
set_option maxRecDepth 20000 in
theorem gX5_read_X5_reference : GoodIn wsX5_read (wsV RX5 133 RX5 yX5_reference wsX5_reference) := goodIn_app (goodIn_of _ (by decide +kernel)) ggX5_read_X5_reference
theorem dX5_read_0 : decode cX5_read 0 = .ok (.iload_n 1, 1) := by decide +kernel
theorem dX5_read_1 : decode cX5_read 1 = .ok (.invokestatic 126, 3) := by decide +kernel
theorem dX5_read_4 : decode cX5_read 4 = .ok (.ifCond .ne 5, 3) := by decide +kernel
theorem dX5_read_7 : decode cX5_read 7 = .ok (.iconst (-1), 1) := by decide +kernel
theorem dX5_read_8 : decode cX5_read 8 = .ok (.ireturn, 1) := by decide +kernel
theorem dX5_read_9 : decode cX5_read 9 = .ok (.aload_n 0, 1) := by decide +kernel
theorem dX5_read_10 : decode cX5_read 10 = .ok (.iload_n 1, 1) := by decide +kernel
theorem dX5_read_11 : decode cX5_read 11 = .ok (.invokevirtual 130, 3) := by decide +kernel
theorem dX5_read_14 : decode cX5_read 14 = .ok (.ifCond .eq 6, 3) := by decide +kernel
theorem dX5_read_17 : decode cX5_read 17 = .ok (.bipush (-3), 2) := by decide +kernel
theorem dX5_read_19 : decode cX5_read 19 = .ok (.ireturn, 1) := by decide +kernel
theorem dX5_read_20 : decode cX5_read 20 = .ok (.aload_n 0, 1) := by decide +kernel
theorem dX5_read_21 : decode cX5_read 21 = .ok (.iload_n 1, 1) := by decide +kernel
theorem dX5_read_22 : decode cX5_read 22 = .ok (.invokevirtual 133, 3) := by decide +kernel
theorem dX5_read_25 : decode cX5_read 25 = .ok (.aload_n 0, 1) := by decide +kernel
theorem dX5_read_26 : decode cX5_read 26 = .ok (.getfield 13, 3) := by decide +kernel
theorem dX5_read_29 : decode cX5_read 29 = .ok (.iload_n 1, 1) := by decide +kernel
theorem dX5_read_30 : decode cX5_read 30 = .ok (.iaload, 1) := by decide +kernel
theorem dX5_read_31 : decode cX5_read 31 = .ok (.ireturn, 1) := by decide +kernel
set_option maxRecDepth 20000 in
theorem ggX5_write_X5_isPage : GoodIn wsX5_write wsX5_isPage := goodIn_r _ [6, 7, 8, 5, 9] (by decide +kernel) (by decide +kernel)
set_option maxRecDepth 20000 in
theorem gX5_write_X5_isPage : GoodIn wsX5_write (va_wsS RX5 126 yX5_isPage wsX5_isPage) := goodIn_app (goodIn_of _ (by decide +kernel)) ggX5_write_X5_isPage
set_option maxRecDepth 20000 in
theorem ggX5_write_X5_isFrom : GoodIn wsX5_write wsX5_isFrom := goodIn_r _ [9] (by decide +kernel) (by decide +kernel)
set_option maxRecDepth 20000 in
theorem gX5_write_X5_isFrom : GoodIn wsX5_write (va_wsS RX5 42 yX5_isFrom wsX5_isFrom) := goodIn_app (goodIn_of _ (by decide +kernel)) ggX5_write_X5_isFrom
set_option maxRecDepth 20000 in
theorem ggX5_write_X5_isStuck : GoodIn wsX5_write wsX5_isStuck := goodIn_r _ [13, 14, 15, 16, 17, 5, 18, 19, 20, 21, 22, 23, 24, 25, 26, 27, 28, 29, 30, 31, 32, 33, 34, 35, 36, 37, 38, 39, 85, 86, 87, 88, 89, 90, 91, 92, 93, 94, 95, 96, 97, 98, 99, 100, 101, 102, 103, 104, 105] (by decide +kernel) (by decide +kernel)
set_option maxRecDepth 20000 in
theorem gX5_write_X5_isStuck : GoodIn wsX5_write (wsV RX5 130 RX5 yX5_isStuck wsX5_isStuck) := goodIn_app (goodIn_of _ (by decide +kernel)) ggX5_write_X5_isStuck
set_option maxRecDepth 20000 in
theorem ggX5_write_X5_reference : GoodIn wsX5_write wsX5_reference := goodIn_r _ [43, 14, 44, 45, 46, 47, 48, 5, 49, 50, 33, 51, 34, 39, 35, 36, 37, 38, 52, 53, 54, 55, 19, 2, 28, 1, 56, 57, 58, 20, 21, 22, 23, 24, 25, 26, 27, 29, 30, 31, 32, 59, 60, 61, 62, 63, 64, 65, 66, 67, 68, 69, 70, 71, 72, 73, 74, 75, 76, 77, 78, 79, 80, 81, 82, 83, 84, 85, 86, 87, 88, 89, 90, 91, 92, 93, 94, 95, 96, 97, 98, 99, 100, 101, 102, 103, 104, 105] (by decide +kernel) (by decide +kernel)
set_option maxRecDepth 20000 in
theorem gX5_write_X5_reference : GoodIn wsX5_write (wsV RX5 133 RX5 yX5_reference wsX5_reference) := goodIn_app (goodIn_of _ (by decide +kernel)) ggX5_write_X5_reference
theorem dX5_write_0 : decode cX5_write 0 = .ok (.iload_n 1, 1) := by decide +kernel
theorem dX5_write_1 : decode cX5_write 1 = .ok (.invokestatic 126, 3) := by decide +kernel
theorem dX5_write_4 : decode cX5_write 4 = .ok (.ifCond .ne 5, 3) := by decide +kernel
theorem dX5_write_7 : decode cX5_write 7 = .ok (.iconst (-1), 1) := by decide +kernel
theorem dX5_write_8 : decode cX5_write 8 = .ok (.ireturn, 1) := by decide +kernel
theorem dX5_write_9 : decode cX5_write 9 = .ok (.iload_n 2, 1) := by decide +kernel
theorem dX5_write_10 : decode cX5_write 10 = .ok (.iconst 0, 1) := by decide +kernel
theorem dX5_write_11 : decode cX5_write 11 = .ok (.sipush 9999, 3) := by decide +kernel
theorem dX5_write_14 : decode cX5_write 14 = .ok (.invokestatic 42, 3) := by decide +kernel
theorem dX5_write_17 : decode cX5_write 17 = .ok (.ifCond .ne 6, 3) := by decide +kernel
theorem dX5_write_20 : decode cX5_write 20 = .ok (.bipush (-2), 2) := by decide +kernel
theorem dX5_write_22 : decode cX5_write 22 = .ok (.ireturn, 1) := by decide +kernel
theorem dX5_write_23 : decode cX5_write 23 = .ok (.aload_n 0, 1) := by decide +kernel
theorem dX5_write_24 : decode cX5_write 24 = .ok (.iload_n 1, 1) := by decide +kernel
theorem dX5_write_25 : decode cX5_write 25 = .ok (.invokevirtual 130, 3) := by decide +kernel
theorem dX5_write_28 : decode cX5_write 28 = .ok (.ifCond .eq 6, 3) := by decide +kernel
theorem dX5_write_31 : decode cX5_write 31 = .ok (.bipush (-3), 2) := by decide +kernel
theorem dX5_write_33 : decode cX5_write 33 = .ok (.ireturn, 1) := by decide +kernel
theorem dX5_write_34 : decode cX5_write 34 = .ok (.aload_n 0, 1) := by decide +kernel
theorem dX5_write_35 : decode cX5_write 35 = .ok (.iload_n 1, 1) := by decide +kernel
theorem dX5_write_36 : decode cX5_write 36 = .ok (.invokevirtual 133, 3) := by decide +kernel
theorem dX5_write_39 : decode cX5_write 39 = .ok (.aload_n 0, 1) := by decide +kernel
theorem dX5_write_40 : decode cX5_write 40 = .ok (.getfield 13, 3) := by decide +kernel
theorem dX5_write_43 : decode cX5_write 43 = .ok (.iload_n 1, 1) := by decide +kernel
theorem dX5_write_44 : decode cX5_write 44 = .ok (.iaload, 1) := by decide +kernel
theorem dX5_write_45 : decode cX5_write 45 = .ok (.istore_n 3, 1) := by decide +kernel
theorem dX5_write_46 : decode cX5_write 46 = .ok (.aload_n 0, 1) := by decide +kernel
theorem dX5_write_47 : decode cX5_write 47 = .ok (.getfield 13, 3) := by decide +kernel
theorem dX5_write_50 : decode cX5_write 50 = .ok (.iload_n 1, 1) := by decide +kernel
theorem dX5_write_51 : decode cX5_write 51 = .ok (.iload_n 2, 1) := by decide +kernel
theorem dX5_write_52 : decode cX5_write 52 = .ok (.iastore, 1) := by decide +kernel
theorem dX5_write_53 : decode cX5_write 53 = .ok (.aload_n 0, 1) := by decide +kernel
theorem dX5_write_54 : decode cX5_write 54 = .ok (.getfield 23, 3) := by decide +kernel
theorem dX5_write_57 : decode cX5_write 57 = .ok (.iload_n 1, 1) := by decide +kernel
theorem dX5_write_58 : decode cX5_write 58 = .ok (.iconst 1, 1) := by decide +kernel
theorem dX5_write_59 : decode cX5_write 59 = .ok (.bastore, 1) := by decide +kernel
theorem dX5_write_60 : decode cX5_write 60 = .ok (.iload_n 3, 1) := by decide +kernel
theorem dX5_write_61 : decode cX5_write 61 = .ok (.ireturn, 1) := by decide +kernel
set_option maxRecDepth 20000 in
theorem ggX5_pin_X5_isPage : GoodIn wsX5_pin wsX5_isPage := goodIn_r _ [6, 7, 8, 5, 9] (by decide +kernel) (by decide +kernel)
set_option maxRecDepth 20000 in
theorem gX5_pin_X5_isPage : GoodIn wsX5_pin (va_wsS RX5 126 yX5_isPage wsX5_isPage) := goodIn_app (goodIn_of _ (by decide +kernel)) ggX5_pin_X5_isPage
set_option maxRecDepth 20000 in
theorem ggX5_pin_X5_isStuck : GoodIn wsX5_pin wsX5_isStuck := goodIn_r _ [13, 1, 14, 15, 16, 5, 17, 18, 19, 20, 21, 22, 23, 24, 25, 26, 2, 27, 28, 29, 30, 31, 32, 33, 34, 35, 36, 37, 85, 86, 87, 88, 89, 90, 91, 92, 93, 94, 95, 96, 97, 98, 99, 100, 101, 102, 103, 104, 105] (by decide +kernel) (by decide +kernel)
set_option maxRecDepth 20000 in
theorem gX5_pin_X5_isStuck : GoodIn wsX5_pin (wsV RX5 130 RX5 yX5_isStuck wsX5_isStuck) := goodIn_app (goodIn_of _ (by decide +kernel)) ggX5_pin_X5_isStuck
set_option maxRecDepth 20000 in
theorem ggX5_pin_X5_reference : GoodIn wsX5_pin wsX5_reference := goodIn_r _ [41, 1, 42, 43, 44, 45, 46, 5, 47, 48, 31, 49, 32, 37, 33, 34, 35, 36, 50, 51, 52, 53, 18, 54, 2, 55, 56, 57, 58, 19, 20, 21, 22, 23, 24, 25, 26, 27, 28, 29, 30, 59, 60, 61, 62, 63, 64, 65, 66, 67, 68, 69, 70, 71, 72, 73, 74, 75, 76, 77, 78, 79, 80, 81, 82, 83, 84, 85, 86, 87, 88, 89, 90, 91, 92, 93, 94, 95, 96, 97, 98, 99, 100, 101, 102, 103, 104, 105] (by decide +kernel) (by decide +kernel)
set_option maxRecDepth 20000 in
theorem gX5_pin_X5_reference : GoodIn wsX5_pin (wsV RX5 133 RX5 yX5_reference wsX5_reference) := goodIn_app (goodIn_of _ (by decide +kernel)) ggX5_pin_X5_reference
theorem dX5_pin_0 : decode cX5_pin 0 = .ok (.iload_n 1, 1) := by decide +kernel
theorem dX5_pin_1 : decode cX5_pin 1 = .ok (.invokestatic 126, 3) := by decide +kernel
theorem dX5_pin_4 : decode cX5_pin 4 = .ok (.ifCond .ne 5, 3) := by decide +kernel
theorem dX5_pin_7 : decode cX5_pin 7 = .ok (.iconst (-1), 1) := by decide +kernel
theorem dX5_pin_8 : decode cX5_pin 8 = .ok (.ireturn, 1) := by decide +kernel
theorem dX5_pin_9 : decode cX5_pin 9 = .ok (.aload_n 0, 1) := by decide +kernel
theorem dX5_pin_10 : decode cX5_pin 10 = .ok (.getfield 19, 3) := by decide +kernel
theorem dX5_pin_13 : decode cX5_pin 13 = .ok (.iload_n 1, 1) := by decide +kernel
theorem dX5_pin_14 : decode cX5_pin 14 = .ok (.baload, 1) := by decide +kernel
theorem dX5_pin_15 : decode cX5_pin 15 = .ok (.ifCond .eq 17, 3) := by decide +kernel
theorem dX5_pin_18 : decode cX5_pin 18 = .ok (.aload_n 0, 1) := by decide +kernel
theorem dX5_pin_19 : decode cX5_pin 19 = .ok (.getfield 16, 3) := by decide +kernel
theorem dX5_pin_22 : decode cX5_pin 22 = .ok (.iload_n 1, 1) := by decide +kernel
theorem dX5_pin_23 : decode cX5_pin 23 = .ok (.iaload, 1) := by decide +kernel
theorem dX5_pin_24 : decode cX5_pin 24 = .ok (.bipush 9, 2) := by decide +kernel
theorem dX5_pin_26 : decode cX5_pin 26 = .ok (.if_icmp .ne 6, 3) := by decide +kernel
theorem dX5_pin_29 : decode cX5_pin 29 = .ok (.bipush (-6), 2) := by decide +kernel
theorem dX5_pin_31 : decode cX5_pin 31 = .ok (.ireturn, 1) := by decide +kernel
theorem dX5_pin_32 : decode cX5_pin 32 = .ok (.aload_n 0, 1) := by decide +kernel
theorem dX5_pin_33 : decode cX5_pin 33 = .ok (.iload_n 1, 1) := by decide +kernel
theorem dX5_pin_34 : decode cX5_pin 34 = .ok (.invokevirtual 130, 3) := by decide +kernel
theorem dX5_pin_37 : decode cX5_pin 37 = .ok (.ifCond .eq 6, 3) := by decide +kernel
theorem dX5_pin_40 : decode cX5_pin 40 = .ok (.bipush (-3), 2) := by decide +kernel
theorem dX5_pin_42 : decode cX5_pin 42 = .ok (.ireturn, 1) := by decide +kernel
theorem dX5_pin_43 : decode cX5_pin 43 = .ok (.aload_n 0, 1) := by decide +kernel
theorem dX5_pin_44 : decode cX5_pin 44 = .ok (.iload_n 1, 1) := by decide +kernel
theorem dX5_pin_45 : decode cX5_pin 45 = .ok (.invokevirtual 133, 3) := by decide +kernel
theorem dX5_pin_48 : decode cX5_pin 48 = .ok (.aload_n 0, 1) := by decide +kernel
theorem dX5_pin_49 : decode cX5_pin 49 = .ok (.getfield 16, 3) := by decide +kernel
theorem dX5_pin_52 : decode cX5_pin 52 = .ok (.iload_n 1, 1) := by decide +kernel
theorem dX5_pin_53 : decode cX5_pin 53 = .ok (.dup2, 1) := by decide +kernel
theorem dX5_pin_54 : decode cX5_pin 54 = .ok (.iaload, 1) := by decide +kernel
theorem dX5_pin_55 : decode cX5_pin 55 = .ok (.iconst 1, 1) := by decide +kernel
theorem dX5_pin_56 : decode cX5_pin 56 = .ok (.iadd, 1) := by decide +kernel
theorem dX5_pin_57 : decode cX5_pin 57 = .ok (.iastore, 1) := by decide +kernel
theorem dX5_pin_58 : decode cX5_pin 58 = .ok (.aload_n 0, 1) := by decide +kernel
theorem dX5_pin_59 : decode cX5_pin 59 = .ok (.getfield 16, 3) := by decide +kernel
theorem dX5_pin_62 : decode cX5_pin 62 = .ok (.iload_n 1, 1) := by decide +kernel
theorem dX5_pin_63 : decode cX5_pin 63 = .ok (.iaload, 1) := by decide +kernel
theorem dX5_pin_64 : decode cX5_pin 64 = .ok (.ireturn, 1) := by decide +kernel
set_option maxRecDepth 20000 in
theorem ggX5_unpin_X5_isPage : GoodIn wsX5_unpin wsX5_isPage := goodIn_r _ [6, 7, 8, 5, 9] (by decide +kernel) (by decide +kernel)
set_option maxRecDepth 20000 in
theorem gX5_unpin_X5_isPage : GoodIn wsX5_unpin (va_wsS RX5 126 yX5_isPage wsX5_isPage) := goodIn_app (goodIn_of _ (by decide +kernel)) ggX5_unpin_X5_isPage
theorem dX5_unpin_0 : decode cX5_unpin 0 = .ok (.iload_n 1, 1) := by decide +kernel
theorem dX5_unpin_1 : decode cX5_unpin 1 = .ok (.invokestatic 126, 3) := by decide +kernel
theorem dX5_unpin_4 : decode cX5_unpin 4 = .ok (.ifCond .ne 5, 3) := by decide +kernel
theorem dX5_unpin_7 : decode cX5_unpin 7 = .ok (.iconst (-1), 1) := by decide +kernel
theorem dX5_unpin_8 : decode cX5_unpin 8 = .ok (.ireturn, 1) := by decide +kernel
theorem dX5_unpin_9 : decode cX5_unpin 9 = .ok (.aload_n 0, 1) := by decide +kernel
theorem dX5_unpin_10 : decode cX5_unpin 10 = .ok (.getfield 19, 3) := by decide +kernel
theorem dX5_unpin_13 : decode cX5_unpin 13 = .ok (.iload_n 1, 1) := by decide +kernel
theorem dX5_unpin_14 : decode cX5_unpin 14 = .ok (.baload, 1) := by decide +kernel
theorem dX5_unpin_15 : decode cX5_unpin 15 = .ok (.ifCond .ne 6, 3) := by decide +kernel
theorem dX5_unpin_18 : decode cX5_unpin 18 = .ok (.bipush (-4), 2) := by decide +kernel
theorem dX5_unpin_20 : decode cX5_unpin 20 = .ok (.ireturn, 1) := by decide +kernel
theorem dX5_unpin_21 : decode cX5_unpin 21 = .ok (.aload_n 0, 1) := by decide +kernel
theorem dX5_unpin_22 : decode cX5_unpin 22 = .ok (.getfield 16, 3) := by decide +kernel
theorem dX5_unpin_25 : decode cX5_unpin 25 = .ok (.iload_n 1, 1) := by decide +kernel
theorem dX5_unpin_26 : decode cX5_unpin 26 = .ok (.iaload, 1) := by decide +kernel
theorem dX5_unpin_27 : decode cX5_unpin 27 = .ok (.ifCond .ne 6, 3) := by decide +kernel
theorem dX5_unpin_30 : decode cX5_unpin 30 = .ok (.bipush (-5), 2) := by decide +kernel
theorem dX5_unpin_32 : decode cX5_unpin 32 = .ok (.ireturn, 1) := by decide +kernel
theorem dX5_unpin_33 : decode cX5_unpin 33 = .ok (.aload_n 0, 1) := by decide +kernel
theorem dX5_unpin_34 : decode cX5_unpin 34 = .ok (.getfield 16, 3) := by decide +kernel
theorem dX5_unpin_37 : decode cX5_unpin 37 = .ok (.iload_n 1, 1) := by decide +kernel
theorem dX5_unpin_38 : decode cX5_unpin 38 = .ok (.dup2, 1) := by decide +kernel
theorem dX5_unpin_39 : decode cX5_unpin 39 = .ok (.iaload, 1) := by decide +kernel
theorem dX5_unpin_40 : decode cX5_unpin 40 = .ok (.iconst 1, 1) := by decide +kernel
theorem dX5_unpin_41 : decode cX5_unpin 41 = .ok (.isub, 1) := by decide +kernel
theorem dX5_unpin_42 : decode cX5_unpin 42 = .ok (.iastore, 1) := by decide +kernel
theorem dX5_unpin_43 : decode cX5_unpin 43 = .ok (.aload_n 0, 1) := by decide +kernel
theorem dX5_unpin_44 : decode cX5_unpin 44 = .ok (.getfield 16, 3) := by decide +kernel
theorem dX5_unpin_47 : decode cX5_unpin 47 = .ok (.iload_n 1, 1) := by decide +kernel
theorem dX5_unpin_48 : decode cX5_unpin 48 = .ok (.iaload, 1) := by decide +kernel
theorem dX5_unpin_49 : decode cX5_unpin 49 = .ok (.ireturn, 1) := by decide +kernel
set_option maxRecDepth 20000 in
theorem ggX5_writeResident_X5_writeToDisk : GoodIn wsX5_writeResident wsX5_writeToDisk := goodIn_r _ [8, 9, 10, 11, 12, 13, 14, 15, 16, 17, 18, 19, 20, 21, 22, 23, 24, 25, 26, 27, 28, 29, 30, 31] (by decide +kernel) (by decide +kernel)
set_option maxRecDepth 20000 in
theorem gX5_writeResident_X5_writeToDisk : GoodIn wsX5_writeResident (wsV RX5 98 RX5 yX5_writeToDisk wsX5_writeToDisk) := goodIn_app (goodIn_of _ (by decide +kernel)) ggX5_writeResident_X5_writeToDisk
theorem dX5_writeResident_0 : decode cX5_writeResident 0 = .ok (.aload_n 0, 1) := by decide +kernel
theorem dX5_writeResident_1 : decode cX5_writeResident 1 = .ok (.getfield 19, 3) := by decide +kernel
theorem dX5_writeResident_4 : decode cX5_writeResident 4 = .ok (.iload_n 1, 1) := by decide +kernel
theorem dX5_writeResident_5 : decode cX5_writeResident 5 = .ok (.baload, 1) := by decide +kernel
theorem dX5_writeResident_6 : decode cX5_writeResident 6 = .ok (.ifCond .eq 12, 3) := by decide +kernel
theorem dX5_writeResident_9 : decode cX5_writeResident 9 = .ok (.aload_n 0, 1) := by decide +kernel
theorem dX5_writeResident_10 : decode cX5_writeResident 10 = .ok (.getfield 23, 3) := by decide +kernel
theorem dX5_writeResident_13 : decode cX5_writeResident 13 = .ok (.iload_n 1, 1) := by decide +kernel
theorem dX5_writeResident_14 : decode cX5_writeResident 14 = .ok (.baload, 1) := by decide +kernel
theorem dX5_writeResident_15 : decode cX5_writeResident 15 = .ok (.ifCond .ne 5, 3) := by decide +kernel
theorem dX5_writeResident_18 : decode cX5_writeResident 18 = .ok (.iconst 0, 1) := by decide +kernel
theorem dX5_writeResident_19 : decode cX5_writeResident 19 = .ok (.ireturn, 1) := by decide +kernel
theorem dX5_writeResident_20 : decode cX5_writeResident 20 = .ok (.aload_n 0, 1) := by decide +kernel
theorem dX5_writeResident_21 : decode cX5_writeResident 21 = .ok (.iload_n 1, 1) := by decide +kernel
theorem dX5_writeResident_22 : decode cX5_writeResident 22 = .ok (.aload_n 0, 1) := by decide +kernel
theorem dX5_writeResident_23 : decode cX5_writeResident 23 = .ok (.getfield 13, 3) := by decide +kernel
theorem dX5_writeResident_26 : decode cX5_writeResident 26 = .ok (.iload_n 1, 1) := by decide +kernel
theorem dX5_writeResident_27 : decode cX5_writeResident 27 = .ok (.iaload, 1) := by decide +kernel
theorem dX5_writeResident_28 : decode cX5_writeResident 28 = .ok (.invokevirtual 98, 3) := by decide +kernel
theorem dX5_writeResident_31 : decode cX5_writeResident 31 = .ok (.aload_n 0, 1) := by decide +kernel
theorem dX5_writeResident_32 : decode cX5_writeResident 32 = .ok (.getfield 23, 3) := by decide +kernel
theorem dX5_writeResident_35 : decode cX5_writeResident 35 = .ok (.iload_n 1, 1) := by decide +kernel
theorem dX5_writeResident_36 : decode cX5_writeResident 36 = .ok (.iconst 0, 1) := by decide +kernel
theorem dX5_writeResident_37 : decode cX5_writeResident 37 = .ok (.bastore, 1) := by decide +kernel
theorem dX5_writeResident_38 : decode cX5_writeResident 38 = .ok (.iconst 1, 1) := by decide +kernel
theorem dX5_writeResident_39 : decode cX5_writeResident 39 = .ok (.ireturn, 1) := by decide +kernel
set_option maxRecDepth 20000 in
theorem ggX5_flush_X5_isPage : GoodIn wsX5_flush wsX5_isPage := goodIn_r _ [5, 6, 7, 4, 8] (by decide +kernel) (by decide +kernel)
set_option maxRecDepth 20000 in
theorem gX5_flush_X5_isPage : GoodIn wsX5_flush (va_wsS RX5 126 yX5_isPage wsX5_isPage) := goodIn_app (goodIn_of _ (by decide +kernel)) ggX5_flush_X5_isPage
set_option maxRecDepth 20000 in
theorem ggX5_flush_X5_writeResident : GoodIn wsX5_flush wsX5_writeResident := goodIn_r _ [12, 13, 14, 15, 16, 17, 18, 4, 19, 20, 21, 32, 33, 34, 35, 36, 37, 38, 39, 40, 41, 42, 43, 44, 45, 46, 47, 48, 49, 50, 51, 52] (by decide +kernel) (by decide +kernel)
set_option maxRecDepth 20000 in
theorem gX5_flush_X5_writeResident : GoodIn wsX5_flush (wsV RX5 136 RX5 yX5_writeResident wsX5_writeResident) := goodIn_app (goodIn_of _ (by decide +kernel)) ggX5_flush_X5_writeResident
set_option maxRecDepth 20000 in
theorem ggX5_flush_X5_positionInQueue : GoodIn wsX5_flush wsX5_positionInQueue := goodIn_r _ [25, 26, 27, 32, 33, 34, 35, 36, 37, 38, 39, 40, 41, 42, 43, 44, 45, 46, 47, 48, 49, 50, 51, 52] (by decide +kernel) (by decide +kernel)
set_option maxRecDepth 20000 in
theorem gX5_flush_X5_positionInQueue : GoodIn wsX5_flush (wsV RX5 112 RX5 yX5_positionInQueue wsX5_positionInQueue) := goodIn_app (goodIn_of _ (by decide +kernel)) ggX5_flush_X5_positionInQueue
set_option maxRecDepth 20000 in
theorem ggX5_flush_X5_writeToDisk : GoodIn wsX5_flush wsX5_writeToDisk := goodIn_r _ [19, 20, 21, 32, 33, 34, 35, 36, 37, 38, 39, 40, 41, 42, 43, 44, 45, 46, 47, 48, 49, 50, 51, 52] (by decide +kernel) (by decide +kernel)
set_option maxRecDepth 20000 in
theorem gX5_flush_X5_writeToDisk : GoodIn wsX5_flush (wsV RX5 98 RX5 yX5_writeToDisk wsX5_writeToDisk) := goodIn_app (goodIn_of _ (by decide +kernel)) ggX5_flush_X5_writeToDisk
set_option maxRecDepth 20000 in
theorem ggX5_flush_X5_removeEntry : GoodIn wsX5_flush wsX5_removeEntry := goodIn_r _ [31, 26, 27, 1, 32, 33, 34, 35, 36, 37, 38, 39, 40, 41, 42, 43, 44, 45, 46, 47, 48, 49, 50, 51, 52] (by decide +kernel) (by decide +kernel)
set_option maxRecDepth 20000 in
theorem gX5_flush_X5_removeEntry : GoodIn wsX5_flush (wsV RX5 102 RX5 yX5_removeEntry wsX5_removeEntry) := goodIn_app (goodIn_of _ (by decide +kernel)) ggX5_flush_X5_removeEntry
theorem dX5_flush_0 : decode cX5_flush 0 = .ok (.iload_n 1, 1) := by decide +kernel
theorem dX5_flush_1 : decode cX5_flush 1 = .ok (.invokestatic 126, 3) := by decide +kernel
theorem dX5_flush_4 : decode cX5_flush 4 = .ok (.ifCond .ne 5, 3) := by decide +kernel
theorem dX5_flush_7 : decode cX5_flush 7 = .ok (.iconst (-1), 1) := by decide +kernel
theorem dX5_flush_8 : decode cX5_flush 8 = .ok (.ireturn, 1) := by decide +kernel
theorem dX5_flush_9 : decode cX5_flush 9 = .ok (.aload_n 0, 1) := by decide +kernel
theorem dX5_flush_10 : decode cX5_flush 10 = .ok (.iload_n 1, 1) := by decide +kernel
theorem dX5_flush_11 : decode cX5_flush 11 = .ok (.invokevirtual 136, 3) := by decide +kernel
theorem dX5_flush_14 : decode cX5_flush 14 = .ok (.ifCond .eq 5, 3) := by decide +kernel
theorem dX5_flush_17 : decode cX5_flush 17 = .ok (.iconst 1, 1) := by decide +kernel
theorem dX5_flush_18 : decode cX5_flush 18 = .ok (.ireturn, 1) := by decide +kernel
theorem dX5_flush_19 : decode cX5_flush 19 = .ok (.aload_n 0, 1) := by decide +kernel
theorem dX5_flush_20 : decode cX5_flush 20 = .ok (.iload_n 1, 1) := by decide +kernel
theorem dX5_flush_21 : decode cX5_flush 21 = .ok (.invokevirtual 112, 3) := by decide +kernel
theorem dX5_flush_24 : decode cX5_flush 24 = .ok (.istore_n 2, 1) := by decide +kernel
theorem dX5_flush_25 : decode cX5_flush 25 = .ok (.iload_n 2, 1) := by decide +kernel
theorem dX5_flush_26 : decode cX5_flush 26 = .ok (.bipush (-9), 2) := by decide +kernel
theorem dX5_flush_28 : decode cX5_flush 28 = .ok (.if_icmp .ne 5, 3) := by decide +kernel
theorem dX5_flush_31 : decode cX5_flush 31 = .ok (.iconst 0, 1) := by decide +kernel
theorem dX5_flush_32 : decode cX5_flush 32 = .ok (.ireturn, 1) := by decide +kernel
theorem dX5_flush_33 : decode cX5_flush 33 = .ok (.aload_n 0, 1) := by decide +kernel
theorem dX5_flush_34 : decode cX5_flush 34 = .ok (.iload_n 1, 1) := by decide +kernel
theorem dX5_flush_35 : decode cX5_flush 35 = .ok (.aload_n 0, 1) := by decide +kernel
theorem dX5_flush_36 : decode cX5_flush 36 = .ok (.getfield 35, 3) := by decide +kernel
theorem dX5_flush_39 : decode cX5_flush 39 = .ok (.iload_n 2, 1) := by decide +kernel
theorem dX5_flush_40 : decode cX5_flush 40 = .ok (.iaload, 1) := by decide +kernel
theorem dX5_flush_41 : decode cX5_flush 41 = .ok (.invokevirtual 98, 3) := by decide +kernel
theorem dX5_flush_44 : decode cX5_flush 44 = .ok (.aload_n 0, 1) := by decide +kernel
theorem dX5_flush_45 : decode cX5_flush 45 = .ok (.iload_n 2, 1) := by decide +kernel
theorem dX5_flush_46 : decode cX5_flush 46 = .ok (.invokevirtual 102, 3) := by decide +kernel
theorem dX5_flush_49 : decode cX5_flush 49 = .ok (.iconst 1, 1) := by decide +kernel
theorem dX5_flush_50 : decode cX5_flush 50 = .ok (.ireturn, 1) := by decide +kernel
set_option maxRecDepth 20000 in
theorem ggX5_flushAll_X5_writeOldest : GoodIn wsX5_flushAll wsX5_writeOldest := goodIn_r _ [7, 8, 9, 10, 11, 12, 6, 13, 14, 1, 15, 16, 17, 18, 2, 26, 27, 28, 29, 30, 31, 32, 33, 34, 35, 36, 37, 38, 39, 40, 41, 42, 43, 44, 45, 46] (by decide +kernel) (by decide +kernel)
set_option maxRecDepth 20000 in
theorem gX5_flushAll_X5_writeOldest : GoodIn wsX5_flushAll (wsV RX5 106 RX5 yX5_writeOldest wsX5_writeOldest) := goodIn_app (goodIn_of _ (by decide +kernel)) ggX5_flushAll_X5_writeOldest
set_option maxRecDepth 20000 in
theorem ggX5_flushAll_X5_writeResident : GoodIn wsX5_flushAll wsX5_writeResident := goodIn_r _ [22, 23, 24, 25, 10, 11, 12, 6, 13, 14, 1, 26, 27, 28, 29, 30, 31, 32, 33, 34, 35, 36, 37, 38, 39, 40, 41, 42, 43, 44, 45, 46] (by decide +kernel) (by decide +kernel)
set_option maxRecDepth 20000 in
theorem gX5_flushAll_X5_writeResident : GoodIn wsX5_flushAll (wsV RX5 136 RX5 yX5_writeResident wsX5_writeResident) := goodIn_app (goodIn_of _ (by decide +kernel)) ggX5_flushAll_X5_writeResident
theorem dX5_flushAll_0 : decode cX5_flushAll 0 = .ok (.aload_n 0, 1) := by decide +kernel
theorem dX5_flushAll_1 : decode cX5_flushAll 1 = .ok (.getfield 74, 3) := by decide +kernel
theorem dX5_flushAll_4 : decode cX5_flushAll 4 = .ok (.istore_n 1, 1) := by decide +kernel
theorem dX5_flushAll_5 : decode cX5_flushAll 5 = .ok (.aload_n 0, 1) := by decide +kernel
theorem dX5_flushAll_6 : decode cX5_flushAll 6 = .ok (.getfield 80, 3) := by decide +kernel
theorem dX5_flushAll_9 : decode cX5_flushAll 9 = .ok (.ifCond .le 10, 3) := by decide +kernel
theorem dX5_flushAll_12 : decode cX5_flushAll 12 = .ok (.aload_n 0, 1) := by decide +kernel
theorem dX5_flushAll_13 : decode cX5_flushAll 13 = .ok (.invokevirtual 106, 3) := by decide +kernel
theorem dX5_flushAll_16 : decode cX5_flushAll 16 = .ok (.goto (-11), 3) := by decide +kernel
theorem dX5_flushAll_19 : decode cX5_flushAll 19 = .ok (.iconst 0, 1) := by decide +kernel
theorem dX5_flushAll_20 : decode cX5_flushAll 20 = .ok (.istore_n 2, 1) := by decide +kernel
theorem dX5_flushAll_21 : decode cX5_flushAll 21 = .ok (.iconst 0, 1) := by decide +kernel
theorem dX5_flushAll_22 : decode cX5_flushAll 22 = .ok (.istore_n 3, 1) := by decide +kernel
theorem dX5_flushAll_23 : decode cX5_flushAll 23 = .ok (.iload_n 3, 1) := by decide +kernel
theorem dX5_flushAll_24 : decode cX5_flushAll 24 = .ok (.bipush 64, 2) := by decide +kernel
theorem dX5_flushAll_26 : decode cX5_flushAll 26 = .ok (.if_icmp .ge 25, 3) := by decide +kernel
theorem dX5_flushAll_29 : decode cX5_flushAll 29 = .ok (.iload_n 2, 1) := by decide +kernel
theorem dX5_flushAll_30 : decode cX5_flushAll 30 = .ok (.aload_n 0, 1) := by decide +kernel
theorem dX5_flushAll_31 : decode cX5_flushAll 31 = .ok (.iload_n 3, 1) := by decide +kernel
theorem dX5_flushAll_32 : decode cX5_flushAll 32 = .ok (.invokevirtual 136, 3) := by decide +kernel
theorem dX5_flushAll_35 : decode cX5_flushAll 35 = .ok (.ifCond .eq 7, 3) := by decide +kernel
theorem dX5_flushAll_38 : decode cX5_flushAll 38 = .ok (.iconst 1, 1) := by decide +kernel
theorem dX5_flushAll_39 : decode cX5_flushAll 39 = .ok (.goto 4, 3) := by decide +kernel
theorem dX5_flushAll_42 : decode cX5_flushAll 42 = .ok (.iconst 0, 1) := by decide +kernel
theorem dX5_flushAll_43 : decode cX5_flushAll 43 = .ok (.iadd, 1) := by decide +kernel
theorem dX5_flushAll_44 : decode cX5_flushAll 44 = .ok (.istore_n 2, 1) := by decide +kernel
theorem dX5_flushAll_45 : decode cX5_flushAll 45 = .ok (.iinc 3 1, 3) := by decide +kernel
theorem dX5_flushAll_48 : decode cX5_flushAll 48 = .ok (.goto (-25), 3) := by decide +kernel
theorem dX5_flushAll_51 : decode cX5_flushAll 51 = .ok (.aload_n 0, 1) := by decide +kernel
theorem dX5_flushAll_52 : decode cX5_flushAll 52 = .ok (.getfield 74, 3) := by decide +kernel
theorem dX5_flushAll_55 : decode cX5_flushAll 55 = .ok (.iload_n 1, 1) := by decide +kernel
theorem dX5_flushAll_56 : decode cX5_flushAll 56 = .ok (.isub, 1) := by decide +kernel
theorem dX5_flushAll_57 : decode cX5_flushAll 57 = .ok (.ireturn, 1) := by decide +kernel
set_option maxRecDepth 20000 in
theorem ggX5_drain_X5_isFrom : GoodIn wsX5_drain wsX5_isFrom := goodIn_r _ [6] (by decide +kernel) (by decide +kernel)
set_option maxRecDepth 20000 in
theorem gX5_drain_X5_isFrom : GoodIn wsX5_drain (va_wsS RX5 42 yX5_isFrom wsX5_isFrom) := goodIn_app (goodIn_of _ (by decide +kernel)) ggX5_drain_X5_isFrom
set_option maxRecDepth 20000 in
theorem ggX5_drain_X5_writeOldest : GoodIn wsX5_drain wsX5_writeOldest := goodIn_r _ [10, 11, 12, 13, 14, 15, 5, 16, 17, 1, 18, 19, 20, 21, 2, 22, 23, 24, 25, 26, 27, 28, 29, 30, 31, 32, 33, 34, 35, 36, 37, 38, 39, 40, 41, 42] (by decide +kernel) (by decide +kernel)
set_option maxRecDepth 20000 in
theorem gX5_drain_X5_writeOldest : GoodIn wsX5_drain (wsV RX5 106 RX5 yX5_writeOldest wsX5_writeOldest) := goodIn_app (goodIn_of _ (by decide +kernel)) ggX5_drain_X5_writeOldest
theorem dX5_drain_0 : decode cX5_drain 0 = .ok (.iload_n 1, 1) := by decide +kernel
theorem dX5_drain_1 : decode cX5_drain 1 = .ok (.iconst 0, 1) := by decide +kernel
theorem dX5_drain_2 : decode cX5_drain 2 = .ok (.bipush 8, 2) := by decide +kernel
theorem dX5_drain_4 : decode cX5_drain 4 = .ok (.invokestatic 42, 3) := by decide +kernel
theorem dX5_drain_7 : decode cX5_drain 7 = .ok (.ifCond .ne 6, 3) := by decide +kernel
theorem dX5_drain_10 : decode cX5_drain 10 = .ok (.bipush (-8), 2) := by decide +kernel
theorem dX5_drain_12 : decode cX5_drain 12 = .ok (.ireturn, 1) := by decide +kernel
theorem dX5_drain_13 : decode cX5_drain 13 = .ok (.aload_n 0, 1) := by decide +kernel
theorem dX5_drain_14 : decode cX5_drain 14 = .ok (.getfield 74, 3) := by decide +kernel
theorem dX5_drain_17 : decode cX5_drain 17 = .ok (.istore_n 2, 1) := by decide +kernel
theorem dX5_drain_18 : decode cX5_drain 18 = .ok (.aload_n 0, 1) := by decide +kernel
theorem dX5_drain_19 : decode cX5_drain 19 = .ok (.getfield 80, 3) := by decide +kernel
theorem dX5_drain_22 : decode cX5_drain 22 = .ok (.ifCond .le 20, 3) := by decide +kernel
theorem dX5_drain_25 : decode cX5_drain 25 = .ok (.aload_n 0, 1) := by decide +kernel
theorem dX5_drain_26 : decode cX5_drain 26 = .ok (.getfield 74, 3) := by decide +kernel
theorem dX5_drain_29 : decode cX5_drain 29 = .ok (.iload_n 2, 1) := by decide +kernel
theorem dX5_drain_30 : decode cX5_drain 30 = .ok (.isub, 1) := by decide +kernel
theorem dX5_drain_31 : decode cX5_drain 31 = .ok (.iload_n 1, 1) := by decide +kernel
theorem dX5_drain_32 : decode cX5_drain 32 = .ok (.if_icmp .ge 10, 3) := by decide +kernel
theorem dX5_drain_35 : decode cX5_drain 35 = .ok (.aload_n 0, 1) := by decide +kernel
theorem dX5_drain_36 : decode cX5_drain 36 = .ok (.invokevirtual 106, 3) := by decide +kernel
theorem dX5_drain_39 : decode cX5_drain 39 = .ok (.goto (-21), 3) := by decide +kernel
theorem dX5_drain_42 : decode cX5_drain 42 = .ok (.aload_n 0, 1) := by decide +kernel
theorem dX5_drain_43 : decode cX5_drain 43 = .ok (.getfield 74, 3) := by decide +kernel
theorem dX5_drain_46 : decode cX5_drain 46 = .ok (.iload_n 2, 1) := by decide +kernel
theorem dX5_drain_47 : decode cX5_drain 47 = .ok (.isub, 1) := by decide +kernel
theorem dX5_drain_48 : decode cX5_drain 48 = .ok (.ireturn, 1) := by decide +kernel
set_option maxRecDepth 20000 in
theorem ggX5_discard_X5_isPage : GoodIn wsX5_discard wsX5_isPage := goodIn_r _ [7, 8, 9, 6, 10] (by decide +kernel) (by decide +kernel)
set_option maxRecDepth 20000 in
theorem gX5_discard_X5_isPage : GoodIn wsX5_discard (va_wsS RX5 126 yX5_isPage wsX5_isPage) := goodIn_app (goodIn_of _ (by decide +kernel)) ggX5_discard_X5_isPage
set_option maxRecDepth 20000 in
theorem ggX5_discard_X5_positionInQueue : GoodIn wsX5_discard wsX5_positionInQueue := goodIn_r _ [14, 15, 16, 22, 23, 24, 25, 26, 27, 28, 29, 30, 31, 32, 33, 34, 35, 36, 37, 38, 39, 40, 41, 42] (by decide +kernel) (by decide +kernel)
set_option maxRecDepth 20000 in
theorem gX5_discard_X5_positionInQueue : GoodIn wsX5_discard (wsV RX5 112 RX5 yX5_positionInQueue wsX5_positionInQueue) := goodIn_app (goodIn_of _ (by decide +kernel)) ggX5_discard_X5_positionInQueue
set_option maxRecDepth 20000 in
theorem ggX5_discard_X5_removeEntry : GoodIn wsX5_discard wsX5_removeEntry := goodIn_r _ [20, 15, 16, 21, 22, 23, 24, 25, 26, 27, 28, 29, 30, 31, 32, 33, 34, 35, 36, 37, 38, 39, 40, 41, 42] (by decide +kernel) (by decide +kernel)
set_option maxRecDepth 20000 in
theorem gX5_discard_X5_removeEntry : GoodIn wsX5_discard (wsV RX5 102 RX5 yX5_removeEntry wsX5_removeEntry) := goodIn_app (goodIn_of _ (by decide +kernel)) ggX5_discard_X5_removeEntry
theorem dX5_discard_0 : decode cX5_discard 0 = .ok (.iload_n 1, 1) := by decide +kernel
theorem dX5_discard_1 : decode cX5_discard 1 = .ok (.invokestatic 126, 3) := by decide +kernel
theorem dX5_discard_4 : decode cX5_discard 4 = .ok (.ifCond .ne 5, 3) := by decide +kernel
theorem dX5_discard_7 : decode cX5_discard 7 = .ok (.iconst (-1), 1) := by decide +kernel
theorem dX5_discard_8 : decode cX5_discard 8 = .ok (.ireturn, 1) := by decide +kernel
theorem dX5_discard_9 : decode cX5_discard 9 = .ok (.aload_n 0, 1) := by decide +kernel
theorem dX5_discard_10 : decode cX5_discard 10 = .ok (.getfield 19, 3) := by decide +kernel
theorem dX5_discard_13 : decode cX5_discard 13 = .ok (.iload_n 1, 1) := by decide +kernel
theorem dX5_discard_14 : decode cX5_discard 14 = .ok (.baload, 1) := by decide +kernel
theorem dX5_discard_15 : decode cX5_discard 15 = .ok (.ifCond .eq 15, 3) := by decide +kernel
theorem dX5_discard_18 : decode cX5_discard 18 = .ok (.aload_n 0, 1) := by decide +kernel
theorem dX5_discard_19 : decode cX5_discard 19 = .ok (.getfield 16, 3) := by decide +kernel
theorem dX5_discard_22 : decode cX5_discard 22 = .ok (.iload_n 1, 1) := by decide +kernel
theorem dX5_discard_23 : decode cX5_discard 23 = .ok (.iaload, 1) := by decide +kernel
theorem dX5_discard_24 : decode cX5_discard 24 = .ok (.ifCond .le 6, 3) := by decide +kernel
theorem dX5_discard_27 : decode cX5_discard 27 = .ok (.bipush (-7), 2) := by decide +kernel
theorem dX5_discard_29 : decode cX5_discard 29 = .ok (.ireturn, 1) := by decide +kernel
theorem dX5_discard_30 : decode cX5_discard 30 = .ok (.aload_n 0, 1) := by decide +kernel
theorem dX5_discard_31 : decode cX5_discard 31 = .ok (.iload_n 1, 1) := by decide +kernel
theorem dX5_discard_32 : decode cX5_discard 32 = .ok (.invokevirtual 112, 3) := by decide +kernel
theorem dX5_discard_35 : decode cX5_discard 35 = .ok (.istore_n 2, 1) := by decide +kernel
theorem dX5_discard_36 : decode cX5_discard 36 = .ok (.aload_n 0, 1) := by decide +kernel
theorem dX5_discard_37 : decode cX5_discard 37 = .ok (.getfield 19, 3) := by decide +kernel
theorem dX5_discard_40 : decode cX5_discard 40 = .ok (.iload_n 1, 1) := by decide +kernel
theorem dX5_discard_41 : decode cX5_discard 41 = .ok (.baload, 1) := by decide +kernel
theorem dX5_discard_42 : decode cX5_discard 42 = .ok (.ifCond .ne 9, 3) := by decide +kernel
theorem dX5_discard_45 : decode cX5_discard 45 = .ok (.iload_n 2, 1) := by decide +kernel
theorem dX5_discard_46 : decode cX5_discard 46 = .ok (.bipush (-9), 2) := by decide +kernel
theorem dX5_discard_48 : decode cX5_discard 48 = .ok (.if_icmp .eq 7, 3) := by decide +kernel
theorem dX5_discard_51 : decode cX5_discard 51 = .ok (.iconst 1, 1) := by decide +kernel
theorem dX5_discard_52 : decode cX5_discard 52 = .ok (.goto 4, 3) := by decide +kernel
theorem dX5_discard_55 : decode cX5_discard 55 = .ok (.iconst 0, 1) := by decide +kernel
theorem dX5_discard_56 : decode cX5_discard 56 = .ok (.istore_n 3, 1) := by decide +kernel
theorem dX5_discard_57 : decode cX5_discard 57 = .ok (.aload_n 0, 1) := by decide +kernel
theorem dX5_discard_58 : decode cX5_discard 58 = .ok (.getfield 19, 3) := by decide +kernel
theorem dX5_discard_61 : decode cX5_discard 61 = .ok (.iload_n 1, 1) := by decide +kernel
theorem dX5_discard_62 : decode cX5_discard 62 = .ok (.iconst 0, 1) := by decide +kernel
theorem dX5_discard_63 : decode cX5_discard 63 = .ok (.bastore, 1) := by decide +kernel
theorem dX5_discard_64 : decode cX5_discard 64 = .ok (.aload_n 0, 1) := by decide +kernel
theorem dX5_discard_65 : decode cX5_discard 65 = .ok (.getfield 29, 3) := by decide +kernel
theorem dX5_discard_68 : decode cX5_discard 68 = .ok (.iload_n 1, 1) := by decide +kernel
theorem dX5_discard_69 : decode cX5_discard 69 = .ok (.iconst 0, 1) := by decide +kernel
theorem dX5_discard_70 : decode cX5_discard 70 = .ok (.iastore, 1) := by decide +kernel
theorem dX5_discard_71 : decode cX5_discard 71 = .ok (.iload_n 2, 1) := by decide +kernel
theorem dX5_discard_72 : decode cX5_discard 72 = .ok (.bipush (-9), 2) := by decide +kernel
theorem dX5_discard_74 : decode cX5_discard 74 = .ok (.if_icmp .eq 8, 3) := by decide +kernel
theorem dX5_discard_77 : decode cX5_discard 77 = .ok (.aload_n 0, 1) := by decide +kernel
theorem dX5_discard_78 : decode cX5_discard 78 = .ok (.iload_n 2, 1) := by decide +kernel
theorem dX5_discard_79 : decode cX5_discard 79 = .ok (.invokevirtual 102, 3) := by decide +kernel
theorem dX5_discard_82 : decode cX5_discard 82 = .ok (.iload_n 3, 1) := by decide +kernel
theorem dX5_discard_83 : decode cX5_discard 83 = .ok (.ifCond .eq 7, 3) := by decide +kernel
theorem dX5_discard_86 : decode cX5_discard 86 = .ok (.iconst 1, 1) := by decide +kernel
theorem dX5_discard_87 : decode cX5_discard 87 = .ok (.goto 4, 3) := by decide +kernel
theorem dX5_discard_90 : decode cX5_discard 90 = .ok (.iconst 0, 1) := by decide +kernel
theorem dX5_discard_91 : decode cX5_discard 91 = .ok (.ireturn, 1) := by decide +kernel
set_option maxRecDepth 20000 in
theorem ggX5_isResident_X5_isPage : GoodIn wsX5_isResident wsX5_isPage := goodIn_r _ [5, 6, 7, 4, 8] (by decide +kernel) (by decide +kernel)
set_option maxRecDepth 20000 in
theorem gX5_isResident_X5_isPage : GoodIn wsX5_isResident (va_wsS RX5 126 yX5_isPage wsX5_isPage) := goodIn_app (goodIn_of _ (by decide +kernel)) ggX5_isResident_X5_isPage
theorem dX5_isResident_0 : decode cX5_isResident 0 = .ok (.iload_n 1, 1) := by decide +kernel
theorem dX5_isResident_1 : decode cX5_isResident 1 = .ok (.invokestatic 126, 3) := by decide +kernel
theorem dX5_isResident_4 : decode cX5_isResident 4 = .ok (.ifCond .ne 5, 3) := by decide +kernel
theorem dX5_isResident_7 : decode cX5_isResident 7 = .ok (.iconst (-1), 1) := by decide +kernel
theorem dX5_isResident_8 : decode cX5_isResident 8 = .ok (.ireturn, 1) := by decide +kernel
theorem dX5_isResident_9 : decode cX5_isResident 9 = .ok (.aload_n 0, 1) := by decide +kernel
theorem dX5_isResident_10 : decode cX5_isResident 10 = .ok (.getfield 19, 3) := by decide +kernel
theorem dX5_isResident_13 : decode cX5_isResident 13 = .ok (.iload_n 1, 1) := by decide +kernel
theorem dX5_isResident_14 : decode cX5_isResident 14 = .ok (.baload, 1) := by decide +kernel
theorem dX5_isResident_15 : decode cX5_isResident 15 = .ok (.ifCond .eq 7, 3) := by decide +kernel
theorem dX5_isResident_18 : decode cX5_isResident 18 = .ok (.iconst 1, 1) := by decide +kernel
theorem dX5_isResident_19 : decode cX5_isResident 19 = .ok (.goto 4, 3) := by decide +kernel
theorem dX5_isResident_22 : decode cX5_isResident 22 = .ok (.iconst 0, 1) := by decide +kernel
theorem dX5_isResident_23 : decode cX5_isResident 23 = .ok (.ireturn, 1) := by decide +kernel
set_option maxRecDepth 20000 in
theorem ggX5_isDirty_X5_isPage : GoodIn wsX5_isDirty wsX5_isPage := goodIn_r _ [6, 7, 8, 5, 9] (by decide +kernel) (by decide +kernel)
set_option maxRecDepth 20000 in
theorem gX5_isDirty_X5_isPage : GoodIn wsX5_isDirty (va_wsS RX5 126 yX5_isPage wsX5_isPage) := goodIn_app (goodIn_of _ (by decide +kernel)) ggX5_isDirty_X5_isPage
theorem dX5_isDirty_0 : decode cX5_isDirty 0 = .ok (.iload_n 1, 1) := by decide +kernel
theorem dX5_isDirty_1 : decode cX5_isDirty 1 = .ok (.invokestatic 126, 3) := by decide +kernel
theorem dX5_isDirty_4 : decode cX5_isDirty 4 = .ok (.ifCond .ne 5, 3) := by decide +kernel
theorem dX5_isDirty_7 : decode cX5_isDirty 7 = .ok (.iconst (-1), 1) := by decide +kernel
theorem dX5_isDirty_8 : decode cX5_isDirty 8 = .ok (.ireturn, 1) := by decide +kernel
theorem dX5_isDirty_9 : decode cX5_isDirty 9 = .ok (.aload_n 0, 1) := by decide +kernel
theorem dX5_isDirty_10 : decode cX5_isDirty 10 = .ok (.getfield 19, 3) := by decide +kernel
theorem dX5_isDirty_13 : decode cX5_isDirty 13 = .ok (.iload_n 1, 1) := by decide +kernel
theorem dX5_isDirty_14 : decode cX5_isDirty 14 = .ok (.baload, 1) := by decide +kernel
theorem dX5_isDirty_15 : decode cX5_isDirty 15 = .ok (.ifCond .ne 6, 3) := by decide +kernel
theorem dX5_isDirty_18 : decode cX5_isDirty 18 = .ok (.bipush (-4), 2) := by decide +kernel
theorem dX5_isDirty_20 : decode cX5_isDirty 20 = .ok (.ireturn, 1) := by decide +kernel
theorem dX5_isDirty_21 : decode cX5_isDirty 21 = .ok (.aload_n 0, 1) := by decide +kernel
theorem dX5_isDirty_22 : decode cX5_isDirty 22 = .ok (.getfield 23, 3) := by decide +kernel
theorem dX5_isDirty_25 : decode cX5_isDirty 25 = .ok (.iload_n 1, 1) := by decide +kernel
theorem dX5_isDirty_26 : decode cX5_isDirty 26 = .ok (.baload, 1) := by decide +kernel
theorem dX5_isDirty_27 : decode cX5_isDirty 27 = .ok (.ifCond .eq 7, 3) := by decide +kernel
theorem dX5_isDirty_30 : decode cX5_isDirty 30 = .ok (.iconst 1, 1) := by decide +kernel
theorem dX5_isDirty_31 : decode cX5_isDirty 31 = .ok (.goto 4, 3) := by decide +kernel
theorem dX5_isDirty_34 : decode cX5_isDirty 34 = .ok (.iconst 0, 1) := by decide +kernel
theorem dX5_isDirty_35 : decode cX5_isDirty 35 = .ok (.ireturn, 1) := by decide +kernel
set_option maxRecDepth 20000 in
theorem ggX5_pinCount_X5_isPage : GoodIn wsX5_pinCount wsX5_isPage := goodIn_r _ [6, 7, 8, 5, 9] (by decide +kernel) (by decide +kernel)
set_option maxRecDepth 20000 in
theorem gX5_pinCount_X5_isPage : GoodIn wsX5_pinCount (va_wsS RX5 126 yX5_isPage wsX5_isPage) := goodIn_app (goodIn_of _ (by decide +kernel)) ggX5_pinCount_X5_isPage
theorem dX5_pinCount_0 : decode cX5_pinCount 0 = .ok (.iload_n 1, 1) := by decide +kernel
theorem dX5_pinCount_1 : decode cX5_pinCount 1 = .ok (.invokestatic 126, 3) := by decide +kernel
theorem dX5_pinCount_4 : decode cX5_pinCount 4 = .ok (.ifCond .ne 5, 3) := by decide +kernel
theorem dX5_pinCount_7 : decode cX5_pinCount 7 = .ok (.iconst (-1), 1) := by decide +kernel
theorem dX5_pinCount_8 : decode cX5_pinCount 8 = .ok (.ireturn, 1) := by decide +kernel
theorem dX5_pinCount_9 : decode cX5_pinCount 9 = .ok (.aload_n 0, 1) := by decide +kernel
theorem dX5_pinCount_10 : decode cX5_pinCount 10 = .ok (.getfield 19, 3) := by decide +kernel
theorem dX5_pinCount_13 : decode cX5_pinCount 13 = .ok (.iload_n 1, 1) := by decide +kernel
theorem dX5_pinCount_14 : decode cX5_pinCount 14 = .ok (.baload, 1) := by decide +kernel
theorem dX5_pinCount_15 : decode cX5_pinCount 15 = .ok (.ifCond .eq 12, 3) := by decide +kernel
theorem dX5_pinCount_18 : decode cX5_pinCount 18 = .ok (.aload_n 0, 1) := by decide +kernel
theorem dX5_pinCount_19 : decode cX5_pinCount 19 = .ok (.getfield 16, 3) := by decide +kernel
theorem dX5_pinCount_22 : decode cX5_pinCount 22 = .ok (.iload_n 1, 1) := by decide +kernel
theorem dX5_pinCount_23 : decode cX5_pinCount 23 = .ok (.iaload, 1) := by decide +kernel
theorem dX5_pinCount_24 : decode cX5_pinCount 24 = .ok (.goto 5, 3) := by decide +kernel
theorem dX5_pinCount_27 : decode cX5_pinCount 27 = .ok (.bipush (-4), 2) := by decide +kernel
theorem dX5_pinCount_29 : decode cX5_pinCount 29 = .ok (.ireturn, 1) := by decide +kernel
set_option maxRecDepth 20000 in
theorem ggX5_referenceTime_X5_isPage : GoodIn wsX5_referenceTime wsX5_isPage := goodIn_r _ [6, 7, 8, 5, 9] (by decide +kernel) (by decide +kernel)
set_option maxRecDepth 20000 in
theorem gX5_referenceTime_X5_isPage : GoodIn wsX5_referenceTime (va_wsS RX5 126 yX5_isPage wsX5_isPage) := goodIn_app (goodIn_of _ (by decide +kernel)) ggX5_referenceTime_X5_isPage
set_option maxRecDepth 20000 in
theorem ggX5_referenceTime_X5_isFrom : GoodIn wsX5_referenceTime wsX5_isFrom := goodIn_r _ [9] (by decide +kernel) (by decide +kernel)
set_option maxRecDepth 20000 in
theorem gX5_referenceTime_X5_isFrom : GoodIn wsX5_referenceTime (va_wsS RX5 42 yX5_isFrom wsX5_isFrom) := goodIn_app (goodIn_of _ (by decide +kernel)) ggX5_referenceTime_X5_isFrom
set_option maxRecDepth 20000 in
theorem ggX5_referenceTime_X5_time : GoodIn wsX5_referenceTime wsX5_time := goodIn_r _ [13, 14, 15, 16, 17, 18, 19, 20, 21, 22, 23, 24, 25, 26, 27, 28, 29, 30, 31, 32, 33, 34, 35] (by decide +kernel) (by decide +kernel)
set_option maxRecDepth 20000 in
theorem gX5_referenceTime_X5_time : GoodIn wsX5_referenceTime (wsV RX5 83 RX5 yX5_time wsX5_time) := goodIn_app (goodIn_of _ (by decide +kernel)) ggX5_referenceTime_X5_time
theorem dX5_referenceTime_0 : decode cX5_referenceTime 0 = .ok (.iload_n 1, 1) := by decide +kernel
theorem dX5_referenceTime_1 : decode cX5_referenceTime 1 = .ok (.invokestatic 126, 3) := by decide +kernel
theorem dX5_referenceTime_4 : decode cX5_referenceTime 4 = .ok (.ifCond .ne 5, 3) := by decide +kernel
theorem dX5_referenceTime_7 : decode cX5_referenceTime 7 = .ok (.iconst (-1), 1) := by decide +kernel
theorem dX5_referenceTime_8 : decode cX5_referenceTime 8 = .ok (.ireturn, 1) := by decide +kernel
theorem dX5_referenceTime_9 : decode cX5_referenceTime 9 = .ok (.iload_n 2, 1) := by decide +kernel
theorem dX5_referenceTime_10 : decode cX5_referenceTime 10 = .ok (.iconst 1, 1) := by decide +kernel
theorem dX5_referenceTime_11 : decode cX5_referenceTime 11 = .ok (.aload_n 0, 1) := by decide +kernel
theorem dX5_referenceTime_12 : decode cX5_referenceTime 12 = .ok (.getfield 50, 3) := by decide +kernel
theorem dX5_referenceTime_15 : decode cX5_referenceTime 15 = .ok (.invokestatic 42, 3) := by decide +kernel
theorem dX5_referenceTime_18 : decode cX5_referenceTime 18 = .ok (.ifCond .ne 6, 3) := by decide +kernel
theorem dX5_referenceTime_21 : decode cX5_referenceTime 21 = .ok (.bipush (-8), 2) := by decide +kernel
theorem dX5_referenceTime_23 : decode cX5_referenceTime 23 = .ok (.ireturn, 1) := by decide +kernel
theorem dX5_referenceTime_24 : decode cX5_referenceTime 24 = .ok (.iload_n 2, 1) := by decide +kernel
theorem dX5_referenceTime_25 : decode cX5_referenceTime 25 = .ok (.aload_n 0, 1) := by decide +kernel
theorem dX5_referenceTime_26 : decode cX5_referenceTime 26 = .ok (.getfield 29, 3) := by decide +kernel
theorem dX5_referenceTime_29 : decode cX5_referenceTime 29 = .ok (.iload_n 1, 1) := by decide +kernel
theorem dX5_referenceTime_30 : decode cX5_referenceTime 30 = .ok (.iaload, 1) := by decide +kernel
theorem dX5_referenceTime_31 : decode cX5_referenceTime 31 = .ok (.if_icmp .gt 12, 3) := by decide +kernel
theorem dX5_referenceTime_34 : decode cX5_referenceTime 34 = .ok (.aload_n 0, 1) := by decide +kernel
theorem dX5_referenceTime_35 : decode cX5_referenceTime 35 = .ok (.iload_n 1, 1) := by decide +kernel
theorem dX5_referenceTime_36 : decode cX5_referenceTime 36 = .ok (.iload_n 2, 1) := by decide +kernel
theorem dX5_referenceTime_37 : decode cX5_referenceTime 37 = .ok (.invokevirtual 83, 3) := by decide +kernel
theorem dX5_referenceTime_40 : decode cX5_referenceTime 40 = .ok (.goto 5, 3) := by decide +kernel
theorem dX5_referenceTime_43 : decode cX5_referenceTime 43 = .ok (.bipush (-9), 2) := by decide +kernel
theorem dX5_referenceTime_45 : decode cX5_referenceTime 45 = .ok (.ireturn, 1) := by decide +kernel
set_option maxRecDepth 20000 in
theorem ggX5_backwardKDistance_X5_isPage : GoodIn wsX5_backwardKDistance wsX5_isPage := goodIn_r _ [7, 8, 9, 6, 10] (by decide +kernel) (by decide +kernel)
set_option maxRecDepth 20000 in
theorem gX5_backwardKDistance_X5_isPage : GoodIn wsX5_backwardKDistance (va_wsS RX5 126 yX5_isPage wsX5_isPage) := goodIn_app (goodIn_of _ (by decide +kernel)) ggX5_backwardKDistance_X5_isPage
set_option maxRecDepth 20000 in
theorem ggX5_backwardKDistance_X5_time : GoodIn wsX5_backwardKDistance wsX5_time := goodIn_r _ [14, 15, 16, 17, 18, 19, 20, 21, 22, 23, 24, 25, 26, 27, 28, 29, 30, 31, 32, 33, 34, 35, 36] (by decide +kernel) (by decide +kernel)
set_option maxRecDepth 20000 in
theorem gX5_backwardKDistance_X5_time : GoodIn wsX5_backwardKDistance (wsV RX5 83 RX5 yX5_time wsX5_time) := goodIn_app (goodIn_of _ (by decide +kernel)) ggX5_backwardKDistance_X5_time
theorem dX5_backwardKDistance_0 : decode cX5_backwardKDistance 0 = .ok (.iload_n 1, 1) := by decide +kernel
theorem dX5_backwardKDistance_1 : decode cX5_backwardKDistance 1 = .ok (.invokestatic 126, 3) := by decide +kernel
theorem dX5_backwardKDistance_4 : decode cX5_backwardKDistance 4 = .ok (.ifCond .ne 5, 3) := by decide +kernel
theorem dX5_backwardKDistance_7 : decode cX5_backwardKDistance 7 = .ok (.iconst (-1), 1) := by decide +kernel
theorem dX5_backwardKDistance_8 : decode cX5_backwardKDistance 8 = .ok (.ireturn, 1) := by decide +kernel
theorem dX5_backwardKDistance_9 : decode cX5_backwardKDistance 9 = .ok (.aload_n 0, 1) := by decide +kernel
theorem dX5_backwardKDistance_10 : decode cX5_backwardKDistance 10 = .ok (.getfield 29, 3) := by decide +kernel
theorem dX5_backwardKDistance_13 : decode cX5_backwardKDistance 13 = .ok (.iload_n 1, 1) := by decide +kernel
theorem dX5_backwardKDistance_14 : decode cX5_backwardKDistance 14 = .ok (.iaload, 1) := by decide +kernel
theorem dX5_backwardKDistance_15 : decode cX5_backwardKDistance 15 = .ok (.aload_n 0, 1) := by decide +kernel
theorem dX5_backwardKDistance_16 : decode cX5_backwardKDistance 16 = .ok (.getfield 50, 3) := by decide +kernel
theorem dX5_backwardKDistance_19 : decode cX5_backwardKDistance 19 = .ok (.if_icmp .ge 8, 3) := by decide +kernel
theorem dX5_backwardKDistance_22 : decode cX5_backwardKDistance 22 = .ok (.bipush (-9), 2) := by decide +kernel
theorem dX5_backwardKDistance_24 : decode cX5_backwardKDistance 24 = .ok (.goto 17, 3) := by decide +kernel
theorem dX5_backwardKDistance_27 : decode cX5_backwardKDistance 27 = .ok (.aload_n 0, 1) := by decide +kernel
theorem dX5_backwardKDistance_28 : decode cX5_backwardKDistance 28 = .ok (.getfield 59, 3) := by decide +kernel
theorem dX5_backwardKDistance_31 : decode cX5_backwardKDistance 31 = .ok (.aload_n 0, 1) := by decide +kernel
theorem dX5_backwardKDistance_32 : decode cX5_backwardKDistance 32 = .ok (.iload_n 1, 1) := by decide +kernel
theorem dX5_backwardKDistance_33 : decode cX5_backwardKDistance 33 = .ok (.aload_n 0, 1) := by decide +kernel
theorem dX5_backwardKDistance_34 : decode cX5_backwardKDistance 34 = .ok (.getfield 50, 3) := by decide +kernel
theorem dX5_backwardKDistance_37 : decode cX5_backwardKDistance 37 = .ok (.invokevirtual 83, 3) := by decide +kernel
theorem dX5_backwardKDistance_40 : decode cX5_backwardKDistance 40 = .ok (.isub, 1) := by decide +kernel
theorem dX5_backwardKDistance_41 : decode cX5_backwardKDistance 41 = .ok (.ireturn, 1) := by decide +kernel
set_option maxRecDepth 20000 in
theorem ggX5_diskValue_X5_isPage : GoodIn wsX5_diskValue wsX5_isPage := goodIn_r _ [5, 6, 7, 4, 8] (by decide +kernel) (by decide +kernel)
set_option maxRecDepth 20000 in
theorem gX5_diskValue_X5_isPage : GoodIn wsX5_diskValue (va_wsS RX5 126 yX5_isPage wsX5_isPage) := goodIn_app (goodIn_of _ (by decide +kernel)) ggX5_diskValue_X5_isPage
theorem dX5_diskValue_0 : decode cX5_diskValue 0 = .ok (.iload_n 1, 1) := by decide +kernel
theorem dX5_diskValue_1 : decode cX5_diskValue 1 = .ok (.invokestatic 126, 3) := by decide +kernel
theorem dX5_diskValue_4 : decode cX5_diskValue 4 = .ok (.ifCond .eq 12, 3) := by decide +kernel
theorem dX5_diskValue_7 : decode cX5_diskValue 7 = .ok (.aload_n 0, 1) := by decide +kernel
theorem dX5_diskValue_8 : decode cX5_diskValue 8 = .ok (.getfield 7, 3) := by decide +kernel
theorem dX5_diskValue_11 : decode cX5_diskValue 11 = .ok (.iload_n 1, 1) := by decide +kernel
theorem dX5_diskValue_12 : decode cX5_diskValue 12 = .ok (.iaload, 1) := by decide +kernel
theorem dX5_diskValue_13 : decode cX5_diskValue 13 = .ok (.goto 4, 3) := by decide +kernel
theorem dX5_diskValue_16 : decode cX5_diskValue 16 = .ok (.iconst (-1), 1) := by decide +kernel
theorem dX5_diskValue_17 : decode cX5_diskValue 17 = .ok (.ireturn, 1) := by decide +kernel
theorem dX5_residentCount_0 : decode cX5_residentCount 0 = .ok (.iconst 0, 1) := by decide +kernel
theorem dX5_residentCount_1 : decode cX5_residentCount 1 = .ok (.istore_n 1, 1) := by decide +kernel
theorem dX5_residentCount_2 : decode cX5_residentCount 2 = .ok (.iconst 0, 1) := by decide +kernel
theorem dX5_residentCount_3 : decode cX5_residentCount 3 = .ok (.istore_n 2, 1) := by decide +kernel
theorem dX5_residentCount_4 : decode cX5_residentCount 4 = .ok (.iload_n 2, 1) := by decide +kernel
theorem dX5_residentCount_5 : decode cX5_residentCount 5 = .ok (.bipush 64, 2) := by decide +kernel
theorem dX5_residentCount_7 : decode cX5_residentCount 7 = .ok (.if_icmp .ge 21, 3) := by decide +kernel
theorem dX5_residentCount_10 : decode cX5_residentCount 10 = .ok (.aload_n 0, 1) := by decide +kernel
theorem dX5_residentCount_11 : decode cX5_residentCount 11 = .ok (.getfield 19, 3) := by decide +kernel
theorem dX5_residentCount_14 : decode cX5_residentCount 14 = .ok (.iload_n 2, 1) := by decide +kernel
theorem dX5_residentCount_15 : decode cX5_residentCount 15 = .ok (.baload, 1) := by decide +kernel
theorem dX5_residentCount_16 : decode cX5_residentCount 16 = .ok (.ifCond .eq 6, 3) := by decide +kernel
theorem dX5_residentCount_19 : decode cX5_residentCount 19 = .ok (.iinc 1 1, 3) := by decide +kernel
theorem dX5_residentCount_22 : decode cX5_residentCount 22 = .ok (.iinc 2 1, 3) := by decide +kernel
theorem dX5_residentCount_25 : decode cX5_residentCount 25 = .ok (.goto (-21), 3) := by decide +kernel
theorem dX5_residentCount_28 : decode cX5_residentCount 28 = .ok (.iload_n 1, 1) := by decide +kernel
theorem dX5_residentCount_29 : decode cX5_residentCount 29 = .ok (.ireturn, 1) := by decide +kernel
theorem dX5_residentPage_0 : decode cX5_residentPage 0 = .ok (.iload_n 1, 1) := by decide +kernel
theorem dX5_residentPage_1 : decode cX5_residentPage 1 = .ok (.istore_n 2, 1) := by decide +kernel
theorem dX5_residentPage_2 : decode cX5_residentPage 2 = .ok (.iconst 0, 1) := by decide +kernel
theorem dX5_residentPage_3 : decode cX5_residentPage 3 = .ok (.istore_n 3, 1) := by decide +kernel
theorem dX5_residentPage_4 : decode cX5_residentPage 4 = .ok (.iload_n 3, 1) := by decide +kernel
theorem dX5_residentPage_5 : decode cX5_residentPage 5 = .ok (.bipush 64, 2) := by decide +kernel
theorem dX5_residentPage_7 : decode cX5_residentPage 7 = .ok (.if_icmp .ge 34, 3) := by decide +kernel
theorem dX5_residentPage_10 : decode cX5_residentPage 10 = .ok (.iload_n 2, 1) := by decide +kernel
theorem dX5_residentPage_11 : decode cX5_residentPage 11 = .ok (.ifCond .lt 30, 3) := by decide +kernel
theorem dX5_residentPage_14 : decode cX5_residentPage 14 = .ok (.aload_n 0, 1) := by decide +kernel
theorem dX5_residentPage_15 : decode cX5_residentPage 15 = .ok (.getfield 19, 3) := by decide +kernel
theorem dX5_residentPage_18 : decode cX5_residentPage 18 = .ok (.iload_n 3, 1) := by decide +kernel
theorem dX5_residentPage_19 : decode cX5_residentPage 19 = .ok (.baload, 1) := by decide +kernel
theorem dX5_residentPage_20 : decode cX5_residentPage 20 = .ok (.ifCond .ne 6, 3) := by decide +kernel
theorem dX5_residentPage_23 : decode cX5_residentPage 23 = .ok (.goto 12, 3) := by decide +kernel
theorem dX5_residentPage_26 : decode cX5_residentPage 26 = .ok (.iload_n 2, 1) := by decide +kernel
theorem dX5_residentPage_27 : decode cX5_residentPage 27 = .ok (.ifCond .ne 5, 3) := by decide +kernel
theorem dX5_residentPage_30 : decode cX5_residentPage 30 = .ok (.iload_n 3, 1) := by decide +kernel
theorem dX5_residentPage_31 : decode cX5_residentPage 31 = .ok (.ireturn, 1) := by decide +kernel
theorem dX5_residentPage_32 : decode cX5_residentPage 32 = .ok (.iinc 2 (-1), 3) := by decide +kernel
theorem dX5_residentPage_35 : decode cX5_residentPage 35 = .ok (.iinc 3 1, 3) := by decide +kernel
theorem dX5_residentPage_38 : decode cX5_residentPage 38 = .ok (.goto (-34), 3) := by decide +kernel
theorem dX5_residentPage_41 : decode cX5_residentPage 41 = .ok (.bipush (-9), 2) := by decide +kernel
theorem dX5_residentPage_43 : decode cX5_residentPage 43 = .ok (.ireturn, 1) := by decide +kernel
set_option maxRecDepth 20000 in
theorem ggX5_isInQueue_X5_isFrom : GoodIn wsX5_isInQueue wsX5_isFrom := goodIn_r _ [5] (by decide +kernel) (by decide +kernel)
set_option maxRecDepth 20000 in
theorem gX5_isInQueue_X5_isFrom : GoodIn wsX5_isInQueue (va_wsS RX5 42 yX5_isFrom wsX5_isFrom) := goodIn_app (goodIn_of _ (by decide +kernel)) ggX5_isInQueue_X5_isFrom
theorem dX5_isInQueue_0 : decode cX5_isInQueue 0 = .ok (.iload_n 1, 1) := by decide +kernel
theorem dX5_isInQueue_1 : decode cX5_isInQueue 1 = .ok (.iconst 0, 1) := by decide +kernel
theorem dX5_isInQueue_2 : decode cX5_isInQueue 2 = .ok (.aload_n 0, 1) := by decide +kernel
theorem dX5_isInQueue_3 : decode cX5_isInQueue 3 = .ok (.getfield 80, 3) := by decide +kernel
theorem dX5_isInQueue_6 : decode cX5_isInQueue 6 = .ok (.iconst 1, 1) := by decide +kernel
theorem dX5_isInQueue_7 : decode cX5_isInQueue 7 = .ok (.isub, 1) := by decide +kernel
theorem dX5_isInQueue_8 : decode cX5_isInQueue 8 = .ok (.invokestatic 42, 3) := by decide +kernel
theorem dX5_isInQueue_11 : decode cX5_isInQueue 11 = .ok (.ireturn, 1) := by decide +kernel
theorem dX5_queueSize_0 : decode cX5_queueSize 0 = .ok (.aload_n 0, 1) := by decide +kernel
theorem dX5_queueSize_1 : decode cX5_queueSize 1 = .ok (.getfield 80, 3) := by decide +kernel
theorem dX5_queueSize_4 : decode cX5_queueSize 4 = .ok (.ireturn, 1) := by decide +kernel
set_option maxRecDepth 20000 in
theorem ggX5_queuedPage_X5_isInQueue : GoodIn wsX5_queuedPage wsX5_isInQueue := goodIn_r _ [6, 7, 8, 9, 5, 10, 11, 12, 13, 14, 15, 16, 17, 18, 19, 20, 21, 22, 23, 24, 25, 26, 27, 28, 29, 30, 31] (by decide +kernel) (by decide +kernel)
set_option maxRecDepth 20000 in
theorem gX5_queuedPage_X5_isInQueue : GoodIn wsX5_queuedPage (wsV RX5 139 RX5 yX5_isInQueue wsX5_isInQueue) := goodIn_app (goodIn_of _ (by decide +kernel)) ggX5_queuedPage_X5_isInQueue
theorem dX5_queuedPage_0 : decode cX5_queuedPage 0 = .ok (.aload_n 0, 1) := by decide +kernel
theorem dX5_queuedPage_1 : decode cX5_queuedPage 1 = .ok (.iload_n 1, 1) := by decide +kernel
theorem dX5_queuedPage_2 : decode cX5_queuedPage 2 = .ok (.invokevirtual 139, 3) := by decide +kernel
theorem dX5_queuedPage_5 : decode cX5_queuedPage 5 = .ok (.ifCond .eq 12, 3) := by decide +kernel
theorem dX5_queuedPage_8 : decode cX5_queuedPage 8 = .ok (.aload_n 0, 1) := by decide +kernel
theorem dX5_queuedPage_9 : decode cX5_queuedPage 9 = .ok (.getfield 32, 3) := by decide +kernel
theorem dX5_queuedPage_12 : decode cX5_queuedPage 12 = .ok (.iload_n 1, 1) := by decide +kernel
theorem dX5_queuedPage_13 : decode cX5_queuedPage 13 = .ok (.iaload, 1) := by decide +kernel
theorem dX5_queuedPage_14 : decode cX5_queuedPage 14 = .ok (.goto 5, 3) := by decide +kernel
theorem dX5_queuedPage_17 : decode cX5_queuedPage 17 = .ok (.bipush (-9), 2) := by decide +kernel
theorem dX5_queuedPage_19 : decode cX5_queuedPage 19 = .ok (.ireturn, 1) := by decide +kernel
set_option maxRecDepth 20000 in
theorem ggX5_queuedValue_X5_isInQueue : GoodIn wsX5_queuedValue wsX5_isInQueue := goodIn_r _ [6, 7, 8, 9, 5, 10, 11, 12, 13, 14, 15, 16, 17, 18, 19, 20, 21, 22, 23, 24, 25, 26, 27, 28, 29, 30, 31] (by decide +kernel) (by decide +kernel)
set_option maxRecDepth 20000 in
theorem gX5_queuedValue_X5_isInQueue : GoodIn wsX5_queuedValue (wsV RX5 139 RX5 yX5_isInQueue wsX5_isInQueue) := goodIn_app (goodIn_of _ (by decide +kernel)) ggX5_queuedValue_X5_isInQueue
theorem dX5_queuedValue_0 : decode cX5_queuedValue 0 = .ok (.aload_n 0, 1) := by decide +kernel
theorem dX5_queuedValue_1 : decode cX5_queuedValue 1 = .ok (.iload_n 1, 1) := by decide +kernel
theorem dX5_queuedValue_2 : decode cX5_queuedValue 2 = .ok (.invokevirtual 139, 3) := by decide +kernel
theorem dX5_queuedValue_5 : decode cX5_queuedValue 5 = .ok (.ifCond .eq 12, 3) := by decide +kernel
theorem dX5_queuedValue_8 : decode cX5_queuedValue 8 = .ok (.aload_n 0, 1) := by decide +kernel
theorem dX5_queuedValue_9 : decode cX5_queuedValue 9 = .ok (.getfield 35, 3) := by decide +kernel
theorem dX5_queuedValue_12 : decode cX5_queuedValue 12 = .ok (.iload_n 1, 1) := by decide +kernel
theorem dX5_queuedValue_13 : decode cX5_queuedValue 13 = .ok (.iaload, 1) := by decide +kernel
theorem dX5_queuedValue_14 : decode cX5_queuedValue 14 = .ok (.goto 5, 3) := by decide +kernel
theorem dX5_queuedValue_17 : decode cX5_queuedValue 17 = .ok (.bipush (-9), 2) := by decide +kernel
theorem dX5_queuedValue_19 : decode cX5_queuedValue 19 = .ok (.ireturn, 1) := by decide +kernel
theorem dX5_clock_0 : decode cX5_clock 0 = .ok (.aload_n 0, 1) := by decide +kernel
theorem dX5_clock_1 : decode cX5_clock 1 = .ok (.getfield 59, 3) := by decide +kernel
theorem dX5_clock_4 : decode cX5_clock 4 = .ok (.ireturn, 1) := by decide +kernel
theorem dX5_hits_0 : decode cX5_hits 0 = .ok (.aload_n 0, 1) := by decide +kernel
theorem dX5_hits_1 : decode cX5_hits 1 = .ok (.getfield 62, 3) := by decide +kernel
theorem dX5_hits_4 : decode cX5_hits 4 = .ok (.ireturn, 1) := by decide +kernel
theorem dX5_misses_0 : decode cX5_misses 0 = .ok (.aload_n 0, 1) := by decide +kernel
theorem dX5_misses_1 : decode cX5_misses 1 = .ok (.getfield 65, 3) := by decide +kernel
theorem dX5_misses_4 : decode cX5_misses 4 = .ok (.ireturn, 1) := by decide +kernel
theorem dX5_evictions_0 : decode cX5_evictions 0 = .ok (.aload_n 0, 1) := by decide +kernel
theorem dX5_evictions_1 : decode cX5_evictions 1 = .ok (.getfield 68, 3) := by decide +kernel
theorem dX5_evictions_4 : decode cX5_evictions 4 = .ok (.ireturn, 1) := by decide +kernel
theorem dX5_diskReads_0 : decode cX5_diskReads 0 = .ok (.aload_n 0, 1) := by decide +kernel
theorem dX5_diskReads_1 : decode cX5_diskReads 1 = .ok (.getfield 71, 3) := by decide +kernel
theorem dX5_diskReads_4 : decode cX5_diskReads 4 = .ok (.ireturn, 1) := by decide +kernel
theorem dX5_diskWrites_0 : decode cX5_diskWrites 0 = .ok (.aload_n 0, 1) := by decide +kernel
theorem dX5_diskWrites_1 : decode cX5_diskWrites 1 = .ok (.getfield 74, 3) := by decide +kernel
theorem dX5_diskWrites_4 : decode cX5_diskWrites 4 = .ok (.ireturn, 1) := by decide +kernel
theorem dX5_stalls_0 : decode cX5_stalls 0 = .ok (.aload_n 0, 1) := by decide +kernel
theorem dX5_stalls_1 : decode cX5_stalls 1 = .ok (.getfield 77, 3) := by decide +kernel
theorem dX5_stalls_4 : decode cX5_stalls 4 = .ok (.ireturn, 1) := by decide +kernel
