theorem dX3_init_0 : decode cX3_init 0 = .ok (.aload_n 0, 1) := by decide +kernel
theorem dX3_init_1 : decode cX3_init 1 = .ok (.invokespecial 1, 3) := by decide +kernel
theorem dX3_init_4 : decode cX3_init 4 = .ok (.aload_n 0, 1) := by decide +kernel
theorem dX3_init_5 : decode cX3_init 5 = .ok (.bipush 16, 2) := by decide +kernel
theorem dX3_init_7 : decode cX3_init 7 = .ok (.newarray .boolean, 2) := by decide +kernel
theorem dX3_init_9 : decode cX3_init 9 = .ok (.putfield 7, 3) := by decide +kernel
theorem dX3_init_12 : decode cX3_init 12 = .ok (.aload_n 0, 1) := by decide +kernel
theorem dX3_init_13 : decode cX3_init 13 = .ok (.bipush 16, 2) := by decide +kernel
theorem dX3_init_15 : decode cX3_init 15 = .ok (.newarray .int, 2) := by decide +kernel
theorem dX3_init_17 : decode cX3_init 17 = .ok (.putfield 13, 3) := by decide +kernel
theorem dX3_init_20 : decode cX3_init 20 = .ok (.aload_n 0, 1) := by decide +kernel
theorem dX3_init_21 : decode cX3_init 21 = .ok (.bipush 16, 2) := by decide +kernel
theorem dX3_init_23 : decode cX3_init 23 = .ok (.newarray .int, 2) := by decide +kernel
theorem dX3_init_25 : decode cX3_init 25 = .ok (.putfield 17, 3) := by decide +kernel
theorem dX3_init_28 : decode cX3_init 28 = .ok (.aload_n 0, 1) := by decide +kernel
theorem dX3_init_29 : decode cX3_init 29 = .ok (.bipush 8, 2) := by decide +kernel
theorem dX3_init_31 : decode cX3_init 31 = .ok (.newarray .int, 2) := by decide +kernel
theorem dX3_init_33 : decode cX3_init 33 = .ok (.putfield 20, 3) := by decide +kernel
theorem dX3_init_36 : decode cX3_init 36 = .ok (.aload_n 0, 1) := by decide +kernel
theorem dX3_init_37 : decode cX3_init 37 = .ok (.bipush 8, 2) := by decide +kernel
theorem dX3_init_39 : decode cX3_init 39 = .ok (.newarray .int, 2) := by decide +kernel
theorem dX3_init_41 : decode cX3_init 41 = .ok (.putfield 23, 3) := by decide +kernel
theorem dX3_init_44 : decode cX3_init 44 = .ok (.aload_n 0, 1) := by decide +kernel
theorem dX3_init_45 : decode cX3_init 45 = .ok (.bipush 8, 2) := by decide +kernel
theorem dX3_init_47 : decode cX3_init 47 = .ok (.newarray .int, 2) := by decide +kernel
theorem dX3_init_49 : decode cX3_init 49 = .ok (.putfield 26, 3) := by decide +kernel
theorem dX3_init_52 : decode cX3_init 52 = .ok (.aload_n 0, 1) := by decide +kernel
theorem dX3_init_53 : decode cX3_init 53 = .ok (.bipush 8, 2) := by decide +kernel
theorem dX3_init_55 : decode cX3_init 55 = .ok (.newarray .int, 2) := by decide +kernel
theorem dX3_init_57 : decode cX3_init 57 = .ok (.putfield 29, 3) := by decide +kernel
theorem dX3_init_60 : decode cX3_init 60 = .ok (.aload_n 0, 1) := by decide +kernel
theorem dX3_init_61 : decode cX3_init 61 = .ok (.bipush 8, 2) := by decide +kernel
theorem dX3_init_63 : decode cX3_init 63 = .ok (.newarray .boolean, 2) := by decide +kernel
theorem dX3_init_65 : decode cX3_init 65 = .ok (.putfield 32, 3) := by decide +kernel
theorem dX3_init_68 : decode cX3_init 68 = .ok (.aload_n 0, 1) := by decide +kernel
theorem dX3_init_69 : decode cX3_init 69 = .ok (.bipush 8, 2) := by decide +kernel
theorem dX3_init_71 : decode cX3_init 71 = .ok (.newarray .int, 2) := by decide +kernel
theorem dX3_init_73 : decode cX3_init 73 = .ok (.putfield 35, 3) := by decide +kernel
theorem dX3_init_76 : decode cX3_init 76 = .ok (.aload_n 0, 1) := by decide +kernel
theorem dX3_init_77 : decode cX3_init 77 = .ok (.bipush 8, 2) := by decide +kernel
theorem dX3_init_79 : decode cX3_init 79 = .ok (.newarray .int, 2) := by decide +kernel
theorem dX3_init_81 : decode cX3_init 81 = .ok (.putfield 38, 3) := by decide +kernel
theorem dX3_init_84 : decode cX3_init 84 = .ok (.aload_n 0, 1) := by decide +kernel
theorem dX3_init_85 : decode cX3_init 85 = .ok (.bipush 40, 2) := by decide +kernel
theorem dX3_init_87 : decode cX3_init 87 = .ok (.newarray .int, 2) := by decide +kernel
theorem dX3_init_89 : decode cX3_init 89 = .ok (.putfield 41, 3) := by decide +kernel
theorem dX3_init_92 : decode cX3_init 92 = .ok (.aload_n 0, 1) := by decide +kernel
theorem dX3_init_93 : decode cX3_init 93 = .ok (.bipush 40, 2) := by decide +kernel
theorem dX3_init_95 : decode cX3_init 95 = .ok (.newarray .int, 2) := by decide +kernel
theorem dX3_init_97 : decode cX3_init 97 = .ok (.putfield 44, 3) := by decide +kernel
theorem dX3_init_100 : decode cX3_init 100 = .ok (.aload_n 0, 1) := by decide +kernel
theorem dX3_init_101 : decode cX3_init 101 = .ok (.bipush 40, 2) := by decide +kernel
theorem dX3_init_103 : decode cX3_init 103 = .ok (.newarray .int, 2) := by decide +kernel
theorem dX3_init_105 : decode cX3_init 105 = .ok (.putfield 47, 3) := by decide +kernel
theorem dX3_init_108 : decode cX3_init 108 = .ok (.aload_n 0, 1) := by decide +kernel
theorem dX3_init_109 : decode cX3_init 109 = .ok (.bipush 30, 2) := by decide +kernel
theorem dX3_init_111 : decode cX3_init 111 = .ok (.newarray .int, 2) := by decide +kernel
theorem dX3_init_113 : decode cX3_init 113 = .ok (.putfield 50, 3) := by decide +kernel
theorem dX3_init_116 : decode cX3_init 116 = .ok (.aload_n 0, 1) := by decide +kernel
theorem dX3_init_117 : decode cX3_init 117 = .ok (.bipush 30, 2) := by decide +kernel
theorem dX3_init_119 : decode cX3_init 119 = .ok (.newarray .int, 2) := by decide +kernel
theorem dX3_init_121 : decode cX3_init 121 = .ok (.putfield 53, 3) := by decide +kernel
theorem dX3_init_124 : decode cX3_init 124 = .ok (.aload_n 0, 1) := by decide +kernel
theorem dX3_init_125 : decode cX3_init 125 = .ok (.bipush 30, 2) := by decide +kernel
theorem dX3_init_127 : decode cX3_init 127 = .ok (.newarray .int, 2) := by decide +kernel
theorem dX3_init_129 : decode cX3_init 129 = .ok (.putfield 56, 3) := by decide +kernel
theorem dX3_init_132 : decode cX3_init 132 = .ok (.aload_n 0, 1) := by decide +kernel
theorem dX3_init_133 : decode cX3_init 133 = .ok (.bipush 30, 2) := by decide +kernel
theorem dX3_init_135 : decode cX3_init 135 = .ok (.newarray .int, 2) := by decide +kernel
theorem dX3_init_137 : decode cX3_init 137 = .ok (.putfield 59, 3) := by decide +kernel
theorem dX3_init_140 : decode cX3_init 140 = .ok (.aload_n 0, 1) := by decide +kernel
theorem dX3_init_141 : decode cX3_init 141 = .ok (.bipush 30, 2) := by decide +kernel
theorem dX3_init_143 : decode cX3_init 143 = .ok (.newarray .boolean, 2) := by decide +kernel
theorem dX3_init_145 : decode cX3_init 145 = .ok (.putfield 62, 3) := by decide +kernel
theorem dX3_init_148 : decode cX3_init 148 = .ok (.return_, 1) := by decide +kernel
theorem dX3_thrown_0 : decode cX3_thrown 0 = .ok (.aload_n 0, 1) := by decide +kernel
theorem dX3_thrown_1 : decode cX3_thrown 1 = .ok (.getfield 65, 3) := by decide +kernel
theorem dX3_thrown_4 : decode cX3_thrown 4 = .ok (.ireturn, 1) := by decide +kernel
theorem dX3_fails_0 : decode cX3_fails 0 = .ok (.aload_n 0, 1) := by decide +kernel
theorem dX3_fails_1 : decode cX3_fails 1 = .ok (.iload_n 1, 1) := by decide +kernel
theorem dX3_fails_2 : decode cX3_fails 2 = .ok (.putfield 65, 3) := by decide +kernel
theorem dX3_fails_5 : decode cX3_fails 5 = .ok (.iconst 0, 1) := by decide +kernel
theorem dX3_fails_6 : decode cX3_fails 6 = .ok (.ireturn, 1) := by decide +kernel
theorem dX3_in_0 : decode cX3_in 0 = .ok (.iload_n 0, 1) := by decide +kernel
theorem dX3_in_1 : decode cX3_in 1 = .ok (.iload_n 1, 1) := by decide +kernel
theorem dX3_in_2 : decode cX3_in 2 = .ok (.if_icmp .lt 12, 3) := by decide +kernel
theorem dX3_in_5 : decode cX3_in 5 = .ok (.iload_n 0, 1) := by decide +kernel
theorem dX3_in_6 : decode cX3_in 6 = .ok (.iload_n 2, 1) := by decide +kernel
theorem dX3_in_7 : decode cX3_in 7 = .ok (.if_icmp .gt 7, 3) := by decide +kernel
theorem dX3_in_10 : decode cX3_in 10 = .ok (.iconst 1, 1) := by decide +kernel
theorem dX3_in_11 : decode cX3_in 11 = .ok (.goto 4, 3) := by decide +kernel
theorem dX3_in_14 : decode cX3_in 14 = .ok (.iconst 0, 1) := by decide +kernel
theorem dX3_in_15 : decode cX3_in 15 = .ok (.ireturn, 1) := by decide +kernel
set_option maxRecDepth 20000 in
theorem ggX3_isBox_X3_in : GoodIn wsX3_isBox wsX3_in := goodIn_r _ [4] (by decide +kernel) (by decide +kernel)
set_option maxRecDepth 20000 in
theorem gX3_isBox_X3_in : GoodIn wsX3_isBox (va_wsS RX3 69 yX3_in wsX3_in) := goodIn_app (goodIn_of _ (by decide +kernel)) ggX3_isBox_X3_in
theorem dX3_isBox_0 : decode cX3_isBox 0 = .ok (.iload_n 0, 1) := by decide +kernel
theorem dX3_isBox_1 : decode cX3_isBox 1 = .ok (.iconst 0, 1) := by decide +kernel
theorem dX3_isBox_2 : decode cX3_isBox 2 = .ok (.bipush 7, 2) := by decide +kernel
theorem dX3_isBox_4 : decode cX3_isBox 4 = .ok (.invokestatic 69, 3) := by decide +kernel
theorem dX3_isBox_7 : decode cX3_isBox 7 = .ok (.ireturn, 1) := by decide +kernel
set_option maxRecDepth 20000 in
theorem ggX3_isPerson_X3_in : GoodIn wsX3_isPerson wsX3_in := goodIn_r _ [4] (by decide +kernel) (by decide +kernel)
set_option maxRecDepth 20000 in
theorem gX3_isPerson_X3_in : GoodIn wsX3_isPerson (va_wsS RX3 69 yX3_in wsX3_in) := goodIn_app (goodIn_of _ (by decide +kernel)) ggX3_isPerson_X3_in
theorem dX3_isPerson_0 : decode cX3_isPerson 0 = .ok (.iload_n 0, 1) := by decide +kernel
theorem dX3_isPerson_1 : decode cX3_isPerson 1 = .ok (.iconst 0, 1) := by decide +kernel
theorem dX3_isPerson_2 : decode cX3_isPerson 2 = .ok (.bipush 15, 2) := by decide +kernel
theorem dX3_isPerson_4 : decode cX3_isPerson 4 = .ok (.invokestatic 69, 3) := by decide +kernel
theorem dX3_isPerson_7 : decode cX3_isPerson 7 = .ok (.ireturn, 1) := by decide +kernel
theorem dX3_isRented_0 : decode cX3_isRented 0 = .ok (.aload_n 0, 1) := by decide +kernel
theorem dX3_isRented_1 : decode cX3_isRented 1 = .ok (.getfield 20, 3) := by decide +kernel
theorem dX3_isRented_4 : decode cX3_isRented 4 = .ok (.iload_n 1, 1) := by decide +kernel
theorem dX3_isRented_5 : decode cX3_isRented 5 = .ok (.iaload, 1) := by decide +kernel
theorem dX3_isRented_6 : decode cX3_isRented 6 = .ok (.iconst 1, 1) := by decide +kernel
theorem dX3_isRented_7 : decode cX3_isRented 7 = .ok (.if_icmp .ne 7, 3) := by decide +kernel
theorem dX3_isRented_10 : decode cX3_isRented 10 = .ok (.iconst 1, 1) := by decide +kernel
theorem dX3_isRented_11 : decode cX3_isRented 11 = .ok (.goto 4, 3) := by decide +kernel
theorem dX3_isRented_14 : decode cX3_isRented 14 = .ok (.iconst 0, 1) := by decide +kernel
theorem dX3_isRented_15 : decode cX3_isRented 15 = .ok (.ireturn, 1) := by decide +kernel
theorem dX3_overdue_0 : decode cX3_overdue 0 = .ok (.aload_n 0, 1) := by decide +kernel
theorem dX3_overdue_1 : decode cX3_overdue 1 = .ok (.getfield 73, 3) := by decide +kernel
theorem dX3_overdue_4 : decode cX3_overdue 4 = .ok (.aload_n 0, 1) := by decide +kernel
theorem dX3_overdue_5 : decode cX3_overdue 5 = .ok (.getfield 26, 3) := by decide +kernel
theorem dX3_overdue_8 : decode cX3_overdue 8 = .ok (.iload_n 1, 1) := by decide +kernel
theorem dX3_overdue_9 : decode cX3_overdue 9 = .ok (.iaload, 1) := by decide +kernel
theorem dX3_overdue_10 : decode cX3_overdue 10 = .ok (.if_icmp .le 17, 3) := by decide +kernel
theorem dX3_overdue_13 : decode cX3_overdue 13 = .ok (.aload_n 0, 1) := by decide +kernel
theorem dX3_overdue_14 : decode cX3_overdue 14 = .ok (.getfield 73, 3) := by decide +kernel
theorem dX3_overdue_17 : decode cX3_overdue 17 = .ok (.aload_n 0, 1) := by decide +kernel
theorem dX3_overdue_18 : decode cX3_overdue 18 = .ok (.getfield 26, 3) := by decide +kernel
theorem dX3_overdue_21 : decode cX3_overdue 21 = .ok (.iload_n 1, 1) := by decide +kernel
theorem dX3_overdue_22 : decode cX3_overdue 22 = .ok (.iaload, 1) := by decide +kernel
theorem dX3_overdue_23 : decode cX3_overdue 23 = .ok (.isub, 1) := by decide +kernel
theorem dX3_overdue_24 : decode cX3_overdue 24 = .ok (.goto 4, 3) := by decide +kernel
theorem dX3_overdue_27 : decode cX3_overdue 27 = .ok (.iconst 0, 1) := by decide +kernel
theorem dX3_overdue_28 : decode cX3_overdue 28 = .ok (.ireturn, 1) := by decide +kernel
set_option maxRecDepth 20000 in
theorem ggX3_noticesOf_X3_overdue : GoodIn wsX3_noticesOf wsX3_overdue := goodIn_r _ [5, 6, 7, 13, 14, 15, 16, 17, 18, 19, 20, 21, 22, 23, 24, 25, 26, 27, 28, 29, 30, 31, 32, 33] (by decide +kernel) (by decide +kernel)
set_option maxRecDepth 20000 in
theorem gX3_noticesOf_X3_overdue : GoodIn wsX3_noticesOf (wsV RX3 76 RX3 yX3_overdue wsX3_overdue) := goodIn_app (goodIn_of _ (by decide +kernel)) ggX3_noticesOf_X3_overdue
set_option maxRecDepth 20000 in
theorem ggX3_noticesOf_X3_isRented : GoodIn wsX3_noticesOf wsX3_isRented := goodIn_r _ [11, 12, 13, 14, 15, 16, 17, 18, 19, 20, 21, 22, 23, 24, 25, 26, 27, 28, 29, 30, 31, 32, 33] (by decide +kernel) (by decide +kernel)
set_option maxRecDepth 20000 in
theorem gX3_noticesOf_X3_isRented : GoodIn wsX3_noticesOf (wsV RX3 80 RX3 yX3_isRented wsX3_isRented) := goodIn_app (goodIn_of _ (by decide +kernel)) ggX3_noticesOf_X3_isRented
theorem dX3_noticesOf_0 : decode cX3_noticesOf 0 = .ok (.aload_n 0, 1) := by decide +kernel
theorem dX3_noticesOf_1 : decode cX3_noticesOf 1 = .ok (.iload_n 1, 1) := by decide +kernel
theorem dX3_noticesOf_2 : decode cX3_noticesOf 2 = .ok (.invokevirtual 76, 3) := by decide +kernel
theorem dX3_noticesOf_5 : decode cX3_noticesOf 5 = .ok (.bipush 30, 2) := by decide +kernel
theorem dX3_noticesOf_7 : decode cX3_noticesOf 7 = .ok (.idiv, 1) := by decide +kernel
theorem dX3_noticesOf_8 : decode cX3_noticesOf 8 = .ok (.istore_n 2, 1) := by decide +kernel
theorem dX3_noticesOf_9 : decode cX3_noticesOf 9 = .ok (.aload_n 0, 1) := by decide +kernel
theorem dX3_noticesOf_10 : decode cX3_noticesOf 10 = .ok (.iload_n 1, 1) := by decide +kernel
theorem dX3_noticesOf_11 : decode cX3_noticesOf 11 = .ok (.invokevirtual 80, 3) := by decide +kernel
theorem dX3_noticesOf_14 : decode cX3_noticesOf 14 = .ok (.ifCond .ne 7, 3) := by decide +kernel
theorem dX3_noticesOf_17 : decode cX3_noticesOf 17 = .ok (.iconst 0, 1) := by decide +kernel
theorem dX3_noticesOf_18 : decode cX3_noticesOf 18 = .ok (.goto 13, 3) := by decide +kernel
theorem dX3_noticesOf_21 : decode cX3_noticesOf 21 = .ok (.iload_n 2, 1) := by decide +kernel
theorem dX3_noticesOf_22 : decode cX3_noticesOf 22 = .ok (.iconst 3, 1) := by decide +kernel
theorem dX3_noticesOf_23 : decode cX3_noticesOf 23 = .ok (.if_icmp .le 7, 3) := by decide +kernel
theorem dX3_noticesOf_26 : decode cX3_noticesOf 26 = .ok (.iconst 3, 1) := by decide +kernel
theorem dX3_noticesOf_27 : decode cX3_noticesOf 27 = .ok (.goto 4, 3) := by decide +kernel
theorem dX3_noticesOf_30 : decode cX3_noticesOf 30 = .ok (.iload_n 2, 1) := by decide +kernel
theorem dX3_noticesOf_31 : decode cX3_noticesOf 31 = .ok (.ireturn, 1) := by decide +kernel
theorem dX3_binds_0 : decode cX3_binds 0 = .ok (.iconst (-1), 1) := by decide +kernel
theorem dX3_binds_1 : decode cX3_binds 1 = .ok (.istore_n 2, 1) := by decide +kernel
theorem dX3_binds_2 : decode cX3_binds 2 = .ok (.iconst 0, 1) := by decide +kernel
theorem dX3_binds_3 : decode cX3_binds 3 = .ok (.istore_n 3, 1) := by decide +kernel
theorem dX3_binds_4 : decode cX3_binds 4 = .ok (.iload_n 3, 1) := by decide +kernel
theorem dX3_binds_5 : decode cX3_binds 5 = .ok (.aload_n 0, 1) := by decide +kernel
theorem dX3_binds_6 : decode cX3_binds 6 = .ok (.getfield 84, 3) := by decide +kernel
theorem dX3_binds_9 : decode cX3_binds 9 = .ok (.if_icmp .ge 66, 3) := by decide +kernel
theorem dX3_binds_12 : decode cX3_binds 12 = .ok (.aload_n 0, 1) := by decide +kernel
theorem dX3_binds_13 : decode cX3_binds 13 = .ok (.getfield 62, 3) := by decide +kernel
theorem dX3_binds_16 : decode cX3_binds 16 = .ok (.iload_n 3, 1) := by decide +kernel
theorem dX3_binds_17 : decode cX3_binds 17 = .ok (.baload, 1) := by decide +kernel
theorem dX3_binds_18 : decode cX3_binds 18 = .ok (.ifCond .eq 17, 3) := by decide +kernel
theorem dX3_binds_21 : decode cX3_binds 21 = .ok (.aload_n 0, 1) := by decide +kernel
theorem dX3_binds_22 : decode cX3_binds 22 = .ok (.getfield 50, 3) := by decide +kernel
theorem dX3_binds_25 : decode cX3_binds 25 = .ok (.iload_n 3, 1) := by decide +kernel
theorem dX3_binds_26 : decode cX3_binds 26 = .ok (.iaload, 1) := by decide +kernel
theorem dX3_binds_27 : decode cX3_binds 27 = .ok (.iload_n 1, 1) := by decide +kernel
theorem dX3_binds_28 : decode cX3_binds 28 = .ok (.if_icmp .ne 7, 3) := by decide +kernel
theorem dX3_binds_31 : decode cX3_binds 31 = .ok (.iconst 1, 1) := by decide +kernel
theorem dX3_binds_32 : decode cX3_binds 32 = .ok (.goto 4, 3) := by decide +kernel
theorem dX3_binds_35 : decode cX3_binds 35 = .ok (.iconst 0, 1) := by decide +kernel
theorem dX3_binds_36 : decode cX3_binds 36 = .ok (.istore 4, 2) := by decide +kernel
theorem dX3_binds_38 : decode cX3_binds 38 = .ok (.iload 4, 2) := by decide +kernel
theorem dX3_binds_40 : decode cX3_binds 40 = .ok (.ifCond .eq 27, 3) := by decide +kernel
theorem dX3_binds_43 : decode cX3_binds 43 = .ok (.iload_n 2, 1) := by decide +kernel
theorem dX3_binds_44 : decode cX3_binds 44 = .ok (.iconst (-1), 1) := by decide +kernel
theorem dX3_binds_45 : decode cX3_binds 45 = .ok (.if_icmp .eq 18, 3) := by decide +kernel
theorem dX3_binds_48 : decode cX3_binds 48 = .ok (.aload_n 0, 1) := by decide +kernel
theorem dX3_binds_49 : decode cX3_binds 49 = .ok (.getfield 53, 3) := by decide +kernel
theorem dX3_binds_52 : decode cX3_binds 52 = .ok (.iload_n 3, 1) := by decide +kernel
theorem dX3_binds_53 : decode cX3_binds 53 = .ok (.iaload, 1) := by decide +kernel
theorem dX3_binds_54 : decode cX3_binds 54 = .ok (.aload_n 0, 1) := by decide +kernel
theorem dX3_binds_55 : decode cX3_binds 55 = .ok (.getfield 53, 3) := by decide +kernel
theorem dX3_binds_58 : decode cX3_binds 58 = .ok (.iload_n 2, 1) := by decide +kernel
theorem dX3_binds_59 : decode cX3_binds 59 = .ok (.iaload, 1) := by decide +kernel
theorem dX3_binds_60 : decode cX3_binds 60 = .ok (.if_icmp .lt 7, 3) := by decide +kernel
theorem dX3_binds_63 : decode cX3_binds 63 = .ok (.iload_n 3, 1) := by decide +kernel
theorem dX3_binds_64 : decode cX3_binds 64 = .ok (.goto 4, 3) := by decide +kernel
theorem dX3_binds_67 : decode cX3_binds 67 = .ok (.iload_n 2, 1) := by decide +kernel
theorem dX3_binds_68 : decode cX3_binds 68 = .ok (.istore_n 2, 1) := by decide +kernel
theorem dX3_binds_69 : decode cX3_binds 69 = .ok (.iinc 3 1, 3) := by decide +kernel
theorem dX3_binds_72 : decode cX3_binds 72 = .ok (.goto (-68), 3) := by decide +kernel
theorem dX3_binds_75 : decode cX3_binds 75 = .ok (.iload_n 2, 1) := by decide +kernel
theorem dX3_binds_76 : decode cX3_binds 76 = .ok (.ireturn, 1) := by decide +kernel
theorem dX3_isHeir_0 : decode cX3_isHeir 0 = .ok (.aload_n 0, 1) := by decide +kernel
theorem dX3_isHeir_1 : decode cX3_isHeir 1 = .ok (.getfield 13, 3) := by decide +kernel
theorem dX3_isHeir_4 : decode cX3_isHeir 4 = .ok (.iload_n 2, 1) := by decide +kernel
theorem dX3_isHeir_5 : decode cX3_isHeir 5 = .ok (.iaload, 1) := by decide +kernel
theorem dX3_isHeir_6 : decode cX3_isHeir 6 = .ok (.iload_n 1, 1) := by decide +kernel
theorem dX3_isHeir_7 : decode cX3_isHeir 7 = .ok (.ishr, 1) := by decide +kernel
theorem dX3_isHeir_8 : decode cX3_isHeir 8 = .ok (.iconst 1, 1) := by decide +kernel
theorem dX3_isHeir_9 : decode cX3_isHeir 9 = .ok (.iand, 1) := by decide +kernel
theorem dX3_isHeir_10 : decode cX3_isHeir 10 = .ok (.iconst 1, 1) := by decide +kernel
theorem dX3_isHeir_11 : decode cX3_isHeir 11 = .ok (.if_icmp .ne 7, 3) := by decide +kernel
theorem dX3_isHeir_14 : decode cX3_isHeir 14 = .ok (.iconst 1, 1) := by decide +kernel
theorem dX3_isHeir_15 : decode cX3_isHeir 15 = .ok (.goto 4, 3) := by decide +kernel
theorem dX3_isHeir_18 : decode cX3_isHeir 18 = .ok (.iconst 0, 1) := by decide +kernel
theorem dX3_isHeir_19 : decode cX3_isHeir 19 = .ok (.ireturn, 1) := by decide +kernel
set_option maxRecDepth 20000 in
theorem ggX3_isOrdered_X3_isHeir : GoodIn wsX3_isOrdered wsX3_isHeir := goodIn_r _ [10, 11, 12, 13, 14, 15, 16, 17, 18, 19, 20, 21, 22, 23, 24, 25, 26, 27, 28, 29, 30, 31, 32] (by decide +kernel) (by decide +kernel)
set_option maxRecDepth 20000 in
theorem gX3_isOrdered_X3_isHeir : GoodIn wsX3_isOrdered (wsV RX3 87 RX3 yX3_isHeir wsX3_isHeir) := goodIn_app (goodIn_of _ (by decide +kernel)) ggX3_isOrdered_X3_isHeir
theorem dX3_isOrdered_0 : decode cX3_isOrdered 0 = .ok (.aload_n 0, 1) := by decide +kernel
theorem dX3_isOrdered_1 : decode cX3_isOrdered 1 = .ok (.getfield 23, 3) := by decide +kernel
theorem dX3_isOrdered_4 : decode cX3_isOrdered 4 = .ok (.aload_n 0, 1) := by decide +kernel
theorem dX3_isOrdered_5 : decode cX3_isOrdered 5 = .ok (.getfield 50, 3) := by decide +kernel
theorem dX3_isOrdered_8 : decode cX3_isOrdered 8 = .ok (.iload_n 1, 1) := by decide +kernel
theorem dX3_isOrdered_9 : decode cX3_isOrdered 9 = .ok (.iaload, 1) := by decide +kernel
theorem dX3_isOrdered_10 : decode cX3_isOrdered 10 = .ok (.iaload, 1) := by decide +kernel
theorem dX3_isOrdered_11 : decode cX3_isOrdered 11 = .ok (.istore_n 3, 1) := by decide +kernel
theorem dX3_isOrdered_12 : decode cX3_isOrdered 12 = .ok (.aload_n 0, 1) := by decide +kernel
theorem dX3_isOrdered_13 : decode cX3_isOrdered 13 = .ok (.getfield 56, 3) := by decide +kernel
theorem dX3_isOrdered_16 : decode cX3_isOrdered 16 = .ok (.iload_n 1, 1) := by decide +kernel
theorem dX3_isOrdered_17 : decode cX3_isOrdered 17 = .ok (.iaload, 1) := by decide +kernel
theorem dX3_isOrdered_18 : decode cX3_isOrdered 18 = .ok (.iconst 1, 1) := by decide +kernel
theorem dX3_isOrdered_19 : decode cX3_isOrdered 19 = .ok (.if_icmp .ne 21, 3) := by decide +kernel
theorem dX3_isOrdered_22 : decode cX3_isOrdered 22 = .ok (.aload_n 0, 1) := by decide +kernel
theorem dX3_isOrdered_23 : decode cX3_isOrdered 23 = .ok (.getfield 59, 3) := by decide +kernel
theorem dX3_isOrdered_26 : decode cX3_isOrdered 26 = .ok (.iload_n 1, 1) := by decide +kernel
theorem dX3_isOrdered_27 : decode cX3_isOrdered 27 = .ok (.iaload, 1) := by decide +kernel
theorem dX3_isOrdered_28 : decode cX3_isOrdered 28 = .ok (.iload_n 2, 1) := by decide +kernel
theorem dX3_isOrdered_29 : decode cX3_isOrdered 29 = .ok (.if_icmp .ne 7, 3) := by decide +kernel
theorem dX3_isOrdered_32 : decode cX3_isOrdered 32 = .ok (.iconst 1, 1) := by decide +kernel
theorem dX3_isOrdered_33 : decode cX3_isOrdered 33 = .ok (.goto 40, 3) := by decide +kernel
theorem dX3_isOrdered_36 : decode cX3_isOrdered 36 = .ok (.iconst 0, 1) := by decide +kernel
theorem dX3_isOrdered_37 : decode cX3_isOrdered 37 = .ok (.goto 36, 3) := by decide +kernel
theorem dX3_isOrdered_40 : decode cX3_isOrdered 40 = .ok (.aload_n 0, 1) := by decide +kernel
theorem dX3_isOrdered_41 : decode cX3_isOrdered 41 = .ok (.getfield 56, 3) := by decide +kernel
theorem dX3_isOrdered_44 : decode cX3_isOrdered 44 = .ok (.iload_n 1, 1) := by decide +kernel
theorem dX3_isOrdered_45 : decode cX3_isOrdered 45 = .ok (.iaload, 1) := by decide +kernel
theorem dX3_isOrdered_46 : decode cX3_isOrdered 46 = .ok (.iconst 2, 1) := by decide +kernel
theorem dX3_isOrdered_47 : decode cX3_isOrdered 47 = .ok (.if_icmp .ne 25, 3) := by decide +kernel
theorem dX3_isOrdered_50 : decode cX3_isOrdered 50 = .ok (.aload_n 0, 1) := by decide +kernel
theorem dX3_isOrdered_51 : decode cX3_isOrdered 51 = .ok (.getfield 7, 3) := by decide +kernel
theorem dX3_isOrdered_54 : decode cX3_isOrdered 54 = .ok (.iload_n 3, 1) := by decide +kernel
theorem dX3_isOrdered_55 : decode cX3_isOrdered 55 = .ok (.baload, 1) := by decide +kernel
theorem dX3_isOrdered_56 : decode cX3_isOrdered 56 = .ok (.ifCond .eq 16, 3) := by decide +kernel
theorem dX3_isOrdered_59 : decode cX3_isOrdered 59 = .ok (.aload_n 0, 1) := by decide +kernel
theorem dX3_isOrdered_60 : decode cX3_isOrdered 60 = .ok (.iload_n 2, 1) := by decide +kernel
theorem dX3_isOrdered_61 : decode cX3_isOrdered 61 = .ok (.iload_n 3, 1) := by decide +kernel
theorem dX3_isOrdered_62 : decode cX3_isOrdered 62 = .ok (.invokevirtual 87, 3) := by decide +kernel
theorem dX3_isOrdered_65 : decode cX3_isOrdered 65 = .ok (.ifCond .eq 7, 3) := by decide +kernel
theorem dX3_isOrdered_68 : decode cX3_isOrdered 68 = .ok (.iconst 1, 1) := by decide +kernel
theorem dX3_isOrdered_69 : decode cX3_isOrdered 69 = .ok (.goto 4, 3) := by decide +kernel
theorem dX3_isOrdered_72 : decode cX3_isOrdered 72 = .ok (.iconst 0, 1) := by decide +kernel
theorem dX3_isOrdered_73 : decode cX3_isOrdered 73 = .ok (.ireturn, 1) := by decide +kernel
set_option maxRecDepth 20000 in
theorem ggX3_isProxy_X3_in : GoodIn wsX3_isProxy wsX3_in := goodIn_r _ [9] (by decide +kernel) (by decide +kernel)
set_option maxRecDepth 20000 in
theorem gX3_isProxy_X3_in : GoodIn wsX3_isProxy (va_wsS RX3 69 yX3_in wsX3_in) := goodIn_app (goodIn_of _ (by decide +kernel)) ggX3_isProxy_X3_in
theorem dX3_isProxy_0 : decode cX3_isProxy 0 = .ok (.iconst 0, 1) := by decide +kernel
theorem dX3_isProxy_1 : decode cX3_isProxy 1 = .ok (.istore_n 3, 1) := by decide +kernel
theorem dX3_isProxy_2 : decode cX3_isProxy 2 = .ok (.iconst 5, 1) := by decide +kernel
theorem dX3_isProxy_3 : decode cX3_isProxy 3 = .ok (.iload_n 1, 1) := by decide +kernel
theorem dX3_isProxy_4 : decode cX3_isProxy 4 = .ok (.imul, 1) := by decide +kernel
theorem dX3_isProxy_5 : decode cX3_isProxy 5 = .ok (.istore 4, 2) := by decide +kernel
theorem dX3_isProxy_7 : decode cX3_isProxy 7 = .ok (.iload 4, 2) := by decide +kernel
theorem dX3_isProxy_9 : decode cX3_isProxy 9 = .ok (.iconst 5, 1) := by decide +kernel
theorem dX3_isProxy_10 : decode cX3_isProxy 10 = .ok (.iload_n 1, 1) := by decide +kernel
theorem dX3_isProxy_11 : decode cX3_isProxy 11 = .ok (.imul, 1) := by decide +kernel
theorem dX3_isProxy_12 : decode cX3_isProxy 12 = .ok (.aload_n 0, 1) := by decide +kernel
theorem dX3_isProxy_13 : decode cX3_isProxy 13 = .ok (.getfield 38, 3) := by decide +kernel
theorem dX3_isProxy_16 : decode cX3_isProxy 16 = .ok (.iload_n 1, 1) := by decide +kernel
theorem dX3_isProxy_17 : decode cX3_isProxy 17 = .ok (.iaload, 1) := by decide +kernel
theorem dX3_isProxy_18 : decode cX3_isProxy 18 = .ok (.iadd, 1) := by decide +kernel
theorem dX3_isProxy_19 : decode cX3_isProxy 19 = .ok (.if_icmp .ge 54, 3) := by decide +kernel
theorem dX3_isProxy_22 : decode cX3_isProxy 22 = .ok (.iload_n 3, 1) := by decide +kernel
theorem dX3_isProxy_23 : decode cX3_isProxy 23 = .ok (.ifCond .ne 38, 3) := by decide +kernel
theorem dX3_isProxy_26 : decode cX3_isProxy 26 = .ok (.aload_n 0, 1) := by decide +kernel
theorem dX3_isProxy_27 : decode cX3_isProxy 27 = .ok (.getfield 41, 3) := by decide +kernel
theorem dX3_isProxy_30 : decode cX3_isProxy 30 = .ok (.iload 4, 2) := by decide +kernel
theorem dX3_isProxy_32 : decode cX3_isProxy 32 = .ok (.iaload, 1) := by decide +kernel
theorem dX3_isProxy_33 : decode cX3_isProxy 33 = .ok (.iload_n 2, 1) := by decide +kernel
theorem dX3_isProxy_34 : decode cX3_isProxy 34 = .ok (.if_icmp .ne 31, 3) := by decide +kernel
theorem dX3_isProxy_37 : decode cX3_isProxy 37 = .ok (.aload_n 0, 1) := by decide +kernel
theorem dX3_isProxy_38 : decode cX3_isProxy 38 = .ok (.getfield 73, 3) := by decide +kernel
theorem dX3_isProxy_41 : decode cX3_isProxy 41 = .ok (.aload_n 0, 1) := by decide +kernel
theorem dX3_isProxy_42 : decode cX3_isProxy 42 = .ok (.getfield 44, 3) := by decide +kernel
theorem dX3_isProxy_45 : decode cX3_isProxy 45 = .ok (.iload 4, 2) := by decide +kernel
theorem dX3_isProxy_47 : decode cX3_isProxy 47 = .ok (.iaload, 1) := by decide +kernel
theorem dX3_isProxy_48 : decode cX3_isProxy 48 = .ok (.aload_n 0, 1) := by decide +kernel
theorem dX3_isProxy_49 : decode cX3_isProxy 49 = .ok (.getfield 47, 3) := by decide +kernel
theorem dX3_isProxy_52 : decode cX3_isProxy 52 = .ok (.iload 4, 2) := by decide +kernel
theorem dX3_isProxy_54 : decode cX3_isProxy 54 = .ok (.iaload, 1) := by decide +kernel
theorem dX3_isProxy_55 : decode cX3_isProxy 55 = .ok (.invokestatic 69, 3) := by decide +kernel
theorem dX3_isProxy_58 : decode cX3_isProxy 58 = .ok (.ifCond .eq 7, 3) := by decide +kernel
theorem dX3_isProxy_61 : decode cX3_isProxy 61 = .ok (.iconst 1, 1) := by decide +kernel
theorem dX3_isProxy_62 : decode cX3_isProxy 62 = .ok (.goto 4, 3) := by decide +kernel
theorem dX3_isProxy_65 : decode cX3_isProxy 65 = .ok (.iconst 0, 1) := by decide +kernel
theorem dX3_isProxy_66 : decode cX3_isProxy 66 = .ok (.istore_n 3, 1) := by decide +kernel
theorem dX3_isProxy_67 : decode cX3_isProxy 67 = .ok (.iinc 4 1, 3) := by decide +kernel
theorem dX3_isProxy_70 : decode cX3_isProxy 70 = .ok (.goto (-63), 3) := by decide +kernel
theorem dX3_isProxy_73 : decode cX3_isProxy 73 = .ok (.iload_n 3, 1) := by decide +kernel
theorem dX3_isProxy_74 : decode cX3_isProxy 74 = .ok (.ireturn, 1) := by decide +kernel
set_option maxRecDepth 20000 in
theorem ggX3_right_X3_isRented : GoodIn wsX3_right wsX3_isRented := goodIn_r _ [8, 9, 50, 51, 52, 53, 54, 55, 56, 57, 58, 59, 60, 61, 62, 63, 64, 65, 66, 67, 68, 69, 70] (by decide +kernel) (by decide +kernel)
set_option maxRecDepth 20000 in
theorem gX3_right_X3_isRented : GoodIn wsX3_right (wsV RX3 80 RX3 yX3_isRented wsX3_isRented) := goodIn_app (goodIn_of _ (by decide +kernel)) ggX3_right_X3_isRented
set_option maxRecDepth 20000 in
theorem ggX3_right_X3_binds : GoodIn wsX3_right wsX3_binds := goodIn_r _ [13, 14, 15, 16, 17, 50, 51, 52, 53, 54, 55, 56, 57, 58, 59, 60, 61, 62, 63, 64, 65, 66, 67, 68, 69, 70] (by decide +kernel) (by decide +kernel)
set_option maxRecDepth 20000 in
theorem gX3_right_X3_binds : GoodIn wsX3_right (wsV RX3 91 RX3 yX3_binds wsX3_binds) := goodIn_app (goodIn_of _ (by decide +kernel)) ggX3_right_X3_binds
set_option maxRecDepth 20000 in
theorem ggX3_right_X3_isOrdered : GoodIn wsX3_right wsX3_isOrdered := goodIn_r _ [21, 2, 16, 22, 23, 1, 24, 25, 26, 7, 27, 28, 50, 51, 52, 53, 54, 55, 56, 57, 58, 59, 60, 61, 62, 63, 64, 65, 66, 67, 68, 69, 70] (by decide +kernel) (by decide +kernel)
set_option maxRecDepth 20000 in
theorem gX3_right_X3_isOrdered : GoodIn wsX3_right (wsV RX3 94 RX3 yX3_isOrdered wsX3_isOrdered) := goodIn_app (goodIn_of _ (by decide +kernel)) ggX3_right_X3_isOrdered
set_option maxRecDepth 20000 in
theorem ggX3_right_X3_isHeir : GoodIn wsX3_right wsX3_isHeir := goodIn_r _ [27, 28, 50, 51, 52, 53, 54, 55, 56, 57, 58, 59, 60, 61, 62, 63, 64, 65, 66, 67, 68, 69, 70] (by decide +kernel) (by decide +kernel)
set_option maxRecDepth 20000 in
theorem gX3_right_X3_isHeir : GoodIn wsX3_right (wsV RX3 87 RX3 yX3_isHeir wsX3_isHeir) := goodIn_app (goodIn_of _ (by decide +kernel)) ggX3_right_X3_isHeir
set_option maxRecDepth 20000 in
theorem ggX3_right_X3_noticesOf : GoodIn wsX3_right wsX3_noticesOf := goodIn_r _ [32, 33, 34, 35, 7, 36, 37, 38, 4, 5, 6, 8, 9, 50, 51, 52, 53, 54, 55, 56, 57, 58, 59, 60, 61, 62, 63, 64, 65, 66, 67, 68, 69, 70] (by decide +kernel) (by decide +kernel)
set_option maxRecDepth 20000 in
theorem gX3_right_X3_noticesOf : GoodIn wsX3_right (wsV RX3 97 RX3 yX3_noticesOf wsX3_noticesOf) := goodIn_app (goodIn_of _ (by decide +kernel)) ggX3_right_X3_noticesOf
set_option maxRecDepth 20000 in
theorem ggX3_right_X3_isProxy : GoodIn wsX3_right wsX3_isProxy := goodIn_r _ [42, 43, 44, 37, 45, 46, 47, 48, 7, 49, 50, 51, 52, 53, 54, 55, 56, 57, 58, 59, 60, 61, 62, 63, 64, 65, 66, 67, 68, 69, 70] (by decide +kernel) (by decide +kernel)
set_option maxRecDepth 20000 in
theorem gX3_right_X3_isProxy : GoodIn wsX3_right (wsV RX3 100 RX3 yX3_isProxy wsX3_isProxy) := goodIn_app (goodIn_of _ (by decide +kernel)) ggX3_right_X3_isProxy
theorem dX3_right_0 : decode cX3_right 0 = .ok (.aload_n 0, 1) := by decide +kernel
theorem dX3_right_1 : decode cX3_right 1 = .ok (.iload_n 1, 1) := by decide +kernel
theorem dX3_right_2 : decode cX3_right 2 = .ok (.invokevirtual 80, 3) := by decide +kernel
theorem dX3_right_5 : decode cX3_right 5 = .ok (.ifCond .eq 12, 3) := by decide +kernel
theorem dX3_right_8 : decode cX3_right 8 = .ok (.aload_n 0, 1) := by decide +kernel
theorem dX3_right_9 : decode cX3_right 9 = .ok (.getfield 7, 3) := by decide +kernel
theorem dX3_right_12 : decode cX3_right 12 = .ok (.iload_n 2, 1) := by decide +kernel
theorem dX3_right_13 : decode cX3_right 13 = .ok (.baload, 1) := by decide +kernel
theorem dX3_right_14 : decode cX3_right 14 = .ok (.ifCond .eq 5, 3) := by decide +kernel
theorem dX3_right_17 : decode cX3_right 17 = .ok (.iconst 3, 1) := by decide +kernel
theorem dX3_right_18 : decode cX3_right 18 = .ok (.ireturn, 1) := by decide +kernel
theorem dX3_right_19 : decode cX3_right 19 = .ok (.aload_n 0, 1) := by decide +kernel
theorem dX3_right_20 : decode cX3_right 20 = .ok (.iload_n 1, 1) := by decide +kernel
theorem dX3_right_21 : decode cX3_right 21 = .ok (.invokevirtual 91, 3) := by decide +kernel
theorem dX3_right_24 : decode cX3_right 24 = .ok (.istore_n 3, 1) := by decide +kernel
theorem dX3_right_25 : decode cX3_right 25 = .ok (.iload_n 3, 1) := by decide +kernel
theorem dX3_right_26 : decode cX3_right 26 = .ok (.iconst (-1), 1) := by decide +kernel
theorem dX3_right_27 : decode cX3_right 27 = .ok (.if_icmp .eq 18, 3) := by decide +kernel
theorem dX3_right_30 : decode cX3_right 30 = .ok (.aload_n 0, 1) := by decide +kernel
theorem dX3_right_31 : decode cX3_right 31 = .ok (.iload_n 3, 1) := by decide +kernel
theorem dX3_right_32 : decode cX3_right 32 = .ok (.iload_n 2, 1) := by decide +kernel
theorem dX3_right_33 : decode cX3_right 33 = .ok (.invokevirtual 94, 3) := by decide +kernel
theorem dX3_right_36 : decode cX3_right 36 = .ok (.ifCond .eq 7, 3) := by decide +kernel
theorem dX3_right_39 : decode cX3_right 39 = .ok (.iconst 0, 1) := by decide +kernel
theorem dX3_right_40 : decode cX3_right 40 = .ok (.goto 4, 3) := by decide +kernel
theorem dX3_right_43 : decode cX3_right 43 = .ok (.iconst 3, 1) := by decide +kernel
theorem dX3_right_44 : decode cX3_right 44 = .ok (.ireturn, 1) := by decide +kernel
theorem dX3_right_45 : decode cX3_right 45 = .ok (.aload_n 0, 1) := by decide +kernel
theorem dX3_right_46 : decode cX3_right 46 = .ok (.getfield 7, 3) := by decide +kernel
theorem dX3_right_49 : decode cX3_right 49 = .ok (.aload_n 0, 1) := by decide +kernel
theorem dX3_right_50 : decode cX3_right 50 = .ok (.getfield 23, 3) := by decide +kernel
theorem dX3_right_53 : decode cX3_right 53 = .ok (.iload_n 1, 1) := by decide +kernel
theorem dX3_right_54 : decode cX3_right 54 = .ok (.iaload, 1) := by decide +kernel
theorem dX3_right_55 : decode cX3_right 55 = .ok (.baload, 1) := by decide +kernel
theorem dX3_right_56 : decode cX3_right 56 = .ok (.ifCond .eq 32, 3) := by decide +kernel
theorem dX3_right_59 : decode cX3_right 59 = .ok (.aload_n 0, 1) := by decide +kernel
theorem dX3_right_60 : decode cX3_right 60 = .ok (.iload_n 2, 1) := by decide +kernel
theorem dX3_right_61 : decode cX3_right 61 = .ok (.aload_n 0, 1) := by decide +kernel
theorem dX3_right_62 : decode cX3_right 62 = .ok (.getfield 23, 3) := by decide +kernel
theorem dX3_right_65 : decode cX3_right 65 = .ok (.iload_n 1, 1) := by decide +kernel
theorem dX3_right_66 : decode cX3_right 66 = .ok (.iaload, 1) := by decide +kernel
theorem dX3_right_67 : decode cX3_right 67 = .ok (.invokevirtual 87, 3) := by decide +kernel
theorem dX3_right_70 : decode cX3_right 70 = .ok (.ifCond .eq 16, 3) := by decide +kernel
theorem dX3_right_73 : decode cX3_right 73 = .ok (.aload_n 0, 1) := by decide +kernel
theorem dX3_right_74 : decode cX3_right 74 = .ok (.getfield 32, 3) := by decide +kernel
theorem dX3_right_77 : decode cX3_right 77 = .ok (.iload_n 1, 1) := by decide +kernel
theorem dX3_right_78 : decode cX3_right 78 = .ok (.baload, 1) := by decide +kernel
theorem dX3_right_79 : decode cX3_right 79 = .ok (.ifCond .ne 7, 3) := by decide +kernel
theorem dX3_right_82 : decode cX3_right 82 = .ok (.iconst 1, 1) := by decide +kernel
theorem dX3_right_83 : decode cX3_right 83 = .ok (.goto 4, 3) := by decide +kernel
theorem dX3_right_86 : decode cX3_right 86 = .ok (.iconst 3, 1) := by decide +kernel
theorem dX3_right_87 : decode cX3_right 87 = .ok (.ireturn, 1) := by decide +kernel
theorem dX3_right_88 : decode cX3_right 88 = .ok (.aload_n 0, 1) := by decide +kernel
theorem dX3_right_89 : decode cX3_right 89 = .ok (.iload_n 1, 1) := by decide +kernel
theorem dX3_right_90 : decode cX3_right 90 = .ok (.invokevirtual 97, 3) := by decide +kernel
theorem dX3_right_93 : decode cX3_right 93 = .ok (.ifCond .ne 26, 3) := by decide +kernel
theorem dX3_right_96 : decode cX3_right 96 = .ok (.iload_n 2, 1) := by decide +kernel
theorem dX3_right_97 : decode cX3_right 97 = .ok (.aload_n 0, 1) := by decide +kernel
theorem dX3_right_98 : decode cX3_right 98 = .ok (.getfield 23, 3) := by decide +kernel
theorem dX3_right_101 : decode cX3_right 101 = .ok (.iload_n 1, 1) := by decide +kernel
theorem dX3_right_102 : decode cX3_right 102 = .ok (.iaload, 1) := by decide +kernel
theorem dX3_right_103 : decode cX3_right 103 = .ok (.if_icmp .eq 12, 3) := by decide +kernel
theorem dX3_right_106 : decode cX3_right 106 = .ok (.aload_n 0, 1) := by decide +kernel
theorem dX3_right_107 : decode cX3_right 107 = .ok (.iload_n 1, 1) := by decide +kernel
theorem dX3_right_108 : decode cX3_right 108 = .ok (.iload_n 2, 1) := by decide +kernel
theorem dX3_right_109 : decode cX3_right 109 = .ok (.invokevirtual 100, 3) := by decide +kernel
theorem dX3_right_112 : decode cX3_right 112 = .ok (.ifCond .eq 7, 3) := by decide +kernel
theorem dX3_right_115 : decode cX3_right 115 = .ok (.iconst 0, 1) := by decide +kernel
theorem dX3_right_116 : decode cX3_right 116 = .ok (.goto 4, 3) := by decide +kernel
theorem dX3_right_119 : decode cX3_right 119 = .ok (.iconst 3, 1) := by decide +kernel
theorem dX3_right_120 : decode cX3_right 120 = .ok (.ireturn, 1) := by decide +kernel
theorem dX3_frees_0 : decode cX3_frees 0 = .ok (.aload_n 0, 1) := by decide +kernel
theorem dX3_frees_1 : decode cX3_frees 1 = .ok (.getfield 20, 3) := by decide +kernel
theorem dX3_frees_4 : decode cX3_frees 4 = .ok (.iload_n 1, 1) := by decide +kernel
theorem dX3_frees_5 : decode cX3_frees 5 = .ok (.iconst 0, 1) := by decide +kernel
theorem dX3_frees_6 : decode cX3_frees 6 = .ok (.iastore, 1) := by decide +kernel
theorem dX3_frees_7 : decode cX3_frees 7 = .ok (.aload_n 0, 1) := by decide +kernel
theorem dX3_frees_8 : decode cX3_frees 8 = .ok (.getfield 38, 3) := by decide +kernel
theorem dX3_frees_11 : decode cX3_frees 11 = .ok (.iload_n 1, 1) := by decide +kernel
theorem dX3_frees_12 : decode cX3_frees 12 = .ok (.iconst 0, 1) := by decide +kernel
theorem dX3_frees_13 : decode cX3_frees 13 = .ok (.iastore, 1) := by decide +kernel
theorem dX3_frees_14 : decode cX3_frees 14 = .ok (.iconst 0, 1) := by decide +kernel
theorem dX3_frees_15 : decode cX3_frees 15 = .ok (.istore_n 2, 1) := by decide +kernel
theorem dX3_frees_16 : decode cX3_frees 16 = .ok (.iload_n 2, 1) := by decide +kernel
theorem dX3_frees_17 : decode cX3_frees 17 = .ok (.aload_n 0, 1) := by decide +kernel
theorem dX3_frees_18 : decode cX3_frees 18 = .ok (.getfield 84, 3) := by decide +kernel
theorem dX3_frees_21 : decode cX3_frees 21 = .ok (.if_icmp .ge 39, 3) := by decide +kernel
theorem dX3_frees_24 : decode cX3_frees 24 = .ok (.aload_n 0, 1) := by decide +kernel
theorem dX3_frees_25 : decode cX3_frees 25 = .ok (.getfield 62, 3) := by decide +kernel
theorem dX3_frees_28 : decode cX3_frees 28 = .ok (.iload_n 2, 1) := by decide +kernel
theorem dX3_frees_29 : decode cX3_frees 29 = .ok (.aload_n 0, 1) := by decide +kernel
theorem dX3_frees_30 : decode cX3_frees 30 = .ok (.getfield 62, 3) := by decide +kernel
theorem dX3_frees_33 : decode cX3_frees 33 = .ok (.iload_n 2, 1) := by decide +kernel
theorem dX3_frees_34 : decode cX3_frees 34 = .ok (.baload, 1) := by decide +kernel
theorem dX3_frees_35 : decode cX3_frees 35 = .ok (.ifCond .eq 17, 3) := by decide +kernel
theorem dX3_frees_38 : decode cX3_frees 38 = .ok (.aload_n 0, 1) := by decide +kernel
theorem dX3_frees_39 : decode cX3_frees 39 = .ok (.getfield 50, 3) := by decide +kernel
theorem dX3_frees_42 : decode cX3_frees 42 = .ok (.iload_n 2, 1) := by decide +kernel
theorem dX3_frees_43 : decode cX3_frees 43 = .ok (.iaload, 1) := by decide +kernel
theorem dX3_frees_44 : decode cX3_frees 44 = .ok (.iload_n 1, 1) := by decide +kernel
theorem dX3_frees_45 : decode cX3_frees 45 = .ok (.if_icmp .eq 7, 3) := by decide +kernel
theorem dX3_frees_48 : decode cX3_frees 48 = .ok (.iconst 1, 1) := by decide +kernel
theorem dX3_frees_49 : decode cX3_frees 49 = .ok (.goto 4, 3) := by decide +kernel
theorem dX3_frees_52 : decode cX3_frees 52 = .ok (.iconst 0, 1) := by decide +kernel
theorem dX3_frees_53 : decode cX3_frees 53 = .ok (.bastore, 1) := by decide +kernel
theorem dX3_frees_54 : decode cX3_frees 54 = .ok (.iinc 2 1, 3) := by decide +kernel
theorem dX3_frees_57 : decode cX3_frees 57 = .ok (.goto (-41), 3) := by decide +kernel
theorem dX3_frees_60 : decode cX3_frees 60 = .ok (.return_, 1) := by decide +kernel
set_option maxRecDepth 20000 in
theorem ggX3_pass_X3_in : GoodIn wsX3_pass wsX3_in := goodIn_r _ [7] (by decide +kernel) (by decide +kernel)
set_option maxRecDepth 20000 in
theorem gX3_pass_X3_in : GoodIn wsX3_pass (va_wsS RX3 69 yX3_in wsX3_in) := goodIn_app (goodIn_of _ (by decide +kernel)) ggX3_pass_X3_in
set_option maxRecDepth 20000 in
theorem ggX3_pass_X3_fails : GoodIn wsX3_pass wsX3_fails := goodIn_r _ [11, 1, 12, 13, 14, 15, 16, 17, 18, 19, 20, 21, 22, 23, 24, 25, 26, 27, 28, 29, 30, 31, 32] (by decide +kernel) (by decide +kernel)
set_option maxRecDepth 20000 in
theorem gX3_pass_X3_fails : GoodIn wsX3_pass (wsV RX3 103 RX3 yX3_fails wsX3_fails) := goodIn_app (goodIn_of _ (by decide +kernel)) ggX3_pass_X3_fails
theorem dX3_pass_0 : decode cX3_pass 0 = .ok (.aload_n 0, 1) := by decide +kernel
theorem dX3_pass_1 : decode cX3_pass 1 = .ok (.iconst 0, 1) := by decide +kernel
theorem dX3_pass_2 : decode cX3_pass 2 = .ok (.putfield 65, 3) := by decide +kernel
theorem dX3_pass_5 : decode cX3_pass 5 = .ok (.iload_n 1, 1) := by decide +kernel
theorem dX3_pass_6 : decode cX3_pass 6 = .ok (.iconst 1, 1) := by decide +kernel
theorem dX3_pass_7 : decode cX3_pass 7 = .ok (.sipush 1000, 3) := by decide +kernel
theorem dX3_pass_10 : decode cX3_pass 10 = .ok (.invokestatic 69, 3) := by decide +kernel
theorem dX3_pass_13 : decode cX3_pass 13 = .ok (.ifCond .ne 9, 3) := by decide +kernel
theorem dX3_pass_16 : decode cX3_pass 16 = .ok (.aload_n 0, 1) := by decide +kernel
theorem dX3_pass_17 : decode cX3_pass 17 = .ok (.iconst 1, 1) := by decide +kernel
theorem dX3_pass_18 : decode cX3_pass 18 = .ok (.invokevirtual 103, 3) := by decide +kernel
theorem dX3_pass_21 : decode cX3_pass 21 = .ok (.ireturn, 1) := by decide +kernel
theorem dX3_pass_22 : decode cX3_pass 22 = .ok (.aload_n 0, 1) := by decide +kernel
theorem dX3_pass_23 : decode cX3_pass 23 = .ok (.getfield 73, 3) := by decide +kernel
theorem dX3_pass_26 : decode cX3_pass 26 = .ok (.iload_n 1, 1) := by decide +kernel
theorem dX3_pass_27 : decode cX3_pass 27 = .ok (.iadd, 1) := by decide +kernel
theorem dX3_pass_28 : decode cX3_pass 28 = .ok (.ldc 106, 2) := by decide +kernel
theorem dX3_pass_30 : decode cX3_pass 30 = .ok (.if_icmp .le 9, 3) := by decide +kernel
theorem dX3_pass_33 : decode cX3_pass 33 = .ok (.aload_n 0, 1) := by decide +kernel
theorem dX3_pass_34 : decode cX3_pass 34 = .ok (.iconst 2, 1) := by decide +kernel
theorem dX3_pass_35 : decode cX3_pass 35 = .ok (.invokevirtual 103, 3) := by decide +kernel
theorem dX3_pass_38 : decode cX3_pass 38 = .ok (.ireturn, 1) := by decide +kernel
theorem dX3_pass_39 : decode cX3_pass 39 = .ok (.aload_n 0, 1) := by decide +kernel
theorem dX3_pass_40 : decode cX3_pass 40 = .ok (.dup, 1) := by decide +kernel
theorem dX3_pass_41 : decode cX3_pass 41 = .ok (.getfield 73, 3) := by decide +kernel
theorem dX3_pass_44 : decode cX3_pass 44 = .ok (.iload_n 1, 1) := by decide +kernel
theorem dX3_pass_45 : decode cX3_pass 45 = .ok (.iadd, 1) := by decide +kernel
theorem dX3_pass_46 : decode cX3_pass 46 = .ok (.putfield 73, 3) := by decide +kernel
theorem dX3_pass_49 : decode cX3_pass 49 = .ok (.aload_n 0, 1) := by decide +kernel
theorem dX3_pass_50 : decode cX3_pass 50 = .ok (.getfield 73, 3) := by decide +kernel
theorem dX3_pass_53 : decode cX3_pass 53 = .ok (.ireturn, 1) := by decide +kernel
set_option maxRecDepth 20000 in
theorem ggX3_rent_X3_isBox : GoodIn wsX3_rent wsX3_isBox := goodIn_r _ [12, 13, 14, 11, 15] (by decide +kernel) (by decide +kernel)
set_option maxRecDepth 20000 in
theorem gX3_rent_X3_isBox : GoodIn wsX3_rent (va_wsS RX3 107 yX3_isBox wsX3_isBox) := goodIn_app (goodIn_of _ (by decide +kernel)) ggX3_rent_X3_isBox
set_option maxRecDepth 20000 in
theorem ggX3_rent_X3_isPerson : GoodIn wsX3_rent wsX3_isPerson := goodIn_r _ [18, 13, 14, 11, 15] (by decide +kernel) (by decide +kernel)
set_option maxRecDepth 20000 in
theorem gX3_rent_X3_isPerson : GoodIn wsX3_rent (va_wsS RX3 110 yX3_isPerson wsX3_isPerson) := goodIn_app (goodIn_of _ (by decide +kernel)) ggX3_rent_X3_isPerson
set_option maxRecDepth 20000 in
theorem ggX3_rent_X3_in : GoodIn wsX3_rent wsX3_in := goodIn_r _ [15] (by decide +kernel) (by decide +kernel)
set_option maxRecDepth 20000 in
theorem gX3_rent_X3_in : GoodIn wsX3_rent (va_wsS RX3 69 yX3_in wsX3_in) := goodIn_app (goodIn_of _ (by decide +kernel)) ggX3_rent_X3_in
set_option maxRecDepth 20000 in
theorem ggX3_rent_X3_fails : GoodIn wsX3_rent wsX3_fails := goodIn_r _ [22, 1, 23, 24, 25, 26, 27, 28, 29, 30, 31, 32, 33, 34, 35, 36, 37, 38, 39, 40, 41, 42, 43] (by decide +kernel) (by decide +kernel)
set_option maxRecDepth 20000 in
theorem gX3_rent_X3_fails : GoodIn wsX3_rent (wsV RX3 103 RX3 yX3_fails wsX3_fails) := goodIn_app (goodIn_of _ (by decide +kernel)) ggX3_rent_X3_fails
theorem dX3_rent_0 : decode cX3_rent 0 = .ok (.aload_n 0, 1) := by decide +kernel
theorem dX3_rent_1 : decode cX3_rent 1 = .ok (.iconst 0, 1) := by decide +kernel
theorem dX3_rent_2 : decode cX3_rent 2 = .ok (.putfield 65, 3) := by decide +kernel
theorem dX3_rent_5 : decode cX3_rent 5 = .ok (.iload_n 1, 1) := by decide +kernel
theorem dX3_rent_6 : decode cX3_rent 6 = .ok (.invokestatic 107, 3) := by decide +kernel
theorem dX3_rent_9 : decode cX3_rent 9 = .ok (.ifCond .eq 21, 3) := by decide +kernel
theorem dX3_rent_12 : decode cX3_rent 12 = .ok (.iload_n 2, 1) := by decide +kernel
theorem dX3_rent_13 : decode cX3_rent 13 = .ok (.invokestatic 110, 3) := by decide +kernel
theorem dX3_rent_16 : decode cX3_rent 16 = .ok (.ifCond .eq 14, 3) := by decide +kernel
theorem dX3_rent_19 : decode cX3_rent 19 = .ok (.iload_n 3, 1) := by decide +kernel
theorem dX3_rent_20 : decode cX3_rent 20 = .ok (.iconst 1, 1) := by decide +kernel
theorem dX3_rent_21 : decode cX3_rent 21 = .ok (.sipush 1000, 3) := by decide +kernel
theorem dX3_rent_24 : decode cX3_rent 24 = .ok (.invokestatic 69, 3) := by decide +kernel
theorem dX3_rent_27 : decode cX3_rent 27 = .ok (.ifCond .ne 9, 3) := by decide +kernel
theorem dX3_rent_30 : decode cX3_rent 30 = .ok (.aload_n 0, 1) := by decide +kernel
theorem dX3_rent_31 : decode cX3_rent 31 = .ok (.iconst 1, 1) := by decide +kernel
theorem dX3_rent_32 : decode cX3_rent 32 = .ok (.invokevirtual 103, 3) := by decide +kernel
theorem dX3_rent_35 : decode cX3_rent 35 = .ok (.ireturn, 1) := by decide +kernel
theorem dX3_rent_36 : decode cX3_rent 36 = .ok (.aload_n 0, 1) := by decide +kernel
theorem dX3_rent_37 : decode cX3_rent 37 = .ok (.getfield 20, 3) := by decide +kernel
theorem dX3_rent_40 : decode cX3_rent 40 = .ok (.iload_n 1, 1) := by decide +kernel
theorem dX3_rent_41 : decode cX3_rent 41 = .ok (.iaload, 1) := by decide +kernel
theorem dX3_rent_42 : decode cX3_rent 42 = .ok (.ifCond .ne 12, 3) := by decide +kernel
theorem dX3_rent_45 : decode cX3_rent 45 = .ok (.aload_n 0, 1) := by decide +kernel
theorem dX3_rent_46 : decode cX3_rent 46 = .ok (.getfield 7, 3) := by decide +kernel
theorem dX3_rent_49 : decode cX3_rent 49 = .ok (.iload_n 2, 1) := by decide +kernel
theorem dX3_rent_50 : decode cX3_rent 50 = .ok (.baload, 1) := by decide +kernel
theorem dX3_rent_51 : decode cX3_rent 51 = .ok (.ifCond .eq 9, 3) := by decide +kernel
theorem dX3_rent_54 : decode cX3_rent 54 = .ok (.aload_n 0, 1) := by decide +kernel
theorem dX3_rent_55 : decode cX3_rent 55 = .ok (.iconst 2, 1) := by decide +kernel
theorem dX3_rent_56 : decode cX3_rent 56 = .ok (.invokevirtual 103, 3) := by decide +kernel
theorem dX3_rent_59 : decode cX3_rent 59 = .ok (.ireturn, 1) := by decide +kernel
theorem dX3_rent_60 : decode cX3_rent 60 = .ok (.aload_n 0, 1) := by decide +kernel
theorem dX3_rent_61 : decode cX3_rent 61 = .ok (.getfield 20, 3) := by decide +kernel
theorem dX3_rent_64 : decode cX3_rent 64 = .ok (.iload_n 1, 1) := by decide +kernel
theorem dX3_rent_65 : decode cX3_rent 65 = .ok (.iconst 1, 1) := by decide +kernel
theorem dX3_rent_66 : decode cX3_rent 66 = .ok (.iastore, 1) := by decide +kernel
theorem dX3_rent_67 : decode cX3_rent 67 = .ok (.aload_n 0, 1) := by decide +kernel
theorem dX3_rent_68 : decode cX3_rent 68 = .ok (.getfield 23, 3) := by decide +kernel
theorem dX3_rent_71 : decode cX3_rent 71 = .ok (.iload_n 1, 1) := by decide +kernel
theorem dX3_rent_72 : decode cX3_rent 72 = .ok (.iload_n 2, 1) := by decide +kernel
theorem dX3_rent_73 : decode cX3_rent 73 = .ok (.iastore, 1) := by decide +kernel
theorem dX3_rent_74 : decode cX3_rent 74 = .ok (.aload_n 0, 1) := by decide +kernel
theorem dX3_rent_75 : decode cX3_rent 75 = .ok (.getfield 26, 3) := by decide +kernel
theorem dX3_rent_78 : decode cX3_rent 78 = .ok (.iload_n 1, 1) := by decide +kernel
theorem dX3_rent_79 : decode cX3_rent 79 = .ok (.aload_n 0, 1) := by decide +kernel
theorem dX3_rent_80 : decode cX3_rent 80 = .ok (.getfield 73, 3) := by decide +kernel
theorem dX3_rent_83 : decode cX3_rent 83 = .ok (.iload_n 3, 1) := by decide +kernel
theorem dX3_rent_84 : decode cX3_rent 84 = .ok (.iadd, 1) := by decide +kernel
theorem dX3_rent_85 : decode cX3_rent 85 = .ok (.iastore, 1) := by decide +kernel
theorem dX3_rent_86 : decode cX3_rent 86 = .ok (.aload_n 0, 1) := by decide +kernel
theorem dX3_rent_87 : decode cX3_rent 87 = .ok (.getfield 29, 3) := by decide +kernel
theorem dX3_rent_90 : decode cX3_rent 90 = .ok (.iload_n 1, 1) := by decide +kernel
theorem dX3_rent_91 : decode cX3_rent 91 = .ok (.iconst 0, 1) := by decide +kernel
theorem dX3_rent_92 : decode cX3_rent 92 = .ok (.iastore, 1) := by decide +kernel
theorem dX3_rent_93 : decode cX3_rent 93 = .ok (.aload_n 0, 1) := by decide +kernel
theorem dX3_rent_94 : decode cX3_rent 94 = .ok (.getfield 32, 3) := by decide +kernel
theorem dX3_rent_97 : decode cX3_rent 97 = .ok (.iload_n 1, 1) := by decide +kernel
theorem dX3_rent_98 : decode cX3_rent 98 = .ok (.iconst 0, 1) := by decide +kernel
theorem dX3_rent_99 : decode cX3_rent 99 = .ok (.bastore, 1) := by decide +kernel
theorem dX3_rent_100 : decode cX3_rent 100 = .ok (.aload_n 0, 1) := by decide +kernel
theorem dX3_rent_101 : decode cX3_rent 101 = .ok (.getfield 26, 3) := by decide +kernel
theorem dX3_rent_104 : decode cX3_rent 104 = .ok (.iload_n 1, 1) := by decide +kernel
theorem dX3_rent_105 : decode cX3_rent 105 = .ok (.iaload, 1) := by decide +kernel
theorem dX3_rent_106 : decode cX3_rent 106 = .ok (.ireturn, 1) := by decide +kernel
set_option maxRecDepth 20000 in
theorem ggX3_extend_X3_isBox : GoodIn wsX3_extend wsX3_isBox := goodIn_r _ [6, 7, 8, 5, 9] (by decide +kernel) (by decide +kernel)
set_option maxRecDepth 20000 in
theorem gX3_extend_X3_isBox : GoodIn wsX3_extend (va_wsS RX3 107 yX3_isBox wsX3_isBox) := goodIn_app (goodIn_of _ (by decide +kernel)) ggX3_extend_X3_isBox
set_option maxRecDepth 20000 in
theorem ggX3_extend_X3_in : GoodIn wsX3_extend wsX3_in := goodIn_r _ [9] (by decide +kernel) (by decide +kernel)
set_option maxRecDepth 20000 in
theorem gX3_extend_X3_in : GoodIn wsX3_extend (va_wsS RX3 69 yX3_in wsX3_in) := goodIn_app (goodIn_of _ (by decide +kernel)) ggX3_extend_X3_in
set_option maxRecDepth 20000 in
theorem ggX3_extend_X3_fails : GoodIn wsX3_extend wsX3_fails := goodIn_r _ [13, 1, 19, 20, 21, 22, 23, 24, 25, 26, 27, 28, 29, 30, 31, 32, 33, 34, 35, 36, 37, 38, 39] (by decide +kernel) (by decide +kernel)
set_option maxRecDepth 20000 in
theorem gX3_extend_X3_fails : GoodIn wsX3_extend (wsV RX3 103 RX3 yX3_fails wsX3_fails) := goodIn_app (goodIn_of _ (by decide +kernel)) ggX3_extend_X3_fails
set_option maxRecDepth 20000 in
theorem ggX3_extend_X3_isRented : GoodIn wsX3_extend wsX3_isRented := goodIn_r _ [17, 18, 19, 20, 21, 22, 23, 24, 25, 26, 27, 28, 29, 30, 31, 32, 33, 34, 35, 36, 37, 38, 39] (by decide +kernel) (by decide +kernel)
set_option maxRecDepth 20000 in
theorem gX3_extend_X3_isRented : GoodIn wsX3_extend (wsV RX3 80 RX3 yX3_isRented wsX3_isRented) := goodIn_app (goodIn_of _ (by decide +kernel)) ggX3_extend_X3_isRented
theorem dX3_extend_0 : decode cX3_extend 0 = .ok (.aload_n 0, 1) := by decide +kernel
theorem dX3_extend_1 : decode cX3_extend 1 = .ok (.iconst 0, 1) := by decide +kernel
theorem dX3_extend_2 : decode cX3_extend 2 = .ok (.putfield 65, 3) := by decide +kernel
theorem dX3_extend_5 : decode cX3_extend 5 = .ok (.iload_n 1, 1) := by decide +kernel
theorem dX3_extend_6 : decode cX3_extend 6 = .ok (.invokestatic 107, 3) := by decide +kernel
theorem dX3_extend_9 : decode cX3_extend 9 = .ok (.ifCond .eq 14, 3) := by decide +kernel
theorem dX3_extend_12 : decode cX3_extend 12 = .ok (.iload_n 2, 1) := by decide +kernel
theorem dX3_extend_13 : decode cX3_extend 13 = .ok (.iconst 1, 1) := by decide +kernel
theorem dX3_extend_14 : decode cX3_extend 14 = .ok (.sipush 1000, 3) := by decide +kernel
theorem dX3_extend_17 : decode cX3_extend 17 = .ok (.invokestatic 69, 3) := by decide +kernel
theorem dX3_extend_20 : decode cX3_extend 20 = .ok (.ifCond .ne 9, 3) := by decide +kernel
theorem dX3_extend_23 : decode cX3_extend 23 = .ok (.aload_n 0, 1) := by decide +kernel
theorem dX3_extend_24 : decode cX3_extend 24 = .ok (.iconst 1, 1) := by decide +kernel
theorem dX3_extend_25 : decode cX3_extend 25 = .ok (.invokevirtual 103, 3) := by decide +kernel
theorem dX3_extend_28 : decode cX3_extend 28 = .ok (.ireturn, 1) := by decide +kernel
theorem dX3_extend_29 : decode cX3_extend 29 = .ok (.aload_n 0, 1) := by decide +kernel
theorem dX3_extend_30 : decode cX3_extend 30 = .ok (.iload_n 1, 1) := by decide +kernel
theorem dX3_extend_31 : decode cX3_extend 31 = .ok (.invokevirtual 80, 3) := by decide +kernel
theorem dX3_extend_34 : decode cX3_extend 34 = .ok (.ifCond .ne 9, 3) := by decide +kernel
theorem dX3_extend_37 : decode cX3_extend 37 = .ok (.aload_n 0, 1) := by decide +kernel
theorem dX3_extend_38 : decode cX3_extend 38 = .ok (.iconst 2, 1) := by decide +kernel
theorem dX3_extend_39 : decode cX3_extend 39 = .ok (.invokevirtual 103, 3) := by decide +kernel
theorem dX3_extend_42 : decode cX3_extend 42 = .ok (.ireturn, 1) := by decide +kernel
theorem dX3_extend_43 : decode cX3_extend 43 = .ok (.aload_n 0, 1) := by decide +kernel
theorem dX3_extend_44 : decode cX3_extend 44 = .ok (.getfield 26, 3) := by decide +kernel
theorem dX3_extend_47 : decode cX3_extend 47 = .ok (.iload_n 1, 1) := by decide +kernel
theorem dX3_extend_48 : decode cX3_extend 48 = .ok (.dup2, 1) := by decide +kernel
theorem dX3_extend_49 : decode cX3_extend 49 = .ok (.iaload, 1) := by decide +kernel
theorem dX3_extend_50 : decode cX3_extend 50 = .ok (.iload_n 2, 1) := by decide +kernel
theorem dX3_extend_51 : decode cX3_extend 51 = .ok (.iadd, 1) := by decide +kernel
theorem dX3_extend_52 : decode cX3_extend 52 = .ok (.iastore, 1) := by decide +kernel
theorem dX3_extend_53 : decode cX3_extend 53 = .ok (.aload_n 0, 1) := by decide +kernel
theorem dX3_extend_54 : decode cX3_extend 54 = .ok (.getfield 26, 3) := by decide +kernel
theorem dX3_extend_57 : decode cX3_extend 57 = .ok (.iload_n 1, 1) := by decide +kernel
theorem dX3_extend_58 : decode cX3_extend 58 = .ok (.iaload, 1) := by decide +kernel
theorem dX3_extend_59 : decode cX3_extend 59 = .ok (.ireturn, 1) := by decide +kernel
set_option maxRecDepth 20000 in
theorem ggX3_giveBack_X3_isBox : GoodIn wsX3_giveBack wsX3_isBox := goodIn_r _ [6, 7, 8, 5, 9] (by decide +kernel) (by decide +kernel)
set_option maxRecDepth 20000 in
theorem gX3_giveBack_X3_isBox : GoodIn wsX3_giveBack (va_wsS RX3 107 yX3_isBox wsX3_isBox) := goodIn_app (goodIn_of _ (by decide +kernel)) ggX3_giveBack_X3_isBox
set_option maxRecDepth 20000 in
theorem ggX3_giveBack_X3_isPerson : GoodIn wsX3_giveBack wsX3_isPerson := goodIn_r _ [12, 7, 8, 5, 9] (by decide +kernel) (by decide +kernel)
set_option maxRecDepth 20000 in
theorem gX3_giveBack_X3_isPerson : GoodIn wsX3_giveBack (va_wsS RX3 110 yX3_isPerson wsX3_isPerson) := goodIn_app (goodIn_of _ (by decide +kernel)) ggX3_giveBack_X3_isPerson
set_option maxRecDepth 20000 in
theorem ggX3_giveBack_X3_fails : GoodIn wsX3_giveBack wsX3_fails := goodIn_r _ [16, 1, 70, 71, 72, 73, 74, 75, 76, 77, 78, 79, 80, 81, 82, 83, 84, 85, 86, 87, 88, 89, 90] (by decide +kernel) (by decide +kernel)
set_option maxRecDepth 20000 in
theorem gX3_giveBack_X3_fails : GoodIn wsX3_giveBack (wsV RX3 103 RX3 yX3_fails wsX3_fails) := goodIn_app (goodIn_of _ (by decide +kernel)) ggX3_giveBack_X3_fails
set_option maxRecDepth 20000 in
theorem ggX3_giveBack_X3_right : GoodIn wsX3_giveBack wsX3_right := goodIn_r _ [20, 21, 22, 23, 24, 25, 26, 5, 27, 28, 29, 30, 31, 32, 33, 34, 35, 36, 37, 38, 39, 40, 41, 42, 43, 44, 45, 46, 47, 48, 49, 50, 51, 52, 53, 54, 55, 56, 57, 58, 59, 60, 61, 62, 63, 64, 65, 7, 8, 9, 70, 71, 72, 73, 74, 75, 76, 77, 78, 79, 80, 81, 82, 83, 84, 85, 86, 87, 88, 89, 90] (by decide +kernel) (by decide +kernel)
set_option maxRecDepth 20000 in
theorem gX3_giveBack_X3_right : GoodIn wsX3_giveBack (wsV RX3 113 RX3 yX3_right wsX3_right) := goodIn_app (goodIn_of _ (by decide +kernel)) ggX3_giveBack_X3_right
set_option maxRecDepth 20000 in
theorem ggX3_giveBack_X3_frees : GoodIn wsX3_giveBack wsX3_frees := goodIn_r _ [69, 28, 62, 33, 34, 35, 70, 71, 72, 73, 74, 75, 76, 77, 78, 79, 80, 81, 82, 83, 84, 85, 86, 87, 88, 89, 90] (by decide +kernel) (by decide +kernel)
set_option maxRecDepth 20000 in
theorem gX3_giveBack_X3_frees : GoodIn wsX3_giveBack (wsV RX3 117 RX3 yX3_frees wsX3_frees) := goodIn_app (goodIn_of _ (by decide +kernel)) ggX3_giveBack_X3_frees
theorem dX3_giveBack_0 : decode cX3_giveBack 0 = .ok (.aload_n 0, 1) := by decide +kernel
theorem dX3_giveBack_1 : decode cX3_giveBack 1 = .ok (.iconst 0, 1) := by decide +kernel
theorem dX3_giveBack_2 : decode cX3_giveBack 2 = .ok (.putfield 65, 3) := by decide +kernel
theorem dX3_giveBack_5 : decode cX3_giveBack 5 = .ok (.iload_n 1, 1) := by decide +kernel
theorem dX3_giveBack_6 : decode cX3_giveBack 6 = .ok (.invokestatic 107, 3) := by decide +kernel
theorem dX3_giveBack_9 : decode cX3_giveBack 9 = .ok (.ifCond .eq 10, 3) := by decide +kernel
theorem dX3_giveBack_12 : decode cX3_giveBack 12 = .ok (.iload_n 2, 1) := by decide +kernel
theorem dX3_giveBack_13 : decode cX3_giveBack 13 = .ok (.invokestatic 110, 3) := by decide +kernel
theorem dX3_giveBack_16 : decode cX3_giveBack 16 = .ok (.ifCond .ne 9, 3) := by decide +kernel
theorem dX3_giveBack_19 : decode cX3_giveBack 19 = .ok (.aload_n 0, 1) := by decide +kernel
theorem dX3_giveBack_20 : decode cX3_giveBack 20 = .ok (.iconst 1, 1) := by decide +kernel
theorem dX3_giveBack_21 : decode cX3_giveBack 21 = .ok (.invokevirtual 103, 3) := by decide +kernel
theorem dX3_giveBack_24 : decode cX3_giveBack 24 = .ok (.ireturn, 1) := by decide +kernel
theorem dX3_giveBack_25 : decode cX3_giveBack 25 = .ok (.aload_n 0, 1) := by decide +kernel
theorem dX3_giveBack_26 : decode cX3_giveBack 26 = .ok (.iload_n 1, 1) := by decide +kernel
theorem dX3_giveBack_27 : decode cX3_giveBack 27 = .ok (.iload_n 2, 1) := by decide +kernel
theorem dX3_giveBack_28 : decode cX3_giveBack 28 = .ok (.invokevirtual 113, 3) := by decide +kernel
theorem dX3_giveBack_31 : decode cX3_giveBack 31 = .ok (.ifCond .eq 9, 3) := by decide +kernel
theorem dX3_giveBack_34 : decode cX3_giveBack 34 = .ok (.aload_n 0, 1) := by decide +kernel
theorem dX3_giveBack_35 : decode cX3_giveBack 35 = .ok (.iconst 2, 1) := by decide +kernel
theorem dX3_giveBack_36 : decode cX3_giveBack 36 = .ok (.invokevirtual 103, 3) := by decide +kernel
theorem dX3_giveBack_39 : decode cX3_giveBack 39 = .ok (.ireturn, 1) := by decide +kernel
theorem dX3_giveBack_40 : decode cX3_giveBack 40 = .ok (.aload_n 0, 1) := by decide +kernel
theorem dX3_giveBack_41 : decode cX3_giveBack 41 = .ok (.iload_n 1, 1) := by decide +kernel
theorem dX3_giveBack_42 : decode cX3_giveBack 42 = .ok (.invokevirtual 117, 3) := by decide +kernel
theorem dX3_giveBack_45 : decode cX3_giveBack 45 = .ok (.aload_n 0, 1) := by decide +kernel
theorem dX3_giveBack_46 : decode cX3_giveBack 46 = .ok (.getfield 29, 3) := by decide +kernel
theorem dX3_giveBack_49 : decode cX3_giveBack 49 = .ok (.iload_n 1, 1) := by decide +kernel
theorem dX3_giveBack_50 : decode cX3_giveBack 50 = .ok (.iaload, 1) := by decide +kernel
theorem dX3_giveBack_51 : decode cX3_giveBack 51 = .ok (.ireturn, 1) := by decide +kernel
set_option maxRecDepth 20000 in
theorem ggX3_drill_X3_isBox : GoodIn wsX3_drill wsX3_isBox := goodIn_r _ [10, 11, 12, 9, 13] (by decide +kernel) (by decide +kernel)
set_option maxRecDepth 20000 in
theorem gX3_drill_X3_isBox : GoodIn wsX3_drill (va_wsS RX3 107 yX3_isBox wsX3_isBox) := goodIn_app (goodIn_of _ (by decide +kernel)) ggX3_drill_X3_isBox
set_option maxRecDepth 20000 in
theorem ggX3_drill_X3_isPerson : GoodIn wsX3_drill wsX3_isPerson := goodIn_r _ [16, 11, 12, 9, 13] (by decide +kernel) (by decide +kernel)
set_option maxRecDepth 20000 in
theorem gX3_drill_X3_isPerson : GoodIn wsX3_drill (va_wsS RX3 110 yX3_isPerson wsX3_isPerson) := goodIn_app (goodIn_of _ (by decide +kernel)) ggX3_drill_X3_isPerson
set_option maxRecDepth 20000 in
theorem ggX3_drill_X3_fails : GoodIn wsX3_drill wsX3_fails := goodIn_r _ [20, 1, 43, 44, 45, 46, 47, 48, 49, 50, 51, 52, 53, 54, 55, 56, 57, 58, 59, 60, 61, 62, 63] (by decide +kernel) (by decide +kernel)
set_option maxRecDepth 20000 in
theorem gX3_drill_X3_fails : GoodIn wsX3_drill (wsV RX3 103 RX3 yX3_fails wsX3_fails) := goodIn_app (goodIn_of _ (by decide +kernel)) ggX3_drill_X3_fails
set_option maxRecDepth 20000 in
theorem ggX3_drill_X3_binds : GoodIn wsX3_drill wsX3_binds := goodIn_r _ [24, 25, 26, 27, 28, 43, 44, 45, 46, 47, 48, 49, 50, 51, 52, 53, 54, 55, 56, 57, 58, 59, 60, 61, 62, 63] (by decide +kernel) (by decide +kernel)
set_option maxRecDepth 20000 in
theorem gX3_drill_X3_binds : GoodIn wsX3_drill (wsV RX3 91 RX3 yX3_binds wsX3_binds) := goodIn_app (goodIn_of _ (by decide +kernel)) ggX3_drill_X3_binds
set_option maxRecDepth 20000 in
theorem ggX3_drill_X3_noticesOf : GoodIn wsX3_drill wsX3_noticesOf := goodIn_r _ [32, 33, 34, 35, 9, 36, 37, 38, 39, 40, 41, 42, 6, 43, 44, 45, 46, 47, 48, 49, 50, 51, 52, 53, 54, 55, 56, 57, 58, 59, 60, 61, 62, 63] (by decide +kernel) (by decide +kernel)
set_option maxRecDepth 20000 in
theorem gX3_drill_X3_noticesOf : GoodIn wsX3_drill (wsV RX3 97 RX3 yX3_noticesOf wsX3_noticesOf) := goodIn_app (goodIn_of _ (by decide +kernel)) ggX3_drill_X3_noticesOf
set_option maxRecDepth 20000 in
theorem ggX3_drill_X3_overdue : GoodIn wsX3_drill wsX3_overdue := goodIn_r _ [36, 37, 38, 43, 44, 45, 46, 47, 48, 49, 50, 51, 52, 53, 54, 55, 56, 57, 58, 59, 60, 61, 62, 63] (by decide +kernel) (by decide +kernel)
set_option maxRecDepth 20000 in
theorem gX3_drill_X3_overdue : GoodIn wsX3_drill (wsV RX3 76 RX3 yX3_overdue wsX3_overdue) := goodIn_app (goodIn_of _ (by decide +kernel)) ggX3_drill_X3_overdue
theorem dX3_drill_0 : decode cX3_drill 0 = .ok (.aload_n 0, 1) := by decide +kernel
theorem dX3_drill_1 : decode cX3_drill 1 = .ok (.iconst 0, 1) := by decide +kernel
theorem dX3_drill_2 : decode cX3_drill 2 = .ok (.putfield 65, 3) := by decide +kernel
theorem dX3_drill_5 : decode cX3_drill 5 = .ok (.iload_n 1, 1) := by decide +kernel
theorem dX3_drill_6 : decode cX3_drill 6 = .ok (.invokestatic 107, 3) := by decide +kernel
theorem dX3_drill_9 : decode cX3_drill 9 = .ok (.ifCond .eq 22, 3) := by decide +kernel
theorem dX3_drill_12 : decode cX3_drill 12 = .ok (.iload_n 2, 1) := by decide +kernel
theorem dX3_drill_13 : decode cX3_drill 13 = .ok (.invokestatic 110, 3) := by decide +kernel
theorem dX3_drill_16 : decode cX3_drill 16 = .ok (.ifCond .eq 15, 3) := by decide +kernel
theorem dX3_drill_19 : decode cX3_drill 19 = .ok (.iload_n 3, 1) := by decide +kernel
theorem dX3_drill_20 : decode cX3_drill 20 = .ok (.invokestatic 110, 3) := by decide +kernel
theorem dX3_drill_23 : decode cX3_drill 23 = .ok (.ifCond .eq 8, 3) := by decide +kernel
theorem dX3_drill_26 : decode cX3_drill 26 = .ok (.iload_n 2, 1) := by decide +kernel
theorem dX3_drill_27 : decode cX3_drill 27 = .ok (.iload_n 3, 1) := by decide +kernel
theorem dX3_drill_28 : decode cX3_drill 28 = .ok (.if_icmp .ne 9, 3) := by decide +kernel
theorem dX3_drill_31 : decode cX3_drill 31 = .ok (.aload_n 0, 1) := by decide +kernel
theorem dX3_drill_32 : decode cX3_drill 32 = .ok (.iconst 1, 1) := by decide +kernel
theorem dX3_drill_33 : decode cX3_drill 33 = .ok (.invokevirtual 103, 3) := by decide +kernel
theorem dX3_drill_36 : decode cX3_drill 36 = .ok (.ireturn, 1) := by decide +kernel
theorem dX3_drill_37 : decode cX3_drill 37 = .ok (.aload_n 0, 1) := by decide +kernel
theorem dX3_drill_38 : decode cX3_drill 38 = .ok (.iload_n 1, 1) := by decide +kernel
theorem dX3_drill_39 : decode cX3_drill 39 = .ok (.invokevirtual 91, 3) := by decide +kernel
theorem dX3_drill_42 : decode cX3_drill 42 = .ok (.istore 4, 2) := by decide +kernel
theorem dX3_drill_44 : decode cX3_drill 44 = .ok (.aload_n 0, 1) := by decide +kernel
theorem dX3_drill_45 : decode cX3_drill 45 = .ok (.iload_n 1, 1) := by decide +kernel
theorem dX3_drill_46 : decode cX3_drill 46 = .ok (.invokevirtual 97, 3) := by decide +kernel
theorem dX3_drill_49 : decode cX3_drill 49 = .ok (.iconst 3, 1) := by decide +kernel
theorem dX3_drill_50 : decode cX3_drill 50 = .ok (.if_icmp .ne 45, 3) := by decide +kernel
theorem dX3_drill_53 : decode cX3_drill 53 = .ok (.aload_n 0, 1) := by decide +kernel
theorem dX3_drill_54 : decode cX3_drill 54 = .ok (.getfield 7, 3) := by decide +kernel
theorem dX3_drill_57 : decode cX3_drill 57 = .ok (.iload_n 2, 1) := by decide +kernel
theorem dX3_drill_58 : decode cX3_drill 58 = .ok (.baload, 1) := by decide +kernel
theorem dX3_drill_59 : decode cX3_drill 59 = .ok (.ifCond .ne 36, 3) := by decide +kernel
theorem dX3_drill_62 : decode cX3_drill 62 = .ok (.aload_n 0, 1) := by decide +kernel
theorem dX3_drill_63 : decode cX3_drill 63 = .ok (.getfield 7, 3) := by decide +kernel
theorem dX3_drill_66 : decode cX3_drill 66 = .ok (.iload_n 3, 1) := by decide +kernel
theorem dX3_drill_67 : decode cX3_drill 67 = .ok (.baload, 1) := by decide +kernel
theorem dX3_drill_68 : decode cX3_drill 68 = .ok (.ifCond .ne 27, 3) := by decide +kernel
theorem dX3_drill_71 : decode cX3_drill 71 = .ok (.iload_n 2, 1) := by decide +kernel
theorem dX3_drill_72 : decode cX3_drill 72 = .ok (.aload_n 0, 1) := by decide +kernel
theorem dX3_drill_73 : decode cX3_drill 73 = .ok (.getfield 23, 3) := by decide +kernel
theorem dX3_drill_76 : decode cX3_drill 76 = .ok (.iload_n 1, 1) := by decide +kernel
theorem dX3_drill_77 : decode cX3_drill 77 = .ok (.iaload, 1) := by decide +kernel
theorem dX3_drill_78 : decode cX3_drill 78 = .ok (.if_icmp .eq 17, 3) := by decide +kernel
theorem dX3_drill_81 : decode cX3_drill 81 = .ok (.iload_n 3, 1) := by decide +kernel
theorem dX3_drill_82 : decode cX3_drill 82 = .ok (.aload_n 0, 1) := by decide +kernel
theorem dX3_drill_83 : decode cX3_drill 83 = .ok (.getfield 23, 3) := by decide +kernel
theorem dX3_drill_86 : decode cX3_drill 86 = .ok (.iload_n 1, 1) := by decide +kernel
theorem dX3_drill_87 : decode cX3_drill 87 = .ok (.iaload, 1) := by decide +kernel
theorem dX3_drill_88 : decode cX3_drill 88 = .ok (.if_icmp .eq 7, 3) := by decide +kernel
theorem dX3_drill_91 : decode cX3_drill 91 = .ok (.iconst 1, 1) := by decide +kernel
theorem dX3_drill_92 : decode cX3_drill 92 = .ok (.goto 4, 3) := by decide +kernel
theorem dX3_drill_95 : decode cX3_drill 95 = .ok (.iconst 0, 1) := by decide +kernel
theorem dX3_drill_96 : decode cX3_drill 96 = .ok (.istore 5, 2) := by decide +kernel
theorem dX3_drill_98 : decode cX3_drill 98 = .ok (.iload 5, 2) := by decide +kernel
theorem dX3_drill_100 : decode cX3_drill 100 = .ok (.ifCond .eq 19, 3) := by decide +kernel
theorem dX3_drill_103 : decode cX3_drill 103 = .ok (.iload 4, 2) := by decide +kernel
theorem dX3_drill_105 : decode cX3_drill 105 = .ok (.iconst (-1), 1) := by decide +kernel
theorem dX3_drill_106 : decode cX3_drill 106 = .ok (.if_icmp .eq 19, 3) := by decide +kernel
theorem dX3_drill_109 : decode cX3_drill 109 = .ok (.aload_n 0, 1) := by decide +kernel
theorem dX3_drill_110 : decode cX3_drill 110 = .ok (.getfield 56, 3) := by decide +kernel
theorem dX3_drill_113 : decode cX3_drill 113 = .ok (.iload 4, 2) := by decide +kernel
theorem dX3_drill_115 : decode cX3_drill 115 = .ok (.iaload, 1) := by decide +kernel
theorem dX3_drill_116 : decode cX3_drill 116 = .ok (.ifCond .ne 9, 3) := by decide +kernel
theorem dX3_drill_119 : decode cX3_drill 119 = .ok (.aload_n 0, 1) := by decide +kernel
theorem dX3_drill_120 : decode cX3_drill 120 = .ok (.iconst 2, 1) := by decide +kernel
theorem dX3_drill_121 : decode cX3_drill 121 = .ok (.invokevirtual 103, 3) := by decide +kernel
theorem dX3_drill_124 : decode cX3_drill 124 = .ok (.ireturn, 1) := by decide +kernel
theorem dX3_drill_125 : decode cX3_drill 125 = .ok (.aload_n 0, 1) := by decide +kernel
theorem dX3_drill_126 : decode cX3_drill 126 = .ok (.getfield 35, 3) := by decide +kernel
theorem dX3_drill_129 : decode cX3_drill 129 = .ok (.iload_n 1, 1) := by decide +kernel
theorem dX3_drill_130 : decode cX3_drill 130 = .ok (.aload_n 0, 1) := by decide +kernel
theorem dX3_drill_131 : decode cX3_drill 131 = .ok (.iload_n 1, 1) := by decide +kernel
theorem dX3_drill_132 : decode cX3_drill 132 = .ok (.invokevirtual 76, 3) := by decide +kernel
theorem dX3_drill_135 : decode cX3_drill 135 = .ok (.iastore, 1) := by decide +kernel
theorem dX3_drill_136 : decode cX3_drill 136 = .ok (.aload_n 0, 1) := by decide +kernel
theorem dX3_drill_137 : decode cX3_drill 137 = .ok (.getfield 20, 3) := by decide +kernel
theorem dX3_drill_140 : decode cX3_drill 140 = .ok (.iload_n 1, 1) := by decide +kernel
theorem dX3_drill_141 : decode cX3_drill 141 = .ok (.iconst 2, 1) := by decide +kernel
theorem dX3_drill_142 : decode cX3_drill 142 = .ok (.iastore, 1) := by decide +kernel
theorem dX3_drill_143 : decode cX3_drill 143 = .ok (.aload_n 0, 1) := by decide +kernel
theorem dX3_drill_144 : decode cX3_drill 144 = .ok (.getfield 35, 3) := by decide +kernel
theorem dX3_drill_147 : decode cX3_drill 147 = .ok (.iload_n 1, 1) := by decide +kernel
theorem dX3_drill_148 : decode cX3_drill 148 = .ok (.iaload, 1) := by decide +kernel
theorem dX3_drill_149 : decode cX3_drill 149 = .ok (.ireturn, 1) := by decide +kernel
set_option maxRecDepth 20000 in
theorem ggX3_fetch_X3_isBox : GoodIn wsX3_fetch wsX3_isBox := goodIn_r _ [9, 10, 11, 8, 12] (by decide +kernel) (by decide +kernel)
set_option maxRecDepth 20000 in
theorem gX3_fetch_X3_isBox : GoodIn wsX3_fetch (va_wsS RX3 107 yX3_isBox wsX3_isBox) := goodIn_app (goodIn_of _ (by decide +kernel)) ggX3_fetch_X3_isBox
set_option maxRecDepth 20000 in
theorem ggX3_fetch_X3_isPerson : GoodIn wsX3_fetch wsX3_isPerson := goodIn_r _ [15, 10, 11, 8, 12] (by decide +kernel) (by decide +kernel)
set_option maxRecDepth 20000 in
theorem gX3_fetch_X3_isPerson : GoodIn wsX3_fetch (va_wsS RX3 110 yX3_isPerson wsX3_isPerson) := goodIn_app (goodIn_of _ (by decide +kernel)) ggX3_fetch_X3_isPerson
set_option maxRecDepth 20000 in
theorem ggX3_fetch_X3_fails : GoodIn wsX3_fetch wsX3_fails := goodIn_r _ [19, 1, 44, 45, 46, 47, 48, 49, 50, 51, 52, 53, 54, 55, 56, 57, 58, 59, 60, 61, 62, 63, 64] (by decide +kernel) (by decide +kernel)
set_option maxRecDepth 20000 in
theorem gX3_fetch_X3_fails : GoodIn wsX3_fetch (wsV RX3 103 RX3 yX3_fails wsX3_fails) := goodIn_app (goodIn_of _ (by decide +kernel)) ggX3_fetch_X3_fails
set_option maxRecDepth 20000 in
theorem ggX3_fetch_X3_binds : GoodIn wsX3_fetch wsX3_binds := goodIn_r _ [23, 24, 25, 26, 27, 44, 45, 46, 47, 48, 49, 50, 51, 52, 53, 54, 55, 56, 57, 58, 59, 60, 61, 62, 63, 64] (by decide +kernel) (by decide +kernel)
set_option maxRecDepth 20000 in
theorem gX3_fetch_X3_binds : GoodIn wsX3_fetch (wsV RX3 91 RX3 yX3_binds wsX3_binds) := goodIn_app (goodIn_of _ (by decide +kernel)) ggX3_fetch_X3_binds
set_option maxRecDepth 20000 in
theorem ggX3_fetch_X3_isOrdered : GoodIn wsX3_fetch wsX3_isOrdered := goodIn_r _ [31, 4, 26, 32, 33, 3, 34, 35, 36, 8, 37, 38, 44, 45, 46, 47, 48, 49, 50, 51, 52, 53, 54, 55, 56, 57, 58, 59, 60, 61, 62, 63, 64] (by decide +kernel) (by decide +kernel)
set_option maxRecDepth 20000 in
theorem gX3_fetch_X3_isOrdered : GoodIn wsX3_fetch (wsV RX3 94 RX3 yX3_isOrdered wsX3_isOrdered) := goodIn_app (goodIn_of _ (by decide +kernel)) ggX3_fetch_X3_isOrdered
set_option maxRecDepth 20000 in
theorem ggX3_fetch_X3_isHeir : GoodIn wsX3_fetch wsX3_isHeir := goodIn_r _ [37, 38, 44, 45, 46, 47, 48, 49, 50, 51, 52, 53, 54, 55, 56, 57, 58, 59, 60, 61, 62, 63, 64] (by decide +kernel) (by decide +kernel)
set_option maxRecDepth 20000 in
theorem gX3_fetch_X3_isHeir : GoodIn wsX3_fetch (wsV RX3 87 RX3 yX3_isHeir wsX3_isHeir) := goodIn_app (goodIn_of _ (by decide +kernel)) ggX3_fetch_X3_isHeir
set_option maxRecDepth 20000 in
theorem ggX3_fetch_X3_frees : GoodIn wsX3_fetch wsX3_frees := goodIn_r _ [42, 2, 43, 24, 25, 26, 44, 45, 46, 47, 48, 49, 50, 51, 52, 53, 54, 55, 56, 57, 58, 59, 60, 61, 62, 63, 64] (by decide +kernel) (by decide +kernel)
set_option maxRecDepth 20000 in
theorem gX3_fetch_X3_frees : GoodIn wsX3_fetch (wsV RX3 117 RX3 yX3_frees wsX3_frees) := goodIn_app (goodIn_of _ (by decide +kernel)) ggX3_fetch_X3_frees
theorem dX3_fetch_0 : decode cX3_fetch 0 = .ok (.aload_n 0, 1) := by decide +kernel
theorem dX3_fetch_1 : decode cX3_fetch 1 = .ok (.iconst 0, 1) := by decide +kernel
theorem dX3_fetch_2 : decode cX3_fetch 2 = .ok (.putfield 65, 3) := by decide +kernel
theorem dX3_fetch_5 : decode cX3_fetch 5 = .ok (.iload_n 1, 1) := by decide +kernel
theorem dX3_fetch_6 : decode cX3_fetch 6 = .ok (.invokestatic 107, 3) := by decide +kernel
theorem dX3_fetch_9 : decode cX3_fetch 9 = .ok (.ifCond .eq 10, 3) := by decide +kernel
theorem dX3_fetch_12 : decode cX3_fetch 12 = .ok (.iload_n 2, 1) := by decide +kernel
theorem dX3_fetch_13 : decode cX3_fetch 13 = .ok (.invokestatic 110, 3) := by decide +kernel
theorem dX3_fetch_16 : decode cX3_fetch 16 = .ok (.ifCond .ne 9, 3) := by decide +kernel
theorem dX3_fetch_19 : decode cX3_fetch 19 = .ok (.aload_n 0, 1) := by decide +kernel
theorem dX3_fetch_20 : decode cX3_fetch 20 = .ok (.iconst 1, 1) := by decide +kernel
theorem dX3_fetch_21 : decode cX3_fetch 21 = .ok (.invokevirtual 103, 3) := by decide +kernel
theorem dX3_fetch_24 : decode cX3_fetch 24 = .ok (.ireturn, 1) := by decide +kernel
theorem dX3_fetch_25 : decode cX3_fetch 25 = .ok (.aload_n 0, 1) := by decide +kernel
theorem dX3_fetch_26 : decode cX3_fetch 26 = .ok (.getfield 20, 3) := by decide +kernel
theorem dX3_fetch_29 : decode cX3_fetch 29 = .ok (.iload_n 1, 1) := by decide +kernel
theorem dX3_fetch_30 : decode cX3_fetch 30 = .ok (.iaload, 1) := by decide +kernel
theorem dX3_fetch_31 : decode cX3_fetch 31 = .ok (.iconst 2, 1) := by decide +kernel
theorem dX3_fetch_32 : decode cX3_fetch 32 = .ok (.if_icmp .ne 12, 3) := by decide +kernel
theorem dX3_fetch_35 : decode cX3_fetch 35 = .ok (.aload_n 0, 1) := by decide +kernel
theorem dX3_fetch_36 : decode cX3_fetch 36 = .ok (.getfield 7, 3) := by decide +kernel
theorem dX3_fetch_39 : decode cX3_fetch 39 = .ok (.iload_n 2, 1) := by decide +kernel
theorem dX3_fetch_40 : decode cX3_fetch 40 = .ok (.baload, 1) := by decide +kernel
theorem dX3_fetch_41 : decode cX3_fetch 41 = .ok (.ifCond .eq 9, 3) := by decide +kernel
theorem dX3_fetch_44 : decode cX3_fetch 44 = .ok (.aload_n 0, 1) := by decide +kernel
theorem dX3_fetch_45 : decode cX3_fetch 45 = .ok (.iconst 2, 1) := by decide +kernel
theorem dX3_fetch_46 : decode cX3_fetch 46 = .ok (.invokevirtual 103, 3) := by decide +kernel
theorem dX3_fetch_49 : decode cX3_fetch 49 = .ok (.ireturn, 1) := by decide +kernel
theorem dX3_fetch_50 : decode cX3_fetch 50 = .ok (.aload_n 0, 1) := by decide +kernel
theorem dX3_fetch_51 : decode cX3_fetch 51 = .ok (.iload_n 1, 1) := by decide +kernel
theorem dX3_fetch_52 : decode cX3_fetch 52 = .ok (.invokevirtual 91, 3) := by decide +kernel
theorem dX3_fetch_55 : decode cX3_fetch 55 = .ok (.istore_n 3, 1) := by decide +kernel
theorem dX3_fetch_56 : decode cX3_fetch 56 = .ok (.iload_n 3, 1) := by decide +kernel
theorem dX3_fetch_57 : decode cX3_fetch 57 = .ok (.iconst (-1), 1) := by decide +kernel
theorem dX3_fetch_58 : decode cX3_fetch 58 = .ok (.if_icmp .eq 12, 3) := by decide +kernel
theorem dX3_fetch_61 : decode cX3_fetch 61 = .ok (.aload_n 0, 1) := by decide +kernel
theorem dX3_fetch_62 : decode cX3_fetch 62 = .ok (.iload_n 3, 1) := by decide +kernel
theorem dX3_fetch_63 : decode cX3_fetch 63 = .ok (.iload_n 2, 1) := by decide +kernel
theorem dX3_fetch_64 : decode cX3_fetch 64 = .ok (.invokevirtual 94, 3) := by decide +kernel
theorem dX3_fetch_67 : decode cX3_fetch 67 = .ok (.goto 46, 3) := by decide +kernel
theorem dX3_fetch_70 : decode cX3_fetch 70 = .ok (.aload_n 0, 1) := by decide +kernel
theorem dX3_fetch_71 : decode cX3_fetch 71 = .ok (.getfield 7, 3) := by decide +kernel
theorem dX3_fetch_74 : decode cX3_fetch 74 = .ok (.aload_n 0, 1) := by decide +kernel
theorem dX3_fetch_75 : decode cX3_fetch 75 = .ok (.getfield 23, 3) := by decide +kernel
theorem dX3_fetch_78 : decode cX3_fetch 78 = .ok (.iload_n 1, 1) := by decide +kernel
theorem dX3_fetch_79 : decode cX3_fetch 79 = .ok (.iaload, 1) := by decide +kernel
theorem dX3_fetch_80 : decode cX3_fetch 80 = .ok (.baload, 1) := by decide +kernel
theorem dX3_fetch_81 : decode cX3_fetch 81 = .ok (.ifCond .eq 17, 3) := by decide +kernel
theorem dX3_fetch_84 : decode cX3_fetch 84 = .ok (.aload_n 0, 1) := by decide +kernel
theorem dX3_fetch_85 : decode cX3_fetch 85 = .ok (.iload_n 2, 1) := by decide +kernel
theorem dX3_fetch_86 : decode cX3_fetch 86 = .ok (.aload_n 0, 1) := by decide +kernel
theorem dX3_fetch_87 : decode cX3_fetch 87 = .ok (.getfield 23, 3) := by decide +kernel
theorem dX3_fetch_90 : decode cX3_fetch 90 = .ok (.iload_n 1, 1) := by decide +kernel
theorem dX3_fetch_91 : decode cX3_fetch 91 = .ok (.iaload, 1) := by decide +kernel
theorem dX3_fetch_92 : decode cX3_fetch 92 = .ok (.invokevirtual 87, 3) := by decide +kernel
theorem dX3_fetch_95 : decode cX3_fetch 95 = .ok (.goto 18, 3) := by decide +kernel
theorem dX3_fetch_98 : decode cX3_fetch 98 = .ok (.iload_n 2, 1) := by decide +kernel
theorem dX3_fetch_99 : decode cX3_fetch 99 = .ok (.aload_n 0, 1) := by decide +kernel
theorem dX3_fetch_100 : decode cX3_fetch 100 = .ok (.getfield 23, 3) := by decide +kernel
theorem dX3_fetch_103 : decode cX3_fetch 103 = .ok (.iload_n 1, 1) := by decide +kernel
theorem dX3_fetch_104 : decode cX3_fetch 104 = .ok (.iaload, 1) := by decide +kernel
theorem dX3_fetch_105 : decode cX3_fetch 105 = .ok (.if_icmp .ne 7, 3) := by decide +kernel
theorem dX3_fetch_108 : decode cX3_fetch 108 = .ok (.iconst 1, 1) := by decide +kernel
theorem dX3_fetch_109 : decode cX3_fetch 109 = .ok (.goto 4, 3) := by decide +kernel
theorem dX3_fetch_112 : decode cX3_fetch 112 = .ok (.iconst 0, 1) := by decide +kernel
theorem dX3_fetch_113 : decode cX3_fetch 113 = .ok (.istore 4, 2) := by decide +kernel
theorem dX3_fetch_115 : decode cX3_fetch 115 = .ok (.iload 4, 2) := by decide +kernel
theorem dX3_fetch_117 : decode cX3_fetch 117 = .ok (.ifCond .ne 9, 3) := by decide +kernel
theorem dX3_fetch_120 : decode cX3_fetch 120 = .ok (.aload_n 0, 1) := by decide +kernel
theorem dX3_fetch_121 : decode cX3_fetch 121 = .ok (.iconst 2, 1) := by decide +kernel
theorem dX3_fetch_122 : decode cX3_fetch 122 = .ok (.invokevirtual 103, 3) := by decide +kernel
theorem dX3_fetch_125 : decode cX3_fetch 125 = .ok (.ireturn, 1) := by decide +kernel
theorem dX3_fetch_126 : decode cX3_fetch 126 = .ok (.aload_n 0, 1) := by decide +kernel
theorem dX3_fetch_127 : decode cX3_fetch 127 = .ok (.iload_n 1, 1) := by decide +kernel
theorem dX3_fetch_128 : decode cX3_fetch 128 = .ok (.invokevirtual 117, 3) := by decide +kernel
theorem dX3_fetch_131 : decode cX3_fetch 131 = .ok (.aload_n 0, 1) := by decide +kernel
theorem dX3_fetch_132 : decode cX3_fetch 132 = .ok (.getfield 35, 3) := by decide +kernel
theorem dX3_fetch_135 : decode cX3_fetch 135 = .ok (.iload_n 1, 1) := by decide +kernel
theorem dX3_fetch_136 : decode cX3_fetch 136 = .ok (.iaload, 1) := by decide +kernel
theorem dX3_fetch_137 : decode cX3_fetch 137 = .ok (.ireturn, 1) := by decide +kernel
set_option maxRecDepth 20000 in
theorem ggX3_proxy_X3_isBox : GoodIn wsX3_proxy wsX3_isBox := goodIn_r _ [12, 13, 14, 11, 15] (by decide +kernel) (by decide +kernel)
set_option maxRecDepth 20000 in
theorem gX3_proxy_X3_isBox : GoodIn wsX3_proxy (va_wsS RX3 107 yX3_isBox wsX3_isBox) := goodIn_app (goodIn_of _ (by decide +kernel)) ggX3_proxy_X3_isBox
set_option maxRecDepth 20000 in
theorem ggX3_proxy_X3_isPerson : GoodIn wsX3_proxy wsX3_isPerson := goodIn_r _ [18, 13, 14, 11, 15] (by decide +kernel) (by decide +kernel)
set_option maxRecDepth 20000 in
theorem gX3_proxy_X3_isPerson : GoodIn wsX3_proxy (va_wsS RX3 110 yX3_isPerson wsX3_isPerson) := goodIn_app (goodIn_of _ (by decide +kernel)) ggX3_proxy_X3_isPerson
set_option maxRecDepth 20000 in
theorem ggX3_proxy_X3_in : GoodIn wsX3_proxy wsX3_in := goodIn_r _ [15] (by decide +kernel) (by decide +kernel)
set_option maxRecDepth 20000 in
theorem gX3_proxy_X3_in : GoodIn wsX3_proxy (va_wsS RX3 69 yX3_in wsX3_in) := goodIn_app (goodIn_of _ (by decide +kernel)) ggX3_proxy_X3_in
set_option maxRecDepth 20000 in
theorem ggX3_proxy_X3_fails : GoodIn wsX3_proxy wsX3_fails := goodIn_r _ [22, 1, 28, 29, 30, 31, 32, 33, 34, 35, 36, 37, 38, 39, 40, 41, 42, 43, 44, 45, 46, 47, 48] (by decide +kernel) (by decide +kernel)
set_option maxRecDepth 20000 in
theorem gX3_proxy_X3_fails : GoodIn wsX3_proxy (wsV RX3 103 RX3 yX3_fails wsX3_fails) := goodIn_app (goodIn_of _ (by decide +kernel)) ggX3_proxy_X3_fails
set_option maxRecDepth 20000 in
theorem ggX3_proxy_X3_isRented : GoodIn wsX3_proxy wsX3_isRented := goodIn_r _ [26, 27, 28, 29, 30, 31, 32, 33, 34, 35, 36, 37, 38, 39, 40, 41, 42, 43, 44, 45, 46, 47, 48] (by decide +kernel) (by decide +kernel)
set_option maxRecDepth 20000 in
theorem gX3_proxy_X3_isRented : GoodIn wsX3_proxy (wsV RX3 80 RX3 yX3_isRented wsX3_isRented) := goodIn_app (goodIn_of _ (by decide +kernel)) ggX3_proxy_X3_isRented
theorem dX3_proxy_0 : decode cX3_proxy 0 = .ok (.aload_n 0, 1) := by decide +kernel
theorem dX3_proxy_1 : decode cX3_proxy 1 = .ok (.iconst 0, 1) := by decide +kernel
theorem dX3_proxy_2 : decode cX3_proxy 2 = .ok (.putfield 65, 3) := by decide +kernel
theorem dX3_proxy_5 : decode cX3_proxy 5 = .ok (.iload_n 1, 1) := by decide +kernel
theorem dX3_proxy_6 : decode cX3_proxy 6 = .ok (.invokestatic 107, 3) := by decide +kernel
theorem dX3_proxy_9 : decode cX3_proxy 9 = .ok (.ifCond .eq 31, 3) := by decide +kernel
theorem dX3_proxy_12 : decode cX3_proxy 12 = .ok (.iload_n 2, 1) := by decide +kernel
theorem dX3_proxy_13 : decode cX3_proxy 13 = .ok (.invokestatic 110, 3) := by decide +kernel
theorem dX3_proxy_16 : decode cX3_proxy 16 = .ok (.ifCond .eq 24, 3) := by decide +kernel
theorem dX3_proxy_19 : decode cX3_proxy 19 = .ok (.iload_n 3, 1) := by decide +kernel
theorem dX3_proxy_20 : decode cX3_proxy 20 = .ok (.iconst 0, 1) := by decide +kernel
theorem dX3_proxy_21 : decode cX3_proxy 21 = .ok (.ldc 106, 2) := by decide +kernel
theorem dX3_proxy_23 : decode cX3_proxy 23 = .ok (.invokestatic 69, 3) := by decide +kernel
theorem dX3_proxy_26 : decode cX3_proxy 26 = .ok (.ifCond .eq 14, 3) := by decide +kernel
theorem dX3_proxy_29 : decode cX3_proxy 29 = .ok (.iload 4, 2) := by decide +kernel
theorem dX3_proxy_31 : decode cX3_proxy 31 = .ok (.iload_n 3, 1) := by decide +kernel
theorem dX3_proxy_32 : decode cX3_proxy 32 = .ok (.ldc 106, 2) := by decide +kernel
theorem dX3_proxy_34 : decode cX3_proxy 34 = .ok (.invokestatic 69, 3) := by decide +kernel
theorem dX3_proxy_37 : decode cX3_proxy 37 = .ok (.ifCond .ne 9, 3) := by decide +kernel
theorem dX3_proxy_40 : decode cX3_proxy 40 = .ok (.aload_n 0, 1) := by decide +kernel
theorem dX3_proxy_41 : decode cX3_proxy 41 = .ok (.iconst 1, 1) := by decide +kernel
theorem dX3_proxy_42 : decode cX3_proxy 42 = .ok (.invokevirtual 103, 3) := by decide +kernel
theorem dX3_proxy_45 : decode cX3_proxy 45 = .ok (.ireturn, 1) := by decide +kernel
theorem dX3_proxy_46 : decode cX3_proxy 46 = .ok (.aload_n 0, 1) := by decide +kernel
theorem dX3_proxy_47 : decode cX3_proxy 47 = .ok (.iload_n 1, 1) := by decide +kernel
theorem dX3_proxy_48 : decode cX3_proxy 48 = .ok (.invokevirtual 80, 3) := by decide +kernel
theorem dX3_proxy_51 : decode cX3_proxy 51 = .ok (.ifCond .eq 37, 3) := by decide +kernel
theorem dX3_proxy_54 : decode cX3_proxy 54 = .ok (.aload_n 0, 1) := by decide +kernel
theorem dX3_proxy_55 : decode cX3_proxy 55 = .ok (.getfield 7, 3) := by decide +kernel
theorem dX3_proxy_58 : decode cX3_proxy 58 = .ok (.aload_n 0, 1) := by decide +kernel
theorem dX3_proxy_59 : decode cX3_proxy 59 = .ok (.getfield 23, 3) := by decide +kernel
theorem dX3_proxy_62 : decode cX3_proxy 62 = .ok (.iload_n 1, 1) := by decide +kernel
theorem dX3_proxy_63 : decode cX3_proxy 63 = .ok (.iaload, 1) := by decide +kernel
theorem dX3_proxy_64 : decode cX3_proxy 64 = .ok (.baload, 1) := by decide +kernel
theorem dX3_proxy_65 : decode cX3_proxy 65 = .ok (.ifCond .ne 23, 3) := by decide +kernel
theorem dX3_proxy_68 : decode cX3_proxy 68 = .ok (.iload_n 2, 1) := by decide +kernel
theorem dX3_proxy_69 : decode cX3_proxy 69 = .ok (.aload_n 0, 1) := by decide +kernel
theorem dX3_proxy_70 : decode cX3_proxy 70 = .ok (.getfield 23, 3) := by decide +kernel
theorem dX3_proxy_73 : decode cX3_proxy 73 = .ok (.iload_n 1, 1) := by decide +kernel
theorem dX3_proxy_74 : decode cX3_proxy 74 = .ok (.iaload, 1) := by decide +kernel
theorem dX3_proxy_75 : decode cX3_proxy 75 = .ok (.if_icmp .eq 13, 3) := by decide +kernel
theorem dX3_proxy_78 : decode cX3_proxy 78 = .ok (.aload_n 0, 1) := by decide +kernel
theorem dX3_proxy_79 : decode cX3_proxy 79 = .ok (.getfield 38, 3) := by decide +kernel
theorem dX3_proxy_82 : decode cX3_proxy 82 = .ok (.iload_n 1, 1) := by decide +kernel
theorem dX3_proxy_83 : decode cX3_proxy 83 = .ok (.iaload, 1) := by decide +kernel
theorem dX3_proxy_84 : decode cX3_proxy 84 = .ok (.iconst 5, 1) := by decide +kernel
theorem dX3_proxy_85 : decode cX3_proxy 85 = .ok (.if_icmp .ne 9, 3) := by decide +kernel
theorem dX3_proxy_88 : decode cX3_proxy 88 = .ok (.aload_n 0, 1) := by decide +kernel
theorem dX3_proxy_89 : decode cX3_proxy 89 = .ok (.iconst 2, 1) := by decide +kernel
theorem dX3_proxy_90 : decode cX3_proxy 90 = .ok (.invokevirtual 103, 3) := by decide +kernel
theorem dX3_proxy_93 : decode cX3_proxy 93 = .ok (.ireturn, 1) := by decide +kernel
theorem dX3_proxy_94 : decode cX3_proxy 94 = .ok (.iconst 5, 1) := by decide +kernel
theorem dX3_proxy_95 : decode cX3_proxy 95 = .ok (.iload_n 1, 1) := by decide +kernel
theorem dX3_proxy_96 : decode cX3_proxy 96 = .ok (.imul, 1) := by decide +kernel
theorem dX3_proxy_97 : decode cX3_proxy 97 = .ok (.aload_n 0, 1) := by decide +kernel
theorem dX3_proxy_98 : decode cX3_proxy 98 = .ok (.getfield 38, 3) := by decide +kernel
theorem dX3_proxy_101 : decode cX3_proxy 101 = .ok (.iload_n 1, 1) := by decide +kernel
theorem dX3_proxy_102 : decode cX3_proxy 102 = .ok (.iaload, 1) := by decide +kernel
theorem dX3_proxy_103 : decode cX3_proxy 103 = .ok (.iadd, 1) := by decide +kernel
theorem dX3_proxy_104 : decode cX3_proxy 104 = .ok (.istore 5, 2) := by decide +kernel
theorem dX3_proxy_106 : decode cX3_proxy 106 = .ok (.aload_n 0, 1) := by decide +kernel
theorem dX3_proxy_107 : decode cX3_proxy 107 = .ok (.getfield 41, 3) := by decide +kernel
theorem dX3_proxy_110 : decode cX3_proxy 110 = .ok (.iload 5, 2) := by decide +kernel
theorem dX3_proxy_112 : decode cX3_proxy 112 = .ok (.iload_n 2, 1) := by decide +kernel
theorem dX3_proxy_113 : decode cX3_proxy 113 = .ok (.iastore, 1) := by decide +kernel
theorem dX3_proxy_114 : decode cX3_proxy 114 = .ok (.aload_n 0, 1) := by decide +kernel
theorem dX3_proxy_115 : decode cX3_proxy 115 = .ok (.getfield 44, 3) := by decide +kernel
theorem dX3_proxy_118 : decode cX3_proxy 118 = .ok (.iload 5, 2) := by decide +kernel
theorem dX3_proxy_120 : decode cX3_proxy 120 = .ok (.iload_n 3, 1) := by decide +kernel
theorem dX3_proxy_121 : decode cX3_proxy 121 = .ok (.iastore, 1) := by decide +kernel
theorem dX3_proxy_122 : decode cX3_proxy 122 = .ok (.aload_n 0, 1) := by decide +kernel
theorem dX3_proxy_123 : decode cX3_proxy 123 = .ok (.getfield 47, 3) := by decide +kernel
theorem dX3_proxy_126 : decode cX3_proxy 126 = .ok (.iload 5, 2) := by decide +kernel
theorem dX3_proxy_128 : decode cX3_proxy 128 = .ok (.iload 4, 2) := by decide +kernel
theorem dX3_proxy_130 : decode cX3_proxy 130 = .ok (.iastore, 1) := by decide +kernel
theorem dX3_proxy_131 : decode cX3_proxy 131 = .ok (.aload_n 0, 1) := by decide +kernel
theorem dX3_proxy_132 : decode cX3_proxy 132 = .ok (.getfield 38, 3) := by decide +kernel
theorem dX3_proxy_135 : decode cX3_proxy 135 = .ok (.iload_n 1, 1) := by decide +kernel
theorem dX3_proxy_136 : decode cX3_proxy 136 = .ok (.dup2, 1) := by decide +kernel
theorem dX3_proxy_137 : decode cX3_proxy 137 = .ok (.iaload, 1) := by decide +kernel
theorem dX3_proxy_138 : decode cX3_proxy 138 = .ok (.iconst 1, 1) := by decide +kernel
theorem dX3_proxy_139 : decode cX3_proxy 139 = .ok (.iadd, 1) := by decide +kernel
theorem dX3_proxy_140 : decode cX3_proxy 140 = .ok (.iastore, 1) := by decide +kernel
theorem dX3_proxy_141 : decode cX3_proxy 141 = .ok (.aload_n 0, 1) := by decide +kernel
theorem dX3_proxy_142 : decode cX3_proxy 142 = .ok (.getfield 38, 3) := by decide +kernel
theorem dX3_proxy_145 : decode cX3_proxy 145 = .ok (.iload_n 1, 1) := by decide +kernel
theorem dX3_proxy_146 : decode cX3_proxy 146 = .ok (.iaload, 1) := by decide +kernel
theorem dX3_proxy_147 : decode cX3_proxy 147 = .ok (.ireturn, 1) := by decide +kernel
set_option maxRecDepth 20000 in
theorem ggX3_heir_X3_isPerson : GoodIn wsX3_heir wsX3_isPerson := goodIn_r _ [6, 7, 8, 5, 9] (by decide +kernel) (by decide +kernel)
set_option maxRecDepth 20000 in
theorem gX3_heir_X3_isPerson : GoodIn wsX3_heir (va_wsS RX3 110 yX3_isPerson wsX3_isPerson) := goodIn_app (goodIn_of _ (by decide +kernel)) ggX3_heir_X3_isPerson
set_option maxRecDepth 20000 in
theorem ggX3_heir_X3_isHeir : GoodIn wsX3_heir wsX3_isHeir := goodIn_r _ [13, 2, 14, 15, 16, 17, 18, 19, 20, 21, 22, 23, 24, 25, 26, 27, 28, 29, 30, 31, 32, 33, 34] (by decide +kernel) (by decide +kernel)
set_option maxRecDepth 20000 in
theorem gX3_heir_X3_isHeir : GoodIn wsX3_heir (wsV RX3 87 RX3 yX3_isHeir wsX3_isHeir) := goodIn_app (goodIn_of _ (by decide +kernel)) ggX3_heir_X3_isHeir
theorem dX3_heir_0 : decode cX3_heir 0 = .ok (.aload_n 0, 1) := by decide +kernel
theorem dX3_heir_1 : decode cX3_heir 1 = .ok (.iload_n 1, 1) := by decide +kernel
theorem dX3_heir_2 : decode cX3_heir 2 = .ok (.invokestatic 110, 3) := by decide +kernel
theorem dX3_heir_5 : decode cX3_heir 5 = .ok (.ifCond .eq 19, 3) := by decide +kernel
theorem dX3_heir_8 : decode cX3_heir 8 = .ok (.iload_n 2, 1) := by decide +kernel
theorem dX3_heir_9 : decode cX3_heir 9 = .ok (.invokestatic 110, 3) := by decide +kernel
theorem dX3_heir_12 : decode cX3_heir 12 = .ok (.ifCond .eq 12, 3) := by decide +kernel
theorem dX3_heir_15 : decode cX3_heir 15 = .ok (.iload_n 1, 1) := by decide +kernel
theorem dX3_heir_16 : decode cX3_heir 16 = .ok (.iload_n 2, 1) := by decide +kernel
theorem dX3_heir_17 : decode cX3_heir 17 = .ok (.if_icmp .eq 7, 3) := by decide +kernel
theorem dX3_heir_20 : decode cX3_heir 20 = .ok (.iconst 0, 1) := by decide +kernel
theorem dX3_heir_21 : decode cX3_heir 21 = .ok (.goto 4, 3) := by decide +kernel
theorem dX3_heir_24 : decode cX3_heir 24 = .ok (.iconst 1, 1) := by decide +kernel
theorem dX3_heir_25 : decode cX3_heir 25 = .ok (.putfield 65, 3) := by decide +kernel
theorem dX3_heir_28 : decode cX3_heir 28 = .ok (.aload_n 0, 1) := by decide +kernel
theorem dX3_heir_29 : decode cX3_heir 29 = .ok (.getfield 65, 3) := by decide +kernel
theorem dX3_heir_32 : decode cX3_heir 32 = .ok (.ifCond .le 5, 3) := by decide +kernel
theorem dX3_heir_35 : decode cX3_heir 35 = .ok (.iconst 0, 1) := by decide +kernel
theorem dX3_heir_36 : decode cX3_heir 36 = .ok (.ireturn, 1) := by decide +kernel
theorem dX3_heir_37 : decode cX3_heir 37 = .ok (.aload_n 0, 1) := by decide +kernel
theorem dX3_heir_38 : decode cX3_heir 38 = .ok (.iload_n 2, 1) := by decide +kernel
theorem dX3_heir_39 : decode cX3_heir 39 = .ok (.iload_n 1, 1) := by decide +kernel
theorem dX3_heir_40 : decode cX3_heir 40 = .ok (.invokevirtual 87, 3) := by decide +kernel
theorem dX3_heir_43 : decode cX3_heir 43 = .ok (.istore 4, 2) := by decide +kernel
theorem dX3_heir_45 : decode cX3_heir 45 = .ok (.aload_n 0, 1) := by decide +kernel
theorem dX3_heir_46 : decode cX3_heir 46 = .ok (.getfield 13, 3) := by decide +kernel
theorem dX3_heir_49 : decode cX3_heir 49 = .ok (.iload_n 1, 1) := by decide +kernel
theorem dX3_heir_50 : decode cX3_heir 50 = .ok (.iload_n 3, 1) := by decide +kernel
theorem dX3_heir_51 : decode cX3_heir 51 = .ok (.ifCond .eq 16, 3) := by decide +kernel
theorem dX3_heir_54 : decode cX3_heir 54 = .ok (.aload_n 0, 1) := by decide +kernel
theorem dX3_heir_55 : decode cX3_heir 55 = .ok (.getfield 13, 3) := by decide +kernel
theorem dX3_heir_58 : decode cX3_heir 58 = .ok (.iload_n 1, 1) := by decide +kernel
theorem dX3_heir_59 : decode cX3_heir 59 = .ok (.iaload, 1) := by decide +kernel
theorem dX3_heir_60 : decode cX3_heir 60 = .ok (.iconst 1, 1) := by decide +kernel
theorem dX3_heir_61 : decode cX3_heir 61 = .ok (.iload_n 2, 1) := by decide +kernel
theorem dX3_heir_62 : decode cX3_heir 62 = .ok (.ishl, 1) := by decide +kernel
theorem dX3_heir_63 : decode cX3_heir 63 = .ok (.ior, 1) := by decide +kernel
theorem dX3_heir_64 : decode cX3_heir 64 = .ok (.goto 15, 3) := by decide +kernel
theorem dX3_heir_67 : decode cX3_heir 67 = .ok (.aload_n 0, 1) := by decide +kernel
theorem dX3_heir_68 : decode cX3_heir 68 = .ok (.getfield 13, 3) := by decide +kernel
theorem dX3_heir_71 : decode cX3_heir 71 = .ok (.iload_n 1, 1) := by decide +kernel
theorem dX3_heir_72 : decode cX3_heir 72 = .ok (.iaload, 1) := by decide +kernel
theorem dX3_heir_73 : decode cX3_heir 73 = .ok (.iconst 1, 1) := by decide +kernel
theorem dX3_heir_74 : decode cX3_heir 74 = .ok (.iload_n 2, 1) := by decide +kernel
theorem dX3_heir_75 : decode cX3_heir 75 = .ok (.ishl, 1) := by decide +kernel
theorem dX3_heir_76 : decode cX3_heir 76 = .ok (.iconst (-1), 1) := by decide +kernel
theorem dX3_heir_77 : decode cX3_heir 77 = .ok (.ixor, 1) := by decide +kernel
theorem dX3_heir_78 : decode cX3_heir 78 = .ok (.iand, 1) := by decide +kernel
theorem dX3_heir_79 : decode cX3_heir 79 = .ok (.iastore, 1) := by decide +kernel
theorem dX3_heir_80 : decode cX3_heir 80 = .ok (.iload 4, 2) := by decide +kernel
theorem dX3_heir_82 : decode cX3_heir 82 = .ok (.ireturn, 1) := by decide +kernel
set_option maxRecDepth 20000 in
theorem ggX3_die_X3_isPerson : GoodIn wsX3_die wsX3_isPerson := goodIn_r _ [9, 10, 11, 8, 12] (by decide +kernel) (by decide +kernel)
set_option maxRecDepth 20000 in
theorem gX3_die_X3_isPerson : GoodIn wsX3_die (va_wsS RX3 110 yX3_isPerson wsX3_isPerson) := goodIn_app (goodIn_of _ (by decide +kernel)) ggX3_die_X3_isPerson
set_option maxRecDepth 20000 in
theorem ggX3_die_X3_fails : GoodIn wsX3_die wsX3_fails := goodIn_r _ [16, 1, 21, 22, 23, 24, 25, 26, 27, 28, 29, 30, 31, 32, 33, 34, 35, 36, 37, 38, 39, 40, 41] (by decide +kernel) (by decide +kernel)
set_option maxRecDepth 20000 in
theorem gX3_die_X3_fails : GoodIn wsX3_die (wsV RX3 103 RX3 yX3_fails wsX3_fails) := goodIn_app (goodIn_of _ (by decide +kernel)) ggX3_die_X3_fails
set_option maxRecDepth 20000 in
theorem ggX3_die_X3_isRented : GoodIn wsX3_die wsX3_isRented := goodIn_r _ [20, 3, 21, 22, 23, 24, 25, 26, 27, 28, 29, 30, 31, 32, 33, 34, 35, 36, 37, 38, 39, 40, 41] (by decide +kernel) (by decide +kernel)
set_option maxRecDepth 20000 in
theorem gX3_die_X3_isRented : GoodIn wsX3_die (wsV RX3 80 RX3 yX3_isRented wsX3_isRented) := goodIn_app (goodIn_of _ (by decide +kernel)) ggX3_die_X3_isRented
theorem dX3_die_0 : decode cX3_die 0 = .ok (.aload_n 0, 1) := by decide +kernel
theorem dX3_die_1 : decode cX3_die 1 = .ok (.iconst 0, 1) := by decide +kernel
theorem dX3_die_2 : decode cX3_die 2 = .ok (.putfield 65, 3) := by decide +kernel
theorem dX3_die_5 : decode cX3_die 5 = .ok (.iload_n 1, 1) := by decide +kernel
theorem dX3_die_6 : decode cX3_die 6 = .ok (.invokestatic 110, 3) := by decide +kernel
theorem dX3_die_9 : decode cX3_die 9 = .ok (.ifCond .ne 9, 3) := by decide +kernel
theorem dX3_die_12 : decode cX3_die 12 = .ok (.aload_n 0, 1) := by decide +kernel
theorem dX3_die_13 : decode cX3_die 13 = .ok (.iconst 1, 1) := by decide +kernel
theorem dX3_die_14 : decode cX3_die 14 = .ok (.invokevirtual 103, 3) := by decide +kernel
theorem dX3_die_17 : decode cX3_die 17 = .ok (.ireturn, 1) := by decide +kernel
theorem dX3_die_18 : decode cX3_die 18 = .ok (.aload_n 0, 1) := by decide +kernel
theorem dX3_die_19 : decode cX3_die 19 = .ok (.getfield 7, 3) := by decide +kernel
theorem dX3_die_22 : decode cX3_die 22 = .ok (.iload_n 1, 1) := by decide +kernel
theorem dX3_die_23 : decode cX3_die 23 = .ok (.baload, 1) := by decide +kernel
theorem dX3_die_24 : decode cX3_die 24 = .ok (.ifCond .eq 9, 3) := by decide +kernel
theorem dX3_die_27 : decode cX3_die 27 = .ok (.aload_n 0, 1) := by decide +kernel
theorem dX3_die_28 : decode cX3_die 28 = .ok (.iconst 2, 1) := by decide +kernel
theorem dX3_die_29 : decode cX3_die 29 = .ok (.invokevirtual 103, 3) := by decide +kernel
theorem dX3_die_32 : decode cX3_die 32 = .ok (.ireturn, 1) := by decide +kernel
theorem dX3_die_33 : decode cX3_die 33 = .ok (.aload_n 0, 1) := by decide +kernel
theorem dX3_die_34 : decode cX3_die 34 = .ok (.getfield 7, 3) := by decide +kernel
theorem dX3_die_37 : decode cX3_die 37 = .ok (.iload_n 1, 1) := by decide +kernel
theorem dX3_die_38 : decode cX3_die 38 = .ok (.iconst 1, 1) := by decide +kernel
theorem dX3_die_39 : decode cX3_die 39 = .ok (.bastore, 1) := by decide +kernel
theorem dX3_die_40 : decode cX3_die 40 = .ok (.iconst 0, 1) := by decide +kernel
theorem dX3_die_41 : decode cX3_die 41 = .ok (.istore_n 2, 1) := by decide +kernel
theorem dX3_die_42 : decode cX3_die 42 = .ok (.iconst 0, 1) := by decide +kernel
theorem dX3_die_43 : decode cX3_die 43 = .ok (.istore_n 3, 1) := by decide +kernel
theorem dX3_die_44 : decode cX3_die 44 = .ok (.iload_n 3, 1) := by decide +kernel
theorem dX3_die_45 : decode cX3_die 45 = .ok (.bipush 8, 2) := by decide +kernel
theorem dX3_die_47 : decode cX3_die 47 = .ok (.if_icmp .ge 77, 3) := by decide +kernel
theorem dX3_die_50 : decode cX3_die 50 = .ok (.aload_n 0, 1) := by decide +kernel
theorem dX3_die_51 : decode cX3_die 51 = .ok (.getfield 20, 3) := by decide +kernel
theorem dX3_die_54 : decode cX3_die 54 = .ok (.iload_n 3, 1) := by decide +kernel
theorem dX3_die_55 : decode cX3_die 55 = .ok (.iaload, 1) := by decide +kernel
theorem dX3_die_56 : decode cX3_die 56 = .ok (.ifCond .eq 17, 3) := by decide +kernel
theorem dX3_die_59 : decode cX3_die 59 = .ok (.aload_n 0, 1) := by decide +kernel
theorem dX3_die_60 : decode cX3_die 60 = .ok (.getfield 23, 3) := by decide +kernel
theorem dX3_die_63 : decode cX3_die 63 = .ok (.iload_n 3, 1) := by decide +kernel
theorem dX3_die_64 : decode cX3_die 64 = .ok (.iaload, 1) := by decide +kernel
theorem dX3_die_65 : decode cX3_die 65 = .ok (.iload_n 1, 1) := by decide +kernel
theorem dX3_die_66 : decode cX3_die 66 = .ok (.if_icmp .ne 7, 3) := by decide +kernel
theorem dX3_die_69 : decode cX3_die 69 = .ok (.iconst 1, 1) := by decide +kernel
theorem dX3_die_70 : decode cX3_die 70 = .ok (.goto 4, 3) := by decide +kernel
theorem dX3_die_73 : decode cX3_die 73 = .ok (.iconst 0, 1) := by decide +kernel
theorem dX3_die_74 : decode cX3_die 74 = .ok (.istore 4, 2) := by decide +kernel
theorem dX3_die_76 : decode cX3_die 76 = .ok (.aload_n 0, 1) := by decide +kernel
theorem dX3_die_77 : decode cX3_die 77 = .ok (.getfield 38, 3) := by decide +kernel
theorem dX3_die_80 : decode cX3_die 80 = .ok (.iload_n 3, 1) := by decide +kernel
theorem dX3_die_81 : decode cX3_die 81 = .ok (.iload 4, 2) := by decide +kernel
theorem dX3_die_83 : decode cX3_die 83 = .ok (.ifCond .eq 7, 3) := by decide +kernel
theorem dX3_die_86 : decode cX3_die 86 = .ok (.iconst 0, 1) := by decide +kernel
theorem dX3_die_87 : decode cX3_die 87 = .ok (.goto 9, 3) := by decide +kernel
theorem dX3_die_90 : decode cX3_die 90 = .ok (.aload_n 0, 1) := by decide +kernel
theorem dX3_die_91 : decode cX3_die 91 = .ok (.getfield 38, 3) := by decide +kernel
theorem dX3_die_94 : decode cX3_die 94 = .ok (.iload_n 3, 1) := by decide +kernel
theorem dX3_die_95 : decode cX3_die 95 = .ok (.iaload, 1) := by decide +kernel
theorem dX3_die_96 : decode cX3_die 96 = .ok (.iastore, 1) := by decide +kernel
theorem dX3_die_97 : decode cX3_die 97 = .ok (.iload_n 2, 1) := by decide +kernel
theorem dX3_die_98 : decode cX3_die 98 = .ok (.iload 4, 2) := by decide +kernel
theorem dX3_die_100 : decode cX3_die 100 = .ok (.ifCond .eq 15, 3) := by decide +kernel
theorem dX3_die_103 : decode cX3_die 103 = .ok (.aload_n 0, 1) := by decide +kernel
theorem dX3_die_104 : decode cX3_die 104 = .ok (.iload_n 3, 1) := by decide +kernel
theorem dX3_die_105 : decode cX3_die 105 = .ok (.invokevirtual 80, 3) := by decide +kernel
theorem dX3_die_108 : decode cX3_die 108 = .ok (.ifCond .eq 7, 3) := by decide +kernel
theorem dX3_die_111 : decode cX3_die 111 = .ok (.iconst 1, 1) := by decide +kernel
theorem dX3_die_112 : decode cX3_die 112 = .ok (.goto 4, 3) := by decide +kernel
theorem dX3_die_115 : decode cX3_die 115 = .ok (.iconst 0, 1) := by decide +kernel
theorem dX3_die_116 : decode cX3_die 116 = .ok (.iadd, 1) := by decide +kernel
theorem dX3_die_117 : decode cX3_die 117 = .ok (.istore_n 2, 1) := by decide +kernel
theorem dX3_die_118 : decode cX3_die 118 = .ok (.iinc 3 1, 3) := by decide +kernel
theorem dX3_die_121 : decode cX3_die 121 = .ok (.goto (-77), 3) := by decide +kernel
theorem dX3_die_124 : decode cX3_die 124 = .ok (.iload_n 2, 1) := by decide +kernel
theorem dX3_die_125 : decode cX3_die 125 = .ok (.ireturn, 1) := by decide +kernel
set_option maxRecDepth 20000 in
theorem ggX3_order_X3_isBox : GoodIn wsX3_order wsX3_isBox := goodIn_r _ [12, 13, 14, 11, 15] (by decide +kernel) (by decide +kernel)
set_option maxRecDepth 20000 in
theorem gX3_order_X3_isBox : GoodIn wsX3_order (va_wsS RX3 107 yX3_isBox wsX3_isBox) := goodIn_app (goodIn_of _ (by decide +kernel)) ggX3_order_X3_isBox
set_option maxRecDepth 20000 in
theorem ggX3_order_X3_in : GoodIn wsX3_order wsX3_in := goodIn_r _ [15] (by decide +kernel) (by decide +kernel)
set_option maxRecDepth 20000 in
theorem gX3_order_X3_in : GoodIn wsX3_order (va_wsS RX3 69 yX3_in wsX3_in) := goodIn_app (goodIn_of _ (by decide +kernel)) ggX3_order_X3_in
set_option maxRecDepth 20000 in
theorem ggX3_order_X3_isPerson : GoodIn wsX3_order wsX3_isPerson := goodIn_r _ [18, 13, 14, 11, 15] (by decide +kernel) (by decide +kernel)
set_option maxRecDepth 20000 in
theorem gX3_order_X3_isPerson : GoodIn wsX3_order (va_wsS RX3 110 yX3_isPerson wsX3_isPerson) := goodIn_app (goodIn_of _ (by decide +kernel)) ggX3_order_X3_isPerson
set_option maxRecDepth 20000 in
theorem ggX3_order_X3_fails : GoodIn wsX3_order wsX3_fails := goodIn_r _ [22, 1, 23, 24, 25, 26, 27, 28, 29, 30, 31, 32, 33, 34, 35, 36, 37, 38, 39, 40, 41, 42, 43] (by decide +kernel) (by decide +kernel)
set_option maxRecDepth 20000 in
theorem gX3_order_X3_fails : GoodIn wsX3_order (wsV RX3 103 RX3 yX3_fails wsX3_fails) := goodIn_app (goodIn_of _ (by decide +kernel)) ggX3_order_X3_fails
theorem dX3_order_0 : decode cX3_order 0 = .ok (.aload_n 0, 1) := by decide +kernel
theorem dX3_order_1 : decode cX3_order 1 = .ok (.iconst 0, 1) := by decide +kernel
theorem dX3_order_2 : decode cX3_order 2 = .ok (.putfield 65, 3) := by decide +kernel
theorem dX3_order_5 : decode cX3_order 5 = .ok (.iload_n 1, 1) := by decide +kernel
theorem dX3_order_6 : decode cX3_order 6 = .ok (.invokestatic 107, 3) := by decide +kernel
theorem dX3_order_9 : decode cX3_order 9 = .ok (.ifCond .eq 34, 3) := by decide +kernel
theorem dX3_order_12 : decode cX3_order 12 = .ok (.iload_n 2, 1) := by decide +kernel
theorem dX3_order_13 : decode cX3_order 13 = .ok (.iconst 0, 1) := by decide +kernel
theorem dX3_order_14 : decode cX3_order 14 = .ok (.iconst 1, 1) := by decide +kernel
theorem dX3_order_15 : decode cX3_order 15 = .ok (.invokestatic 69, 3) := by decide +kernel
theorem dX3_order_18 : decode cX3_order 18 = .ok (.ifCond .eq 25, 3) := by decide +kernel
theorem dX3_order_21 : decode cX3_order 21 = .ok (.iload_n 3, 1) := by decide +kernel
theorem dX3_order_22 : decode cX3_order 22 = .ok (.iconst 0, 1) := by decide +kernel
theorem dX3_order_23 : decode cX3_order 23 = .ok (.iconst 2, 1) := by decide +kernel
theorem dX3_order_24 : decode cX3_order 24 = .ok (.invokestatic 69, 3) := by decide +kernel
theorem dX3_order_27 : decode cX3_order 27 = .ok (.ifCond .eq 16, 3) := by decide +kernel
theorem dX3_order_30 : decode cX3_order 30 = .ok (.iload_n 3, 1) := by decide +kernel
theorem dX3_order_31 : decode cX3_order 31 = .ok (.iconst 1, 1) := by decide +kernel
theorem dX3_order_32 : decode cX3_order 32 = .ok (.if_icmp .ne 17, 3) := by decide +kernel
theorem dX3_order_35 : decode cX3_order 35 = .ok (.iload 4, 2) := by decide +kernel
theorem dX3_order_37 : decode cX3_order 37 = .ok (.invokestatic 110, 3) := by decide +kernel
theorem dX3_order_40 : decode cX3_order 40 = .ok (.ifCond .ne 9, 3) := by decide +kernel
theorem dX3_order_43 : decode cX3_order 43 = .ok (.aload_n 0, 1) := by decide +kernel
theorem dX3_order_44 : decode cX3_order 44 = .ok (.iconst 1, 1) := by decide +kernel
theorem dX3_order_45 : decode cX3_order 45 = .ok (.invokevirtual 103, 3) := by decide +kernel
theorem dX3_order_48 : decode cX3_order 48 = .ok (.ireturn, 1) := by decide +kernel
theorem dX3_order_49 : decode cX3_order 49 = .ok (.aload_n 0, 1) := by decide +kernel
theorem dX3_order_50 : decode cX3_order 50 = .ok (.getfield 20, 3) := by decide +kernel
theorem dX3_order_53 : decode cX3_order 53 = .ok (.iload_n 1, 1) := by decide +kernel
theorem dX3_order_54 : decode cX3_order 54 = .ok (.iaload, 1) := by decide +kernel
theorem dX3_order_55 : decode cX3_order 55 = .ok (.ifCond .eq 12, 3) := by decide +kernel
theorem dX3_order_58 : decode cX3_order 58 = .ok (.aload_n 0, 1) := by decide +kernel
theorem dX3_order_59 : decode cX3_order 59 = .ok (.getfield 84, 3) := by decide +kernel
theorem dX3_order_62 : decode cX3_order 62 = .ok (.bipush 30, 2) := by decide +kernel
theorem dX3_order_64 : decode cX3_order 64 = .ok (.if_icmp .ne 9, 3) := by decide +kernel
theorem dX3_order_67 : decode cX3_order 67 = .ok (.aload_n 0, 1) := by decide +kernel
theorem dX3_order_68 : decode cX3_order 68 = .ok (.iconst 2, 1) := by decide +kernel
theorem dX3_order_69 : decode cX3_order 69 = .ok (.invokevirtual 103, 3) := by decide +kernel
theorem dX3_order_72 : decode cX3_order 72 = .ok (.ireturn, 1) := by decide +kernel
theorem dX3_order_73 : decode cX3_order 73 = .ok (.aload_n 0, 1) := by decide +kernel
theorem dX3_order_74 : decode cX3_order 74 = .ok (.getfield 50, 3) := by decide +kernel
theorem dX3_order_77 : decode cX3_order 77 = .ok (.aload_n 0, 1) := by decide +kernel
theorem dX3_order_78 : decode cX3_order 78 = .ok (.getfield 84, 3) := by decide +kernel
theorem dX3_order_81 : decode cX3_order 81 = .ok (.iload_n 1, 1) := by decide +kernel
theorem dX3_order_82 : decode cX3_order 82 = .ok (.iastore, 1) := by decide +kernel
theorem dX3_order_83 : decode cX3_order 83 = .ok (.aload_n 0, 1) := by decide +kernel
theorem dX3_order_84 : decode cX3_order 84 = .ok (.getfield 53, 3) := by decide +kernel
theorem dX3_order_87 : decode cX3_order 87 = .ok (.aload_n 0, 1) := by decide +kernel
theorem dX3_order_88 : decode cX3_order 88 = .ok (.getfield 84, 3) := by decide +kernel
theorem dX3_order_91 : decode cX3_order 91 = .ok (.iload_n 2, 1) := by decide +kernel
theorem dX3_order_92 : decode cX3_order 92 = .ok (.iastore, 1) := by decide +kernel
theorem dX3_order_93 : decode cX3_order 93 = .ok (.aload_n 0, 1) := by decide +kernel
theorem dX3_order_94 : decode cX3_order 94 = .ok (.getfield 56, 3) := by decide +kernel
theorem dX3_order_97 : decode cX3_order 97 = .ok (.aload_n 0, 1) := by decide +kernel
theorem dX3_order_98 : decode cX3_order 98 = .ok (.getfield 84, 3) := by decide +kernel
theorem dX3_order_101 : decode cX3_order 101 = .ok (.iload_n 3, 1) := by decide +kernel
theorem dX3_order_102 : decode cX3_order 102 = .ok (.iastore, 1) := by decide +kernel
theorem dX3_order_103 : decode cX3_order 103 = .ok (.aload_n 0, 1) := by decide +kernel
theorem dX3_order_104 : decode cX3_order 104 = .ok (.getfield 59, 3) := by decide +kernel
theorem dX3_order_107 : decode cX3_order 107 = .ok (.aload_n 0, 1) := by decide +kernel
theorem dX3_order_108 : decode cX3_order 108 = .ok (.getfield 84, 3) := by decide +kernel
theorem dX3_order_111 : decode cX3_order 111 = .ok (.iload 4, 2) := by decide +kernel
theorem dX3_order_113 : decode cX3_order 113 = .ok (.iastore, 1) := by decide +kernel
theorem dX3_order_114 : decode cX3_order 114 = .ok (.aload_n 0, 1) := by decide +kernel
theorem dX3_order_115 : decode cX3_order 115 = .ok (.getfield 62, 3) := by decide +kernel
theorem dX3_order_118 : decode cX3_order 118 = .ok (.aload_n 0, 1) := by decide +kernel
theorem dX3_order_119 : decode cX3_order 119 = .ok (.getfield 84, 3) := by decide +kernel
theorem dX3_order_122 : decode cX3_order 122 = .ok (.iconst 1, 1) := by decide +kernel
theorem dX3_order_123 : decode cX3_order 123 = .ok (.bastore, 1) := by decide +kernel
theorem dX3_order_124 : decode cX3_order 124 = .ok (.aload_n 0, 1) := by decide +kernel
theorem dX3_order_125 : decode cX3_order 125 = .ok (.dup, 1) := by decide +kernel
theorem dX3_order_126 : decode cX3_order 126 = .ok (.getfield 84, 3) := by decide +kernel
theorem dX3_order_129 : decode cX3_order 129 = .ok (.iconst 1, 1) := by decide +kernel
theorem dX3_order_130 : decode cX3_order 130 = .ok (.iadd, 1) := by decide +kernel
theorem dX3_order_131 : decode cX3_order 131 = .ok (.putfield 84, 3) := by decide +kernel
theorem dX3_order_134 : decode cX3_order 134 = .ok (.aload_n 0, 1) := by decide +kernel
theorem dX3_order_135 : decode cX3_order 135 = .ok (.getfield 84, 3) := by decide +kernel
theorem dX3_order_138 : decode cX3_order 138 = .ok (.iconst 1, 1) := by decide +kernel
theorem dX3_order_139 : decode cX3_order 139 = .ok (.isub, 1) := by decide +kernel
theorem dX3_order_140 : decode cX3_order 140 = .ok (.ireturn, 1) := by decide +kernel
set_option maxRecDepth 20000 in
theorem ggX3_lift_X3_in : GoodIn wsX3_lift wsX3_in := goodIn_r _ [8] (by decide +kernel) (by decide +kernel)
set_option maxRecDepth 20000 in
theorem gX3_lift_X3_in : GoodIn wsX3_lift (va_wsS RX3 69 yX3_in wsX3_in) := goodIn_app (goodIn_of _ (by decide +kernel)) ggX3_lift_X3_in
set_option maxRecDepth 20000 in
theorem ggX3_lift_X3_binds : GoodIn wsX3_lift wsX3_binds := goodIn_r _ [12, 1, 2, 4, 13, 14, 15, 16, 17, 18, 19, 20, 21, 22, 23, 24, 25, 26, 27, 28, 29, 30, 31, 32, 33, 34] (by decide +kernel) (by decide +kernel)
set_option maxRecDepth 20000 in
theorem gX3_lift_X3_binds : GoodIn wsX3_lift (wsV RX3 91 RX3 yX3_binds wsX3_binds) := goodIn_app (goodIn_of _ (by decide +kernel)) ggX3_lift_X3_binds
theorem dX3_lift_0 : decode cX3_lift 0 = .ok (.aload_n 0, 1) := by decide +kernel
theorem dX3_lift_1 : decode cX3_lift 1 = .ok (.iload_n 1, 1) := by decide +kernel
theorem dX3_lift_2 : decode cX3_lift 2 = .ok (.iconst 0, 1) := by decide +kernel
theorem dX3_lift_3 : decode cX3_lift 3 = .ok (.aload_n 0, 1) := by decide +kernel
theorem dX3_lift_4 : decode cX3_lift 4 = .ok (.getfield 84, 3) := by decide +kernel
theorem dX3_lift_7 : decode cX3_lift 7 = .ok (.iconst 1, 1) := by decide +kernel
theorem dX3_lift_8 : decode cX3_lift 8 = .ok (.isub, 1) := by decide +kernel
theorem dX3_lift_9 : decode cX3_lift 9 = .ok (.invokestatic 69, 3) := by decide +kernel
theorem dX3_lift_12 : decode cX3_lift 12 = .ok (.ifCond .ne 7, 3) := by decide +kernel
theorem dX3_lift_15 : decode cX3_lift 15 = .ok (.iconst 1, 1) := by decide +kernel
theorem dX3_lift_16 : decode cX3_lift 16 = .ok (.goto 17, 3) := by decide +kernel
theorem dX3_lift_19 : decode cX3_lift 19 = .ok (.aload_n 0, 1) := by decide +kernel
theorem dX3_lift_20 : decode cX3_lift 20 = .ok (.getfield 62, 3) := by decide +kernel
theorem dX3_lift_23 : decode cX3_lift 23 = .ok (.iload_n 1, 1) := by decide +kernel
theorem dX3_lift_24 : decode cX3_lift 24 = .ok (.baload, 1) := by decide +kernel
theorem dX3_lift_25 : decode cX3_lift 25 = .ok (.ifCond .eq 7, 3) := by decide +kernel
theorem dX3_lift_28 : decode cX3_lift 28 = .ok (.iconst 0, 1) := by decide +kernel
theorem dX3_lift_29 : decode cX3_lift 29 = .ok (.goto 4, 3) := by decide +kernel
theorem dX3_lift_32 : decode cX3_lift 32 = .ok (.iconst 2, 1) := by decide +kernel
theorem dX3_lift_33 : decode cX3_lift 33 = .ok (.putfield 65, 3) := by decide +kernel
theorem dX3_lift_36 : decode cX3_lift 36 = .ok (.aload_n 0, 1) := by decide +kernel
theorem dX3_lift_37 : decode cX3_lift 37 = .ok (.getfield 65, 3) := by decide +kernel
theorem dX3_lift_40 : decode cX3_lift 40 = .ok (.ifCond .le 5, 3) := by decide +kernel
theorem dX3_lift_43 : decode cX3_lift 43 = .ok (.iconst 0, 1) := by decide +kernel
theorem dX3_lift_44 : decode cX3_lift 44 = .ok (.ireturn, 1) := by decide +kernel
theorem dX3_lift_45 : decode cX3_lift 45 = .ok (.aload_n 0, 1) := by decide +kernel
theorem dX3_lift_46 : decode cX3_lift 46 = .ok (.aload_n 0, 1) := by decide +kernel
theorem dX3_lift_47 : decode cX3_lift 47 = .ok (.getfield 50, 3) := by decide +kernel
theorem dX3_lift_50 : decode cX3_lift 50 = .ok (.iload_n 1, 1) := by decide +kernel
theorem dX3_lift_51 : decode cX3_lift 51 = .ok (.iaload, 1) := by decide +kernel
theorem dX3_lift_52 : decode cX3_lift 52 = .ok (.invokevirtual 91, 3) := by decide +kernel
theorem dX3_lift_55 : decode cX3_lift 55 = .ok (.iload_n 1, 1) := by decide +kernel
theorem dX3_lift_56 : decode cX3_lift 56 = .ok (.if_icmp .ne 7, 3) := by decide +kernel
theorem dX3_lift_59 : decode cX3_lift 59 = .ok (.iconst 1, 1) := by decide +kernel
theorem dX3_lift_60 : decode cX3_lift 60 = .ok (.goto 4, 3) := by decide +kernel
theorem dX3_lift_63 : decode cX3_lift 63 = .ok (.iconst 0, 1) := by decide +kernel
theorem dX3_lift_64 : decode cX3_lift 64 = .ok (.istore_n 2, 1) := by decide +kernel
theorem dX3_lift_65 : decode cX3_lift 65 = .ok (.aload_n 0, 1) := by decide +kernel
theorem dX3_lift_66 : decode cX3_lift 66 = .ok (.getfield 62, 3) := by decide +kernel
theorem dX3_lift_69 : decode cX3_lift 69 = .ok (.iload_n 1, 1) := by decide +kernel
theorem dX3_lift_70 : decode cX3_lift 70 = .ok (.iconst 0, 1) := by decide +kernel
theorem dX3_lift_71 : decode cX3_lift 71 = .ok (.bastore, 1) := by decide +kernel
theorem dX3_lift_72 : decode cX3_lift 72 = .ok (.iload_n 2, 1) := by decide +kernel
theorem dX3_lift_73 : decode cX3_lift 73 = .ok (.ireturn, 1) := by decide +kernel
set_option maxRecDepth 20000 in
theorem ggX3_enter_X3_isBox : GoodIn wsX3_enter wsX3_isBox := goodIn_r _ [8, 9, 10, 7, 11] (by decide +kernel) (by decide +kernel)
set_option maxRecDepth 20000 in
theorem gX3_enter_X3_isBox : GoodIn wsX3_enter (va_wsS RX3 107 yX3_isBox wsX3_isBox) := goodIn_app (goodIn_of _ (by decide +kernel)) ggX3_enter_X3_isBox
set_option maxRecDepth 20000 in
theorem ggX3_enter_X3_isPerson : GoodIn wsX3_enter wsX3_isPerson := goodIn_r _ [14, 9, 10, 7, 11] (by decide +kernel) (by decide +kernel)
set_option maxRecDepth 20000 in
theorem gX3_enter_X3_isPerson : GoodIn wsX3_enter (va_wsS RX3 110 yX3_isPerson wsX3_isPerson) := goodIn_app (goodIn_of _ (by decide +kernel)) ggX3_enter_X3_isPerson
set_option maxRecDepth 20000 in
theorem ggX3_enter_X3_in : GoodIn wsX3_enter wsX3_in := goodIn_r _ [11] (by decide +kernel) (by decide +kernel)
set_option maxRecDepth 20000 in
theorem gX3_enter_X3_in : GoodIn wsX3_enter (va_wsS RX3 69 yX3_in wsX3_in) := goodIn_app (goodIn_of _ (by decide +kernel)) ggX3_enter_X3_in
set_option maxRecDepth 20000 in
theorem ggX3_enter_X3_fails : GoodIn wsX3_enter wsX3_fails := goodIn_r _ [18, 1, 67, 68, 69, 70, 71, 72, 73, 74, 75, 76, 77, 78, 79, 80, 81, 82, 83, 84, 85, 86, 87] (by decide +kernel) (by decide +kernel)
set_option maxRecDepth 20000 in
theorem gX3_enter_X3_fails : GoodIn wsX3_enter (wsV RX3 103 RX3 yX3_fails wsX3_fails) := goodIn_app (goodIn_of _ (by decide +kernel)) ggX3_enter_X3_fails
set_option maxRecDepth 20000 in
theorem ggX3_enter_X3_isRented : GoodIn wsX3_enter wsX3_isRented := goodIn_r _ [22, 23, 67, 68, 69, 70, 71, 72, 73, 74, 75, 76, 77, 78, 79, 80, 81, 82, 83, 84, 85, 86, 87] (by decide +kernel) (by decide +kernel)
set_option maxRecDepth 20000 in
theorem gX3_enter_X3_isRented : GoodIn wsX3_enter (wsV RX3 80 RX3 yX3_isRented wsX3_isRented) := goodIn_app (goodIn_of _ (by decide +kernel)) ggX3_enter_X3_isRented
set_option maxRecDepth 20000 in
theorem ggX3_enter_X3_right : GoodIn wsX3_enter wsX3_right := goodIn_r _ [27, 28, 29, 4, 19, 20, 21, 7, 22, 23, 30, 31, 32, 33, 34, 35, 36, 37, 38, 39, 40, 41, 42, 43, 44, 45, 46, 47, 48, 49, 50, 51, 52, 53, 54, 55, 56, 57, 58, 59, 60, 61, 62, 63, 64, 65, 66, 9, 10, 11, 67, 68, 69, 70, 71, 72, 73, 74, 75, 76, 77, 78, 79, 80, 81, 82, 83, 84, 85, 86, 87] (by decide +kernel) (by decide +kernel)
set_option maxRecDepth 20000 in
theorem gX3_enter_X3_right : GoodIn wsX3_enter (wsV RX3 113 RX3 yX3_right wsX3_right) := goodIn_app (goodIn_of _ (by decide +kernel)) ggX3_enter_X3_right
theorem dX3_enter_0 : decode cX3_enter 0 = .ok (.aload_n 0, 1) := by decide +kernel
theorem dX3_enter_1 : decode cX3_enter 1 = .ok (.iconst 0, 1) := by decide +kernel
theorem dX3_enter_2 : decode cX3_enter 2 = .ok (.putfield 65, 3) := by decide +kernel
theorem dX3_enter_5 : decode cX3_enter 5 = .ok (.iload_n 1, 1) := by decide +kernel
theorem dX3_enter_6 : decode cX3_enter 6 = .ok (.invokestatic 107, 3) := by decide +kernel
theorem dX3_enter_9 : decode cX3_enter 9 = .ok (.ifCond .eq 20, 3) := by decide +kernel
theorem dX3_enter_12 : decode cX3_enter 12 = .ok (.iload_n 2, 1) := by decide +kernel
theorem dX3_enter_13 : decode cX3_enter 13 = .ok (.invokestatic 110, 3) := by decide +kernel
theorem dX3_enter_16 : decode cX3_enter 16 = .ok (.ifCond .eq 13, 3) := by decide +kernel
theorem dX3_enter_19 : decode cX3_enter 19 = .ok (.iload_n 3, 1) := by decide +kernel
theorem dX3_enter_20 : decode cX3_enter 20 = .ok (.iconst 0, 1) := by decide +kernel
theorem dX3_enter_21 : decode cX3_enter 21 = .ok (.bipush 100, 2) := by decide +kernel
theorem dX3_enter_23 : decode cX3_enter 23 = .ok (.invokestatic 69, 3) := by decide +kernel
theorem dX3_enter_26 : decode cX3_enter 26 = .ok (.ifCond .ne 9, 3) := by decide +kernel
theorem dX3_enter_29 : decode cX3_enter 29 = .ok (.aload_n 0, 1) := by decide +kernel
theorem dX3_enter_30 : decode cX3_enter 30 = .ok (.iconst 1, 1) := by decide +kernel
theorem dX3_enter_31 : decode cX3_enter 31 = .ok (.invokevirtual 103, 3) := by decide +kernel
theorem dX3_enter_34 : decode cX3_enter 34 = .ok (.ireturn, 1) := by decide +kernel
theorem dX3_enter_35 : decode cX3_enter 35 = .ok (.aload_n 0, 1) := by decide +kernel
theorem dX3_enter_36 : decode cX3_enter 36 = .ok (.iload_n 1, 1) := by decide +kernel
theorem dX3_enter_37 : decode cX3_enter 37 = .ok (.invokevirtual 80, 3) := by decide +kernel
theorem dX3_enter_40 : decode cX3_enter 40 = .ok (.ifCond .ne 9, 3) := by decide +kernel
theorem dX3_enter_43 : decode cX3_enter 43 = .ok (.aload_n 0, 1) := by decide +kernel
theorem dX3_enter_44 : decode cX3_enter 44 = .ok (.iconst 2, 1) := by decide +kernel
theorem dX3_enter_45 : decode cX3_enter 45 = .ok (.invokevirtual 103, 3) := by decide +kernel
theorem dX3_enter_48 : decode cX3_enter 48 = .ok (.ireturn, 1) := by decide +kernel
theorem dX3_enter_49 : decode cX3_enter 49 = .ok (.aload_n 0, 1) := by decide +kernel
theorem dX3_enter_50 : decode cX3_enter 50 = .ok (.iload_n 1, 1) := by decide +kernel
theorem dX3_enter_51 : decode cX3_enter 51 = .ok (.iload_n 2, 1) := by decide +kernel
theorem dX3_enter_52 : decode cX3_enter 52 = .ok (.invokevirtual 113, 3) := by decide +kernel
theorem dX3_enter_55 : decode cX3_enter 55 = .ok (.istore 4, 2) := by decide +kernel
theorem dX3_enter_57 : decode cX3_enter 57 = .ok (.iload 4, 2) := by decide +kernel
theorem dX3_enter_59 : decode cX3_enter 59 = .ok (.iconst 3, 1) := by decide +kernel
theorem dX3_enter_60 : decode cX3_enter 60 = .ok (.if_icmp .eq 13, 3) := by decide +kernel
theorem dX3_enter_63 : decode cX3_enter 63 = .ok (.iload_n 3, 1) := by decide +kernel
theorem dX3_enter_64 : decode cX3_enter 64 = .ok (.bipush 60, 2) := by decide +kernel
theorem dX3_enter_66 : decode cX3_enter 66 = .ok (.if_icmp .ge 7, 3) := by decide +kernel
theorem dX3_enter_69 : decode cX3_enter 69 = .ok (.iconst 2, 1) := by decide +kernel
theorem dX3_enter_70 : decode cX3_enter 70 = .ok (.goto 5, 3) := by decide +kernel
theorem dX3_enter_73 : decode cX3_enter 73 = .ok (.iload 4, 2) := by decide +kernel
theorem dX3_enter_75 : decode cX3_enter 75 = .ok (.istore 5, 2) := by decide +kernel
theorem dX3_enter_77 : decode cX3_enter 77 = .ok (.aload_n 0, 1) := by decide +kernel
theorem dX3_enter_78 : decode cX3_enter 78 = .ok (.getfield 17, 3) := by decide +kernel
theorem dX3_enter_81 : decode cX3_enter 81 = .ok (.iload_n 2, 1) := by decide +kernel
theorem dX3_enter_82 : decode cX3_enter 82 = .ok (.dup2, 1) := by decide +kernel
theorem dX3_enter_83 : decode cX3_enter 83 = .ok (.iaload, 1) := by decide +kernel
theorem dX3_enter_84 : decode cX3_enter 84 = .ok (.iload 5, 2) := by decide +kernel
theorem dX3_enter_86 : decode cX3_enter 86 = .ok (.iconst 2, 1) := by decide +kernel
theorem dX3_enter_87 : decode cX3_enter 87 = .ok (.if_icmp .eq 9, 3) := by decide +kernel
theorem dX3_enter_90 : decode cX3_enter 90 = .ok (.iload 5, 2) := by decide +kernel
theorem dX3_enter_92 : decode cX3_enter 92 = .ok (.iconst 3, 1) := by decide +kernel
theorem dX3_enter_93 : decode cX3_enter 93 = .ok (.if_icmp .ne 7, 3) := by decide +kernel
theorem dX3_enter_96 : decode cX3_enter 96 = .ok (.iconst 1, 1) := by decide +kernel
theorem dX3_enter_97 : decode cX3_enter 97 = .ok (.goto 4, 3) := by decide +kernel
theorem dX3_enter_100 : decode cX3_enter 100 = .ok (.iconst 0, 1) := by decide +kernel
theorem dX3_enter_101 : decode cX3_enter 101 = .ok (.iadd, 1) := by decide +kernel
theorem dX3_enter_102 : decode cX3_enter 102 = .ok (.iastore, 1) := by decide +kernel
theorem dX3_enter_103 : decode cX3_enter 103 = .ok (.aload_n 0, 1) := by decide +kernel
theorem dX3_enter_104 : decode cX3_enter 104 = .ok (.getfield 29, 3) := by decide +kernel
theorem dX3_enter_107 : decode cX3_enter 107 = .ok (.iload_n 1, 1) := by decide +kernel
theorem dX3_enter_108 : decode cX3_enter 108 = .ok (.dup2, 1) := by decide +kernel
theorem dX3_enter_109 : decode cX3_enter 109 = .ok (.iaload, 1) := by decide +kernel
theorem dX3_enter_110 : decode cX3_enter 110 = .ok (.iload 5, 2) := by decide +kernel
theorem dX3_enter_112 : decode cX3_enter 112 = .ok (.ifCond .eq 9, 3) := by decide +kernel
theorem dX3_enter_115 : decode cX3_enter 115 = .ok (.iload 5, 2) := by decide +kernel
theorem dX3_enter_117 : decode cX3_enter 117 = .ok (.iconst 1, 1) := by decide +kernel
theorem dX3_enter_118 : decode cX3_enter 118 = .ok (.if_icmp .ne 7, 3) := by decide +kernel
theorem dX3_enter_121 : decode cX3_enter 121 = .ok (.iconst 1, 1) := by decide +kernel
theorem dX3_enter_122 : decode cX3_enter 122 = .ok (.goto 4, 3) := by decide +kernel
theorem dX3_enter_125 : decode cX3_enter 125 = .ok (.iconst 0, 1) := by decide +kernel
theorem dX3_enter_126 : decode cX3_enter 126 = .ok (.iadd, 1) := by decide +kernel
theorem dX3_enter_127 : decode cX3_enter 127 = .ok (.iastore, 1) := by decide +kernel
theorem dX3_enter_128 : decode cX3_enter 128 = .ok (.aload_n 0, 1) := by decide +kernel
theorem dX3_enter_129 : decode cX3_enter 129 = .ok (.getfield 32, 3) := by decide +kernel
theorem dX3_enter_132 : decode cX3_enter 132 = .ok (.iload_n 1, 1) := by decide +kernel
theorem dX3_enter_133 : decode cX3_enter 133 = .ok (.aload_n 0, 1) := by decide +kernel
theorem dX3_enter_134 : decode cX3_enter 134 = .ok (.getfield 32, 3) := by decide +kernel
theorem dX3_enter_137 : decode cX3_enter 137 = .ok (.iload_n 1, 1) := by decide +kernel
theorem dX3_enter_138 : decode cX3_enter 138 = .ok (.baload, 1) := by decide +kernel
theorem dX3_enter_139 : decode cX3_enter 139 = .ok (.ifCond .ne 9, 3) := by decide +kernel
theorem dX3_enter_142 : decode cX3_enter 142 = .ok (.iload 5, 2) := by decide +kernel
theorem dX3_enter_144 : decode cX3_enter 144 = .ok (.iconst 1, 1) := by decide +kernel
theorem dX3_enter_145 : decode cX3_enter 145 = .ok (.if_icmp .ne 7, 3) := by decide +kernel
theorem dX3_enter_148 : decode cX3_enter 148 = .ok (.iconst 1, 1) := by decide +kernel
theorem dX3_enter_149 : decode cX3_enter 149 = .ok (.goto 4, 3) := by decide +kernel
theorem dX3_enter_152 : decode cX3_enter 152 = .ok (.iconst 0, 1) := by decide +kernel
theorem dX3_enter_153 : decode cX3_enter 153 = .ok (.bastore, 1) := by decide +kernel
theorem dX3_enter_154 : decode cX3_enter 154 = .ok (.iload 5, 2) := by decide +kernel
theorem dX3_enter_156 : decode cX3_enter 156 = .ok (.ireturn, 1) := by decide +kernel
set_option maxRecDepth 20000 in
theorem ggX3_may_X3_isBox : GoodIn wsX3_may wsX3_isBox := goodIn_r _ [5, 6, 7, 4, 8] (by decide +kernel) (by decide +kernel)
set_option maxRecDepth 20000 in
theorem gX3_may_X3_isBox : GoodIn wsX3_may (va_wsS RX3 107 yX3_isBox wsX3_isBox) := goodIn_app (goodIn_of _ (by decide +kernel)) ggX3_may_X3_isBox
set_option maxRecDepth 20000 in
theorem ggX3_may_X3_isPerson : GoodIn wsX3_may wsX3_isPerson := goodIn_r _ [11, 6, 7, 4, 8] (by decide +kernel) (by decide +kernel)
set_option maxRecDepth 20000 in
theorem gX3_may_X3_isPerson : GoodIn wsX3_may (va_wsS RX3 110 yX3_isPerson wsX3_isPerson) := goodIn_app (goodIn_of _ (by decide +kernel)) ggX3_may_X3_isPerson
set_option maxRecDepth 20000 in
theorem ggX3_may_X3_right : GoodIn wsX3_may wsX3_right := goodIn_r _ [15, 16, 17, 18, 19, 20, 21, 4, 22, 23, 24, 25, 26, 27, 28, 29, 30, 31, 32, 33, 34, 35, 36, 37, 38, 39, 40, 41, 42, 43, 44, 45, 46, 47, 48, 49, 50, 51, 52, 53, 54, 55, 56, 57, 58, 59, 60, 6, 7, 8, 65, 66, 67, 68, 69, 70, 71, 72, 73, 74, 75, 76, 77, 78, 79, 80, 81, 82, 83, 84, 85] (by decide +kernel) (by decide +kernel)
set_option maxRecDepth 20000 in
theorem gX3_may_X3_right : GoodIn wsX3_may (wsV RX3 113 RX3 yX3_right wsX3_right) := goodIn_app (goodIn_of _ (by decide +kernel)) ggX3_may_X3_right
set_option maxRecDepth 20000 in
theorem ggX3_may_X3_fails : GoodIn wsX3_may wsX3_fails := goodIn_r _ [64, 1, 65, 66, 67, 68, 69, 70, 71, 72, 73, 74, 75, 76, 77, 78, 79, 80, 81, 82, 83, 84, 85] (by decide +kernel) (by decide +kernel)
set_option maxRecDepth 20000 in
theorem gX3_may_X3_fails : GoodIn wsX3_may (wsV RX3 103 RX3 yX3_fails wsX3_fails) := goodIn_app (goodIn_of _ (by decide +kernel)) ggX3_may_X3_fails
theorem dX3_may_0 : decode cX3_may 0 = .ok (.aload_n 0, 1) := by decide +kernel
theorem dX3_may_1 : decode cX3_may 1 = .ok (.iconst 0, 1) := by decide +kernel
theorem dX3_may_2 : decode cX3_may 2 = .ok (.putfield 65, 3) := by decide +kernel
theorem dX3_may_5 : decode cX3_may 5 = .ok (.iload_n 1, 1) := by decide +kernel
theorem dX3_may_6 : decode cX3_may 6 = .ok (.invokestatic 107, 3) := by decide +kernel
theorem dX3_may_9 : decode cX3_may 9 = .ok (.ifCond .eq 19, 3) := by decide +kernel
theorem dX3_may_12 : decode cX3_may 12 = .ok (.iload_n 2, 1) := by decide +kernel
theorem dX3_may_13 : decode cX3_may 13 = .ok (.invokestatic 110, 3) := by decide +kernel
theorem dX3_may_16 : decode cX3_may 16 = .ok (.ifCond .eq 12, 3) := by decide +kernel
theorem dX3_may_19 : decode cX3_may 19 = .ok (.aload_n 0, 1) := by decide +kernel
theorem dX3_may_20 : decode cX3_may 20 = .ok (.iload_n 1, 1) := by decide +kernel
theorem dX3_may_21 : decode cX3_may 21 = .ok (.iload_n 2, 1) := by decide +kernel
theorem dX3_may_22 : decode cX3_may 22 = .ok (.invokevirtual 113, 3) := by decide +kernel
theorem dX3_may_25 : decode cX3_may 25 = .ok (.goto 8, 3) := by decide +kernel
theorem dX3_may_28 : decode cX3_may 28 = .ok (.aload_n 0, 1) := by decide +kernel
theorem dX3_may_29 : decode cX3_may 29 = .ok (.iconst 1, 1) := by decide +kernel
theorem dX3_may_30 : decode cX3_may 30 = .ok (.invokevirtual 103, 3) := by decide +kernel
theorem dX3_may_33 : decode cX3_may 33 = .ok (.ireturn, 1) := by decide +kernel
set_option maxRecDepth 20000 in
theorem ggX3_mayAll_X3_isBox : GoodIn wsX3_mayAll wsX3_isBox := goodIn_r _ [5, 6, 7, 4, 8] (by decide +kernel) (by decide +kernel)
set_option maxRecDepth 20000 in
theorem gX3_mayAll_X3_isBox : GoodIn wsX3_mayAll (va_wsS RX3 107 yX3_isBox wsX3_isBox) := goodIn_app (goodIn_of _ (by decide +kernel)) ggX3_mayAll_X3_isBox
set_option maxRecDepth 20000 in
theorem ggX3_mayAll_X3_fails : GoodIn wsX3_mayAll wsX3_fails := goodIn_r _ [12, 1, 62, 63, 64, 65, 66, 67, 68, 69, 70, 71, 72, 73, 74, 75, 76, 77, 78, 79, 80, 81, 82] (by decide +kernel) (by decide +kernel)
set_option maxRecDepth 20000 in
theorem gX3_mayAll_X3_fails : GoodIn wsX3_mayAll (wsV RX3 103 RX3 yX3_fails wsX3_fails) := goodIn_app (goodIn_of _ (by decide +kernel)) ggX3_mayAll_X3_fails
set_option maxRecDepth 20000 in
theorem ggX3_mayAll_X3_right : GoodIn wsX3_mayAll wsX3_right := goodIn_r _ [16, 17, 18, 19, 20, 21, 22, 4, 23, 24, 25, 26, 27, 28, 29, 30, 31, 32, 33, 34, 35, 36, 37, 38, 39, 40, 41, 42, 43, 44, 45, 46, 47, 48, 49, 50, 51, 52, 53, 54, 55, 56, 57, 58, 59, 60, 61, 6, 7, 8, 62, 63, 64, 65, 66, 67, 68, 69, 70, 71, 72, 73, 74, 75, 76, 77, 78, 79, 80, 81, 82] (by decide +kernel) (by decide +kernel)
set_option maxRecDepth 20000 in
theorem gX3_mayAll_X3_right : GoodIn wsX3_mayAll (wsV RX3 113 RX3 yX3_right wsX3_right) := goodIn_app (goodIn_of _ (by decide +kernel)) ggX3_mayAll_X3_right
theorem dX3_mayAll_0 : decode cX3_mayAll 0 = .ok (.aload_n 0, 1) := by decide +kernel
theorem dX3_mayAll_1 : decode cX3_mayAll 1 = .ok (.iconst 0, 1) := by decide +kernel
theorem dX3_mayAll_2 : decode cX3_mayAll 2 = .ok (.putfield 65, 3) := by decide +kernel
theorem dX3_mayAll_5 : decode cX3_mayAll 5 = .ok (.iload_n 1, 1) := by decide +kernel
theorem dX3_mayAll_6 : decode cX3_mayAll 6 = .ok (.invokestatic 107, 3) := by decide +kernel
theorem dX3_mayAll_9 : decode cX3_mayAll 9 = .ok (.ifCond .ne 9, 3) := by decide +kernel
theorem dX3_mayAll_12 : decode cX3_mayAll 12 = .ok (.aload_n 0, 1) := by decide +kernel
theorem dX3_mayAll_13 : decode cX3_mayAll 13 = .ok (.iconst 1, 1) := by decide +kernel
theorem dX3_mayAll_14 : decode cX3_mayAll 14 = .ok (.invokevirtual 103, 3) := by decide +kernel
theorem dX3_mayAll_17 : decode cX3_mayAll 17 = .ok (.ireturn, 1) := by decide +kernel
theorem dX3_mayAll_18 : decode cX3_mayAll 18 = .ok (.iconst 0, 1) := by decide +kernel
theorem dX3_mayAll_19 : decode cX3_mayAll 19 = .ok (.istore_n 2, 1) := by decide +kernel
theorem dX3_mayAll_20 : decode cX3_mayAll 20 = .ok (.iconst 0, 1) := by decide +kernel
theorem dX3_mayAll_21 : decode cX3_mayAll 21 = .ok (.istore_n 3, 1) := by decide +kernel
theorem dX3_mayAll_22 : decode cX3_mayAll 22 = .ok (.iload_n 3, 1) := by decide +kernel
theorem dX3_mayAll_23 : decode cX3_mayAll 23 = .ok (.bipush 16, 2) := by decide +kernel
theorem dX3_mayAll_25 : decode cX3_mayAll 25 = .ok (.if_icmp .ge 27, 3) := by decide +kernel
theorem dX3_mayAll_28 : decode cX3_mayAll 28 = .ok (.iload_n 2, 1) := by decide +kernel
theorem dX3_mayAll_29 : decode cX3_mayAll 29 = .ok (.aload_n 0, 1) := by decide +kernel
theorem dX3_mayAll_30 : decode cX3_mayAll 30 = .ok (.iload_n 1, 1) := by decide +kernel
theorem dX3_mayAll_31 : decode cX3_mayAll 31 = .ok (.iload_n 3, 1) := by decide +kernel
theorem dX3_mayAll_32 : decode cX3_mayAll 32 = .ok (.invokevirtual 113, 3) := by decide +kernel
theorem dX3_mayAll_35 : decode cX3_mayAll 35 = .ok (.iconst 3, 1) := by decide +kernel
theorem dX3_mayAll_36 : decode cX3_mayAll 36 = .ok (.if_icmp .eq 7, 3) := by decide +kernel
theorem dX3_mayAll_39 : decode cX3_mayAll 39 = .ok (.iconst 1, 1) := by decide +kernel
theorem dX3_mayAll_40 : decode cX3_mayAll 40 = .ok (.goto 4, 3) := by decide +kernel
theorem dX3_mayAll_43 : decode cX3_mayAll 43 = .ok (.iconst 0, 1) := by decide +kernel
theorem dX3_mayAll_44 : decode cX3_mayAll 44 = .ok (.iadd, 1) := by decide +kernel
theorem dX3_mayAll_45 : decode cX3_mayAll 45 = .ok (.istore_n 2, 1) := by decide +kernel
theorem dX3_mayAll_46 : decode cX3_mayAll 46 = .ok (.iinc 3 1, 3) := by decide +kernel
theorem dX3_mayAll_49 : decode cX3_mayAll 49 = .ok (.goto (-27), 3) := by decide +kernel
theorem dX3_mayAll_52 : decode cX3_mayAll 52 = .ok (.iload_n 2, 1) := by decide +kernel
theorem dX3_mayAll_53 : decode cX3_mayAll 53 = .ok (.ireturn, 1) := by decide +kernel
set_option maxRecDepth 20000 in
theorem ggX3_holder_X3_isBox : GoodIn wsX3_holder wsX3_isBox := goodIn_r _ [7, 8, 9, 6, 10] (by decide +kernel) (by decide +kernel)
set_option maxRecDepth 20000 in
theorem gX3_holder_X3_isBox : GoodIn wsX3_holder (va_wsS RX3 107 yX3_isBox wsX3_isBox) := goodIn_app (goodIn_of _ (by decide +kernel)) ggX3_holder_X3_isBox
set_option maxRecDepth 20000 in
theorem ggX3_holder_X3_fails : GoodIn wsX3_holder wsX3_fails := goodIn_r _ [14, 1, 15, 16, 17, 18, 19, 20, 21, 22, 23, 24, 25, 26, 27, 28, 29, 30, 31, 32, 33, 34, 35] (by decide +kernel) (by decide +kernel)
set_option maxRecDepth 20000 in
theorem gX3_holder_X3_fails : GoodIn wsX3_holder (wsV RX3 103 RX3 yX3_fails wsX3_fails) := goodIn_app (goodIn_of _ (by decide +kernel)) ggX3_holder_X3_fails
theorem dX3_holder_0 : decode cX3_holder 0 = .ok (.aload_n 0, 1) := by decide +kernel
theorem dX3_holder_1 : decode cX3_holder 1 = .ok (.iconst 0, 1) := by decide +kernel
theorem dX3_holder_2 : decode cX3_holder 2 = .ok (.putfield 65, 3) := by decide +kernel
theorem dX3_holder_5 : decode cX3_holder 5 = .ok (.iload_n 1, 1) := by decide +kernel
theorem dX3_holder_6 : decode cX3_holder 6 = .ok (.invokestatic 107, 3) := by decide +kernel
theorem dX3_holder_9 : decode cX3_holder 9 = .ok (.ifCond .ne 9, 3) := by decide +kernel
theorem dX3_holder_12 : decode cX3_holder 12 = .ok (.aload_n 0, 1) := by decide +kernel
theorem dX3_holder_13 : decode cX3_holder 13 = .ok (.iconst 1, 1) := by decide +kernel
theorem dX3_holder_14 : decode cX3_holder 14 = .ok (.invokevirtual 103, 3) := by decide +kernel
theorem dX3_holder_17 : decode cX3_holder 17 = .ok (.ireturn, 1) := by decide +kernel
theorem dX3_holder_18 : decode cX3_holder 18 = .ok (.aload_n 0, 1) := by decide +kernel
theorem dX3_holder_19 : decode cX3_holder 19 = .ok (.getfield 20, 3) := by decide +kernel
theorem dX3_holder_22 : decode cX3_holder 22 = .ok (.iload_n 1, 1) := by decide +kernel
theorem dX3_holder_23 : decode cX3_holder 23 = .ok (.iaload, 1) := by decide +kernel
theorem dX3_holder_24 : decode cX3_holder 24 = .ok (.ifCond .ne 7, 3) := by decide +kernel
theorem dX3_holder_27 : decode cX3_holder 27 = .ok (.iconst (-1), 1) := by decide +kernel
theorem dX3_holder_28 : decode cX3_holder 28 = .ok (.goto 9, 3) := by decide +kernel
theorem dX3_holder_31 : decode cX3_holder 31 = .ok (.aload_n 0, 1) := by decide +kernel
theorem dX3_holder_32 : decode cX3_holder 32 = .ok (.getfield 23, 3) := by decide +kernel
theorem dX3_holder_35 : decode cX3_holder 35 = .ok (.iload_n 1, 1) := by decide +kernel
theorem dX3_holder_36 : decode cX3_holder 36 = .ok (.iaload, 1) := by decide +kernel
theorem dX3_holder_37 : decode cX3_holder 37 = .ok (.ireturn, 1) := by decide +kernel
set_option maxRecDepth 20000 in
theorem ggX3_notices_X3_isBox : GoodIn wsX3_notices wsX3_isBox := goodIn_r _ [5, 6, 7, 4, 8] (by decide +kernel) (by decide +kernel)
set_option maxRecDepth 20000 in
theorem gX3_notices_X3_isBox : GoodIn wsX3_notices (va_wsS RX3 107 yX3_isBox wsX3_isBox) := goodIn_app (goodIn_of _ (by decide +kernel)) ggX3_notices_X3_isBox
set_option maxRecDepth 20000 in
theorem ggX3_notices_X3_noticesOf : GoodIn wsX3_notices wsX3_noticesOf := goodIn_r _ [12, 13, 14, 15, 4, 16, 17, 18, 19, 20, 21, 22, 23, 28, 29, 30, 31, 32, 33, 34, 35, 36, 37, 38, 39, 40, 41, 42, 43, 44, 45, 46, 47, 48] (by decide +kernel) (by decide +kernel)
set_option maxRecDepth 20000 in
theorem gX3_notices_X3_noticesOf : GoodIn wsX3_notices (wsV RX3 97 RX3 yX3_noticesOf wsX3_noticesOf) := goodIn_app (goodIn_of _ (by decide +kernel)) ggX3_notices_X3_noticesOf
set_option maxRecDepth 20000 in
theorem ggX3_notices_X3_fails : GoodIn wsX3_notices wsX3_fails := goodIn_r _ [27, 1, 28, 29, 30, 31, 32, 33, 34, 35, 36, 37, 38, 39, 40, 41, 42, 43, 44, 45, 46, 47, 48] (by decide +kernel) (by decide +kernel)
set_option maxRecDepth 20000 in
theorem gX3_notices_X3_fails : GoodIn wsX3_notices (wsV RX3 103 RX3 yX3_fails wsX3_fails) := goodIn_app (goodIn_of _ (by decide +kernel)) ggX3_notices_X3_fails
theorem dX3_notices_0 : decode cX3_notices 0 = .ok (.aload_n 0, 1) := by decide +kernel
theorem dX3_notices_1 : decode cX3_notices 1 = .ok (.iconst 0, 1) := by decide +kernel
theorem dX3_notices_2 : decode cX3_notices 2 = .ok (.putfield 65, 3) := by decide +kernel
theorem dX3_notices_5 : decode cX3_notices 5 = .ok (.iload_n 1, 1) := by decide +kernel
theorem dX3_notices_6 : decode cX3_notices 6 = .ok (.invokestatic 107, 3) := by decide +kernel
theorem dX3_notices_9 : decode cX3_notices 9 = .ok (.ifCond .eq 11, 3) := by decide +kernel
theorem dX3_notices_12 : decode cX3_notices 12 = .ok (.aload_n 0, 1) := by decide +kernel
theorem dX3_notices_13 : decode cX3_notices 13 = .ok (.iload_n 1, 1) := by decide +kernel
theorem dX3_notices_14 : decode cX3_notices 14 = .ok (.invokevirtual 97, 3) := by decide +kernel
theorem dX3_notices_17 : decode cX3_notices 17 = .ok (.goto 8, 3) := by decide +kernel
theorem dX3_notices_20 : decode cX3_notices 20 = .ok (.aload_n 0, 1) := by decide +kernel
theorem dX3_notices_21 : decode cX3_notices 21 = .ok (.iconst 1, 1) := by decide +kernel
theorem dX3_notices_22 : decode cX3_notices 22 = .ok (.invokevirtual 103, 3) := by decide +kernel
theorem dX3_notices_25 : decode cX3_notices 25 = .ok (.ireturn, 1) := by decide +kernel
set_option maxRecDepth 20000 in
theorem ggX3_refusals_X3_isPerson : GoodIn wsX3_refusals wsX3_isPerson := goodIn_r _ [6, 7, 8, 5, 9] (by decide +kernel) (by decide +kernel)
set_option maxRecDepth 20000 in
theorem gX3_refusals_X3_isPerson : GoodIn wsX3_refusals (va_wsS RX3 110 yX3_isPerson wsX3_isPerson) := goodIn_app (goodIn_of _ (by decide +kernel)) ggX3_refusals_X3_isPerson
set_option maxRecDepth 20000 in
theorem ggX3_refusals_X3_fails : GoodIn wsX3_refusals wsX3_fails := goodIn_r _ [13, 1, 14, 15, 16, 17, 18, 19, 20, 21, 22, 23, 24, 25, 26, 27, 28, 29, 30, 31, 32, 33, 34] (by decide +kernel) (by decide +kernel)
set_option maxRecDepth 20000 in
theorem gX3_refusals_X3_fails : GoodIn wsX3_refusals (wsV RX3 103 RX3 yX3_fails wsX3_fails) := goodIn_app (goodIn_of _ (by decide +kernel)) ggX3_refusals_X3_fails
theorem dX3_refusals_0 : decode cX3_refusals 0 = .ok (.aload_n 0, 1) := by decide +kernel
theorem dX3_refusals_1 : decode cX3_refusals 1 = .ok (.iconst 0, 1) := by decide +kernel
theorem dX3_refusals_2 : decode cX3_refusals 2 = .ok (.putfield 65, 3) := by decide +kernel
theorem dX3_refusals_5 : decode cX3_refusals 5 = .ok (.iload_n 1, 1) := by decide +kernel
theorem dX3_refusals_6 : decode cX3_refusals 6 = .ok (.invokestatic 110, 3) := by decide +kernel
theorem dX3_refusals_9 : decode cX3_refusals 9 = .ok (.ifCond .eq 12, 3) := by decide +kernel
theorem dX3_refusals_12 : decode cX3_refusals 12 = .ok (.aload_n 0, 1) := by decide +kernel
theorem dX3_refusals_13 : decode cX3_refusals 13 = .ok (.getfield 17, 3) := by decide +kernel
theorem dX3_refusals_16 : decode cX3_refusals 16 = .ok (.iload_n 1, 1) := by decide +kernel
theorem dX3_refusals_17 : decode cX3_refusals 17 = .ok (.iaload, 1) := by decide +kernel
theorem dX3_refusals_18 : decode cX3_refusals 18 = .ok (.goto 8, 3) := by decide +kernel
theorem dX3_refusals_21 : decode cX3_refusals 21 = .ok (.aload_n 0, 1) := by decide +kernel
theorem dX3_refusals_22 : decode cX3_refusals 22 = .ok (.iconst 1, 1) := by decide +kernel
theorem dX3_refusals_23 : decode cX3_refusals 23 = .ok (.invokevirtual 103, 3) := by decide +kernel
theorem dX3_refusals_26 : decode cX3_refusals 26 = .ok (.ireturn, 1) := by decide +kernel
set_option maxRecDepth 20000 in
theorem ggX3_binding_X3_isBox : GoodIn wsX3_binding wsX3_isBox := goodIn_r _ [5, 6, 7, 4, 8] (by decide +kernel) (by decide +kernel)
set_option maxRecDepth 20000 in
theorem gX3_binding_X3_isBox : GoodIn wsX3_binding (va_wsS RX3 107 yX3_isBox wsX3_isBox) := goodIn_app (goodIn_of _ (by decide +kernel)) ggX3_binding_X3_isBox
set_option maxRecDepth 20000 in
theorem ggX3_binding_X3_binds : GoodIn wsX3_binding wsX3_binds := goodIn_r _ [12, 13, 14, 15, 16, 21, 22, 23, 24, 25, 26, 27, 28, 29, 30, 31, 32, 33, 34, 35, 36, 37, 38, 39, 40, 41] (by decide +kernel) (by decide +kernel)
set_option maxRecDepth 20000 in
theorem gX3_binding_X3_binds : GoodIn wsX3_binding (wsV RX3 91 RX3 yX3_binds wsX3_binds) := goodIn_app (goodIn_of _ (by decide +kernel)) ggX3_binding_X3_binds
set_option maxRecDepth 20000 in
theorem ggX3_binding_X3_fails : GoodIn wsX3_binding wsX3_fails := goodIn_r _ [20, 1, 21, 22, 23, 24, 25, 26, 27, 28, 29, 30, 31, 32, 33, 34, 35, 36, 37, 38, 39, 40, 41] (by decide +kernel) (by decide +kernel)
set_option maxRecDepth 20000 in
theorem gX3_binding_X3_fails : GoodIn wsX3_binding (wsV RX3 103 RX3 yX3_fails wsX3_fails) := goodIn_app (goodIn_of _ (by decide +kernel)) ggX3_binding_X3_fails
theorem dX3_binding_0 : decode cX3_binding 0 = .ok (.aload_n 0, 1) := by decide +kernel
theorem dX3_binding_1 : decode cX3_binding 1 = .ok (.iconst 0, 1) := by decide +kernel
theorem dX3_binding_2 : decode cX3_binding 2 = .ok (.putfield 65, 3) := by decide +kernel
theorem dX3_binding_5 : decode cX3_binding 5 = .ok (.iload_n 1, 1) := by decide +kernel
theorem dX3_binding_6 : decode cX3_binding 6 = .ok (.invokestatic 107, 3) := by decide +kernel
theorem dX3_binding_9 : decode cX3_binding 9 = .ok (.ifCond .eq 11, 3) := by decide +kernel
theorem dX3_binding_12 : decode cX3_binding 12 = .ok (.aload_n 0, 1) := by decide +kernel
theorem dX3_binding_13 : decode cX3_binding 13 = .ok (.iload_n 1, 1) := by decide +kernel
theorem dX3_binding_14 : decode cX3_binding 14 = .ok (.invokevirtual 91, 3) := by decide +kernel
theorem dX3_binding_17 : decode cX3_binding 17 = .ok (.goto 8, 3) := by decide +kernel
theorem dX3_binding_20 : decode cX3_binding 20 = .ok (.aload_n 0, 1) := by decide +kernel
theorem dX3_binding_21 : decode cX3_binding 21 = .ok (.iconst 1, 1) := by decide +kernel
theorem dX3_binding_22 : decode cX3_binding 22 = .ok (.invokevirtual 103, 3) := by decide +kernel
theorem dX3_binding_25 : decode cX3_binding 25 = .ok (.ireturn, 1) := by decide +kernel
theorem dJ9_max_7cf53_0 : decode cJ9_max_7cf53 0 = .ok (.iload_n 0, 1) := by decide +kernel
theorem dJ9_max_7cf53_1 : decode cJ9_max_7cf53 1 = .ok (.iload_n 1, 1) := by decide +kernel
theorem dJ9_max_7cf53_2 : decode cJ9_max_7cf53 2 = .ok (.if_icmp .lt 7, 3) := by decide +kernel
theorem dJ9_max_7cf53_5 : decode cJ9_max_7cf53 5 = .ok (.iload_n 0, 1) := by decide +kernel
theorem dJ9_max_7cf53_6 : decode cJ9_max_7cf53 6 = .ok (.goto 4, 3) := by decide +kernel
theorem dJ9_max_7cf53_9 : decode cJ9_max_7cf53 9 = .ok (.iload_n 1, 1) := by decide +kernel
theorem dJ9_max_7cf53_10 : decode cJ9_max_7cf53 10 = .ok (.ireturn, 1) := by decide +kernel
theorem dJ9_min_7cf53_0 : decode cJ9_min_7cf53 0 = .ok (.iload_n 0, 1) := by decide +kernel
theorem dJ9_min_7cf53_1 : decode cJ9_min_7cf53 1 = .ok (.iload_n 1, 1) := by decide +kernel
theorem dJ9_min_7cf53_2 : decode cJ9_min_7cf53 2 = .ok (.if_icmp .gt 7, 3) := by decide +kernel
theorem dJ9_min_7cf53_5 : decode cJ9_min_7cf53 5 = .ok (.iload_n 0, 1) := by decide +kernel
theorem dJ9_min_7cf53_6 : decode cJ9_min_7cf53 6 = .ok (.goto 4, 3) := by decide +kernel
theorem dJ9_min_7cf53_9 : decode cJ9_min_7cf53 9 = .ok (.iload_n 1, 1) := by decide +kernel
theorem dJ9_min_7cf53_10 : decode cJ9_min_7cf53 10 = .ok (.ireturn, 1) := by decide +kernel
