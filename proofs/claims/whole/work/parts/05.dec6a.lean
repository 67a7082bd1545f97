set_option maxRecDepth 20000 in
theorem ggX6_init_X6_at : GoodIn wsX6_init wsX6_at := goodIn_r _ [20] (by decide +kernel) (by decide +kernel)
set_option maxRecDepth 20000 in
theorem gX6_init_X6_at : GoodIn wsX6_init (va_wsS RX6 45 yX6_at wsX6_at) := goodIn_app (goodIn_of _ (by decide +kernel)) ggX6_init_X6_at
theorem dX6_init_0 : decode cX6_init 0 = .ok (.aload_n 0, 1) := by decide +kernel
theorem dX6_init_1 : decode cX6_init 1 = .ok (.invokespecial 1, 3) := by decide +kernel
theorem dX6_init_4 : decode cX6_init 4 = .ok (.aload_n 0, 1) := by decide +kernel
theorem dX6_init_5 : decode cX6_init 5 = .ok (.bipush 43, 2) := by decide +kernel
theorem dX6_init_7 : decode cX6_init 7 = .ok (.newarray .int, 2) := by decide +kernel
theorem dX6_init_9 : decode cX6_init 9 = .ok (.putfield 7, 3) := by decide +kernel
theorem dX6_init_12 : decode cX6_init 12 = .ok (.aload_n 0, 1) := by decide +kernel
theorem dX6_init_13 : decode cX6_init 13 = .ok (.bipush 12, 2) := by decide +kernel
theorem dX6_init_15 : decode cX6_init 15 = .ok (.newarray .long, 2) := by decide +kernel
theorem dX6_init_17 : decode cX6_init 17 = .ok (.putfield 13, 3) := by decide +kernel
theorem dX6_init_20 : decode cX6_init 20 = .ok (.aload_n 0, 1) := by decide +kernel
theorem dX6_init_21 : decode cX6_init 21 = .ok (.bipush 43, 2) := by decide +kernel
theorem dX6_init_23 : decode cX6_init 23 = .ok (.newarray .int, 2) := by decide +kernel
theorem dX6_init_25 : decode cX6_init 25 = .ok (.putfield 17, 3) := by decide +kernel
theorem dX6_init_28 : decode cX6_init 28 = .ok (.aload_n 0, 1) := by decide +kernel
theorem dX6_init_29 : decode cX6_init 29 = .ok (.bipush 12, 2) := by decide +kernel
theorem dX6_init_31 : decode cX6_init 31 = .ok (.newarray .long, 2) := by decide +kernel
theorem dX6_init_33 : decode cX6_init 33 = .ok (.putfield 20, 3) := by decide +kernel
theorem dX6_init_36 : decode cX6_init 36 = .ok (.aload_n 0, 1) := by decide +kernel
theorem dX6_init_37 : decode cX6_init 37 = .ok (.bipush 43, 2) := by decide +kernel
theorem dX6_init_39 : decode cX6_init 39 = .ok (.newarray .int, 2) := by decide +kernel
theorem dX6_init_41 : decode cX6_init 41 = .ok (.putfield 23, 3) := by decide +kernel
theorem dX6_init_44 : decode cX6_init 44 = .ok (.aload_n 0, 1) := by decide +kernel
theorem dX6_init_45 : decode cX6_init 45 = .ok (.bipush 12, 2) := by decide +kernel
theorem dX6_init_47 : decode cX6_init 47 = .ok (.newarray .long, 2) := by decide +kernel
theorem dX6_init_49 : decode cX6_init 49 = .ok (.putfield 26, 3) := by decide +kernel
theorem dX6_init_52 : decode cX6_init 52 = .ok (.aload_n 0, 1) := by decide +kernel
theorem dX6_init_53 : decode cX6_init 53 = .ok (.sipush 172, 3) := by decide +kernel
theorem dX6_init_56 : decode cX6_init 56 = .ok (.newarray .int, 2) := by decide +kernel
theorem dX6_init_58 : decode cX6_init 58 = .ok (.putfield 29, 3) := by decide +kernel
theorem dX6_init_61 : decode cX6_init 61 = .ok (.aload_n 0, 1) := by decide +kernel
theorem dX6_init_62 : decode cX6_init 62 = .ok (.bipush 48, 2) := by decide +kernel
theorem dX6_init_64 : decode cX6_init 64 = .ok (.newarray .long, 2) := by decide +kernel
theorem dX6_init_66 : decode cX6_init 66 = .ok (.putfield 32, 3) := by decide +kernel
theorem dX6_init_69 : decode cX6_init 69 = .ok (.aload_n 0, 1) := by decide +kernel
theorem dX6_init_70 : decode cX6_init 70 = .ok (.bipush 60, 2) := by decide +kernel
theorem dX6_init_72 : decode cX6_init 72 = .ok (.newarray .int, 2) := by decide +kernel
theorem dX6_init_74 : decode cX6_init 74 = .ok (.putfield 35, 3) := by decide +kernel
theorem dX6_init_77 : decode cX6_init 77 = .ok (.aload_n 0, 1) := by decide +kernel
theorem dX6_init_78 : decode cX6_init 78 = .ok (.bipush (-5), 2) := by decide +kernel
theorem dX6_init_80 : decode cX6_init 80 = .ok (.putfield 38, 3) := by decide +kernel
theorem dX6_init_83 : decode cX6_init 83 = .ok (.aload_n 0, 1) := by decide +kernel
theorem dX6_init_84 : decode cX6_init 84 = .ok (.bipush (-5), 2) := by decide +kernel
theorem dX6_init_86 : decode cX6_init 86 = .ok (.putfield 42, 3) := by decide +kernel
theorem dX6_init_89 : decode cX6_init 89 = .ok (.iconst 0, 1) := by decide +kernel
theorem dX6_init_90 : decode cX6_init 90 = .ok (.istore_n 1, 1) := by decide +kernel
theorem dX6_init_91 : decode cX6_init 91 = .ok (.iload_n 1, 1) := by decide +kernel
theorem dX6_init_92 : decode cX6_init 92 = .ok (.iconst 4, 1) := by decide +kernel
theorem dX6_init_93 : decode cX6_init 93 = .ok (.if_icmp .ge 44, 3) := by decide +kernel
theorem dX6_init_96 : decode cX6_init 96 = .ok (.aload_n 0, 1) := by decide +kernel
theorem dX6_init_97 : decode cX6_init 97 = .ok (.getfield 7, 3) := by decide +kernel
theorem dX6_init_100 : decode cX6_init 100 = .ok (.iload_n 1, 1) := by decide +kernel
theorem dX6_init_101 : decode cX6_init 101 = .ok (.iconst 0, 1) := by decide +kernel
theorem dX6_init_102 : decode cX6_init 102 = .ok (.invokestatic 45, 3) := by decide +kernel
theorem dX6_init_105 : decode cX6_init 105 = .ok (.iconst 1, 1) := by decide +kernel
theorem dX6_init_106 : decode cX6_init 106 = .ok (.iastore, 1) := by decide +kernel
theorem dX6_init_107 : decode cX6_init 107 = .ok (.aload_n 0, 1) := by decide +kernel
theorem dX6_init_108 : decode cX6_init 108 = .ok (.getfield 7, 3) := by decide +kernel
theorem dX6_init_111 : decode cX6_init 111 = .ok (.iload_n 1, 1) := by decide +kernel
theorem dX6_init_112 : decode cX6_init 112 = .ok (.iconst 1, 1) := by decide +kernel
theorem dX6_init_113 : decode cX6_init 113 = .ok (.invokestatic 45, 3) := by decide +kernel
theorem dX6_init_116 : decode cX6_init 116 = .ok (.iconst 2, 1) := by decide +kernel
theorem dX6_init_117 : decode cX6_init 117 = .ok (.iastore, 1) := by decide +kernel
theorem dX6_init_118 : decode cX6_init 118 = .ok (.aload_n 0, 1) := by decide +kernel
theorem dX6_init_119 : decode cX6_init 119 = .ok (.getfield 7, 3) := by decide +kernel
theorem dX6_init_122 : decode cX6_init 122 = .ok (.iload_n 1, 1) := by decide +kernel
theorem dX6_init_123 : decode cX6_init 123 = .ok (.bipush 8, 2) := by decide +kernel
theorem dX6_init_125 : decode cX6_init 125 = .ok (.invokestatic 45, 3) := by decide +kernel
theorem dX6_init_128 : decode cX6_init 128 = .ok (.bipush 10, 2) := by decide +kernel
theorem dX6_init_130 : decode cX6_init 130 = .ok (.iastore, 1) := by decide +kernel
theorem dX6_init_131 : decode cX6_init 131 = .ok (.iinc 1 1, 3) := by decide +kernel
theorem dX6_init_134 : decode cX6_init 134 = .ok (.goto (-43), 3) := by decide +kernel
theorem dX6_init_137 : decode cX6_init 137 = .ok (.return_, 1) := by decide +kernel
theorem dX6_in_0 : decode cX6_in 0 = .ok (.iload_n 0, 1) := by decide +kernel
theorem dX6_in_1 : decode cX6_in 1 = .ok (.iload_n 1, 1) := by decide +kernel
theorem dX6_in_2 : decode cX6_in 2 = .ok (.if_icmp .lt 12, 3) := by decide +kernel
theorem dX6_in_5 : decode cX6_in 5 = .ok (.iload_n 0, 1) := by decide +kernel
theorem dX6_in_6 : decode cX6_in 6 = .ok (.iload_n 2, 1) := by decide +kernel
theorem dX6_in_7 : decode cX6_in 7 = .ok (.if_icmp .gt 7, 3) := by decide +kernel
theorem dX6_in_10 : decode cX6_in 10 = .ok (.iconst 1, 1) := by decide +kernel
theorem dX6_in_11 : decode cX6_in 11 = .ok (.goto 4, 3) := by decide +kernel
theorem dX6_in_14 : decode cX6_in 14 = .ok (.iconst 0, 1) := by decide +kernel
theorem dX6_in_15 : decode cX6_in 15 = .ok (.ireturn, 1) := by decide +kernel
set_option maxRecDepth 20000 in
theorem ggX6_isPair_X6_in : GoodIn wsX6_isPair wsX6_in := goodIn_r _ [4] (by decide +kernel) (by decide +kernel)
set_option maxRecDepth 20000 in
theorem gX6_isPair_X6_in : GoodIn wsX6_isPair (va_wsS RX6 49 yX6_in wsX6_in) := goodIn_app (goodIn_of _ (by decide +kernel)) ggX6_isPair_X6_in
theorem dX6_isPair_0 : decode cX6_isPair 0 = .ok (.iload_n 0, 1) := by decide +kernel
theorem dX6_isPair_1 : decode cX6_isPair 1 = .ok (.iconst 0, 1) := by decide +kernel
theorem dX6_isPair_2 : decode cX6_isPair 2 = .ok (.iconst 3, 1) := by decide +kernel
theorem dX6_isPair_3 : decode cX6_isPair 3 = .ok (.invokestatic 49, 3) := by decide +kernel
theorem dX6_isPair_6 : decode cX6_isPair 6 = .ok (.ireturn, 1) := by decide +kernel
theorem dX6_at_0 : decode cX6_at 0 = .ok (.iconst 3, 1) := by decide +kernel
theorem dX6_at_1 : decode cX6_at 1 = .ok (.bipush 10, 2) := by decide +kernel
theorem dX6_at_3 : decode cX6_at 3 = .ok (.iload_n 0, 1) := by decide +kernel
theorem dX6_at_4 : decode cX6_at 4 = .ok (.imul, 1) := by decide +kernel
theorem dX6_at_5 : decode cX6_at 5 = .ok (.iadd, 1) := by decide +kernel
theorem dX6_at_6 : decode cX6_at 6 = .ok (.iload_n 1, 1) := by decide +kernel
theorem dX6_at_7 : decode cX6_at 7 = .ok (.iadd, 1) := by decide +kernel
theorem dX6_at_8 : decode cX6_at 8 = .ok (.ireturn, 1) := by decide +kernel
set_option maxRecDepth 20000 in
theorem ggX6_of_X6_at : GoodIn wsX6_of wsX6_at := goodIn_r _ [5] (by decide +kernel) (by decide +kernel)
set_option maxRecDepth 20000 in
theorem gX6_of_X6_at : GoodIn wsX6_of (va_wsS RX6 45 yX6_at wsX6_at) := goodIn_app (goodIn_of _ (by decide +kernel)) ggX6_of_X6_at
theorem dX6_of_0 : decode cX6_of 0 = .ok (.aload_n 0, 1) := by decide +kernel
theorem dX6_of_1 : decode cX6_of 1 = .ok (.getfield 7, 3) := by decide +kernel
theorem dX6_of_4 : decode cX6_of 4 = .ok (.iload_n 1, 1) := by decide +kernel
theorem dX6_of_5 : decode cX6_of 5 = .ok (.iload_n 2, 1) := by decide +kernel
theorem dX6_of_6 : decode cX6_of 6 = .ok (.invokestatic 45, 3) := by decide +kernel
theorem dX6_of_9 : decode cX6_of 9 = .ok (.iaload, 1) := by decide +kernel
theorem dX6_of_10 : decode cX6_of 10 = .ok (.ireturn, 1) := by decide +kernel
set_option maxRecDepth 20000 in
theorem ggX6_isOn_X6_of : GoodIn wsX6_isOn wsX6_of := goodIn_r _ [5, 6, 7, 8, 4, 9, 10, 11, 12, 13, 14, 15, 16, 17, 18, 19, 20, 21, 22, 23, 24, 25, 26, 27, 28, 29, 30, 31] (by decide +kernel) (by decide +kernel)
set_option maxRecDepth 20000 in
theorem gX6_isOn_X6_of : GoodIn wsX6_isOn (wsV RX6 53 RX6 yX6_of wsX6_of) := goodIn_app (goodIn_of _ (by decide +kernel)) ggX6_isOn_X6_of
theorem dX6_isOn_0 : decode cX6_isOn 0 = .ok (.aload_n 0, 1) := by decide +kernel
theorem dX6_isOn_1 : decode cX6_isOn 1 = .ok (.iload_n 1, 1) := by decide +kernel
theorem dX6_isOn_2 : decode cX6_isOn 2 = .ok (.bipush 9, 2) := by decide +kernel
theorem dX6_isOn_4 : decode cX6_isOn 4 = .ok (.invokevirtual 53, 3) := by decide +kernel
theorem dX6_isOn_7 : decode cX6_isOn 7 = .ok (.iconst 1, 1) := by decide +kernel
theorem dX6_isOn_8 : decode cX6_isOn 8 = .ok (.if_icmp .ne 7, 3) := by decide +kernel
theorem dX6_isOn_11 : decode cX6_isOn 11 = .ok (.iconst 1, 1) := by decide +kernel
theorem dX6_isOn_12 : decode cX6_isOn 12 = .ok (.goto 4, 3) := by decide +kernel
theorem dX6_isOn_15 : decode cX6_isOn 15 = .ok (.iconst 0, 1) := by decide +kernel
theorem dX6_isOn_16 : decode cX6_isOn 16 = .ok (.ireturn, 1) := by decide +kernel
theorem dX6_looks_0 : decode cX6_looks 0 = .ok (.iconst 0, 1) := by decide +kernel
theorem dX6_looks_1 : decode cX6_looks 1 = .ok (.istore_n 1, 1) := by decide +kernel
theorem dX6_looks_2 : decode cX6_looks 2 = .ok (.iload_n 1, 1) := by decide +kernel
theorem dX6_looks_3 : decode cX6_looks 3 = .ok (.bipush 43, 2) := by decide +kernel
theorem dX6_looks_5 : decode cX6_looks 5 = .ok (.if_icmp .ge 21, 3) := by decide +kernel
theorem dX6_looks_8 : decode cX6_looks 8 = .ok (.aload_n 0, 1) := by decide +kernel
theorem dX6_looks_9 : decode cX6_looks 9 = .ok (.getfield 17, 3) := by decide +kernel
theorem dX6_looks_12 : decode cX6_looks 12 = .ok (.iload_n 1, 1) := by decide +kernel
theorem dX6_looks_13 : decode cX6_looks 13 = .ok (.aload_n 0, 1) := by decide +kernel
theorem dX6_looks_14 : decode cX6_looks 14 = .ok (.getfield 7, 3) := by decide +kernel
theorem dX6_looks_17 : decode cX6_looks 17 = .ok (.iload_n 1, 1) := by decide +kernel
theorem dX6_looks_18 : decode cX6_looks 18 = .ok (.iaload, 1) := by decide +kernel
theorem dX6_looks_19 : decode cX6_looks 19 = .ok (.iastore, 1) := by decide +kernel
theorem dX6_looks_20 : decode cX6_looks 20 = .ok (.iinc 1 1, 3) := by decide +kernel
theorem dX6_looks_23 : decode cX6_looks 23 = .ok (.goto (-21), 3) := by decide +kernel
theorem dX6_looks_26 : decode cX6_looks 26 = .ok (.iconst 0, 1) := by decide +kernel
theorem dX6_looks_27 : decode cX6_looks 27 = .ok (.istore_n 1, 1) := by decide +kernel
theorem dX6_looks_28 : decode cX6_looks 28 = .ok (.iload_n 1, 1) := by decide +kernel
theorem dX6_looks_29 : decode cX6_looks 29 = .ok (.bipush 12, 2) := by decide +kernel
theorem dX6_looks_31 : decode cX6_looks 31 = .ok (.if_icmp .ge 21, 3) := by decide +kernel
theorem dX6_looks_34 : decode cX6_looks 34 = .ok (.aload_n 0, 1) := by decide +kernel
theorem dX6_looks_35 : decode cX6_looks 35 = .ok (.getfield 20, 3) := by decide +kernel
theorem dX6_looks_38 : decode cX6_looks 38 = .ok (.iload_n 1, 1) := by decide +kernel
theorem dX6_looks_39 : decode cX6_looks 39 = .ok (.aload_n 0, 1) := by decide +kernel
theorem dX6_looks_40 : decode cX6_looks 40 = .ok (.getfield 13, 3) := by decide +kernel
theorem dX6_looks_43 : decode cX6_looks 43 = .ok (.iload_n 1, 1) := by decide +kernel
theorem dX6_looks_44 : decode cX6_looks 44 = .ok (.laload, 1) := by decide +kernel
theorem dX6_looks_45 : decode cX6_looks 45 = .ok (.lastore, 1) := by decide +kernel
theorem dX6_looks_46 : decode cX6_looks 46 = .ok (.iinc 1 1, 3) := by decide +kernel
theorem dX6_looks_49 : decode cX6_looks 49 = .ok (.goto (-21), 3) := by decide +kernel
theorem dX6_looks_52 : decode cX6_looks 52 = .ok (.return_, 1) := by decide +kernel
theorem dX6_looksBack_0 : decode cX6_looksBack 0 = .ok (.iconst 0, 1) := by decide +kernel
theorem dX6_looksBack_1 : decode cX6_looksBack 1 = .ok (.istore_n 1, 1) := by decide +kernel
theorem dX6_looksBack_2 : decode cX6_looksBack 2 = .ok (.iload_n 1, 1) := by decide +kernel
theorem dX6_looksBack_3 : decode cX6_looksBack 3 = .ok (.bipush 43, 2) := by decide +kernel
theorem dX6_looksBack_5 : decode cX6_looksBack 5 = .ok (.if_icmp .ge 21, 3) := by decide +kernel
theorem dX6_looksBack_8 : decode cX6_looksBack 8 = .ok (.aload_n 0, 1) := by decide +kernel
theorem dX6_looksBack_9 : decode cX6_looksBack 9 = .ok (.getfield 7, 3) := by decide +kernel
theorem dX6_looksBack_12 : decode cX6_looksBack 12 = .ok (.iload_n 1, 1) := by decide +kernel
theorem dX6_looksBack_13 : decode cX6_looksBack 13 = .ok (.aload_n 0, 1) := by decide +kernel
theorem dX6_looksBack_14 : decode cX6_looksBack 14 = .ok (.getfield 17, 3) := by decide +kernel
theorem dX6_looksBack_17 : decode cX6_looksBack 17 = .ok (.iload_n 1, 1) := by decide +kernel
theorem dX6_looksBack_18 : decode cX6_looksBack 18 = .ok (.iaload, 1) := by decide +kernel
theorem dX6_looksBack_19 : decode cX6_looksBack 19 = .ok (.iastore, 1) := by decide +kernel
theorem dX6_looksBack_20 : decode cX6_looksBack 20 = .ok (.iinc 1 1, 3) := by decide +kernel
theorem dX6_looksBack_23 : decode cX6_looksBack 23 = .ok (.goto (-21), 3) := by decide +kernel
theorem dX6_looksBack_26 : decode cX6_looksBack 26 = .ok (.iconst 0, 1) := by decide +kernel
theorem dX6_looksBack_27 : decode cX6_looksBack 27 = .ok (.istore_n 1, 1) := by decide +kernel
theorem dX6_looksBack_28 : decode cX6_looksBack 28 = .ok (.iload_n 1, 1) := by decide +kernel
theorem dX6_looksBack_29 : decode cX6_looksBack 29 = .ok (.bipush 12, 2) := by decide +kernel
theorem dX6_looksBack_31 : decode cX6_looksBack 31 = .ok (.if_icmp .ge 21, 3) := by decide +kernel
theorem dX6_looksBack_34 : decode cX6_looksBack 34 = .ok (.aload_n 0, 1) := by decide +kernel
theorem dX6_looksBack_35 : decode cX6_looksBack 35 = .ok (.getfield 13, 3) := by decide +kernel
theorem dX6_looksBack_38 : decode cX6_looksBack 38 = .ok (.iload_n 1, 1) := by decide +kernel
theorem dX6_looksBack_39 : decode cX6_looksBack 39 = .ok (.aload_n 0, 1) := by decide +kernel
theorem dX6_looksBack_40 : decode cX6_looksBack 40 = .ok (.getfield 20, 3) := by decide +kernel
theorem dX6_looksBack_43 : decode cX6_looksBack 43 = .ok (.iload_n 1, 1) := by decide +kernel
theorem dX6_looksBack_44 : decode cX6_looksBack 44 = .ok (.laload, 1) := by decide +kernel
theorem dX6_looksBack_45 : decode cX6_looksBack 45 = .ok (.lastore, 1) := by decide +kernel
theorem dX6_looksBack_46 : decode cX6_looksBack 46 = .ok (.iinc 1 1, 3) := by decide +kernel
theorem dX6_looksBack_49 : decode cX6_looksBack 49 = .ok (.goto (-21), 3) := by decide +kernel
theorem dX6_looksBack_52 : decode cX6_looksBack 52 = .ok (.return_, 1) := by decide +kernel
theorem dX6_records_0 : decode cX6_records 0 = .ok (.aload_n 0, 1) := by decide +kernel
theorem dX6_records_1 : decode cX6_records 1 = .ok (.getfield 56, 3) := by decide +kernel
theorem dX6_records_4 : decode cX6_records 4 = .ok (.iconst 4, 1) := by decide +kernel
theorem dX6_records_5 : decode cX6_records 5 = .ok (.if_icmp .ne 72, 3) := by decide +kernel
theorem dX6_records_8 : decode cX6_records 8 = .ok (.iconst 0, 1) := by decide +kernel
theorem dX6_records_9 : decode cX6_records 9 = .ok (.istore_n 1, 1) := by decide +kernel
theorem dX6_records_10 : decode cX6_records 10 = .ok (.iload_n 1, 1) := by decide +kernel
theorem dX6_records_11 : decode cX6_records 11 = .ok (.sipush 129, 3) := by decide +kernel
theorem dX6_records_14 : decode cX6_records 14 = .ok (.if_icmp .ge 24, 3) := by decide +kernel
theorem dX6_records_17 : decode cX6_records 17 = .ok (.aload_n 0, 1) := by decide +kernel
theorem dX6_records_18 : decode cX6_records 18 = .ok (.getfield 29, 3) := by decide +kernel
theorem dX6_records_21 : decode cX6_records 21 = .ok (.iload_n 1, 1) := by decide +kernel
theorem dX6_records_22 : decode cX6_records 22 = .ok (.aload_n 0, 1) := by decide +kernel
theorem dX6_records_23 : decode cX6_records 23 = .ok (.getfield 29, 3) := by decide +kernel
theorem dX6_records_26 : decode cX6_records 26 = .ok (.bipush 43, 2) := by decide +kernel
theorem dX6_records_28 : decode cX6_records 28 = .ok (.iload_n 1, 1) := by decide +kernel
theorem dX6_records_29 : decode cX6_records 29 = .ok (.iadd, 1) := by decide +kernel
theorem dX6_records_30 : decode cX6_records 30 = .ok (.iaload, 1) := by decide +kernel
theorem dX6_records_31 : decode cX6_records 31 = .ok (.iastore, 1) := by decide +kernel
theorem dX6_records_32 : decode cX6_records 32 = .ok (.iinc 1 1, 3) := by decide +kernel
theorem dX6_records_35 : decode cX6_records 35 = .ok (.goto (-25), 3) := by decide +kernel
theorem dX6_records_38 : decode cX6_records 38 = .ok (.iconst 0, 1) := by decide +kernel
theorem dX6_records_39 : decode cX6_records 39 = .ok (.istore_n 1, 1) := by decide +kernel
theorem dX6_records_40 : decode cX6_records 40 = .ok (.iload_n 1, 1) := by decide +kernel
theorem dX6_records_41 : decode cX6_records 41 = .ok (.bipush 36, 2) := by decide +kernel
theorem dX6_records_43 : decode cX6_records 43 = .ok (.if_icmp .ge 24, 3) := by decide +kernel
theorem dX6_records_46 : decode cX6_records 46 = .ok (.aload_n 0, 1) := by decide +kernel
theorem dX6_records_47 : decode cX6_records 47 = .ok (.getfield 32, 3) := by decide +kernel
theorem dX6_records_50 : decode cX6_records 50 = .ok (.iload_n 1, 1) := by decide +kernel
theorem dX6_records_51 : decode cX6_records 51 = .ok (.aload_n 0, 1) := by decide +kernel
theorem dX6_records_52 : decode cX6_records 52 = .ok (.getfield 32, 3) := by decide +kernel
theorem dX6_records_55 : decode cX6_records 55 = .ok (.bipush 12, 2) := by decide +kernel
theorem dX6_records_57 : decode cX6_records 57 = .ok (.iload_n 1, 1) := by decide +kernel
theorem dX6_records_58 : decode cX6_records 58 = .ok (.iadd, 1) := by decide +kernel
theorem dX6_records_59 : decode cX6_records 59 = .ok (.laload, 1) := by decide +kernel
theorem dX6_records_60 : decode cX6_records 60 = .ok (.lastore, 1) := by decide +kernel
theorem dX6_records_61 : decode cX6_records 61 = .ok (.iinc 1 1, 3) := by decide +kernel
theorem dX6_records_64 : decode cX6_records 64 = .ok (.goto (-24), 3) := by decide +kernel
theorem dX6_records_67 : decode cX6_records 67 = .ok (.aload_n 0, 1) := by decide +kernel
theorem dX6_records_68 : decode cX6_records 68 = .ok (.dup, 1) := by decide +kernel
theorem dX6_records_69 : decode cX6_records 69 = .ok (.getfield 56, 3) := by decide +kernel
theorem dX6_records_72 : decode cX6_records 72 = .ok (.iconst 1, 1) := by decide +kernel
theorem dX6_records_73 : decode cX6_records 73 = .ok (.isub, 1) := by decide +kernel
theorem dX6_records_74 : decode cX6_records 74 = .ok (.putfield 56, 3) := by decide +kernel
theorem dX6_records_77 : decode cX6_records 77 = .ok (.iconst 0, 1) := by decide +kernel
theorem dX6_records_78 : decode cX6_records 78 = .ok (.istore_n 1, 1) := by decide +kernel
theorem dX6_records_79 : decode cX6_records 79 = .ok (.iload_n 1, 1) := by decide +kernel
theorem dX6_records_80 : decode cX6_records 80 = .ok (.bipush 43, 2) := by decide +kernel
theorem dX6_records_82 : decode cX6_records 82 = .ok (.if_icmp .ge 29, 3) := by decide +kernel
theorem dX6_records_85 : decode cX6_records 85 = .ok (.aload_n 0, 1) := by decide +kernel
theorem dX6_records_86 : decode cX6_records 86 = .ok (.getfield 29, 3) := by decide +kernel
theorem dX6_records_89 : decode cX6_records 89 = .ok (.bipush 43, 2) := by decide +kernel
theorem dX6_records_91 : decode cX6_records 91 = .ok (.aload_n 0, 1) := by decide +kernel
theorem dX6_records_92 : decode cX6_records 92 = .ok (.getfield 56, 3) := by decide +kernel
theorem dX6_records_95 : decode cX6_records 95 = .ok (.imul, 1) := by decide +kernel
theorem dX6_records_96 : decode cX6_records 96 = .ok (.iload_n 1, 1) := by decide +kernel
theorem dX6_records_97 : decode cX6_records 97 = .ok (.iadd, 1) := by decide +kernel
theorem dX6_records_98 : decode cX6_records 98 = .ok (.aload_n 0, 1) := by decide +kernel
theorem dX6_records_99 : decode cX6_records 99 = .ok (.getfield 17, 3) := by decide +kernel
theorem dX6_records_102 : decode cX6_records 102 = .ok (.iload_n 1, 1) := by decide +kernel
theorem dX6_records_103 : decode cX6_records 103 = .ok (.iaload, 1) := by decide +kernel
theorem dX6_records_104 : decode cX6_records 104 = .ok (.iastore, 1) := by decide +kernel
theorem dX6_records_105 : decode cX6_records 105 = .ok (.iinc 1 1, 3) := by decide +kernel
theorem dX6_records_108 : decode cX6_records 108 = .ok (.goto (-29), 3) := by decide +kernel
theorem dX6_records_111 : decode cX6_records 111 = .ok (.iconst 0, 1) := by decide +kernel
theorem dX6_records_112 : decode cX6_records 112 = .ok (.istore_n 1, 1) := by decide +kernel
theorem dX6_records_113 : decode cX6_records 113 = .ok (.iload_n 1, 1) := by decide +kernel
theorem dX6_records_114 : decode cX6_records 114 = .ok (.bipush 12, 2) := by decide +kernel
theorem dX6_records_116 : decode cX6_records 116 = .ok (.if_icmp .ge 29, 3) := by decide +kernel
theorem dX6_records_119 : decode cX6_records 119 = .ok (.aload_n 0, 1) := by decide +kernel
theorem dX6_records_120 : decode cX6_records 120 = .ok (.getfield 32, 3) := by decide +kernel
theorem dX6_records_123 : decode cX6_records 123 = .ok (.bipush 12, 2) := by decide +kernel
theorem dX6_records_125 : decode cX6_records 125 = .ok (.aload_n 0, 1) := by decide +kernel
theorem dX6_records_126 : decode cX6_records 126 = .ok (.getfield 56, 3) := by decide +kernel
theorem dX6_records_129 : decode cX6_records 129 = .ok (.imul, 1) := by decide +kernel
theorem dX6_records_130 : decode cX6_records 130 = .ok (.iload_n 1, 1) := by decide +kernel
theorem dX6_records_131 : decode cX6_records 131 = .ok (.iadd, 1) := by decide +kernel
theorem dX6_records_132 : decode cX6_records 132 = .ok (.aload_n 0, 1) := by decide +kernel
theorem dX6_records_133 : decode cX6_records 133 = .ok (.getfield 20, 3) := by decide +kernel
theorem dX6_records_136 : decode cX6_records 136 = .ok (.iload_n 1, 1) := by decide +kernel
theorem dX6_records_137 : decode cX6_records 137 = .ok (.laload, 1) := by decide +kernel
theorem dX6_records_138 : decode cX6_records 138 = .ok (.lastore, 1) := by decide +kernel
theorem dX6_records_139 : decode cX6_records 139 = .ok (.iinc 1 1, 3) := by decide +kernel
theorem dX6_records_142 : decode cX6_records 142 = .ok (.goto (-29), 3) := by decide +kernel
theorem dX6_records_145 : decode cX6_records 145 = .ok (.aload_n 0, 1) := by decide +kernel
theorem dX6_records_146 : decode cX6_records 146 = .ok (.dup, 1) := by decide +kernel
theorem dX6_records_147 : decode cX6_records 147 = .ok (.getfield 56, 3) := by decide +kernel
theorem dX6_records_150 : decode cX6_records 150 = .ok (.iconst 1, 1) := by decide +kernel
theorem dX6_records_151 : decode cX6_records 151 = .ok (.iadd, 1) := by decide +kernel
theorem dX6_records_152 : decode cX6_records 152 = .ok (.putfield 56, 3) := by decide +kernel
theorem dX6_records_155 : decode cX6_records 155 = .ok (.return_, 1) := by decide +kernel
set_option maxRecDepth 20000 in
theorem ggX6_capacity_X6_of : GoodIn wsX6_capacity wsX6_of := goodIn_r _ [5, 6, 7, 8, 4, 9, 10, 11, 12, 13, 14, 15, 16, 17, 18, 19, 20, 21, 22, 23, 24, 25, 26, 27, 28, 29, 30, 31] (by decide +kernel) (by decide +kernel)
set_option maxRecDepth 20000 in
theorem gX6_capacity_X6_of : GoodIn wsX6_capacity (wsV RX6 53 RX6 yX6_of wsX6_of) := goodIn_app (goodIn_of _ (by decide +kernel)) ggX6_capacity_X6_of
theorem dX6_capacity_0 : decode cX6_capacity 0 = .ok (.aload_n 0, 1) := by decide +kernel
theorem dX6_capacity_1 : decode cX6_capacity 1 = .ok (.iload_n 1, 1) := by decide +kernel
theorem dX6_capacity_2 : decode cX6_capacity 2 = .ok (.iconst 0, 1) := by decide +kernel
theorem dX6_capacity_3 : decode cX6_capacity 3 = .ok (.invokevirtual 53, 3) := by decide +kernel
theorem dX6_capacity_6 : decode cX6_capacity 6 = .ok (.bipush 40, 2) := by decide +kernel
theorem dX6_capacity_8 : decode cX6_capacity 8 = .ok (.aload_n 0, 1) := by decide +kernel
theorem dX6_capacity_9 : decode cX6_capacity 9 = .ok (.iload_n 1, 1) := by decide +kernel
theorem dX6_capacity_10 : decode cX6_capacity 10 = .ok (.iconst 1, 1) := by decide +kernel
theorem dX6_capacity_11 : decode cX6_capacity 11 = .ok (.invokevirtual 53, 3) := by decide +kernel
theorem dX6_capacity_14 : decode cX6_capacity 14 = .ok (.iconst 1, 1) := by decide +kernel
theorem dX6_capacity_15 : decode cX6_capacity 15 = .ok (.isub, 1) := by decide +kernel
theorem dX6_capacity_16 : decode cX6_capacity 16 = .ok (.iload_n 2, 1) := by decide +kernel
theorem dX6_capacity_17 : decode cX6_capacity 17 = .ok (.imul, 1) := by decide +kernel
theorem dX6_capacity_18 : decode cX6_capacity 18 = .ok (.iadd, 1) := by decide +kernel
theorem dX6_capacity_19 : decode cX6_capacity 19 = .ok (.imul, 1) := by decide +kernel
theorem dX6_capacity_20 : decode cX6_capacity 20 = .ok (.ireturn, 1) := by decide +kernel
set_option maxRecDepth 20000 in
theorem ggX6_capacityNow_X6_of : GoodIn wsX6_capacityNow wsX6_of := goodIn_r _ [5, 6, 7, 8, 4, 9, 14, 15, 16, 17, 18, 19, 20, 21, 22, 23, 24, 25, 26, 27, 28, 29, 30, 31, 32, 33, 34, 35] (by decide +kernel) (by decide +kernel)
set_option maxRecDepth 20000 in
theorem gX6_capacityNow_X6_of : GoodIn wsX6_capacityNow (wsV RX6 53 RX6 yX6_of wsX6_of) := goodIn_app (goodIn_of _ (by decide +kernel)) ggX6_capacityNow_X6_of
set_option maxRecDepth 20000 in
theorem ggX6_capacityNow_X6_capacity : GoodIn wsX6_capacityNow wsX6_capacity := goodIn_r _ [13, 1, 2, 3, 4, 5, 6, 7, 8, 9, 14, 15, 16, 17, 18, 19, 20, 21, 22, 23, 24, 25, 26, 27, 28, 29, 30, 31, 32, 33, 34, 35] (by decide +kernel) (by decide +kernel)
set_option maxRecDepth 20000 in
theorem gX6_capacityNow_X6_capacity : GoodIn wsX6_capacityNow (wsV RX6 59 RX6 yX6_capacity wsX6_capacity) := goodIn_app (goodIn_of _ (by decide +kernel)) ggX6_capacityNow_X6_capacity
theorem dX6_capacityNow_0 : decode cX6_capacityNow 0 = .ok (.aload_n 0, 1) := by decide +kernel
theorem dX6_capacityNow_1 : decode cX6_capacityNow 1 = .ok (.iload_n 1, 1) := by decide +kernel
theorem dX6_capacityNow_2 : decode cX6_capacityNow 2 = .ok (.aload_n 0, 1) := by decide +kernel
theorem dX6_capacityNow_3 : decode cX6_capacityNow 3 = .ok (.iload_n 1, 1) := by decide +kernel
theorem dX6_capacityNow_4 : decode cX6_capacityNow 4 = .ok (.bipush 6, 2) := by decide +kernel
theorem dX6_capacityNow_6 : decode cX6_capacityNow 6 = .ok (.invokevirtual 53, 3) := by decide +kernel
theorem dX6_capacityNow_9 : decode cX6_capacityNow 9 = .ok (.invokevirtual 59, 3) := by decide +kernel
theorem dX6_capacityNow_12 : decode cX6_capacityNow 12 = .ok (.ireturn, 1) := by decide +kernel
set_option maxRecDepth 20000 in
theorem ggX6_stored_X6_of : GoodIn wsX6_stored wsX6_of := goodIn_r _ [5, 6, 7, 8, 4, 9, 22, 23, 24, 25, 26, 27, 28, 29, 30, 31, 32, 33, 34, 35, 36, 37, 38, 39, 40, 41, 42, 43] (by decide +kernel) (by decide +kernel)
set_option maxRecDepth 20000 in
theorem gX6_stored_X6_of : GoodIn wsX6_stored (wsV RX6 53 RX6 yX6_of wsX6_of) := goodIn_app (goodIn_of _ (by decide +kernel)) ggX6_stored_X6_of
set_option maxRecDepth 20000 in
theorem ggX6_stored_X6_isOn : GoodIn wsX6_stored wsX6_isOn := goodIn_r _ [13, 1, 2, 3, 4, 5, 6, 7, 8, 9, 22, 23, 24, 25, 26, 27, 28, 29, 30, 31, 32, 33, 34, 35, 36, 37, 38, 39, 40, 41, 42, 43] (by decide +kernel) (by decide +kernel)
set_option maxRecDepth 20000 in
theorem gX6_stored_X6_isOn : GoodIn wsX6_stored (wsV RX6 62 RX6 yX6_isOn wsX6_isOn) := goodIn_app (goodIn_of _ (by decide +kernel)) ggX6_stored_X6_isOn
set_option maxRecDepth 20000 in
theorem ggX6_stored_X6_capacityNow : GoodIn wsX6_stored wsX6_capacityNow := goodIn_r _ [17, 1, 2, 3, 4, 5, 6, 7, 8, 9, 18, 19, 20, 21, 22, 23, 24, 25, 26, 27, 28, 29, 30, 31, 32, 33, 34, 35, 36, 37, 38, 39, 40, 41, 42, 43] (by decide +kernel) (by decide +kernel)
set_option maxRecDepth 20000 in
theorem gX6_stored_X6_capacityNow : GoodIn wsX6_stored (wsV RX6 66 RX6 yX6_capacityNow wsX6_capacityNow) := goodIn_app (goodIn_of _ (by decide +kernel)) ggX6_stored_X6_capacityNow
theorem dX6_stored_0 : decode cX6_stored 0 = .ok (.aload_n 0, 1) := by decide +kernel
theorem dX6_stored_1 : decode cX6_stored 1 = .ok (.iload_n 1, 1) := by decide +kernel
theorem dX6_stored_2 : decode cX6_stored 2 = .ok (.bipush 7, 2) := by decide +kernel
theorem dX6_stored_4 : decode cX6_stored 4 = .ok (.invokevirtual 53, 3) := by decide +kernel
theorem dX6_stored_7 : decode cX6_stored 7 = .ok (.i2l, 1) := by decide +kernel
theorem dX6_stored_8 : decode cX6_stored 8 = .ok (.lstore_n 2, 1) := by decide +kernel
theorem dX6_stored_9 : decode cX6_stored 9 = .ok (.aload_n 0, 1) := by decide +kernel
theorem dX6_stored_10 : decode cX6_stored 10 = .ok (.iload_n 1, 1) := by decide +kernel
theorem dX6_stored_11 : decode cX6_stored 11 = .ok (.invokevirtual 62, 3) := by decide +kernel
theorem dX6_stored_14 : decode cX6_stored 14 = .ok (.ifCond .eq 16, 3) := by decide +kernel
theorem dX6_stored_17 : decode cX6_stored 17 = .ok (.aload_n 0, 1) := by decide +kernel
theorem dX6_stored_18 : decode cX6_stored 18 = .ok (.iload_n 1, 1) := by decide +kernel
theorem dX6_stored_19 : decode cX6_stored 19 = .ok (.bipush 8, 2) := by decide +kernel
theorem dX6_stored_21 : decode cX6_stored 21 = .ok (.invokevirtual 53, 3) := by decide +kernel
theorem dX6_stored_24 : decode cX6_stored 24 = .ok (.i2l, 1) := by decide +kernel
theorem dX6_stored_25 : decode cX6_stored 25 = .ok (.lload_n 2, 1) := by decide +kernel
theorem dX6_stored_26 : decode cX6_stored 26 = .ok (.lmul, 1) := by decide +kernel
theorem dX6_stored_27 : decode cX6_stored 27 = .ok (.goto 13, 3) := by decide +kernel
theorem dX6_stored_30 : decode cX6_stored 30 = .ok (.lload_n 2, 1) := by decide +kernel
theorem dX6_stored_31 : decode cX6_stored 31 = .ok (.lload_n 2, 1) := by decide +kernel
theorem dX6_stored_32 : decode cX6_stored 32 = .ok (.lmul, 1) := by decide +kernel
theorem dX6_stored_33 : decode cX6_stored 33 = .ok (.aload_n 0, 1) := by decide +kernel
theorem dX6_stored_34 : decode cX6_stored 34 = .ok (.iload_n 1, 1) := by decide +kernel
theorem dX6_stored_35 : decode cX6_stored 35 = .ok (.invokevirtual 66, 3) := by decide +kernel
theorem dX6_stored_38 : decode cX6_stored 38 = .ok (.i2l, 1) := by decide +kernel
theorem dX6_stored_39 : decode cX6_stored 39 = .ok (.ldiv, 1) := by decide +kernel
theorem dX6_stored_40 : decode cX6_stored 40 = .ok (.lreturn, 1) := by decide +kernel
set_option maxRecDepth 20000 in
theorem ggX6_pullBy_X6_of : GoodIn wsX6_pullBy wsX6_of := goodIn_r _ [5, 6, 7, 8, 4, 9, 10, 11, 12, 13, 14, 15, 16, 17, 18, 19, 20, 21, 22, 23, 24, 25, 26, 27, 28, 29, 30, 31] (by decide +kernel) (by decide +kernel)
set_option maxRecDepth 20000 in
theorem gX6_pullBy_X6_of : GoodIn wsX6_pullBy (wsV RX6 53 RX6 yX6_of wsX6_of) := goodIn_app (goodIn_of _ (by decide +kernel)) ggX6_pullBy_X6_of
theorem dX6_pullBy_0 : decode cX6_pullBy 0 = .ok (.aload_n 0, 1) := by decide +kernel
theorem dX6_pullBy_1 : decode cX6_pullBy 1 = .ok (.iload_n 1, 1) := by decide +kernel
theorem dX6_pullBy_2 : decode cX6_pullBy 2 = .ok (.iconst 0, 1) := by decide +kernel
theorem dX6_pullBy_3 : decode cX6_pullBy 3 = .ok (.invokevirtual 53, 3) := by decide +kernel
theorem dX6_pullBy_6 : decode cX6_pullBy 6 = .ok (.aload_n 0, 1) := by decide +kernel
theorem dX6_pullBy_7 : decode cX6_pullBy 7 = .ok (.iload_n 1, 1) := by decide +kernel
theorem dX6_pullBy_8 : decode cX6_pullBy 8 = .ok (.iconst 1, 1) := by decide +kernel
theorem dX6_pullBy_9 : decode cX6_pullBy 9 = .ok (.invokevirtual 53, 3) := by decide +kernel
theorem dX6_pullBy_12 : decode cX6_pullBy 12 = .ok (.iconst 1, 1) := by decide +kernel
theorem dX6_pullBy_13 : decode cX6_pullBy 13 = .ok (.isub, 1) := by decide +kernel
theorem dX6_pullBy_14 : decode cX6_pullBy 14 = .ok (.imul, 1) := by decide +kernel
theorem dX6_pullBy_15 : decode cX6_pullBy 15 = .ok (.iload_n 2, 1) := by decide +kernel
theorem dX6_pullBy_16 : decode cX6_pullBy 16 = .ok (.imul, 1) := by decide +kernel
theorem dX6_pullBy_17 : decode cX6_pullBy 17 = .ok (.iload_n 2, 1) := by decide +kernel
theorem dX6_pullBy_18 : decode cX6_pullBy 18 = .ok (.imul, 1) := by decide +kernel
theorem dX6_pullBy_19 : decode cX6_pullBy 19 = .ok (.ireturn, 1) := by decide +kernel
set_option maxRecDepth 20000 in
theorem ggX6_pullOf_X6_capacity : GoodIn wsX6_pullOf wsX6_capacity := goodIn_r _ [5, 6, 7, 8, 4, 9, 10, 11, 12, 13, 14, 15, 16, 17, 18, 19, 20, 21, 22, 23, 24, 25, 26, 27, 28, 29, 30, 31, 32, 33, 34, 35] (by decide +kernel) (by decide +kernel)
set_option maxRecDepth 20000 in
theorem gX6_pullOf_X6_capacity : GoodIn wsX6_pullOf (wsV RX6 59 RX6 yX6_capacity wsX6_capacity) := goodIn_app (goodIn_of _ (by decide +kernel)) ggX6_pullOf_X6_capacity
set_option maxRecDepth 20000 in
theorem ggX6_pullOf_X6_of : GoodIn wsX6_pullOf wsX6_of := goodIn_r _ [9, 10, 11, 12, 4, 13, 14, 15, 16, 17, 18, 19, 20, 21, 22, 23, 24, 25, 26, 27, 28, 29, 30, 31, 32, 33, 34, 35] (by decide +kernel) (by decide +kernel)
set_option maxRecDepth 20000 in
theorem gX6_pullOf_X6_of : GoodIn wsX6_pullOf (wsV RX6 53 RX6 yX6_of wsX6_of) := goodIn_app (goodIn_of _ (by decide +kernel)) ggX6_pullOf_X6_of
theorem dX6_pullOf_0 : decode cX6_pullOf 0 = .ok (.iload_n 3, 1) := by decide +kernel
theorem dX6_pullOf_1 : decode cX6_pullOf 1 = .ok (.i2l, 1) := by decide +kernel
theorem dX6_pullOf_2 : decode cX6_pullOf 2 = .ok (.lstore 4, 2) := by decide +kernel
theorem dX6_pullOf_4 : decode cX6_pullOf 4 = .ok (.aload_n 0, 1) := by decide +kernel
theorem dX6_pullOf_5 : decode cX6_pullOf 5 = .ok (.iload_n 1, 1) := by decide +kernel
theorem dX6_pullOf_6 : decode cX6_pullOf 6 = .ok (.iload_n 2, 1) := by decide +kernel
theorem dX6_pullOf_7 : decode cX6_pullOf 7 = .ok (.invokevirtual 59, 3) := by decide +kernel
theorem dX6_pullOf_10 : decode cX6_pullOf 10 = .ok (.i2l, 1) := by decide +kernel
theorem dX6_pullOf_11 : decode cX6_pullOf 11 = .ok (.lstore 6, 2) := by decide +kernel
theorem dX6_pullOf_13 : decode cX6_pullOf 13 = .ok (.aload_n 0, 1) := by decide +kernel
theorem dX6_pullOf_14 : decode cX6_pullOf 14 = .ok (.iload_n 1, 1) := by decide +kernel
theorem dX6_pullOf_15 : decode cX6_pullOf 15 = .ok (.iconst 0, 1) := by decide +kernel
theorem dX6_pullOf_16 : decode cX6_pullOf 16 = .ok (.invokevirtual 53, 3) := by decide +kernel
theorem dX6_pullOf_19 : decode cX6_pullOf 19 = .ok (.aload_n 0, 1) := by decide +kernel
theorem dX6_pullOf_20 : decode cX6_pullOf 20 = .ok (.iload_n 1, 1) := by decide +kernel
theorem dX6_pullOf_21 : decode cX6_pullOf 21 = .ok (.iconst 1, 1) := by decide +kernel
theorem dX6_pullOf_22 : decode cX6_pullOf 22 = .ok (.invokevirtual 53, 3) := by decide +kernel
theorem dX6_pullOf_25 : decode cX6_pullOf 25 = .ok (.iconst 1, 1) := by decide +kernel
theorem dX6_pullOf_26 : decode cX6_pullOf 26 = .ok (.isub, 1) := by decide +kernel
theorem dX6_pullOf_27 : decode cX6_pullOf 27 = .ok (.imul, 1) := by decide +kernel
theorem dX6_pullOf_28 : decode cX6_pullOf 28 = .ok (.i2l, 1) := by decide +kernel
theorem dX6_pullOf_29 : decode cX6_pullOf 29 = .ok (.lload 4, 2) := by decide +kernel
theorem dX6_pullOf_31 : decode cX6_pullOf 31 = .ok (.lmul, 1) := by decide +kernel
theorem dX6_pullOf_32 : decode cX6_pullOf 32 = .ok (.lload 4, 2) := by decide +kernel
theorem dX6_pullOf_34 : decode cX6_pullOf 34 = .ok (.lmul, 1) := by decide +kernel
theorem dX6_pullOf_35 : decode cX6_pullOf 35 = .ok (.lload 6, 2) := by decide +kernel
theorem dX6_pullOf_37 : decode cX6_pullOf 37 = .ok (.lload 6, 2) := by decide +kernel
theorem dX6_pullOf_39 : decode cX6_pullOf 39 = .ok (.lmul, 1) := by decide +kernel
theorem dX6_pullOf_40 : decode cX6_pullOf 40 = .ok (.ldiv, 1) := by decide +kernel
theorem dX6_pullOf_41 : decode cX6_pullOf 41 = .ok (.l2i, 1) := by decide +kernel
theorem dX6_pullOf_42 : decode cX6_pullOf 42 = .ok (.ireturn, 1) := by decide +kernel
set_option maxRecDepth 20000 in
theorem ggX6_pullAt_X6_isOn : GoodIn wsX6_pullAt wsX6_isOn := goodIn_r _ [5, 6, 7, 8, 4, 9, 10, 11, 12, 13, 26, 27, 28, 29, 30, 31, 32, 33, 34, 35, 36, 37, 38, 39, 40, 41, 42, 43, 44, 45, 46, 47] (by decide +kernel) (by decide +kernel)
set_option maxRecDepth 20000 in
theorem gX6_pullAt_X6_isOn : GoodIn wsX6_pullAt (wsV RX6 62 RX6 yX6_isOn wsX6_isOn) := goodIn_app (goodIn_of _ (by decide +kernel)) ggX6_pullAt_X6_isOn
set_option maxRecDepth 20000 in
theorem ggX6_pullAt_X6_of : GoodIn wsX6_pullAt wsX6_of := goodIn_r _ [9, 10, 11, 12, 4, 13, 26, 27, 28, 29, 30, 31, 32, 33, 34, 35, 36, 37, 38, 39, 40, 41, 42, 43, 44, 45, 46, 47] (by decide +kernel) (by decide +kernel)
set_option maxRecDepth 20000 in
theorem gX6_pullAt_X6_of : GoodIn wsX6_pullAt (wsV RX6 53 RX6 yX6_of wsX6_of) := goodIn_app (goodIn_of _ (by decide +kernel)) ggX6_pullAt_X6_of
set_option maxRecDepth 20000 in
theorem ggX6_pullAt_X6_pullBy : GoodIn wsX6_pullAt wsX6_pullBy := goodIn_r _ [17, 6, 7, 8, 4, 9, 10, 11, 12, 13, 26, 27, 28, 29, 30, 31, 32, 33, 34, 35, 36, 37, 38, 39, 40, 41, 42, 43, 44, 45, 46, 47] (by decide +kernel) (by decide +kernel)
set_option maxRecDepth 20000 in
theorem gX6_pullAt_X6_pullBy : GoodIn wsX6_pullAt (wsV RX6 70 RX6 yX6_pullBy wsX6_pullBy) := goodIn_app (goodIn_of _ (by decide +kernel)) ggX6_pullAt_X6_pullBy
set_option maxRecDepth 20000 in
theorem ggX6_pullAt_X6_pullOf : GoodIn wsX6_pullAt wsX6_pullOf := goodIn_r _ [21, 22, 23, 24, 4, 25, 6, 7, 8, 9, 10, 11, 12, 13, 26, 27, 28, 29, 30, 31, 32, 33, 34, 35, 36, 37, 38, 39, 40, 41, 42, 43, 44, 45, 46, 47] (by decide +kernel) (by decide +kernel)
set_option maxRecDepth 20000 in
theorem gX6_pullAt_X6_pullOf : GoodIn wsX6_pullAt (wsV RX6 73 RX6 yX6_pullOf wsX6_pullOf) := goodIn_app (goodIn_of _ (by decide +kernel)) ggX6_pullAt_X6_pullOf
theorem dX6_pullAt_0 : decode cX6_pullAt 0 = .ok (.aload_n 0, 1) := by decide +kernel
theorem dX6_pullAt_1 : decode cX6_pullAt 1 = .ok (.iload_n 1, 1) := by decide +kernel
theorem dX6_pullAt_2 : decode cX6_pullAt 2 = .ok (.invokevirtual 62, 3) := by decide +kernel
theorem dX6_pullAt_5 : decode cX6_pullAt 5 = .ok (.ifCond .eq 18, 3) := by decide +kernel
theorem dX6_pullAt_8 : decode cX6_pullAt 8 = .ok (.aload_n 0, 1) := by decide +kernel
theorem dX6_pullAt_9 : decode cX6_pullAt 9 = .ok (.iload_n 1, 1) := by decide +kernel
theorem dX6_pullAt_10 : decode cX6_pullAt 10 = .ok (.aload_n 0, 1) := by decide +kernel
theorem dX6_pullAt_11 : decode cX6_pullAt 11 = .ok (.iload_n 1, 1) := by decide +kernel
theorem dX6_pullAt_12 : decode cX6_pullAt 12 = .ok (.bipush 8, 2) := by decide +kernel
theorem dX6_pullAt_14 : decode cX6_pullAt 14 = .ok (.invokevirtual 53, 3) := by decide +kernel
theorem dX6_pullAt_17 : decode cX6_pullAt 17 = .ok (.invokevirtual 70, 3) := by decide +kernel
theorem dX6_pullAt_20 : decode cX6_pullAt 20 = .ok (.goto 10, 3) := by decide +kernel
theorem dX6_pullAt_23 : decode cX6_pullAt 23 = .ok (.aload_n 0, 1) := by decide +kernel
theorem dX6_pullAt_24 : decode cX6_pullAt 24 = .ok (.iload_n 1, 1) := by decide +kernel
theorem dX6_pullAt_25 : decode cX6_pullAt 25 = .ok (.iload_n 2, 1) := by decide +kernel
theorem dX6_pullAt_26 : decode cX6_pullAt 26 = .ok (.iload_n 3, 1) := by decide +kernel
theorem dX6_pullAt_27 : decode cX6_pullAt 27 = .ok (.invokevirtual 73, 3) := by decide +kernel
theorem dX6_pullAt_30 : decode cX6_pullAt 30 = .ok (.ireturn, 1) := by decide +kernel
set_option maxRecDepth 20000 in
theorem ggX6_spring_X6_of : GoodIn wsX6_spring wsX6_of := goodIn_r _ [5, 6, 7, 8, 4, 9, 10, 11, 12, 13, 14, 15, 16, 17, 18, 19, 20, 21, 22, 23, 24, 25, 26, 27, 28, 29, 30, 31] (by decide +kernel) (by decide +kernel)
set_option maxRecDepth 20000 in
theorem gX6_spring_X6_of : GoodIn wsX6_spring (wsV RX6 53 RX6 yX6_of wsX6_of) := goodIn_app (goodIn_of _ (by decide +kernel)) ggX6_spring_X6_of
theorem dX6_spring_0 : decode cX6_spring 0 = .ok (.aload_n 0, 1) := by decide +kernel
theorem dX6_spring_1 : decode cX6_spring 1 = .ok (.iload_n 1, 1) := by decide +kernel
theorem dX6_spring_2 : decode cX6_spring 2 = .ok (.iconst 2, 1) := by decide +kernel
theorem dX6_spring_3 : decode cX6_spring 3 = .ok (.invokevirtual 53, 3) := by decide +kernel
theorem dX6_spring_6 : decode cX6_spring 6 = .ok (.iload_n 2, 1) := by decide +kernel
theorem dX6_spring_7 : decode cX6_spring 7 = .ok (.aload_n 0, 1) := by decide +kernel
theorem dX6_spring_8 : decode cX6_spring 8 = .ok (.iload_n 1, 1) := by decide +kernel
theorem dX6_spring_9 : decode cX6_spring 9 = .ok (.iconst 3, 1) := by decide +kernel
theorem dX6_spring_10 : decode cX6_spring 10 = .ok (.invokevirtual 53, 3) := by decide +kernel
theorem dX6_spring_13 : decode cX6_spring 13 = .ok (.isub, 1) := by decide +kernel
theorem dX6_spring_14 : decode cX6_spring 14 = .ok (.imul, 1) := by decide +kernel
theorem dX6_spring_15 : decode cX6_spring 15 = .ok (.ireturn, 1) := by decide +kernel
set_option maxRecDepth 20000 in
theorem ggX6_net_X6_of : GoodIn wsX6_net wsX6_of := goodIn_r _ [5, 6, 7, 8, 4, 9, 34, 35, 36, 37, 38, 39, 40, 41, 42, 43, 44, 45, 46, 47, 48, 49, 50, 51, 52, 53, 54, 55] (by decide +kernel) (by decide +kernel)
set_option maxRecDepth 20000 in
theorem gX6_net_X6_of : GoodIn wsX6_net (wsV RX6 53 RX6 yX6_of wsX6_of) := goodIn_app (goodIn_of _ (by decide +kernel)) ggX6_net_X6_of
set_option maxRecDepth 20000 in
theorem ggX6_net_X6_pullAt : GoodIn wsX6_net wsX6_pullAt := goodIn_r _ [13, 14, 15, 16, 4, 17, 1, 2, 3, 5, 6, 7, 8, 9, 18, 19, 20, 21, 22, 23, 24, 25, 26, 27, 28, 29, 34, 35, 36, 37, 38, 39, 40, 41, 42, 43, 44, 45, 46, 47, 48, 49, 50, 51, 52, 53, 54, 55] (by decide +kernel) (by decide +kernel)
set_option maxRecDepth 20000 in
theorem gX6_net_X6_pullAt : GoodIn wsX6_net (wsV RX6 77 RX6 yX6_pullAt wsX6_pullAt) := goodIn_app (goodIn_of _ (by decide +kernel)) ggX6_net_X6_pullAt
set_option maxRecDepth 20000 in
theorem ggX6_net_X6_spring : GoodIn wsX6_net wsX6_spring := goodIn_r _ [33, 1, 2, 3, 4, 5, 6, 7, 8, 9, 34, 35, 36, 37, 38, 39, 40, 41, 42, 43, 44, 45, 46, 47, 48, 49, 50, 51, 52, 53, 54, 55] (by decide +kernel) (by decide +kernel)
set_option maxRecDepth 20000 in
theorem gX6_net_X6_spring : GoodIn wsX6_net (wsV RX6 80 RX6 yX6_spring wsX6_spring) := goodIn_app (goodIn_of _ (by decide +kernel)) ggX6_net_X6_spring
theorem dX6_net_0 : decode cX6_net 0 = .ok (.aload_n 0, 1) := by decide +kernel
theorem dX6_net_1 : decode cX6_net 1 = .ok (.iload_n 1, 1) := by decide +kernel
theorem dX6_net_2 : decode cX6_net 2 = .ok (.aload_n 0, 1) := by decide +kernel
theorem dX6_net_3 : decode cX6_net 3 = .ok (.iload_n 1, 1) := by decide +kernel
theorem dX6_net_4 : decode cX6_net 4 = .ok (.bipush 6, 2) := by decide +kernel
theorem dX6_net_6 : decode cX6_net 6 = .ok (.invokevirtual 53, 3) := by decide +kernel
theorem dX6_net_9 : decode cX6_net 9 = .ok (.aload_n 0, 1) := by decide +kernel
theorem dX6_net_10 : decode cX6_net 10 = .ok (.iload_n 1, 1) := by decide +kernel
theorem dX6_net_11 : decode cX6_net 11 = .ok (.bipush 7, 2) := by decide +kernel
theorem dX6_net_13 : decode cX6_net 13 = .ok (.invokevirtual 53, 3) := by decide +kernel
theorem dX6_net_16 : decode cX6_net 16 = .ok (.invokevirtual 77, 3) := by decide +kernel
theorem dX6_net_19 : decode cX6_net 19 = .ok (.aload_n 0, 1) := by decide +kernel
theorem dX6_net_20 : decode cX6_net 20 = .ok (.iload_n 1, 1) := by decide +kernel
theorem dX6_net_21 : decode cX6_net 21 = .ok (.aload_n 0, 1) := by decide +kernel
theorem dX6_net_22 : decode cX6_net 22 = .ok (.iload_n 1, 1) := by decide +kernel
theorem dX6_net_23 : decode cX6_net 23 = .ok (.bipush 6, 2) := by decide +kernel
theorem dX6_net_25 : decode cX6_net 25 = .ok (.invokevirtual 53, 3) := by decide +kernel
theorem dX6_net_28 : decode cX6_net 28 = .ok (.invokevirtual 80, 3) := by decide +kernel
theorem dX6_net_31 : decode cX6_net 31 = .ok (.isub, 1) := by decide +kernel
theorem dX6_net_32 : decode cX6_net 32 = .ok (.ireturn, 1) := by decide +kernel
theorem dX6_size_0 : decode cX6_size 0 = .ok (.iload_n 0, 1) := by decide +kernel
theorem dX6_size_1 : decode cX6_size 1 = .ok (.ifCond .ge 8, 3) := by decide +kernel
theorem dX6_size_4 : decode cX6_size 4 = .ok (.iload_n 0, 1) := by decide +kernel
theorem dX6_size_5 : decode cX6_size 5 = .ok (.ineg, 1) := by decide +kernel
theorem dX6_size_6 : decode cX6_size 6 = .ok (.goto 4, 3) := by decide +kernel
theorem dX6_size_9 : decode cX6_size 9 = .ok (.iload_n 0, 1) := by decide +kernel
theorem dX6_size_10 : decode cX6_size 10 = .ok (.ireturn, 1) := by decide +kernel
set_option maxRecDepth 20000 in
theorem ggX6_move_X6_size : GoodIn wsX6_move wsX6_size := goodIn_r _ [4] (by decide +kernel) (by decide +kernel)
set_option maxRecDepth 20000 in
theorem gX6_move_X6_size : GoodIn wsX6_move (va_wsS RX6 83 yX6_size wsX6_size) := goodIn_app (goodIn_of _ (by decide +kernel)) ggX6_move_X6_size
set_option maxRecDepth 20000 in
theorem ggX6_move_X6_of : GoodIn wsX6_move wsX6_of := goodIn_r _ [8, 9, 10, 11, 3, 12, 13, 14, 15, 16, 17, 18, 19, 20, 21, 22, 23, 24, 25, 26, 27, 28, 29, 30, 31, 32, 33, 34] (by decide +kernel) (by decide +kernel)
set_option maxRecDepth 20000 in
theorem gX6_move_X6_of : GoodIn wsX6_move (wsV RX6 53 RX6 yX6_of wsX6_of) := goodIn_app (goodIn_of _ (by decide +kernel)) ggX6_move_X6_of
theorem dX6_move_0 : decode cX6_move 0 = .ok (.iload_n 3, 1) := by decide +kernel
theorem dX6_move_1 : decode cX6_move 1 = .ok (.invokestatic 83, 3) := by decide +kernel
theorem dX6_move_4 : decode cX6_move 4 = .ok (.aload_n 0, 1) := by decide +kernel
theorem dX6_move_5 : decode cX6_move 5 = .ok (.iload_n 1, 1) := by decide +kernel
theorem dX6_move_6 : decode cX6_move 6 = .ok (.iconst 4, 1) := by decide +kernel
theorem dX6_move_7 : decode cX6_move 7 = .ok (.invokevirtual 53, 3) := by decide +kernel
theorem dX6_move_10 : decode cX6_move 10 = .ok (.if_icmp .gt 5, 3) := by decide +kernel
theorem dX6_move_13 : decode cX6_move 13 = .ok (.iconst 0, 1) := by decide +kernel
theorem dX6_move_14 : decode cX6_move 14 = .ok (.ireturn, 1) := by decide +kernel
theorem dX6_move_15 : decode cX6_move 15 = .ok (.iload_n 3, 1) := by decide +kernel
theorem dX6_move_16 : decode cX6_move 16 = .ok (.ifCond .le 17, 3) := by decide +kernel
theorem dX6_move_19 : decode cX6_move 19 = .ok (.iload_n 2, 1) := by decide +kernel
theorem dX6_move_20 : decode cX6_move 20 = .ok (.bipush 40, 2) := by decide +kernel
theorem dX6_move_22 : decode cX6_move 22 = .ok (.if_icmp .ge 7, 3) := by decide +kernel
theorem dX6_move_25 : decode cX6_move 25 = .ok (.iconst 1, 1) := by decide +kernel
theorem dX6_move_26 : decode cX6_move 26 = .ok (.goto 16, 3) := by decide +kernel
theorem dX6_move_29 : decode cX6_move 29 = .ok (.iconst 0, 1) := by decide +kernel
theorem dX6_move_30 : decode cX6_move 30 = .ok (.goto 12, 3) := by decide +kernel
theorem dX6_move_33 : decode cX6_move 33 = .ok (.iload_n 2, 1) := by decide +kernel
theorem dX6_move_34 : decode cX6_move 34 = .ok (.ifCond .le 7, 3) := by decide +kernel
theorem dX6_move_37 : decode cX6_move 37 = .ok (.iconst (-1), 1) := by decide +kernel
theorem dX6_move_38 : decode cX6_move 38 = .ok (.goto 4, 3) := by decide +kernel
theorem dX6_move_41 : decode cX6_move 41 = .ok (.iconst 0, 1) := by decide +kernel
theorem dX6_move_42 : decode cX6_move 42 = .ok (.ireturn, 1) := by decide +kernel
set_option maxRecDepth 20000 in
theorem ggX6_leak_X6_of : GoodIn wsX6_leak wsX6_of := goodIn_r _ [6, 7, 8, 9, 5, 10, 11, 12, 13, 14, 15, 16, 17, 18, 19, 20, 21, 22, 23, 24, 25, 26, 27, 28, 29, 30, 31, 32] (by decide +kernel) (by decide +kernel)
set_option maxRecDepth 20000 in
theorem gX6_leak_X6_of : GoodIn wsX6_leak (wsV RX6 53 RX6 yX6_of wsX6_of) := goodIn_app (goodIn_of _ (by decide +kernel)) ggX6_leak_X6_of
theorem dX6_leak_0 : decode cX6_leak 0 = .ok (.iload_n 2, 1) := by decide +kernel
theorem dX6_leak_1 : decode cX6_leak 1 = .ok (.i2l, 1) := by decide +kernel
theorem dX6_leak_2 : decode cX6_leak 2 = .ok (.aload_n 0, 1) := by decide +kernel
theorem dX6_leak_3 : decode cX6_leak 3 = .ok (.iload_n 1, 1) := by decide +kernel
theorem dX6_leak_4 : decode cX6_leak 4 = .ok (.iconst 5, 1) := by decide +kernel
theorem dX6_leak_5 : decode cX6_leak 5 = .ok (.invokevirtual 53, 3) := by decide +kernel
theorem dX6_leak_8 : decode cX6_leak 8 = .ok (.i2l, 1) := by decide +kernel
theorem dX6_leak_9 : decode cX6_leak 9 = .ok (.lmul, 1) := by decide +kernel
theorem dX6_leak_10 : decode cX6_leak 10 = .ok (.ldc2_w 86, 3) := by decide +kernel
theorem dX6_leak_13 : decode cX6_leak 13 = .ok (.ldiv, 1) := by decide +kernel
theorem dX6_leak_14 : decode cX6_leak 14 = .ok (.l2i, 1) := by decide +kernel
theorem dX6_leak_15 : decode cX6_leak 15 = .ok (.ireturn, 1) := by decide +kernel
set_option maxRecDepth 20000 in
theorem ggX6_charges_X6_isOn : GoodIn wsX6_charges wsX6_isOn := goodIn_r _ [8, 9, 10, 11, 7, 12, 3, 13, 14, 15, 24, 25, 26, 27, 28, 29, 30, 31, 32, 33, 34, 35, 36, 37, 38, 39, 40, 41, 42, 43, 44, 45] (by decide +kernel) (by decide +kernel)
set_option maxRecDepth 20000 in
theorem gX6_charges_X6_isOn : GoodIn wsX6_charges (wsV RX6 62 RX6 yX6_isOn wsX6_isOn) := goodIn_app (goodIn_of _ (by decide +kernel)) ggX6_charges_X6_isOn
set_option maxRecDepth 20000 in
theorem ggX6_charges_X6_capacityNow : GoodIn wsX6_charges wsX6_capacityNow := goodIn_r _ [19, 9, 10, 11, 7, 12, 3, 13, 14, 15, 20, 21, 22, 23, 24, 25, 26, 27, 28, 29, 30, 31, 32, 33, 34, 35, 36, 37, 38, 39, 40, 41, 42, 43, 44, 45] (by decide +kernel) (by decide +kernel)
set_option maxRecDepth 20000 in
theorem gX6_charges_X6_capacityNow : GoodIn wsX6_charges (wsV RX6 66 RX6 yX6_capacityNow wsX6_capacityNow) := goodIn_app (goodIn_of _ (by decide +kernel)) ggX6_charges_X6_capacityNow
set_option maxRecDepth 20000 in
theorem ggX6_charges_X6_of : GoodIn wsX6_charges wsX6_of := goodIn_r _ [12, 3, 13, 14, 7, 15, 24, 25, 26, 27, 28, 29, 30, 31, 32, 33, 34, 35, 36, 37, 38, 39, 40, 41, 42, 43, 44, 45] (by decide +kernel) (by decide +kernel)
set_option maxRecDepth 20000 in
theorem gX6_charges_X6_of : GoodIn wsX6_charges (wsV RX6 53 RX6 yX6_of wsX6_of) := goodIn_app (goodIn_of _ (by decide +kernel)) ggX6_charges_X6_of
set_option maxRecDepth 20000 in
theorem ggX6_charges_X6_at : GoodIn wsX6_charges wsX6_at := goodIn_r _ [15] (by decide +kernel) (by decide +kernel)
set_option maxRecDepth 20000 in
theorem gX6_charges_X6_at : GoodIn wsX6_charges (va_wsS RX6 45 yX6_at wsX6_at) := goodIn_app (goodIn_of _ (by decide +kernel)) ggX6_charges_X6_at
theorem dX6_charges_0 : decode cX6_charges 0 = .ok (.aload_n 0, 1) := by decide +kernel
theorem dX6_charges_1 : decode cX6_charges 1 = .ok (.iload_n 1, 1) := by decide +kernel
theorem dX6_charges_2 : decode cX6_charges 2 = .ok (.invokevirtual 62, 3) := by decide +kernel
theorem dX6_charges_5 : decode cX6_charges 5 = .ok (.ifCond .eq 65, 3) := by decide +kernel
theorem dX6_charges_8 : decode cX6_charges 8 = .ok (.aload_n 0, 1) := by decide +kernel
theorem dX6_charges_9 : decode cX6_charges 9 = .ok (.iload_n 1, 1) := by decide +kernel
theorem dX6_charges_10 : decode cX6_charges 10 = .ok (.invokevirtual 66, 3) := by decide +kernel
theorem dX6_charges_13 : decode cX6_charges 13 = .ok (.aload_n 0, 1) := by decide +kernel
theorem dX6_charges_14 : decode cX6_charges 14 = .ok (.iload_n 1, 1) := by decide +kernel
theorem dX6_charges_15 : decode cX6_charges 15 = .ok (.bipush 8, 2) := by decide +kernel
theorem dX6_charges_17 : decode cX6_charges 17 = .ok (.invokevirtual 53, 3) := by decide +kernel
theorem dX6_charges_20 : decode cX6_charges 20 = .ok (.imul, 1) := by decide +kernel
theorem dX6_charges_21 : decode cX6_charges 21 = .ok (.istore_n 2, 1) := by decide +kernel
theorem dX6_charges_22 : decode cX6_charges 22 = .ok (.aload_n 0, 1) := by decide +kernel
theorem dX6_charges_23 : decode cX6_charges 23 = .ok (.getfield 13, 3) := by decide +kernel
theorem dX6_charges_26 : decode cX6_charges 26 = .ok (.iconst 3, 1) := by decide +kernel
theorem dX6_charges_27 : decode cX6_charges 27 = .ok (.iload_n 1, 1) := by decide +kernel
theorem dX6_charges_28 : decode cX6_charges 28 = .ok (.imul, 1) := by decide +kernel
theorem dX6_charges_29 : decode cX6_charges 29 = .ok (.iconst 0, 1) := by decide +kernel
theorem dX6_charges_30 : decode cX6_charges 30 = .ok (.iadd, 1) := by decide +kernel
theorem dX6_charges_31 : decode cX6_charges 31 = .ok (.dup2, 1) := by decide +kernel
theorem dX6_charges_32 : decode cX6_charges 32 = .ok (.laload, 1) := by decide +kernel
theorem dX6_charges_33 : decode cX6_charges 33 = .ok (.ldc2_w 88, 3) := by decide +kernel
theorem dX6_charges_36 : decode cX6_charges 36 = .ok (.aload_n 0, 1) := by decide +kernel
theorem dX6_charges_37 : decode cX6_charges 37 = .ok (.iload_n 1, 1) := by decide +kernel
theorem dX6_charges_38 : decode cX6_charges 38 = .ok (.bipush 8, 2) := by decide +kernel
theorem dX6_charges_40 : decode cX6_charges 40 = .ok (.invokevirtual 53, 3) := by decide +kernel
theorem dX6_charges_43 : decode cX6_charges 43 = .ok (.i2l, 1) := by decide +kernel
theorem dX6_charges_44 : decode cX6_charges 44 = .ok (.lmul, 1) := by decide +kernel
theorem dX6_charges_45 : decode cX6_charges 45 = .ok (.iload_n 2, 1) := by decide +kernel
theorem dX6_charges_46 : decode cX6_charges 46 = .ok (.aload_n 0, 1) := by decide +kernel
theorem dX6_charges_47 : decode cX6_charges 47 = .ok (.iload_n 1, 1) := by decide +kernel
theorem dX6_charges_48 : decode cX6_charges 48 = .ok (.bipush 7, 2) := by decide +kernel
theorem dX6_charges_50 : decode cX6_charges 50 = .ok (.invokevirtual 53, 3) := by decide +kernel
theorem dX6_charges_53 : decode cX6_charges 53 = .ok (.isub, 1) := by decide +kernel
theorem dX6_charges_54 : decode cX6_charges 54 = .ok (.i2l, 1) := by decide +kernel
theorem dX6_charges_55 : decode cX6_charges 55 = .ok (.lmul, 1) := by decide +kernel
theorem dX6_charges_56 : decode cX6_charges 56 = .ok (.ladd, 1) := by decide +kernel
theorem dX6_charges_57 : decode cX6_charges 57 = .ok (.lastore, 1) := by decide +kernel
theorem dX6_charges_58 : decode cX6_charges 58 = .ok (.aload_n 0, 1) := by decide +kernel
theorem dX6_charges_59 : decode cX6_charges 59 = .ok (.getfield 7, 3) := by decide +kernel
theorem dX6_charges_62 : decode cX6_charges 62 = .ok (.iload_n 1, 1) := by decide +kernel
theorem dX6_charges_63 : decode cX6_charges 63 = .ok (.bipush 7, 2) := by decide +kernel
theorem dX6_charges_65 : decode cX6_charges 65 = .ok (.invokestatic 45, 3) := by decide +kernel
theorem dX6_charges_68 : decode cX6_charges 68 = .ok (.iload_n 2, 1) := by decide +kernel
theorem dX6_charges_69 : decode cX6_charges 69 = .ok (.iastore, 1) := by decide +kernel
theorem dX6_charges_70 : decode cX6_charges 70 = .ok (.return_, 1) := by decide +kernel
set_option maxRecDepth 20000 in
theorem ggX6_tick_X6_isOn : GoodIn wsX6_tick wsX6_isOn := goodIn_r _ [7, 8, 9, 10, 6, 11, 1, 12, 13, 14, 64, 65, 66, 67, 68, 69, 70, 71, 72, 73, 74, 75, 76, 77, 78, 79, 80, 81, 82, 83, 84, 85] (by decide +kernel) (by decide +kernel)
set_option maxRecDepth 20000 in
theorem gX6_tick_X6_isOn : GoodIn wsX6_tick (wsV RX6 62 RX6 yX6_isOn wsX6_isOn) := goodIn_app (goodIn_of _ (by decide +kernel)) ggX6_tick_X6_isOn
set_option maxRecDepth 20000 in
theorem ggX6_tick_X6_stored : GoodIn wsX6_tick wsX6_stored := goodIn_r _ [18, 8, 9, 10, 6, 11, 1, 12, 13, 14, 3, 4, 5, 7, 19, 20, 21, 22, 23, 24, 25, 26, 64, 65, 66, 67, 68, 69, 70, 71, 72, 73, 74, 75, 76, 77, 78, 79, 80, 81, 82, 83, 84, 85] (by decide +kernel) (by decide +kernel)
set_option maxRecDepth 20000 in
theorem gX6_tick_X6_stored : GoodIn wsX6_tick (wsV RX6 90 RX6 yX6_stored wsX6_stored) := goodIn_app (goodIn_of _ (by decide +kernel)) ggX6_tick_X6_stored
set_option maxRecDepth 20000 in
theorem ggX6_tick_X6_at : GoodIn wsX6_tick wsX6_at := goodIn_r _ [14] (by decide +kernel) (by decide +kernel)
set_option maxRecDepth 20000 in
theorem gX6_tick_X6_at : GoodIn wsX6_tick (va_wsS RX6 45 yX6_at wsX6_at) := goodIn_app (goodIn_of _ (by decide +kernel)) ggX6_tick_X6_at
set_option maxRecDepth 20000 in
theorem ggX6_tick_X6_of : GoodIn wsX6_tick wsX6_of := goodIn_r _ [11, 1, 12, 13, 6, 14, 64, 65, 66, 67, 68, 69, 70, 71, 72, 73, 74, 75, 76, 77, 78, 79, 80, 81, 82, 83, 84, 85] (by decide +kernel) (by decide +kernel)
set_option maxRecDepth 20000 in
theorem gX6_tick_X6_of : GoodIn wsX6_tick (wsV RX6 53 RX6 yX6_of wsX6_of) := goodIn_app (goodIn_of _ (by decide +kernel)) ggX6_tick_X6_of
set_option maxRecDepth 20000 in
theorem ggX6_tick_X6_leak : GoodIn wsX6_tick wsX6_leak := goodIn_r _ [30, 31, 8, 9, 10, 6, 11, 1, 12, 13, 14, 64, 65, 66, 67, 68, 69, 70, 71, 72, 73, 74, 75, 76, 77, 78, 79, 80, 81, 82, 83, 84, 85] (by decide +kernel) (by decide +kernel)
set_option maxRecDepth 20000 in
theorem gX6_tick_X6_leak : GoodIn wsX6_tick (wsV RX6 94 RX6 yX6_leak wsX6_leak) := goodIn_app (goodIn_of _ (by decide +kernel)) ggX6_tick_X6_leak
set_option maxRecDepth 20000 in
theorem ggX6_tick_X6_net : GoodIn wsX6_tick wsX6_net := goodIn_r _ [35, 8, 9, 10, 6, 11, 1, 12, 13, 14, 36, 37, 38, 39, 3, 4, 5, 7, 40, 41, 42, 43, 44, 45, 46, 47, 23, 24, 25, 26, 48, 49, 50, 51, 64, 65, 66, 67, 68, 69, 70, 71, 72, 73, 74, 75, 76, 77, 78, 79, 80, 81, 82, 83, 84, 85] (by decide +kernel) (by decide +kernel)
set_option maxRecDepth 20000 in
theorem gX6_tick_X6_net : GoodIn wsX6_tick (wsV RX6 97 RX6 yX6_net wsX6_net) := goodIn_app (goodIn_of _ (by decide +kernel)) ggX6_tick_X6_net
set_option maxRecDepth 20000 in
theorem ggX6_tick_X6_move : GoodIn wsX6_tick wsX6_move := goodIn_r _ [55, 56, 57, 6, 58, 8, 9, 10, 11, 1, 12, 13, 14, 64, 65, 66, 67, 68, 69, 70, 71, 72, 73, 74, 75, 76, 77, 78, 79, 80, 81, 82, 83, 84, 85] (by decide +kernel) (by decide +kernel)
set_option maxRecDepth 20000 in
theorem gX6_tick_X6_move : GoodIn wsX6_tick (wsV RX6 100 RX6 yX6_move wsX6_move) := goodIn_app (goodIn_of _ (by decide +kernel)) ggX6_tick_X6_move
set_option maxRecDepth 20000 in
theorem ggX6_tick_X6_size : GoodIn wsX6_tick wsX6_size := goodIn_r _ [58] (by decide +kernel) (by decide +kernel)
set_option maxRecDepth 20000 in
theorem gX6_tick_X6_size : GoodIn wsX6_tick (va_wsS RX6 83 yX6_size wsX6_size) := goodIn_app (goodIn_of _ (by decide +kernel)) ggX6_tick_X6_size
set_option maxRecDepth 20000 in
theorem ggX6_tick_X6_charges : GoodIn wsX6_tick wsX6_charges := goodIn_r _ [62, 2, 63, 1, 3, 4, 5, 6, 7, 8, 9, 10, 11, 12, 13, 14, 19, 20, 21, 22, 23, 24, 25, 26, 64, 65, 66, 67, 68, 69, 70, 71, 72, 73, 74, 75, 76, 77, 78, 79, 80, 81, 82, 83, 84, 85] (by decide +kernel) (by decide +kernel)
set_option maxRecDepth 20000 in
theorem gX6_tick_X6_charges : GoodIn wsX6_tick (wsV RX6 103 RX6 yX6_charges wsX6_charges) := goodIn_app (goodIn_of _ (by decide +kernel)) ggX6_tick_X6_charges
theorem dX6_tick_0 : decode cX6_tick 0 = .ok (.aload_n 0, 1) := by decide +kernel
theorem dX6_tick_1 : decode cX6_tick 1 = .ok (.iload_n 1, 1) := by decide +kernel
theorem dX6_tick_2 : decode cX6_tick 2 = .ok (.invokevirtual 62, 3) := by decide +kernel
theorem dX6_tick_5 : decode cX6_tick 5 = .ok (.ifCond .ne 55, 3) := by decide +kernel
theorem dX6_tick_8 : decode cX6_tick 8 = .ok (.aload_n 0, 1) := by decide +kernel
theorem dX6_tick_9 : decode cX6_tick 9 = .ok (.iload_n 1, 1) := by decide +kernel
theorem dX6_tick_10 : decode cX6_tick 10 = .ok (.invokevirtual 90, 3) := by decide +kernel
theorem dX6_tick_13 : decode cX6_tick 13 = .ok (.lstore_n 2, 1) := by decide +kernel
theorem dX6_tick_14 : decode cX6_tick 14 = .ok (.aload_n 0, 1) := by decide +kernel
theorem dX6_tick_15 : decode cX6_tick 15 = .ok (.getfield 7, 3) := by decide +kernel
theorem dX6_tick_18 : decode cX6_tick 18 = .ok (.iload_n 1, 1) := by decide +kernel
theorem dX6_tick_19 : decode cX6_tick 19 = .ok (.bipush 7, 2) := by decide +kernel
theorem dX6_tick_21 : decode cX6_tick 21 = .ok (.invokestatic 45, 3) := by decide +kernel
theorem dX6_tick_24 : decode cX6_tick 24 = .ok (.dup2, 1) := by decide +kernel
theorem dX6_tick_25 : decode cX6_tick 25 = .ok (.iaload, 1) := by decide +kernel
theorem dX6_tick_26 : decode cX6_tick 26 = .ok (.aload_n 0, 1) := by decide +kernel
theorem dX6_tick_27 : decode cX6_tick 27 = .ok (.iload_n 1, 1) := by decide +kernel
theorem dX6_tick_28 : decode cX6_tick 28 = .ok (.aload_n 0, 1) := by decide +kernel
theorem dX6_tick_29 : decode cX6_tick 29 = .ok (.iload_n 1, 1) := by decide +kernel
theorem dX6_tick_30 : decode cX6_tick 30 = .ok (.bipush 7, 2) := by decide +kernel
theorem dX6_tick_32 : decode cX6_tick 32 = .ok (.invokevirtual 53, 3) := by decide +kernel
theorem dX6_tick_35 : decode cX6_tick 35 = .ok (.invokevirtual 94, 3) := by decide +kernel
theorem dX6_tick_38 : decode cX6_tick 38 = .ok (.isub, 1) := by decide +kernel
theorem dX6_tick_39 : decode cX6_tick 39 = .ok (.iastore, 1) := by decide +kernel
theorem dX6_tick_40 : decode cX6_tick 40 = .ok (.aload_n 0, 1) := by decide +kernel
theorem dX6_tick_41 : decode cX6_tick 41 = .ok (.getfield 13, 3) := by decide +kernel
theorem dX6_tick_44 : decode cX6_tick 44 = .ok (.iconst 3, 1) := by decide +kernel
theorem dX6_tick_45 : decode cX6_tick 45 = .ok (.iload_n 1, 1) := by decide +kernel
theorem dX6_tick_46 : decode cX6_tick 46 = .ok (.imul, 1) := by decide +kernel
theorem dX6_tick_47 : decode cX6_tick 47 = .ok (.iconst 1, 1) := by decide +kernel
theorem dX6_tick_48 : decode cX6_tick 48 = .ok (.iadd, 1) := by decide +kernel
theorem dX6_tick_49 : decode cX6_tick 49 = .ok (.dup2, 1) := by decide +kernel
theorem dX6_tick_50 : decode cX6_tick 50 = .ok (.laload, 1) := by decide +kernel
theorem dX6_tick_51 : decode cX6_tick 51 = .ok (.lload_n 2, 1) := by decide +kernel
theorem dX6_tick_52 : decode cX6_tick 52 = .ok (.aload_n 0, 1) := by decide +kernel
theorem dX6_tick_53 : decode cX6_tick 53 = .ok (.iload_n 1, 1) := by decide +kernel
theorem dX6_tick_54 : decode cX6_tick 54 = .ok (.invokevirtual 90, 3) := by decide +kernel
theorem dX6_tick_57 : decode cX6_tick 57 = .ok (.lsub, 1) := by decide +kernel
theorem dX6_tick_58 : decode cX6_tick 58 = .ok (.ladd, 1) := by decide +kernel
theorem dX6_tick_59 : decode cX6_tick 59 = .ok (.lastore, 1) := by decide +kernel
theorem dX6_tick_60 : decode cX6_tick 60 = .ok (.aload_n 0, 1) := by decide +kernel
theorem dX6_tick_61 : decode cX6_tick 61 = .ok (.iload_n 1, 1) := by decide +kernel
theorem dX6_tick_62 : decode cX6_tick 62 = .ok (.aload_n 0, 1) := by decide +kernel
theorem dX6_tick_63 : decode cX6_tick 63 = .ok (.iload_n 1, 1) := by decide +kernel
theorem dX6_tick_64 : decode cX6_tick 64 = .ok (.bipush 6, 2) := by decide +kernel
theorem dX6_tick_66 : decode cX6_tick 66 = .ok (.invokevirtual 53, 3) := by decide +kernel
theorem dX6_tick_69 : decode cX6_tick 69 = .ok (.aload_n 0, 1) := by decide +kernel
theorem dX6_tick_70 : decode cX6_tick 70 = .ok (.iload_n 1, 1) := by decide +kernel
theorem dX6_tick_71 : decode cX6_tick 71 = .ok (.invokevirtual 97, 3) := by decide +kernel
theorem dX6_tick_74 : decode cX6_tick 74 = .ok (.invokevirtual 100, 3) := by decide +kernel
theorem dX6_tick_77 : decode cX6_tick 77 = .ok (.istore_n 2, 1) := by decide +kernel
theorem dX6_tick_78 : decode cX6_tick 78 = .ok (.aload_n 0, 1) := by decide +kernel
theorem dX6_tick_79 : decode cX6_tick 79 = .ok (.getfield 7, 3) := by decide +kernel
theorem dX6_tick_82 : decode cX6_tick 82 = .ok (.iload_n 1, 1) := by decide +kernel
theorem dX6_tick_83 : decode cX6_tick 83 = .ok (.bipush 6, 2) := by decide +kernel
theorem dX6_tick_85 : decode cX6_tick 85 = .ok (.invokestatic 45, 3) := by decide +kernel
theorem dX6_tick_88 : decode cX6_tick 88 = .ok (.dup2, 1) := by decide +kernel
theorem dX6_tick_89 : decode cX6_tick 89 = .ok (.iaload, 1) := by decide +kernel
theorem dX6_tick_90 : decode cX6_tick 90 = .ok (.iload_n 2, 1) := by decide +kernel
theorem dX6_tick_91 : decode cX6_tick 91 = .ok (.iadd, 1) := by decide +kernel
theorem dX6_tick_92 : decode cX6_tick 92 = .ok (.iastore, 1) := by decide +kernel
theorem dX6_tick_93 : decode cX6_tick 93 = .ok (.aload_n 0, 1) := by decide +kernel
theorem dX6_tick_94 : decode cX6_tick 94 = .ok (.getfield 7, 3) := by decide +kernel
theorem dX6_tick_97 : decode cX6_tick 97 = .ok (.iconst 2, 1) := by decide +kernel
theorem dX6_tick_98 : decode cX6_tick 98 = .ok (.dup2, 1) := by decide +kernel
theorem dX6_tick_99 : decode cX6_tick 99 = .ok (.iaload, 1) := by decide +kernel
theorem dX6_tick_100 : decode cX6_tick 100 = .ok (.iload_n 2, 1) := by decide +kernel
theorem dX6_tick_101 : decode cX6_tick 101 = .ok (.invokestatic 83, 3) := by decide +kernel
theorem dX6_tick_104 : decode cX6_tick 104 = .ok (.iadd, 1) := by decide +kernel
theorem dX6_tick_105 : decode cX6_tick 105 = .ok (.iastore, 1) := by decide +kernel
theorem dX6_tick_106 : decode cX6_tick 106 = .ok (.aload_n 0, 1) := by decide +kernel
theorem dX6_tick_107 : decode cX6_tick 107 = .ok (.iload_n 1, 1) := by decide +kernel
theorem dX6_tick_108 : decode cX6_tick 108 = .ok (.invokevirtual 103, 3) := by decide +kernel
theorem dX6_tick_111 : decode cX6_tick 111 = .ok (.iload_n 2, 1) := by decide +kernel
theorem dX6_tick_112 : decode cX6_tick 112 = .ok (.invokestatic 83, 3) := by decide +kernel
theorem dX6_tick_115 : decode cX6_tick 115 = .ok (.ireturn, 1) := by decide +kernel
set_option maxRecDepth 20000 in
theorem ggX6_passes_X6_tick : GoodIn wsX6_passes wsX6_tick := goodIn_r _ [7, 1, 8, 9, 10, 11, 6, 12, 13, 14, 15, 16, 17, 18, 19, 20, 21, 22, 23, 24, 25, 26, 27, 28, 29, 30, 31, 32, 33, 34, 35, 36, 37, 38, 39, 40, 41, 42, 43, 44, 45, 46, 47, 48, 49, 50, 51, 52, 53, 54, 55, 56, 57, 58, 59, 60, 61, 62, 63, 64, 65, 66, 67, 68, 69, 70, 71, 72, 73, 74, 75, 76, 77, 78, 79, 80, 81, 82, 83, 84, 85, 86, 87, 88, 89, 90] (by decide +kernel) (by decide +kernel)
set_option maxRecDepth 20000 in
theorem gX6_passes_X6_tick : GoodIn wsX6_passes (wsV RX6 108 RX6 yX6_tick wsX6_tick) := goodIn_app (goodIn_of _ (by decide +kernel)) ggX6_passes_X6_tick
theorem dX6_passes_0 : decode cX6_passes 0 = .ok (.aload_n 0, 1) := by decide +kernel
theorem dX6_passes_1 : decode cX6_passes 1 = .ok (.getfield 7, 3) := by decide +kernel
theorem dX6_passes_4 : decode cX6_passes 4 = .ok (.iconst 0, 1) := by decide +kernel
theorem dX6_passes_5 : decode cX6_passes 5 = .ok (.iaload, 1) := by decide +kernel
theorem dX6_passes_6 : decode cX6_passes 6 = .ok (.iload_n 1, 1) := by decide +kernel
theorem dX6_passes_7 : decode cX6_passes 7 = .ok (.iadd, 1) := by decide +kernel
theorem dX6_passes_8 : decode cX6_passes 8 = .ok (.ldc 107, 2) := by decide +kernel
theorem dX6_passes_10 : decode cX6_passes 10 = .ok (.if_icmp .le 6, 3) := by decide +kernel
theorem dX6_passes_13 : decode cX6_passes 13 = .ok (.bipush (-3), 2) := by decide +kernel
theorem dX6_passes_15 : decode cX6_passes 15 = .ok (.ireturn, 1) := by decide +kernel
theorem dX6_passes_16 : decode cX6_passes 16 = .ok (.iconst 0, 1) := by decide +kernel
theorem dX6_passes_17 : decode cX6_passes 17 = .ok (.istore_n 2, 1) := by decide +kernel
theorem dX6_passes_18 : decode cX6_passes 18 = .ok (.iconst 0, 1) := by decide +kernel
theorem dX6_passes_19 : decode cX6_passes 19 = .ok (.istore_n 3, 1) := by decide +kernel
theorem dX6_passes_20 : decode cX6_passes 20 = .ok (.iload_n 3, 1) := by decide +kernel
theorem dX6_passes_21 : decode cX6_passes 21 = .ok (.iload_n 1, 1) := by decide +kernel
theorem dX6_passes_22 : decode cX6_passes 22 = .ok (.if_icmp .ge 33, 3) := by decide +kernel
theorem dX6_passes_25 : decode cX6_passes 25 = .ok (.aload_n 0, 1) := by decide +kernel
theorem dX6_passes_26 : decode cX6_passes 26 = .ok (.iconst 0, 1) := by decide +kernel
theorem dX6_passes_27 : decode cX6_passes 27 = .ok (.invokevirtual 108, 3) := by decide +kernel
theorem dX6_passes_30 : decode cX6_passes 30 = .ok (.aload_n 0, 1) := by decide +kernel
theorem dX6_passes_31 : decode cX6_passes 31 = .ok (.iconst 1, 1) := by decide +kernel
theorem dX6_passes_32 : decode cX6_passes 32 = .ok (.invokevirtual 108, 3) := by decide +kernel
theorem dX6_passes_35 : decode cX6_passes 35 = .ok (.iadd, 1) := by decide +kernel
theorem dX6_passes_36 : decode cX6_passes 36 = .ok (.aload_n 0, 1) := by decide +kernel
theorem dX6_passes_37 : decode cX6_passes 37 = .ok (.iconst 2, 1) := by decide +kernel
theorem dX6_passes_38 : decode cX6_passes 38 = .ok (.invokevirtual 108, 3) := by decide +kernel
theorem dX6_passes_41 : decode cX6_passes 41 = .ok (.iadd, 1) := by decide +kernel
theorem dX6_passes_42 : decode cX6_passes 42 = .ok (.aload_n 0, 1) := by decide +kernel
theorem dX6_passes_43 : decode cX6_passes 43 = .ok (.iconst 3, 1) := by decide +kernel
theorem dX6_passes_44 : decode cX6_passes 44 = .ok (.invokevirtual 108, 3) := by decide +kernel
theorem dX6_passes_47 : decode cX6_passes 47 = .ok (.iadd, 1) := by decide +kernel
theorem dX6_passes_48 : decode cX6_passes 48 = .ok (.istore_n 2, 1) := by decide +kernel
theorem dX6_passes_49 : decode cX6_passes 49 = .ok (.iinc 3 1, 3) := by decide +kernel
theorem dX6_passes_52 : decode cX6_passes 52 = .ok (.goto (-32), 3) := by decide +kernel
theorem dX6_passes_55 : decode cX6_passes 55 = .ok (.aload_n 0, 1) := by decide +kernel
theorem dX6_passes_56 : decode cX6_passes 56 = .ok (.getfield 7, 3) := by decide +kernel
theorem dX6_passes_59 : decode cX6_passes 59 = .ok (.iconst 0, 1) := by decide +kernel
theorem dX6_passes_60 : decode cX6_passes 60 = .ok (.dup2, 1) := by decide +kernel
theorem dX6_passes_61 : decode cX6_passes 61 = .ok (.iaload, 1) := by decide +kernel
theorem dX6_passes_62 : decode cX6_passes 62 = .ok (.iload_n 1, 1) := by decide +kernel
theorem dX6_passes_63 : decode cX6_passes 63 = .ok (.iadd, 1) := by decide +kernel
theorem dX6_passes_64 : decode cX6_passes 64 = .ok (.iastore, 1) := by decide +kernel
theorem dX6_passes_65 : decode cX6_passes 65 = .ok (.iload_n 2, 1) := by decide +kernel
theorem dX6_passes_66 : decode cX6_passes 66 = .ok (.ireturn, 1) := by decide +kernel
set_option maxRecDepth 20000 in
theorem ggX6_turnsOn_X6_isOn : GoodIn wsX6_turnsOn wsX6_isOn := goodIn_r _ [6, 7, 8, 9, 5, 10, 1, 11, 12, 13, 28, 29, 30, 31, 32, 33, 34, 35, 36, 37, 38, 39, 40, 41, 42, 43, 44, 45, 46, 47, 48, 49] (by decide +kernel) (by decide +kernel)
set_option maxRecDepth 20000 in
theorem gX6_turnsOn_X6_isOn : GoodIn wsX6_turnsOn (wsV RX6 62 RX6 yX6_isOn wsX6_isOn) := goodIn_app (goodIn_of _ (by decide +kernel)) ggX6_turnsOn_X6_isOn
set_option maxRecDepth 20000 in
theorem ggX6_turnsOn_X6_of : GoodIn wsX6_turnsOn wsX6_of := goodIn_r _ [10, 1, 11, 12, 5, 13, 28, 29, 30, 31, 32, 33, 34, 35, 36, 37, 38, 39, 40, 41, 42, 43, 44, 45, 46, 47, 48, 49] (by decide +kernel) (by decide +kernel)
set_option maxRecDepth 20000 in
theorem gX6_turnsOn_X6_of : GoodIn wsX6_turnsOn (wsV RX6 53 RX6 yX6_of wsX6_of) := goodIn_app (goodIn_of _ (by decide +kernel)) ggX6_turnsOn_X6_of
set_option maxRecDepth 20000 in
theorem ggX6_turnsOn_X6_at : GoodIn wsX6_turnsOn wsX6_at := goodIn_r _ [13] (by decide +kernel) (by decide +kernel)
set_option maxRecDepth 20000 in
theorem gX6_turnsOn_X6_at : GoodIn wsX6_turnsOn (va_wsS RX6 45 yX6_at wsX6_at) := goodIn_app (goodIn_of _ (by decide +kernel)) ggX6_turnsOn_X6_at
set_option maxRecDepth 20000 in
theorem ggX6_turnsOn_X6_charges : GoodIn wsX6_turnsOn wsX6_charges := goodIn_r _ [17, 18, 19, 1, 2, 3, 4, 5, 6, 7, 8, 9, 10, 11, 12, 13, 20, 21, 22, 23, 24, 25, 26, 27, 28, 29, 30, 31, 32, 33, 34, 35, 36, 37, 38, 39, 40, 41, 42, 43, 44, 45, 46, 47, 48, 49] (by decide +kernel) (by decide +kernel)
set_option maxRecDepth 20000 in
theorem gX6_turnsOn_X6_charges : GoodIn wsX6_turnsOn (wsV RX6 103 RX6 yX6_charges wsX6_charges) := goodIn_app (goodIn_of _ (by decide +kernel)) ggX6_turnsOn_X6_charges
theorem dX6_turnsOn_0 : decode cX6_turnsOn 0 = .ok (.aload_n 0, 1) := by decide +kernel
theorem dX6_turnsOn_1 : decode cX6_turnsOn 1 = .ok (.iload_n 1, 1) := by decide +kernel
theorem dX6_turnsOn_2 : decode cX6_turnsOn 2 = .ok (.invokevirtual 62, 3) := by decide +kernel
theorem dX6_turnsOn_5 : decode cX6_turnsOn 5 = .ok (.ifCond .eq 17, 3) := by decide +kernel
theorem dX6_turnsOn_8 : decode cX6_turnsOn 8 = .ok (.aload_n 0, 1) := by decide +kernel
theorem dX6_turnsOn_9 : decode cX6_turnsOn 9 = .ok (.iload_n 1, 1) := by decide +kernel
theorem dX6_turnsOn_10 : decode cX6_turnsOn 10 = .ok (.bipush 8, 2) := by decide +kernel
theorem dX6_turnsOn_12 : decode cX6_turnsOn 12 = .ok (.invokevirtual 53, 3) := by decide +kernel
theorem dX6_turnsOn_15 : decode cX6_turnsOn 15 = .ok (.iload_n 2, 1) := by decide +kernel
theorem dX6_turnsOn_16 : decode cX6_turnsOn 16 = .ok (.if_icmp .ne 6, 3) := by decide +kernel
theorem dX6_turnsOn_19 : decode cX6_turnsOn 19 = .ok (.bipush (-5), 2) := by decide +kernel
theorem dX6_turnsOn_21 : decode cX6_turnsOn 21 = .ok (.ireturn, 1) := by decide +kernel
theorem dX6_turnsOn_22 : decode cX6_turnsOn 22 = .ok (.aload_n 0, 1) := by decide +kernel
theorem dX6_turnsOn_23 : decode cX6_turnsOn 23 = .ok (.getfield 7, 3) := by decide +kernel
theorem dX6_turnsOn_26 : decode cX6_turnsOn 26 = .ok (.iload_n 1, 1) := by decide +kernel
theorem dX6_turnsOn_27 : decode cX6_turnsOn 27 = .ok (.bipush 9, 2) := by decide +kernel
theorem dX6_turnsOn_29 : decode cX6_turnsOn 29 = .ok (.invokestatic 45, 3) := by decide +kernel
theorem dX6_turnsOn_32 : decode cX6_turnsOn 32 = .ok (.iconst 1, 1) := by decide +kernel
theorem dX6_turnsOn_33 : decode cX6_turnsOn 33 = .ok (.iastore, 1) := by decide +kernel
theorem dX6_turnsOn_34 : decode cX6_turnsOn 34 = .ok (.aload_n 0, 1) := by decide +kernel
theorem dX6_turnsOn_35 : decode cX6_turnsOn 35 = .ok (.getfield 7, 3) := by decide +kernel
theorem dX6_turnsOn_38 : decode cX6_turnsOn 38 = .ok (.iload_n 1, 1) := by decide +kernel
theorem dX6_turnsOn_39 : decode cX6_turnsOn 39 = .ok (.bipush 8, 2) := by decide +kernel
theorem dX6_turnsOn_41 : decode cX6_turnsOn 41 = .ok (.invokestatic 45, 3) := by decide +kernel
theorem dX6_turnsOn_44 : decode cX6_turnsOn 44 = .ok (.iload_n 2, 1) := by decide +kernel
theorem dX6_turnsOn_45 : decode cX6_turnsOn 45 = .ok (.iastore, 1) := by decide +kernel
theorem dX6_turnsOn_46 : decode cX6_turnsOn 46 = .ok (.aload_n 0, 1) := by decide +kernel
theorem dX6_turnsOn_47 : decode cX6_turnsOn 47 = .ok (.iload_n 1, 1) := by decide +kernel
theorem dX6_turnsOn_48 : decode cX6_turnsOn 48 = .ok (.invokevirtual 103, 3) := by decide +kernel
theorem dX6_turnsOn_51 : decode cX6_turnsOn 51 = .ok (.aload_n 0, 1) := by decide +kernel
theorem dX6_turnsOn_52 : decode cX6_turnsOn 52 = .ok (.iload_n 1, 1) := by decide +kernel
theorem dX6_turnsOn_53 : decode cX6_turnsOn 53 = .ok (.bipush 7, 2) := by decide +kernel
theorem dX6_turnsOn_55 : decode cX6_turnsOn 55 = .ok (.invokevirtual 53, 3) := by decide +kernel
theorem dX6_turnsOn_58 : decode cX6_turnsOn 58 = .ok (.ireturn, 1) := by decide +kernel
set_option maxRecDepth 20000 in
theorem ggX6_turnsOff_X6_isOn : GoodIn wsX6_turnsOff wsX6_isOn := goodIn_r _ [6, 7, 8, 9, 5, 10, 1, 11, 12, 13, 14, 15, 16, 17, 18, 19, 20, 21, 22, 23, 24, 25, 26, 27, 28, 29, 30, 31, 32, 33, 34, 35] (by decide +kernel) (by decide +kernel)
set_option maxRecDepth 20000 in
theorem gX6_turnsOff_X6_isOn : GoodIn wsX6_turnsOff (wsV RX6 62 RX6 yX6_isOn wsX6_isOn) := goodIn_app (goodIn_of _ (by decide +kernel)) ggX6_turnsOff_X6_isOn
set_option maxRecDepth 20000 in
theorem ggX6_turnsOff_X6_at : GoodIn wsX6_turnsOff wsX6_at := goodIn_r _ [13] (by decide +kernel) (by decide +kernel)
set_option maxRecDepth 20000 in
theorem gX6_turnsOff_X6_at : GoodIn wsX6_turnsOff (va_wsS RX6 45 yX6_at wsX6_at) := goodIn_app (goodIn_of _ (by decide +kernel)) ggX6_turnsOff_X6_at
set_option maxRecDepth 20000 in
theorem ggX6_turnsOff_X6_of : GoodIn wsX6_turnsOff wsX6_of := goodIn_r _ [10, 1, 11, 12, 5, 13, 14, 15, 16, 17, 18, 19, 20, 21, 22, 23, 24, 25, 26, 27, 28, 29, 30, 31, 32, 33, 34, 35] (by decide +kernel) (by decide +kernel)
set_option maxRecDepth 20000 in
theorem gX6_turnsOff_X6_of : GoodIn wsX6_turnsOff (wsV RX6 53 RX6 yX6_of wsX6_of) := goodIn_app (goodIn_of _ (by decide +kernel)) ggX6_turnsOff_X6_of
theorem dX6_turnsOff_0 : decode cX6_turnsOff 0 = .ok (.aload_n 0, 1) := by decide +kernel
theorem dX6_turnsOff_1 : decode cX6_turnsOff 1 = .ok (.iload_n 1, 1) := by decide +kernel
theorem dX6_turnsOff_2 : decode cX6_turnsOff 2 = .ok (.invokevirtual 62, 3) := by decide +kernel
theorem dX6_turnsOff_5 : decode cX6_turnsOff 5 = .ok (.ifCond .ne 6, 3) := by decide +kernel
theorem dX6_turnsOff_8 : decode cX6_turnsOff 8 = .ok (.bipush (-5), 2) := by decide +kernel
theorem dX6_turnsOff_10 : decode cX6_turnsOff 10 = .ok (.ireturn, 1) := by decide +kernel
theorem dX6_turnsOff_11 : decode cX6_turnsOff 11 = .ok (.aload_n 0, 1) := by decide +kernel
theorem dX6_turnsOff_12 : decode cX6_turnsOff 12 = .ok (.getfield 7, 3) := by decide +kernel
theorem dX6_turnsOff_15 : decode cX6_turnsOff 15 = .ok (.iload_n 1, 1) := by decide +kernel
theorem dX6_turnsOff_16 : decode cX6_turnsOff 16 = .ok (.bipush 9, 2) := by decide +kernel
theorem dX6_turnsOff_18 : decode cX6_turnsOff 18 = .ok (.invokestatic 45, 3) := by decide +kernel
theorem dX6_turnsOff_21 : decode cX6_turnsOff 21 = .ok (.iconst 0, 1) := by decide +kernel
theorem dX6_turnsOff_22 : decode cX6_turnsOff 22 = .ok (.iastore, 1) := by decide +kernel
theorem dX6_turnsOff_23 : decode cX6_turnsOff 23 = .ok (.aload_n 0, 1) := by decide +kernel
theorem dX6_turnsOff_24 : decode cX6_turnsOff 24 = .ok (.iload_n 1, 1) := by decide +kernel
theorem dX6_turnsOff_25 : decode cX6_turnsOff 25 = .ok (.bipush 7, 2) := by decide +kernel
theorem dX6_turnsOff_27 : decode cX6_turnsOff 27 = .ok (.invokevirtual 53, 3) := by decide +kernel
theorem dX6_turnsOff_30 : decode cX6_turnsOff 30 = .ok (.ireturn, 1) := by decide +kernel
set_option maxRecDepth 20000 in
theorem ggX6_lays_X6_of : GoodIn wsX6_lays wsX6_of := goodIn_r _ [6, 1, 7, 8, 5, 9, 28, 29, 30, 31, 32, 33, 34, 35, 36, 37, 38, 39, 40, 41, 42, 43, 44, 45, 46, 47, 48, 49] (by decide +kernel) (by decide +kernel)
set_option maxRecDepth 20000 in
theorem gX6_lays_X6_of : GoodIn wsX6_lays (wsV RX6 53 RX6 yX6_of wsX6_of) := goodIn_app (goodIn_of _ (by decide +kernel)) ggX6_lays_X6_of
set_option maxRecDepth 20000 in
theorem ggX6_lays_X6_at : GoodIn wsX6_lays wsX6_at := goodIn_r _ [9] (by decide +kernel) (by decide +kernel)
set_option maxRecDepth 20000 in
theorem gX6_lays_X6_at : GoodIn wsX6_lays (va_wsS RX6 45 yX6_at wsX6_at) := goodIn_app (goodIn_of _ (by decide +kernel)) ggX6_lays_X6_at
set_option maxRecDepth 20000 in
theorem ggX6_lays_X6_charges : GoodIn wsX6_lays wsX6_charges := goodIn_r _ [13, 14, 15, 1, 16, 17, 18, 5, 19, 2, 3, 4, 6, 7, 8, 9, 20, 21, 22, 23, 24, 25, 26, 27, 28, 29, 30, 31, 32, 33, 34, 35, 36, 37, 38, 39, 40, 41, 42, 43, 44, 45, 46, 47, 48, 49] (by decide +kernel) (by decide +kernel)
set_option maxRecDepth 20000 in
theorem gX6_lays_X6_charges : GoodIn wsX6_lays (wsV RX6 103 RX6 yX6_charges wsX6_charges) := goodIn_app (goodIn_of _ (by decide +kernel)) ggX6_lays_X6_charges
theorem dX6_lays_0 : decode cX6_lays 0 = .ok (.aload_n 0, 1) := by decide +kernel
theorem dX6_lays_1 : decode cX6_lays 1 = .ok (.iload_n 1, 1) := by decide +kernel
theorem dX6_lays_2 : decode cX6_lays 2 = .ok (.iload_n 2, 1) := by decide +kernel
theorem dX6_lays_3 : decode cX6_lays 3 = .ok (.invokevirtual 53, 3) := by decide +kernel
theorem dX6_lays_6 : decode cX6_lays 6 = .ok (.istore 4, 2) := by decide +kernel
theorem dX6_lays_8 : decode cX6_lays 8 = .ok (.iload 4, 2) := by decide +kernel
theorem dX6_lays_10 : decode cX6_lays 10 = .ok (.iload_n 3, 1) := by decide +kernel
theorem dX6_lays_11 : decode cX6_lays 11 = .ok (.if_icmp .ne 6, 3) := by decide +kernel
theorem dX6_lays_14 : decode cX6_lays 14 = .ok (.bipush (-5), 2) := by decide +kernel
theorem dX6_lays_16 : decode cX6_lays 16 = .ok (.ireturn, 1) := by decide +kernel
theorem dX6_lays_17 : decode cX6_lays 17 = .ok (.aload_n 0, 1) := by decide +kernel
theorem dX6_lays_18 : decode cX6_lays 18 = .ok (.getfield 7, 3) := by decide +kernel
theorem dX6_lays_21 : decode cX6_lays 21 = .ok (.iload_n 1, 1) := by decide +kernel
theorem dX6_lays_22 : decode cX6_lays 22 = .ok (.iload_n 2, 1) := by decide +kernel
theorem dX6_lays_23 : decode cX6_lays 23 = .ok (.invokestatic 45, 3) := by decide +kernel
theorem dX6_lays_26 : decode cX6_lays 26 = .ok (.iload_n 3, 1) := by decide +kernel
theorem dX6_lays_27 : decode cX6_lays 27 = .ok (.iastore, 1) := by decide +kernel
theorem dX6_lays_28 : decode cX6_lays 28 = .ok (.aload_n 0, 1) := by decide +kernel
theorem dX6_lays_29 : decode cX6_lays 29 = .ok (.iload_n 1, 1) := by decide +kernel
theorem dX6_lays_30 : decode cX6_lays 30 = .ok (.invokevirtual 103, 3) := by decide +kernel
theorem dX6_lays_33 : decode cX6_lays 33 = .ok (.iload 4, 2) := by decide +kernel
theorem dX6_lays_35 : decode cX6_lays 35 = .ok (.ireturn, 1) := by decide +kernel
theorem dX6_half_0 : decode cX6_half 0 = .ok (.lload_n 0, 1) := by decide +kernel
theorem dX6_half_1 : decode cX6_half 1 = .ok (.lconst 0, 1) := by decide +kernel
theorem dX6_half_2 : decode cX6_half 2 = .ok (.lcmp, 1) := by decide +kernel
theorem dX6_half_3 : decode cX6_half 3 = .ok (.ifCond .ge 14, 3) := by decide +kernel
theorem dX6_half_6 : decode cX6_half 6 = .ok (.lconst 1, 1) := by decide +kernel
theorem dX6_half_7 : decode cX6_half 7 = .ok (.lload_n 0, 1) := by decide +kernel
theorem dX6_half_8 : decode cX6_half 8 = .ok (.lsub, 1) := by decide +kernel
theorem dX6_half_9 : decode cX6_half 9 = .ok (.ldc2_w 88, 3) := by decide +kernel
theorem dX6_half_12 : decode cX6_half 12 = .ok (.ldiv, 1) := by decide +kernel
theorem dX6_half_13 : decode cX6_half 13 = .ok (.lneg, 1) := by decide +kernel
theorem dX6_half_14 : decode cX6_half 14 = .ok (.goto 8, 3) := by decide +kernel
theorem dX6_half_17 : decode cX6_half 17 = .ok (.lload_n 0, 1) := by decide +kernel
theorem dX6_half_18 : decode cX6_half 18 = .ok (.ldc2_w 88, 3) := by decide +kernel
theorem dX6_half_21 : decode cX6_half 21 = .ok (.ldiv, 1) := by decide +kernel
theorem dX6_half_22 : decode cX6_half 22 = .ok (.lreturn, 1) := by decide +kernel
