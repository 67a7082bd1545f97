theorem dX3_init_0 : decode cX3_init 0 = .ok (.aload_n 0, 1) := by decide +kernel
theorem dX3_init_1 : decode cX3_init 1 = .ok (.invokespecial 3, 3) := by decide +kernel
theorem dX3_init_4 : decode cX3_init 4 = .ok (.aload_n 0, 1) := by decide +kernel
theorem dX3_init_5 : decode cX3_init 5 = .ok (.bipush 60, 2) := by decide +kernel
theorem dX3_init_7 : decode cX3_init 7 = .ok (.newarray .char, 2) := by decide +kernel
theorem dX3_init_9 : decode cX3_init 9 = .ok (.putfield 9, 3) := by decide +kernel
theorem dX3_init_12 : decode cX3_init 12 = .ok (.return_, 1) := by decide +kernel
theorem dX3_append_0 : decode cX3_append 0 = .ok (.aload_n 0, 1) := by decide +kernel
theorem dX3_append_1 : decode cX3_append 1 = .ok (.getfield 15, 3) := by decide +kernel
theorem dX3_append_4 : decode cX3_append 4 = .ok (.bipush 60, 2) := by decide +kernel
theorem dX3_append_6 : decode cX3_append 6 = .ok (.if_icmp .lt 6, 3) := by decide +kernel
theorem dX3_append_9 : decode cX3_append 9 = .ok (.bipush (-3), 2) := by decide +kernel
theorem dX3_append_11 : decode cX3_append 11 = .ok (.ireturn, 1) := by decide +kernel
theorem dX3_append_12 : decode cX3_append 12 = .ok (.aload_n 0, 1) := by decide +kernel
theorem dX3_append_13 : decode cX3_append 13 = .ok (.getfield 9, 3) := by decide +kernel
theorem dX3_append_16 : decode cX3_append 16 = .ok (.aload_n 0, 1) := by decide +kernel
theorem dX3_append_17 : decode cX3_append 17 = .ok (.getfield 15, 3) := by decide +kernel
theorem dX3_append_20 : decode cX3_append 20 = .ok (.iload_n 1, 1) := by decide +kernel
theorem dX3_append_21 : decode cX3_append 21 = .ok (.castore, 1) := by decide +kernel
theorem dX3_append_22 : decode cX3_append 22 = .ok (.aload_n 0, 1) := by decide +kernel
theorem dX3_append_23 : decode cX3_append 23 = .ok (.dup, 1) := by decide +kernel
theorem dX3_append_24 : decode cX3_append 24 = .ok (.getfield 15, 3) := by decide +kernel
theorem dX3_append_27 : decode cX3_append 27 = .ok (.iconst 1, 1) := by decide +kernel
theorem dX3_append_28 : decode cX3_append 28 = .ok (.iadd, 1) := by decide +kernel
theorem dX3_append_29 : decode cX3_append 29 = .ok (.putfield 15, 3) := by decide +kernel
theorem dX3_append_32 : decode cX3_append 32 = .ok (.aload_n 0, 1) := by decide +kernel
theorem dX3_append_33 : decode cX3_append 33 = .ok (.getfield 15, 3) := by decide +kernel
theorem dX3_append_36 : decode cX3_append 36 = .ok (.ireturn, 1) := by decide +kernel
theorem dX3_empty_0 : decode cX3_empty 0 = .ok (.aload_n 0, 1) := by decide +kernel
theorem dX3_empty_1 : decode cX3_empty 1 = .ok (.getfield 15, 3) := by decide +kernel
theorem dX3_empty_4 : decode cX3_empty 4 = .ok (.istore_n 1, 1) := by decide +kernel
theorem dX3_empty_5 : decode cX3_empty 5 = .ok (.aload_n 0, 1) := by decide +kernel
theorem dX3_empty_6 : decode cX3_empty 6 = .ok (.iconst 0, 1) := by decide +kernel
theorem dX3_empty_7 : decode cX3_empty 7 = .ok (.putfield 15, 3) := by decide +kernel
theorem dX3_empty_10 : decode cX3_empty 10 = .ok (.iload_n 1, 1) := by decide +kernel
theorem dX3_empty_11 : decode cX3_empty 11 = .ok (.ireturn, 1) := by decide +kernel
theorem dX3_signAt_0 : decode cX3_signAt 0 = .ok (.iload_n 1, 1) := by decide +kernel
theorem dX3_signAt_1 : decode cX3_signAt 1 = .ok (.ifCond .lt 20, 3) := by decide +kernel
theorem dX3_signAt_4 : decode cX3_signAt 4 = .ok (.iload_n 1, 1) := by decide +kernel
theorem dX3_signAt_5 : decode cX3_signAt 5 = .ok (.aload_n 0, 1) := by decide +kernel
theorem dX3_signAt_6 : decode cX3_signAt 6 = .ok (.getfield 15, 3) := by decide +kernel
theorem dX3_signAt_9 : decode cX3_signAt 9 = .ok (.if_icmp .ge 12, 3) := by decide +kernel
theorem dX3_signAt_12 : decode cX3_signAt 12 = .ok (.aload_n 0, 1) := by decide +kernel
theorem dX3_signAt_13 : decode cX3_signAt 13 = .ok (.getfield 9, 3) := by decide +kernel
theorem dX3_signAt_16 : decode cX3_signAt 16 = .ok (.iload_n 1, 1) := by decide +kernel
theorem dX3_signAt_17 : decode cX3_signAt 17 = .ok (.caload, 1) := by decide +kernel
theorem dX3_signAt_18 : decode cX3_signAt 18 = .ok (.goto 4, 3) := by decide +kernel
theorem dX3_signAt_21 : decode cX3_signAt 21 = .ok (.iconst 0, 1) := by decide +kernel
theorem dX3_signAt_22 : decode cX3_signAt 22 = .ok (.ireturn, 1) := by decide +kernel
set_option maxRecDepth 20000 in
theorem ggX4_init_X3_init : GoodIn wsX4_init wsX3_init := goodIn_r _ [13, 14, 2, 3, 15, 16, 17, 18] (by decide +kernel) (by decide +kernel)
set_option maxRecDepth 20000 in
theorem gX4_init_X3_init_n11 : GoodIn wsX4_init (wsX3_init) := ggX4_init_X3_init
theorem dX4_init_0 : decode cX4_init 0 = .ok (.aload_n 0, 1) := by decide +kernel
theorem dX4_init_1 : decode cX4_init 1 = .ok (.invokespecial 3, 3) := by decide +kernel
theorem dX4_init_4 : decode cX4_init 4 = .ok (.aload_n 0, 1) := by decide +kernel
theorem dX4_init_5 : decode cX4_init 5 = .ok (.new 9, 3) := by decide +kernel
theorem dX4_init_8 : decode cX4_init 8 = .ok (.dup, 1) := by decide +kernel
theorem dX4_init_9 : decode cX4_init 9 = .ok (.invokespecial 11, 3) := by decide +kernel
theorem dX4_init_12 : decode cX4_init 12 = .ok (.putfield 12, 3) := by decide +kernel
theorem dX4_init_15 : decode cX4_init 15 = .ok (.aload_n 0, 1) := by decide +kernel
theorem dX4_init_16 : decode cX4_init 16 = .ok (.bipush 20, 2) := by decide +kernel
theorem dX4_init_18 : decode cX4_init 18 = .ok (.newarray .int, 2) := by decide +kernel
theorem dX4_init_20 : decode cX4_init 20 = .ok (.putfield 18, 3) := by decide +kernel
theorem dX4_init_23 : decode cX4_init 23 = .ok (.aload_n 0, 1) := by decide +kernel
theorem dX4_init_24 : decode cX4_init 24 = .ok (.bipush 20, 2) := by decide +kernel
theorem dX4_init_26 : decode cX4_init 26 = .ok (.newarray .int, 2) := by decide +kernel
theorem dX4_init_28 : decode cX4_init 28 = .ok (.putfield 22, 3) := by decide +kernel
theorem dX4_init_31 : decode cX4_init 31 = .ok (.aload_n 0, 1) := by decide +kernel
theorem dX4_init_32 : decode cX4_init 32 = .ok (.bipush 20, 2) := by decide +kernel
theorem dX4_init_34 : decode cX4_init 34 = .ok (.newarray .int, 2) := by decide +kernel
theorem dX4_init_36 : decode cX4_init 36 = .ok (.putfield 25, 3) := by decide +kernel
theorem dX4_init_39 : decode cX4_init 39 = .ok (.return_, 1) := by decide +kernel
set_option maxRecDepth 20000 in
theorem ggX4_kindOf_X4_isThing : GoodIn wsX4_kindOf wsX4_isThing := goodIn_r _ [6, 7, 8, 9, 10, 11, 12, 13, 14, 15] (by decide +kernel) (by decide +kernel)
set_option maxRecDepth 20000 in
theorem gX4_kindOf_X4_isThing : GoodIn wsX4_kindOf (wsV RX4 28 RX4 yX4_isThing wsX4_isThing) := goodIn_app (goodIn_of _ (by decide +kernel)) ggX4_kindOf_X4_isThing
theorem dX4_kindOf_0 : decode cX4_kindOf 0 = .ok (.aload_n 0, 1) := by decide +kernel
theorem dX4_kindOf_1 : decode cX4_kindOf 1 = .ok (.iload_n 1, 1) := by decide +kernel
theorem dX4_kindOf_2 : decode cX4_kindOf 2 = .ok (.invokevirtual 28, 3) := by decide +kernel
theorem dX4_kindOf_5 : decode cX4_kindOf 5 = .ok (.ifCond .eq 12, 3) := by decide +kernel
theorem dX4_kindOf_8 : decode cX4_kindOf 8 = .ok (.aload_n 0, 1) := by decide +kernel
theorem dX4_kindOf_9 : decode cX4_kindOf 9 = .ok (.getfield 18, 3) := by decide +kernel
theorem dX4_kindOf_12 : decode cX4_kindOf 12 = .ok (.iload_n 1, 1) := by decide +kernel
theorem dX4_kindOf_13 : decode cX4_kindOf 13 = .ok (.iaload, 1) := by decide +kernel
theorem dX4_kindOf_14 : decode cX4_kindOf 14 = .ok (.goto 4, 3) := by decide +kernel
theorem dX4_kindOf_17 : decode cX4_kindOf 17 = .ok (.iconst 0, 1) := by decide +kernel
theorem dX4_kindOf_18 : decode cX4_kindOf 18 = .ok (.ireturn, 1) := by decide +kernel
set_option maxRecDepth 20000 in
theorem ggX4_pairOf_X4_isThing : GoodIn wsX4_pairOf wsX4_isThing := goodIn_r _ [6, 7, 8, 9, 10, 11, 12, 13, 14, 15] (by decide +kernel) (by decide +kernel)
set_option maxRecDepth 20000 in
theorem gX4_pairOf_X4_isThing : GoodIn wsX4_pairOf (wsV RX4 28 RX4 yX4_isThing wsX4_isThing) := goodIn_app (goodIn_of _ (by decide +kernel)) ggX4_pairOf_X4_isThing
theorem dX4_pairOf_0 : decode cX4_pairOf 0 = .ok (.aload_n 0, 1) := by decide +kernel
theorem dX4_pairOf_1 : decode cX4_pairOf 1 = .ok (.iload_n 1, 1) := by decide +kernel
theorem dX4_pairOf_2 : decode cX4_pairOf 2 = .ok (.invokevirtual 28, 3) := by decide +kernel
theorem dX4_pairOf_5 : decode cX4_pairOf 5 = .ok (.ifCond .eq 12, 3) := by decide +kernel
theorem dX4_pairOf_8 : decode cX4_pairOf 8 = .ok (.aload_n 0, 1) := by decide +kernel
theorem dX4_pairOf_9 : decode cX4_pairOf 9 = .ok (.getfield 22, 3) := by decide +kernel
theorem dX4_pairOf_12 : decode cX4_pairOf 12 = .ok (.iload_n 1, 1) := by decide +kernel
theorem dX4_pairOf_13 : decode cX4_pairOf 13 = .ok (.iaload, 1) := by decide +kernel
theorem dX4_pairOf_14 : decode cX4_pairOf 14 = .ok (.goto 4, 3) := by decide +kernel
theorem dX4_pairOf_17 : decode cX4_pairOf 17 = .ok (.iconst 0, 1) := by decide +kernel
theorem dX4_pairOf_18 : decode cX4_pairOf 18 = .ok (.ireturn, 1) := by decide +kernel
set_option maxRecDepth 20000 in
theorem ggX4_valueOf_X4_isThing : GoodIn wsX4_valueOf wsX4_isThing := goodIn_r _ [6, 7, 8, 9, 10, 11, 12, 13, 14, 15] (by decide +kernel) (by decide +kernel)
set_option maxRecDepth 20000 in
theorem gX4_valueOf_X4_isThing : GoodIn wsX4_valueOf (wsV RX4 28 RX4 yX4_isThing wsX4_isThing) := goodIn_app (goodIn_of _ (by decide +kernel)) ggX4_valueOf_X4_isThing
theorem dX4_valueOf_0 : decode cX4_valueOf 0 = .ok (.aload_n 0, 1) := by decide +kernel
theorem dX4_valueOf_1 : decode cX4_valueOf 1 = .ok (.iload_n 1, 1) := by decide +kernel
theorem dX4_valueOf_2 : decode cX4_valueOf 2 = .ok (.invokevirtual 28, 3) := by decide +kernel
theorem dX4_valueOf_5 : decode cX4_valueOf 5 = .ok (.ifCond .eq 12, 3) := by decide +kernel
theorem dX4_valueOf_8 : decode cX4_valueOf 8 = .ok (.aload_n 0, 1) := by decide +kernel
theorem dX4_valueOf_9 : decode cX4_valueOf 9 = .ok (.getfield 25, 3) := by decide +kernel
theorem dX4_valueOf_12 : decode cX4_valueOf 12 = .ok (.iload_n 1, 1) := by decide +kernel
theorem dX4_valueOf_13 : decode cX4_valueOf 13 = .ok (.iaload, 1) := by decide +kernel
theorem dX4_valueOf_14 : decode cX4_valueOf 14 = .ok (.goto 4, 3) := by decide +kernel
theorem dX4_valueOf_17 : decode cX4_valueOf 17 = .ok (.iconst 0, 1) := by decide +kernel
theorem dX4_valueOf_18 : decode cX4_valueOf 18 = .ok (.ireturn, 1) := by decide +kernel
theorem dX4_isThing_0 : decode cX4_isThing 0 = .ok (.iload_n 1, 1) := by decide +kernel
theorem dX4_isThing_1 : decode cX4_isThing 1 = .ok (.ifCond .lt 15, 3) := by decide +kernel
theorem dX4_isThing_4 : decode cX4_isThing 4 = .ok (.iload_n 1, 1) := by decide +kernel
theorem dX4_isThing_5 : decode cX4_isThing 5 = .ok (.aload_n 0, 1) := by decide +kernel
theorem dX4_isThing_6 : decode cX4_isThing 6 = .ok (.getfield 32, 3) := by decide +kernel
theorem dX4_isThing_9 : decode cX4_isThing 9 = .ok (.if_icmp .ge 7, 3) := by decide +kernel
theorem dX4_isThing_12 : decode cX4_isThing 12 = .ok (.iconst 1, 1) := by decide +kernel
theorem dX4_isThing_13 : decode cX4_isThing 13 = .ok (.goto 4, 3) := by decide +kernel
theorem dX4_isThing_16 : decode cX4_isThing 16 = .ok (.iconst 0, 1) := by decide +kernel
theorem dX4_isThing_17 : decode cX4_isThing 17 = .ok (.ireturn, 1) := by decide +kernel
set_option maxRecDepth 20000 in
theorem ggX4_read_X3_signAt : GoodIn wsX4_read wsX3_signAt := goodIn_r _ [14, 15, 16, 53, 54] (by decide +kernel) (by decide +kernel)
set_option maxRecDepth 20000 in
theorem gX4_read_X3_signAt : GoodIn wsX4_read (wsV RX4 39 RX3 yX3_signAt wsX3_signAt) := goodIn_app (goodIn_of _ (by decide +kernel)) ggX4_read_X3_signAt
set_option maxRecDepth 20000 in
theorem ggX4_read_X4_readThing : GoodIn wsX4_read wsX4_readThing := goodIn_r _ [21, 6, 8, 22, 23, 24, 20, 25, 3, 1, 10, 11, 12, 13, 14, 15, 16, 26, 27, 28, 29, 30, 31, 32, 33, 34, 35, 36, 37, 38, 39, 40, 41, 42, 43, 44, 45, 46, 47, 48, 49, 50, 51, 52, 53, 54] (by decide +kernel) (by decide +kernel)
set_option maxRecDepth 20000 in
theorem gX4_read_X4_readThing : GoodIn wsX4_read (wsV RX4 43 RX4 yX4_readThing wsX4_readThing) := goodIn_app (goodIn_of _ (by decide +kernel)) ggX4_read_X4_readThing
set_option maxRecDepth 20000 in
theorem ggX4_read_X4_readSign : GoodIn wsX4_read wsX4_readSign := goodIn_r _ [25, 3, 1, 10, 11, 12, 13, 14, 15, 16, 45, 46, 47, 48, 49, 50, 51, 52, 53, 54] (by decide +kernel) (by decide +kernel)
set_option maxRecDepth 20000 in
theorem gX4_read_X4_readSign : GoodIn wsX4_read (wsV RX4 55 RX4 yX4_readSign wsX4_readSign) := goodIn_app (goodIn_of _ (by decide +kernel)) ggX4_read_X4_readSign
theorem dX4_read_0 : decode cX4_read 0 = .ok (.aload_n 0, 1) := by decide +kernel
theorem dX4_read_1 : decode cX4_read 1 = .ok (.iconst 0, 1) := by decide +kernel
theorem dX4_read_2 : decode cX4_read 2 = .ok (.putfield 36, 3) := by decide +kernel
theorem dX4_read_5 : decode cX4_read 5 = .ok (.aload_n 0, 1) := by decide +kernel
theorem dX4_read_6 : decode cX4_read 6 = .ok (.iconst 0, 1) := by decide +kernel
theorem dX4_read_7 : decode cX4_read 7 = .ok (.putfield 32, 3) := by decide +kernel
theorem dX4_read_10 : decode cX4_read 10 = .ok (.aload_n 0, 1) := by decide +kernel
theorem dX4_read_11 : decode cX4_read 11 = .ok (.getfield 32, 3) := by decide +kernel
theorem dX4_read_14 : decode cX4_read 14 = .ok (.bipush 20, 2) := by decide +kernel
theorem dX4_read_16 : decode cX4_read 16 = .ok (.if_icmp .ge 107, 3) := by decide +kernel
theorem dX4_read_19 : decode cX4_read 19 = .ok (.aload_n 0, 1) := by decide +kernel
theorem dX4_read_20 : decode cX4_read 20 = .ok (.getfield 12, 3) := by decide +kernel
theorem dX4_read_23 : decode cX4_read 23 = .ok (.aload_n 0, 1) := by decide +kernel
theorem dX4_read_24 : decode cX4_read 24 = .ok (.getfield 36, 3) := by decide +kernel
theorem dX4_read_27 : decode cX4_read 27 = .ok (.invokevirtual 39, 3) := by decide +kernel
theorem dX4_read_30 : decode cX4_read 30 = .ok (.istore_n 1, 1) := by decide +kernel
theorem dX4_read_31 : decode cX4_read 31 = .ok (.aload_n 0, 1) := by decide +kernel
theorem dX4_read_32 : decode cX4_read 32 = .ok (.iload_n 1, 1) := by decide +kernel
theorem dX4_read_33 : decode cX4_read 33 = .ok (.invokevirtual 43, 3) := by decide +kernel
theorem dX4_read_36 : decode cX4_read 36 = .ok (.ifCond .ne 8, 3) := by decide +kernel
theorem dX4_read_39 : decode cX4_read 39 = .ok (.aload_n 0, 1) := by decide +kernel
theorem dX4_read_40 : decode cX4_read 40 = .ok (.getfield 36, 3) := by decide +kernel
theorem dX4_read_43 : decode cX4_read 43 = .ok (.ireturn, 1) := by decide +kernel
theorem dX4_read_44 : decode cX4_read 44 = .ok (.aload_n 0, 1) := by decide +kernel
theorem dX4_read_45 : decode cX4_read 45 = .ok (.getfield 18, 3) := by decide +kernel
theorem dX4_read_48 : decode cX4_read 48 = .ok (.aload_n 0, 1) := by decide +kernel
theorem dX4_read_49 : decode cX4_read 49 = .ok (.getfield 32, 3) := by decide +kernel
theorem dX4_read_52 : decode cX4_read 52 = .ok (.iload_n 1, 1) := by decide +kernel
theorem dX4_read_53 : decode cX4_read 53 = .ok (.iastore, 1) := by decide +kernel
theorem dX4_read_54 : decode cX4_read 54 = .ok (.aload_n 0, 1) := by decide +kernel
theorem dX4_read_55 : decode cX4_read 55 = .ok (.getfield 22, 3) := by decide +kernel
theorem dX4_read_58 : decode cX4_read 58 = .ok (.aload_n 0, 1) := by decide +kernel
theorem dX4_read_59 : decode cX4_read 59 = .ok (.getfield 32, 3) := by decide +kernel
theorem dX4_read_62 : decode cX4_read 62 = .ok (.aload_n 0, 1) := by decide +kernel
theorem dX4_read_63 : decode cX4_read 63 = .ok (.getfield 46, 3) := by decide +kernel
theorem dX4_read_66 : decode cX4_read 66 = .ok (.iastore, 1) := by decide +kernel
theorem dX4_read_67 : decode cX4_read 67 = .ok (.aload_n 0, 1) := by decide +kernel
theorem dX4_read_68 : decode cX4_read 68 = .ok (.getfield 25, 3) := by decide +kernel
theorem dX4_read_71 : decode cX4_read 71 = .ok (.aload_n 0, 1) := by decide +kernel
theorem dX4_read_72 : decode cX4_read 72 = .ok (.getfield 32, 3) := by decide +kernel
theorem dX4_read_75 : decode cX4_read 75 = .ok (.aload_n 0, 1) := by decide +kernel
theorem dX4_read_76 : decode cX4_read 76 = .ok (.getfield 49, 3) := by decide +kernel
theorem dX4_read_79 : decode cX4_read 79 = .ok (.iastore, 1) := by decide +kernel
theorem dX4_read_80 : decode cX4_read 80 = .ok (.aload_n 0, 1) := by decide +kernel
theorem dX4_read_81 : decode cX4_read 81 = .ok (.dup, 1) := by decide +kernel
theorem dX4_read_82 : decode cX4_read 82 = .ok (.getfield 32, 3) := by decide +kernel
theorem dX4_read_85 : decode cX4_read 85 = .ok (.iconst 1, 1) := by decide +kernel
theorem dX4_read_86 : decode cX4_read 86 = .ok (.iadd, 1) := by decide +kernel
theorem dX4_read_87 : decode cX4_read 87 = .ok (.putfield 32, 3) := by decide +kernel
theorem dX4_read_90 : decode cX4_read 90 = .ok (.aload_n 0, 1) := by decide +kernel
theorem dX4_read_91 : decode cX4_read 91 = .ok (.getfield 36, 3) := by decide +kernel
theorem dX4_read_94 : decode cX4_read 94 = .ok (.aload_n 0, 1) := by decide +kernel
theorem dX4_read_95 : decode cX4_read 95 = .ok (.getfield 12, 3) := by decide +kernel
theorem dX4_read_98 : decode cX4_read 98 = .ok (.getfield 52, 3) := by decide +kernel
theorem dX4_read_101 : decode cX4_read 101 = .ok (.if_icmp .ne 5, 3) := by decide +kernel
theorem dX4_read_104 : decode cX4_read 104 = .ok (.iconst (-1), 1) := by decide +kernel
theorem dX4_read_105 : decode cX4_read 105 = .ok (.ireturn, 1) := by decide +kernel
theorem dX4_read_106 : decode cX4_read 106 = .ok (.aload_n 0, 1) := by decide +kernel
theorem dX4_read_107 : decode cX4_read 107 = .ok (.bipush 59, 2) := by decide +kernel
theorem dX4_read_109 : decode cX4_read 109 = .ok (.invokevirtual 55, 3) := by decide +kernel
theorem dX4_read_112 : decode cX4_read 112 = .ok (.ifCond .ne 8, 3) := by decide +kernel
theorem dX4_read_115 : decode cX4_read 115 = .ok (.aload_n 0, 1) := by decide +kernel
theorem dX4_read_116 : decode cX4_read 116 = .ok (.getfield 36, 3) := by decide +kernel
theorem dX4_read_119 : decode cX4_read 119 = .ok (.ireturn, 1) := by decide +kernel
theorem dX4_read_120 : decode cX4_read 120 = .ok (.goto (-110), 3) := by decide +kernel
theorem dX4_read_123 : decode cX4_read 123 = .ok (.aload_n 0, 1) := by decide +kernel
theorem dX4_read_124 : decode cX4_read 124 = .ok (.getfield 36, 3) := by decide +kernel
theorem dX4_read_127 : decode cX4_read 127 = .ok (.ireturn, 1) := by decide +kernel
set_option maxRecDepth 20000 in
theorem ggX4_readThing_X4_readSign : GoodIn wsX4_readThing wsX4_readSign := goodIn_r _ [7, 8, 9, 10, 11, 12, 13, 14, 15, 16, 36, 37, 38, 39, 40, 41, 42, 43, 44, 45] (by decide +kernel) (by decide +kernel)
set_option maxRecDepth 20000 in
theorem gX4_readThing_X4_readSign : GoodIn wsX4_readThing (wsV RX4 55 RX4 yX4_readSign wsX4_readSign) := goodIn_app (goodIn_of _ (by decide +kernel)) ggX4_readThing_X4_readSign
set_option maxRecDepth 20000 in
theorem ggX4_readThing_X4_readPair : GoodIn wsX4_readThing wsX4_readPair := goodIn_r _ [20, 9, 1, 21, 22, 23, 6, 24, 8, 10, 11, 12, 13, 14, 15, 16, 25, 26, 27, 36, 37, 38, 39, 40, 41, 42, 43, 44, 45] (by decide +kernel) (by decide +kernel)
set_option maxRecDepth 20000 in
theorem gX4_readThing_X4_readPair : GoodIn wsX4_readThing (wsV RX4 59 RX4 yX4_readPair wsX4_readPair) := goodIn_app (goodIn_of _ (by decide +kernel)) ggX4_readThing_X4_readPair
set_option maxRecDepth 20000 in
theorem ggX4_readThing_X4_readNumber : GoodIn wsX4_readThing wsX4_readNumber := goodIn_r _ [31, 9, 2, 21, 22, 23, 6, 24, 8, 10, 11, 12, 13, 14, 15, 16, 36, 37, 38, 39, 40, 41, 42, 43, 44, 45] (by decide +kernel) (by decide +kernel)
set_option maxRecDepth 20000 in
theorem gX4_readThing_X4_readNumber : GoodIn wsX4_readThing (wsV RX4 63 RX4 yX4_readNumber wsX4_readNumber) := goodIn_app (goodIn_of _ (by decide +kernel)) ggX4_readThing_X4_readNumber
set_option maxRecDepth 20000 in
theorem ggX4_readThing_X4_readOther : GoodIn wsX4_readThing wsX4_readOther := goodIn_r _ [35, 9, 2, 21, 22, 23, 6, 24, 8, 10, 11, 12, 13, 14, 15, 16, 25, 26, 27, 36, 37, 38, 39, 40, 41, 42, 43, 44, 45] (by decide +kernel) (by decide +kernel)
set_option maxRecDepth 20000 in
theorem gX4_readThing_X4_readOther : GoodIn wsX4_readThing (wsV RX4 67 RX4 yX4_readOther wsX4_readOther) := goodIn_app (goodIn_of _ (by decide +kernel)) ggX4_readThing_X4_readOther
theorem dX4_readThing_0 : decode cX4_readThing 0 = .ok (.aload_n 0, 1) := by decide +kernel
theorem dX4_readThing_1 : decode cX4_readThing 1 = .ok (.iconst 0, 1) := by decide +kernel
theorem dX4_readThing_2 : decode cX4_readThing 2 = .ok (.putfield 46, 3) := by decide +kernel
theorem dX4_readThing_5 : decode cX4_readThing 5 = .ok (.aload_n 0, 1) := by decide +kernel
theorem dX4_readThing_6 : decode cX4_readThing 6 = .ok (.iconst 0, 1) := by decide +kernel
theorem dX4_readThing_7 : decode cX4_readThing 7 = .ok (.putfield 49, 3) := by decide +kernel
theorem dX4_readThing_10 : decode cX4_readThing 10 = .ok (.iload_n 1, 1) := by decide +kernel
theorem dX4_readThing_11 : decode cX4_readThing 11 = .ok (.lookupswitch 207 #[(46, 182), (98, 49), (99, 153), (100, 112), (111, 90)], 49) := by decide +kernel
theorem dX4_readThing_60 : decode cX4_readThing 60 = .ok (.aload_n 0, 1) := by decide +kernel
theorem dX4_readThing_61 : decode cX4_readThing 61 = .ok (.bipush 98, 2) := by decide +kernel
theorem dX4_readThing_63 : decode cX4_readThing 63 = .ok (.invokevirtual 55, 3) := by decide +kernel
theorem dX4_readThing_66 : decode cX4_readThing 66 = .ok (.ifCond .eq 33, 3) := by decide +kernel
theorem dX4_readThing_69 : decode cX4_readThing 69 = .ok (.aload_n 0, 1) := by decide +kernel
theorem dX4_readThing_70 : decode cX4_readThing 70 = .ok (.invokevirtual 59, 3) := by decide +kernel
theorem dX4_readThing_73 : decode cX4_readThing 73 = .ok (.ifCond .eq 26, 3) := by decide +kernel
theorem dX4_readThing_76 : decode cX4_readThing 76 = .ok (.aload_n 0, 1) := by decide +kernel
theorem dX4_readThing_77 : decode cX4_readThing 77 = .ok (.bipush 61, 2) := by decide +kernel
theorem dX4_readThing_79 : decode cX4_readThing 79 = .ok (.invokevirtual 55, 3) := by decide +kernel
theorem dX4_readThing_82 : decode cX4_readThing 82 = .ok (.ifCond .eq 17, 3) := by decide +kernel
theorem dX4_readThing_85 : decode cX4_readThing 85 = .ok (.aload_n 0, 1) := by decide +kernel
theorem dX4_readThing_86 : decode cX4_readThing 86 = .ok (.iconst 0, 1) := by decide +kernel
theorem dX4_readThing_87 : decode cX4_readThing 87 = .ok (.bipush 30, 2) := by decide +kernel
theorem dX4_readThing_89 : decode cX4_readThing 89 = .ok (.invokevirtual 63, 3) := by decide +kernel
theorem dX4_readThing_92 : decode cX4_readThing 92 = .ok (.ifCond .eq 7, 3) := by decide +kernel
theorem dX4_readThing_95 : decode cX4_readThing 95 = .ok (.iconst 1, 1) := by decide +kernel
theorem dX4_readThing_96 : decode cX4_readThing 96 = .ok (.goto 4, 3) := by decide +kernel
theorem dX4_readThing_99 : decode cX4_readThing 99 = .ok (.iconst 0, 1) := by decide +kernel
theorem dX4_readThing_100 : decode cX4_readThing 100 = .ok (.ireturn, 1) := by decide +kernel
theorem dX4_readThing_101 : decode cX4_readThing 101 = .ok (.aload_n 0, 1) := by decide +kernel
theorem dX4_readThing_102 : decode cX4_readThing 102 = .ok (.bipush 111, 2) := by decide +kernel
theorem dX4_readThing_104 : decode cX4_readThing 104 = .ok (.invokevirtual 55, 3) := by decide +kernel
theorem dX4_readThing_107 : decode cX4_readThing 107 = .ok (.ifCond .eq 14, 3) := by decide +kernel
theorem dX4_readThing_110 : decode cX4_readThing 110 = .ok (.aload_n 0, 1) := by decide +kernel
theorem dX4_readThing_111 : decode cX4_readThing 111 = .ok (.invokevirtual 59, 3) := by decide +kernel
theorem dX4_readThing_114 : decode cX4_readThing 114 = .ok (.ifCond .eq 7, 3) := by decide +kernel
theorem dX4_readThing_117 : decode cX4_readThing 117 = .ok (.iconst 1, 1) := by decide +kernel
theorem dX4_readThing_118 : decode cX4_readThing 118 = .ok (.goto 4, 3) := by decide +kernel
theorem dX4_readThing_121 : decode cX4_readThing 121 = .ok (.iconst 0, 1) := by decide +kernel
theorem dX4_readThing_122 : decode cX4_readThing 122 = .ok (.ireturn, 1) := by decide +kernel
theorem dX4_readThing_123 : decode cX4_readThing 123 = .ok (.aload_n 0, 1) := by decide +kernel
theorem dX4_readThing_124 : decode cX4_readThing 124 = .ok (.bipush 100, 2) := by decide +kernel
theorem dX4_readThing_126 : decode cX4_readThing 126 = .ok (.invokevirtual 55, 3) := by decide +kernel
theorem dX4_readThing_129 : decode cX4_readThing 129 = .ok (.ifCond .eq 33, 3) := by decide +kernel
theorem dX4_readThing_132 : decode cX4_readThing 132 = .ok (.aload_n 0, 1) := by decide +kernel
theorem dX4_readThing_133 : decode cX4_readThing 133 = .ok (.invokevirtual 59, 3) := by decide +kernel
theorem dX4_readThing_136 : decode cX4_readThing 136 = .ok (.ifCond .eq 26, 3) := by decide +kernel
theorem dX4_readThing_139 : decode cX4_readThing 139 = .ok (.aload_n 0, 1) := by decide +kernel
theorem dX4_readThing_140 : decode cX4_readThing 140 = .ok (.bipush 61, 2) := by decide +kernel
theorem dX4_readThing_142 : decode cX4_readThing 142 = .ok (.invokevirtual 55, 3) := by decide +kernel
theorem dX4_readThing_145 : decode cX4_readThing 145 = .ok (.ifCond .eq 17, 3) := by decide +kernel
theorem dX4_readThing_148 : decode cX4_readThing 148 = .ok (.aload_n 0, 1) := by decide +kernel
theorem dX4_readThing_149 : decode cX4_readThing 149 = .ok (.iconst 0, 1) := by decide +kernel
theorem dX4_readThing_150 : decode cX4_readThing 150 = .ok (.bipush 40, 2) := by decide +kernel
theorem dX4_readThing_152 : decode cX4_readThing 152 = .ok (.invokevirtual 63, 3) := by decide +kernel
theorem dX4_readThing_155 : decode cX4_readThing 155 = .ok (.ifCond .eq 7, 3) := by decide +kernel
theorem dX4_readThing_158 : decode cX4_readThing 158 = .ok (.iconst 1, 1) := by decide +kernel
theorem dX4_readThing_159 : decode cX4_readThing 159 = .ok (.goto 4, 3) := by decide +kernel
theorem dX4_readThing_162 : decode cX4_readThing 162 = .ok (.iconst 0, 1) := by decide +kernel
theorem dX4_readThing_163 : decode cX4_readThing 163 = .ok (.ireturn, 1) := by decide +kernel
theorem dX4_readThing_164 : decode cX4_readThing 164 = .ok (.aload_n 0, 1) := by decide +kernel
theorem dX4_readThing_165 : decode cX4_readThing 165 = .ok (.bipush 99, 2) := by decide +kernel
theorem dX4_readThing_167 : decode cX4_readThing 167 = .ok (.invokevirtual 55, 3) := by decide +kernel
theorem dX4_readThing_170 : decode cX4_readThing 170 = .ok (.ifCond .eq 21, 3) := by decide +kernel
theorem dX4_readThing_173 : decode cX4_readThing 173 = .ok (.aload_n 0, 1) := by decide +kernel
theorem dX4_readThing_174 : decode cX4_readThing 174 = .ok (.invokevirtual 59, 3) := by decide +kernel
theorem dX4_readThing_177 : decode cX4_readThing 177 = .ok (.ifCond .eq 14, 3) := by decide +kernel
theorem dX4_readThing_180 : decode cX4_readThing 180 = .ok (.aload_n 0, 1) := by decide +kernel
theorem dX4_readThing_181 : decode cX4_readThing 181 = .ok (.invokevirtual 67, 3) := by decide +kernel
theorem dX4_readThing_184 : decode cX4_readThing 184 = .ok (.ifCond .eq 7, 3) := by decide +kernel
theorem dX4_readThing_187 : decode cX4_readThing 187 = .ok (.iconst 1, 1) := by decide +kernel
theorem dX4_readThing_188 : decode cX4_readThing 188 = .ok (.goto 4, 3) := by decide +kernel
theorem dX4_readThing_191 : decode cX4_readThing 191 = .ok (.iconst 0, 1) := by decide +kernel
theorem dX4_readThing_192 : decode cX4_readThing 192 = .ok (.ireturn, 1) := by decide +kernel
theorem dX4_readThing_193 : decode cX4_readThing 193 = .ok (.aload_n 0, 1) := by decide +kernel
theorem dX4_readThing_194 : decode cX4_readThing 194 = .ok (.bipush 46, 2) := by decide +kernel
theorem dX4_readThing_196 : decode cX4_readThing 196 = .ok (.invokevirtual 55, 3) := by decide +kernel
theorem dX4_readThing_199 : decode cX4_readThing 199 = .ok (.ifCond .eq 17, 3) := by decide +kernel
theorem dX4_readThing_202 : decode cX4_readThing 202 = .ok (.aload_n 0, 1) := by decide +kernel
theorem dX4_readThing_203 : decode cX4_readThing 203 = .ok (.iconst 1, 1) := by decide +kernel
theorem dX4_readThing_204 : decode cX4_readThing 204 = .ok (.bipush 99, 2) := by decide +kernel
theorem dX4_readThing_206 : decode cX4_readThing 206 = .ok (.invokevirtual 63, 3) := by decide +kernel
theorem dX4_readThing_209 : decode cX4_readThing 209 = .ok (.ifCond .eq 7, 3) := by decide +kernel
theorem dX4_readThing_212 : decode cX4_readThing 212 = .ok (.iconst 1, 1) := by decide +kernel
theorem dX4_readThing_213 : decode cX4_readThing 213 = .ok (.goto 4, 3) := by decide +kernel
theorem dX4_readThing_216 : decode cX4_readThing 216 = .ok (.iconst 0, 1) := by decide +kernel
theorem dX4_readThing_217 : decode cX4_readThing 217 = .ok (.ireturn, 1) := by decide +kernel
theorem dX4_readThing_218 : decode cX4_readThing 218 = .ok (.iconst 0, 1) := by decide +kernel
theorem dX4_readThing_219 : decode cX4_readThing 219 = .ok (.ireturn, 1) := by decide +kernel
set_option maxRecDepth 20000 in
theorem ggX4_readSign_X3_signAt : GoodIn wsX4_readSign wsX3_signAt := goodIn_r _ [7, 8, 9, 18, 19] (by decide +kernel) (by decide +kernel)
set_option maxRecDepth 20000 in
theorem gX4_readSign_X3_signAt : GoodIn wsX4_readSign (wsV RX4 39 RX3 yX3_signAt wsX3_signAt) := goodIn_app (goodIn_of _ (by decide +kernel)) ggX4_readSign_X3_signAt
theorem dX4_readSign_0 : decode cX4_readSign 0 = .ok (.aload_n 0, 1) := by decide +kernel
theorem dX4_readSign_1 : decode cX4_readSign 1 = .ok (.getfield 12, 3) := by decide +kernel
theorem dX4_readSign_4 : decode cX4_readSign 4 = .ok (.aload_n 0, 1) := by decide +kernel
theorem dX4_readSign_5 : decode cX4_readSign 5 = .ok (.getfield 36, 3) := by decide +kernel
theorem dX4_readSign_8 : decode cX4_readSign 8 = .ok (.invokevirtual 39, 3) := by decide +kernel
theorem dX4_readSign_11 : decode cX4_readSign 11 = .ok (.iload_n 1, 1) := by decide +kernel
theorem dX4_readSign_12 : decode cX4_readSign 12 = .ok (.if_icmp .eq 5, 3) := by decide +kernel
theorem dX4_readSign_15 : decode cX4_readSign 15 = .ok (.iconst 0, 1) := by decide +kernel
theorem dX4_readSign_16 : decode cX4_readSign 16 = .ok (.ireturn, 1) := by decide +kernel
theorem dX4_readSign_17 : decode cX4_readSign 17 = .ok (.aload_n 0, 1) := by decide +kernel
theorem dX4_readSign_18 : decode cX4_readSign 18 = .ok (.dup, 1) := by decide +kernel
theorem dX4_readSign_19 : decode cX4_readSign 19 = .ok (.getfield 36, 3) := by decide +kernel
theorem dX4_readSign_22 : decode cX4_readSign 22 = .ok (.iconst 1, 1) := by decide +kernel
theorem dX4_readSign_23 : decode cX4_readSign 23 = .ok (.iadd, 1) := by decide +kernel
theorem dX4_readSign_24 : decode cX4_readSign 24 = .ok (.putfield 36, 3) := by decide +kernel
theorem dX4_readSign_27 : decode cX4_readSign 27 = .ok (.iconst 1, 1) := by decide +kernel
theorem dX4_readSign_28 : decode cX4_readSign 28 = .ok (.ireturn, 1) := by decide +kernel
set_option maxRecDepth 20000 in
theorem ggX4_readPair_X4_digitAt : GoodIn wsX4_readPair wsX4_digitAt := goodIn_r _ [7, 8, 9, 10, 11, 12, 13, 14, 15, 19, 20, 21, 22, 23, 24, 25, 26, 27, 28] (by decide +kernel) (by decide +kernel)
set_option maxRecDepth 20000 in
theorem gX4_readPair_X4_digitAt : GoodIn wsX4_readPair (wsV RX4 70 RX4 yX4_digitAt wsX4_digitAt) := goodIn_app (goodIn_of _ (by decide +kernel)) ggX4_readPair_X4_digitAt
set_option maxRecDepth 20000 in
theorem ggX4_readPair_X5_isPair : GoodIn wsX4_readPair wsX5_isPair := goodIn_r _ [18] (by decide +kernel) (by decide +kernel)
set_option maxRecDepth 20000 in
theorem gX4_readPair_X5_isPair_n74 : GoodIn wsX4_readPair (wsX5_isPair) := ggX4_readPair_X5_isPair
theorem dX4_readPair_0 : decode cX4_readPair 0 = .ok (.aload_n 0, 1) := by decide +kernel
theorem dX4_readPair_1 : decode cX4_readPair 1 = .ok (.aload_n 0, 1) := by decide +kernel
theorem dX4_readPair_2 : decode cX4_readPair 2 = .ok (.aload_n 0, 1) := by decide +kernel
theorem dX4_readPair_3 : decode cX4_readPair 3 = .ok (.getfield 36, 3) := by decide +kernel
theorem dX4_readPair_6 : decode cX4_readPair 6 = .ok (.invokevirtual 70, 3) := by decide +kernel
theorem dX4_readPair_9 : decode cX4_readPair 9 = .ok (.putfield 46, 3) := by decide +kernel
theorem dX4_readPair_12 : decode cX4_readPair 12 = .ok (.aload_n 0, 1) := by decide +kernel
theorem dX4_readPair_13 : decode cX4_readPair 13 = .ok (.getfield 46, 3) := by decide +kernel
theorem dX4_readPair_16 : decode cX4_readPair 16 = .ok (.invokestatic 74, 3) := by decide +kernel
theorem dX4_readPair_19 : decode cX4_readPair 19 = .ok (.ifCond .ne 5, 3) := by decide +kernel
theorem dX4_readPair_22 : decode cX4_readPair 22 = .ok (.iconst 0, 1) := by decide +kernel
theorem dX4_readPair_23 : decode cX4_readPair 23 = .ok (.ireturn, 1) := by decide +kernel
theorem dX4_readPair_24 : decode cX4_readPair 24 = .ok (.aload_n 0, 1) := by decide +kernel
theorem dX4_readPair_25 : decode cX4_readPair 25 = .ok (.dup, 1) := by decide +kernel
theorem dX4_readPair_26 : decode cX4_readPair 26 = .ok (.getfield 36, 3) := by decide +kernel
theorem dX4_readPair_29 : decode cX4_readPair 29 = .ok (.iconst 1, 1) := by decide +kernel
theorem dX4_readPair_30 : decode cX4_readPair 30 = .ok (.iadd, 1) := by decide +kernel
theorem dX4_readPair_31 : decode cX4_readPair 31 = .ok (.putfield 36, 3) := by decide +kernel
theorem dX4_readPair_34 : decode cX4_readPair 34 = .ok (.iconst 1, 1) := by decide +kernel
theorem dX4_readPair_35 : decode cX4_readPair 35 = .ok (.ireturn, 1) := by decide +kernel
set_option maxRecDepth 20000 in
theorem ggX4_readOther_X4_digitAt : GoodIn wsX4_readOther wsX4_digitAt := goodIn_r _ [7, 8, 9, 10, 11, 12, 13, 14, 15, 19, 20, 21, 22, 23, 24, 25, 26, 27, 28] (by decide +kernel) (by decide +kernel)
set_option maxRecDepth 20000 in
theorem gX4_readOther_X4_digitAt : GoodIn wsX4_readOther (wsV RX4 70 RX4 yX4_digitAt wsX4_digitAt) := goodIn_app (goodIn_of _ (by decide +kernel)) ggX4_readOther_X4_digitAt
set_option maxRecDepth 20000 in
theorem ggX4_readOther_X5_isPair : GoodIn wsX4_readOther wsX5_isPair := goodIn_r _ [18] (by decide +kernel) (by decide +kernel)
set_option maxRecDepth 20000 in
theorem gX4_readOther_X5_isPair_n74 : GoodIn wsX4_readOther (wsX5_isPair) := ggX4_readOther_X5_isPair
theorem dX4_readOther_0 : decode cX4_readOther 0 = .ok (.aload_n 0, 1) := by decide +kernel
theorem dX4_readOther_1 : decode cX4_readOther 1 = .ok (.aload_n 0, 1) := by decide +kernel
theorem dX4_readOther_2 : decode cX4_readOther 2 = .ok (.aload_n 0, 1) := by decide +kernel
theorem dX4_readOther_3 : decode cX4_readOther 3 = .ok (.getfield 36, 3) := by decide +kernel
theorem dX4_readOther_6 : decode cX4_readOther 6 = .ok (.invokevirtual 70, 3) := by decide +kernel
theorem dX4_readOther_9 : decode cX4_readOther 9 = .ok (.putfield 49, 3) := by decide +kernel
theorem dX4_readOther_12 : decode cX4_readOther 12 = .ok (.aload_n 0, 1) := by decide +kernel
theorem dX4_readOther_13 : decode cX4_readOther 13 = .ok (.getfield 49, 3) := by decide +kernel
theorem dX4_readOther_16 : decode cX4_readOther 16 = .ok (.invokestatic 74, 3) := by decide +kernel
theorem dX4_readOther_19 : decode cX4_readOther 19 = .ok (.ifCond .ne 5, 3) := by decide +kernel
theorem dX4_readOther_22 : decode cX4_readOther 22 = .ok (.iconst 0, 1) := by decide +kernel
theorem dX4_readOther_23 : decode cX4_readOther 23 = .ok (.ireturn, 1) := by decide +kernel
theorem dX4_readOther_24 : decode cX4_readOther 24 = .ok (.aload_n 0, 1) := by decide +kernel
theorem dX4_readOther_25 : decode cX4_readOther 25 = .ok (.dup, 1) := by decide +kernel
theorem dX4_readOther_26 : decode cX4_readOther 26 = .ok (.getfield 36, 3) := by decide +kernel
theorem dX4_readOther_29 : decode cX4_readOther 29 = .ok (.iconst 1, 1) := by decide +kernel
theorem dX4_readOther_30 : decode cX4_readOther 30 = .ok (.iadd, 1) := by decide +kernel
theorem dX4_readOther_31 : decode cX4_readOther 31 = .ok (.putfield 36, 3) := by decide +kernel
theorem dX4_readOther_34 : decode cX4_readOther 34 = .ok (.iconst 1, 1) := by decide +kernel
theorem dX4_readOther_35 : decode cX4_readOther 35 = .ok (.ireturn, 1) := by decide +kernel
set_option maxRecDepth 20000 in
theorem ggX4_readNumber_X4_digitAt : GoodIn wsX4_readNumber wsX4_digitAt := goodIn_r _ [7, 8, 9, 10, 11, 12, 13, 14, 15, 16, 17, 18, 19, 20, 21, 22, 23, 24, 25] (by decide +kernel) (by decide +kernel)
set_option maxRecDepth 20000 in
theorem gX4_readNumber_X4_digitAt : GoodIn wsX4_readNumber (wsV RX4 70 RX4 yX4_digitAt wsX4_digitAt) := goodIn_app (goodIn_of _ (by decide +kernel)) ggX4_readNumber_X4_digitAt
theorem dX4_readNumber_0 : decode cX4_readNumber 0 = .ok (.aload_n 0, 1) := by decide +kernel
theorem dX4_readNumber_1 : decode cX4_readNumber 1 = .ok (.aload_n 0, 1) := by decide +kernel
theorem dX4_readNumber_2 : decode cX4_readNumber 2 = .ok (.aload_n 0, 1) := by decide +kernel
theorem dX4_readNumber_3 : decode cX4_readNumber 3 = .ok (.getfield 36, 3) := by decide +kernel
theorem dX4_readNumber_6 : decode cX4_readNumber 6 = .ok (.invokevirtual 70, 3) := by decide +kernel
theorem dX4_readNumber_9 : decode cX4_readNumber 9 = .ok (.putfield 49, 3) := by decide +kernel
theorem dX4_readNumber_12 : decode cX4_readNumber 12 = .ok (.aload_n 0, 1) := by decide +kernel
theorem dX4_readNumber_13 : decode cX4_readNumber 13 = .ok (.getfield 49, 3) := by decide +kernel
theorem dX4_readNumber_16 : decode cX4_readNumber 16 = .ok (.iload_n 1, 1) := by decide +kernel
theorem dX4_readNumber_17 : decode cX4_readNumber 17 = .ok (.if_icmp .ge 5, 3) := by decide +kernel
theorem dX4_readNumber_20 : decode cX4_readNumber 20 = .ok (.iconst 0, 1) := by decide +kernel
theorem dX4_readNumber_21 : decode cX4_readNumber 21 = .ok (.ireturn, 1) := by decide +kernel
theorem dX4_readNumber_22 : decode cX4_readNumber 22 = .ok (.aload_n 0, 1) := by decide +kernel
theorem dX4_readNumber_23 : decode cX4_readNumber 23 = .ok (.dup, 1) := by decide +kernel
theorem dX4_readNumber_24 : decode cX4_readNumber 24 = .ok (.getfield 36, 3) := by decide +kernel
theorem dX4_readNumber_27 : decode cX4_readNumber 27 = .ok (.iconst 1, 1) := by decide +kernel
theorem dX4_readNumber_28 : decode cX4_readNumber 28 = .ok (.iadd, 1) := by decide +kernel
theorem dX4_readNumber_29 : decode cX4_readNumber 29 = .ok (.putfield 36, 3) := by decide +kernel
theorem dX4_readNumber_32 : decode cX4_readNumber 32 = .ok (.aload_n 0, 1) := by decide +kernel
theorem dX4_readNumber_33 : decode cX4_readNumber 33 = .ok (.aload_n 0, 1) := by decide +kernel
theorem dX4_readNumber_34 : decode cX4_readNumber 34 = .ok (.getfield 36, 3) := by decide +kernel
theorem dX4_readNumber_37 : decode cX4_readNumber 37 = .ok (.invokevirtual 70, 3) := by decide +kernel
theorem dX4_readNumber_40 : decode cX4_readNumber 40 = .ok (.istore_n 3, 1) := by decide +kernel
theorem dX4_readNumber_41 : decode cX4_readNumber 41 = .ok (.aload_n 0, 1) := by decide +kernel
theorem dX4_readNumber_42 : decode cX4_readNumber 42 = .ok (.getfield 49, 3) := by decide +kernel
theorem dX4_readNumber_45 : decode cX4_readNumber 45 = .ok (.ifCond .le 44, 3) := by decide +kernel
theorem dX4_readNumber_48 : decode cX4_readNumber 48 = .ok (.iload_n 3, 1) := by decide +kernel
theorem dX4_readNumber_49 : decode cX4_readNumber 49 = .ok (.iconst (-1), 1) := by decide +kernel
theorem dX4_readNumber_50 : decode cX4_readNumber 50 = .ok (.if_icmp .eq 39, 3) := by decide +kernel
theorem dX4_readNumber_53 : decode cX4_readNumber 53 = .ok (.aload_n 0, 1) := by decide +kernel
theorem dX4_readNumber_54 : decode cX4_readNumber 54 = .ok (.getfield 49, 3) := by decide +kernel
theorem dX4_readNumber_57 : decode cX4_readNumber 57 = .ok (.bipush 10, 2) := by decide +kernel
theorem dX4_readNumber_59 : decode cX4_readNumber 59 = .ok (.imul, 1) := by decide +kernel
theorem dX4_readNumber_60 : decode cX4_readNumber 60 = .ok (.iload_n 3, 1) := by decide +kernel
theorem dX4_readNumber_61 : decode cX4_readNumber 61 = .ok (.iadd, 1) := by decide +kernel
theorem dX4_readNumber_62 : decode cX4_readNumber 62 = .ok (.iload_n 2, 1) := by decide +kernel
theorem dX4_readNumber_63 : decode cX4_readNumber 63 = .ok (.if_icmp .gt 26, 3) := by decide +kernel
theorem dX4_readNumber_66 : decode cX4_readNumber 66 = .ok (.aload_n 0, 1) := by decide +kernel
theorem dX4_readNumber_67 : decode cX4_readNumber 67 = .ok (.aload_n 0, 1) := by decide +kernel
theorem dX4_readNumber_68 : decode cX4_readNumber 68 = .ok (.getfield 49, 3) := by decide +kernel
theorem dX4_readNumber_71 : decode cX4_readNumber 71 = .ok (.bipush 10, 2) := by decide +kernel
theorem dX4_readNumber_73 : decode cX4_readNumber 73 = .ok (.imul, 1) := by decide +kernel
theorem dX4_readNumber_74 : decode cX4_readNumber 74 = .ok (.iload_n 3, 1) := by decide +kernel
theorem dX4_readNumber_75 : decode cX4_readNumber 75 = .ok (.iadd, 1) := by decide +kernel
theorem dX4_readNumber_76 : decode cX4_readNumber 76 = .ok (.putfield 49, 3) := by decide +kernel
theorem dX4_readNumber_79 : decode cX4_readNumber 79 = .ok (.aload_n 0, 1) := by decide +kernel
theorem dX4_readNumber_80 : decode cX4_readNumber 80 = .ok (.dup, 1) := by decide +kernel
theorem dX4_readNumber_81 : decode cX4_readNumber 81 = .ok (.getfield 36, 3) := by decide +kernel
theorem dX4_readNumber_84 : decode cX4_readNumber 84 = .ok (.iconst 1, 1) := by decide +kernel
theorem dX4_readNumber_85 : decode cX4_readNumber 85 = .ok (.iadd, 1) := by decide +kernel
theorem dX4_readNumber_86 : decode cX4_readNumber 86 = .ok (.putfield 36, 3) := by decide +kernel
theorem dX4_readNumber_89 : decode cX4_readNumber 89 = .ok (.iconst 1, 1) := by decide +kernel
theorem dX4_readNumber_90 : decode cX4_readNumber 90 = .ok (.ireturn, 1) := by decide +kernel
set_option maxRecDepth 20000 in
theorem ggX4_digitAt_X3_signAt : GoodIn wsX4_digitAt wsX3_signAt := goodIn_r _ [6, 7, 8, 17, 18] (by decide +kernel) (by decide +kernel)
set_option maxRecDepth 20000 in
theorem gX4_digitAt_X3_signAt : GoodIn wsX4_digitAt (wsV RX4 39 RX3 yX3_signAt wsX3_signAt) := goodIn_app (goodIn_of _ (by decide +kernel)) ggX4_digitAt_X3_signAt
theorem dX4_digitAt_0 : decode cX4_digitAt 0 = .ok (.aload_n 0, 1) := by decide +kernel
theorem dX4_digitAt_1 : decode cX4_digitAt 1 = .ok (.getfield 12, 3) := by decide +kernel
theorem dX4_digitAt_4 : decode cX4_digitAt 4 = .ok (.iload_n 1, 1) := by decide +kernel
theorem dX4_digitAt_5 : decode cX4_digitAt 5 = .ok (.invokevirtual 39, 3) := by decide +kernel
theorem dX4_digitAt_8 : decode cX4_digitAt 8 = .ok (.istore_n 2, 1) := by decide +kernel
theorem dX4_digitAt_9 : decode cX4_digitAt 9 = .ok (.iload_n 2, 1) := by decide +kernel
theorem dX4_digitAt_10 : decode cX4_digitAt 10 = .ok (.bipush 48, 2) := by decide +kernel
theorem dX4_digitAt_12 : decode cX4_digitAt 12 = .ok (.if_icmp .lt 16, 3) := by decide +kernel
theorem dX4_digitAt_15 : decode cX4_digitAt 15 = .ok (.iload_n 2, 1) := by decide +kernel
theorem dX4_digitAt_16 : decode cX4_digitAt 16 = .ok (.bipush 57, 2) := by decide +kernel
theorem dX4_digitAt_18 : decode cX4_digitAt 18 = .ok (.if_icmp .gt 10, 3) := by decide +kernel
theorem dX4_digitAt_21 : decode cX4_digitAt 21 = .ok (.iload_n 2, 1) := by decide +kernel
theorem dX4_digitAt_22 : decode cX4_digitAt 22 = .ok (.bipush 48, 2) := by decide +kernel
theorem dX4_digitAt_24 : decode cX4_digitAt 24 = .ok (.isub, 1) := by decide +kernel
theorem dX4_digitAt_25 : decode cX4_digitAt 25 = .ok (.goto 4, 3) := by decide +kernel
theorem dX4_digitAt_28 : decode cX4_digitAt 28 = .ok (.iconst (-1), 1) := by decide +kernel
theorem dX4_digitAt_29 : decode cX4_digitAt 29 = .ok (.ireturn, 1) := by decide +kernel
