theorem dX6_undo_0 : decode cX6_undo 0 = .ok (.aload_n 0, 1) := by decide +kernel
theorem dX6_undo_1 : decode cX6_undo 1 = .ok (.getfield 56, 3) := by decide +kernel
theorem dX6_undo_4 : decode cX6_undo 4 = .ok (.ifCond .ne 6, 3) := by decide +kernel
theorem dX6_undo_7 : decode cX6_undo 7 = .ok (.bipush (-5), 2) := by decide +kernel
theorem dX6_undo_9 : decode cX6_undo 9 = .ok (.ireturn, 1) := by decide +kernel
theorem dX6_undo_10 : decode cX6_undo 10 = .ok (.aload_n 0, 1) := by decide +kernel
theorem dX6_undo_11 : decode cX6_undo 11 = .ok (.dup, 1) := by decide +kernel
theorem dX6_undo_12 : decode cX6_undo 12 = .ok (.getfield 56, 3) := by decide +kernel
theorem dX6_undo_15 : decode cX6_undo 15 = .ok (.iconst 1, 1) := by decide +kernel
theorem dX6_undo_16 : decode cX6_undo 16 = .ok (.isub, 1) := by decide +kernel
theorem dX6_undo_17 : decode cX6_undo 17 = .ok (.putfield 56, 3) := by decide +kernel
theorem dX6_undo_20 : decode cX6_undo 20 = .ok (.iconst 0, 1) := by decide +kernel
theorem dX6_undo_21 : decode cX6_undo 21 = .ok (.istore_n 1, 1) := by decide +kernel
theorem dX6_undo_22 : decode cX6_undo 22 = .ok (.iload_n 1, 1) := by decide +kernel
theorem dX6_undo_23 : decode cX6_undo 23 = .ok (.bipush 43, 2) := by decide +kernel
theorem dX6_undo_25 : decode cX6_undo 25 = .ok (.if_icmp .ge 29, 3) := by decide +kernel
theorem dX6_undo_28 : decode cX6_undo 28 = .ok (.aload_n 0, 1) := by decide +kernel
theorem dX6_undo_29 : decode cX6_undo 29 = .ok (.getfield 7, 3) := by decide +kernel
theorem dX6_undo_32 : decode cX6_undo 32 = .ok (.iload_n 1, 1) := by decide +kernel
theorem dX6_undo_33 : decode cX6_undo 33 = .ok (.aload_n 0, 1) := by decide +kernel
theorem dX6_undo_34 : decode cX6_undo 34 = .ok (.getfield 29, 3) := by decide +kernel
theorem dX6_undo_37 : decode cX6_undo 37 = .ok (.bipush 43, 2) := by decide +kernel
theorem dX6_undo_39 : decode cX6_undo 39 = .ok (.aload_n 0, 1) := by decide +kernel
theorem dX6_undo_40 : decode cX6_undo 40 = .ok (.getfield 56, 3) := by decide +kernel
theorem dX6_undo_43 : decode cX6_undo 43 = .ok (.imul, 1) := by decide +kernel
theorem dX6_undo_44 : decode cX6_undo 44 = .ok (.iload_n 1, 1) := by decide +kernel
theorem dX6_undo_45 : decode cX6_undo 45 = .ok (.iadd, 1) := by decide +kernel
theorem dX6_undo_46 : decode cX6_undo 46 = .ok (.iaload, 1) := by decide +kernel
theorem dX6_undo_47 : decode cX6_undo 47 = .ok (.iastore, 1) := by decide +kernel
theorem dX6_undo_48 : decode cX6_undo 48 = .ok (.iinc 1 1, 3) := by decide +kernel
theorem dX6_undo_51 : decode cX6_undo 51 = .ok (.goto (-29), 3) := by decide +kernel
theorem dX6_undo_54 : decode cX6_undo 54 = .ok (.iconst 0, 1) := by decide +kernel
theorem dX6_undo_55 : decode cX6_undo 55 = .ok (.istore_n 1, 1) := by decide +kernel
theorem dX6_undo_56 : decode cX6_undo 56 = .ok (.iload_n 1, 1) := by decide +kernel
theorem dX6_undo_57 : decode cX6_undo 57 = .ok (.bipush 12, 2) := by decide +kernel
theorem dX6_undo_59 : decode cX6_undo 59 = .ok (.if_icmp .ge 29, 3) := by decide +kernel
theorem dX6_undo_62 : decode cX6_undo 62 = .ok (.aload_n 0, 1) := by decide +kernel
theorem dX6_undo_63 : decode cX6_undo 63 = .ok (.getfield 13, 3) := by decide +kernel
theorem dX6_undo_66 : decode cX6_undo 66 = .ok (.iload_n 1, 1) := by decide +kernel
theorem dX6_undo_67 : decode cX6_undo 67 = .ok (.aload_n 0, 1) := by decide +kernel
theorem dX6_undo_68 : decode cX6_undo 68 = .ok (.getfield 32, 3) := by decide +kernel
theorem dX6_undo_71 : decode cX6_undo 71 = .ok (.bipush 12, 2) := by decide +kernel
theorem dX6_undo_73 : decode cX6_undo 73 = .ok (.aload_n 0, 1) := by decide +kernel
theorem dX6_undo_74 : decode cX6_undo 74 = .ok (.getfield 56, 3) := by decide +kernel
theorem dX6_undo_77 : decode cX6_undo 77 = .ok (.imul, 1) := by decide +kernel
theorem dX6_undo_78 : decode cX6_undo 78 = .ok (.iload_n 1, 1) := by decide +kernel
theorem dX6_undo_79 : decode cX6_undo 79 = .ok (.iadd, 1) := by decide +kernel
theorem dX6_undo_80 : decode cX6_undo 80 = .ok (.laload, 1) := by decide +kernel
theorem dX6_undo_81 : decode cX6_undo 81 = .ok (.lastore, 1) := by decide +kernel
theorem dX6_undo_82 : decode cX6_undo 82 = .ok (.iinc 1 1, 3) := by decide +kernel
theorem dX6_undo_85 : decode cX6_undo 85 = .ok (.goto (-29), 3) := by decide +kernel
theorem dX6_undo_88 : decode cX6_undo 88 = .ok (.aload_n 0, 1) := by decide +kernel
theorem dX6_undo_89 : decode cX6_undo 89 = .ok (.getfield 56, 3) := by decide +kernel
theorem dX6_undo_92 : decode cX6_undo 92 = .ok (.ireturn, 1) := by decide +kernel
theorem dX6_keep_0 : decode cX6_keep 0 = .ok (.iconst 0, 1) := by decide +kernel
theorem dX6_keep_1 : decode cX6_keep 1 = .ok (.istore_n 1, 1) := by decide +kernel
theorem dX6_keep_2 : decode cX6_keep 2 = .ok (.iload_n 1, 1) := by decide +kernel
theorem dX6_keep_3 : decode cX6_keep 3 = .ok (.bipush 43, 2) := by decide +kernel
theorem dX6_keep_5 : decode cX6_keep 5 = .ok (.if_icmp .ge 21, 3) := by decide +kernel
theorem dX6_keep_8 : decode cX6_keep 8 = .ok (.aload_n 0, 1) := by decide +kernel
theorem dX6_keep_9 : decode cX6_keep 9 = .ok (.getfield 23, 3) := by decide +kernel
theorem dX6_keep_12 : decode cX6_keep 12 = .ok (.iload_n 1, 1) := by decide +kernel
theorem dX6_keep_13 : decode cX6_keep 13 = .ok (.aload_n 0, 1) := by decide +kernel
theorem dX6_keep_14 : decode cX6_keep 14 = .ok (.getfield 7, 3) := by decide +kernel
theorem dX6_keep_17 : decode cX6_keep 17 = .ok (.iload_n 1, 1) := by decide +kernel
theorem dX6_keep_18 : decode cX6_keep 18 = .ok (.iaload, 1) := by decide +kernel
theorem dX6_keep_19 : decode cX6_keep 19 = .ok (.iastore, 1) := by decide +kernel
theorem dX6_keep_20 : decode cX6_keep 20 = .ok (.iinc 1 1, 3) := by decide +kernel
theorem dX6_keep_23 : decode cX6_keep 23 = .ok (.goto (-21), 3) := by decide +kernel
theorem dX6_keep_26 : decode cX6_keep 26 = .ok (.iconst 0, 1) := by decide +kernel
theorem dX6_keep_27 : decode cX6_keep 27 = .ok (.istore_n 1, 1) := by decide +kernel
theorem dX6_keep_28 : decode cX6_keep 28 = .ok (.iload_n 1, 1) := by decide +kernel
theorem dX6_keep_29 : decode cX6_keep 29 = .ok (.bipush 12, 2) := by decide +kernel
theorem dX6_keep_31 : decode cX6_keep 31 = .ok (.if_icmp .ge 21, 3) := by decide +kernel
theorem dX6_keep_34 : decode cX6_keep 34 = .ok (.aload_n 0, 1) := by decide +kernel
theorem dX6_keep_35 : decode cX6_keep 35 = .ok (.getfield 26, 3) := by decide +kernel
theorem dX6_keep_38 : decode cX6_keep 38 = .ok (.iload_n 1, 1) := by decide +kernel
theorem dX6_keep_39 : decode cX6_keep 39 = .ok (.aload_n 0, 1) := by decide +kernel
theorem dX6_keep_40 : decode cX6_keep 40 = .ok (.getfield 13, 3) := by decide +kernel
theorem dX6_keep_43 : decode cX6_keep 43 = .ok (.iload_n 1, 1) := by decide +kernel
theorem dX6_keep_44 : decode cX6_keep 44 = .ok (.laload, 1) := by decide +kernel
theorem dX6_keep_45 : decode cX6_keep 45 = .ok (.lastore, 1) := by decide +kernel
theorem dX6_keep_46 : decode cX6_keep 46 = .ok (.iinc 1 1, 3) := by decide +kernel
theorem dX6_keep_49 : decode cX6_keep 49 = .ok (.goto (-21), 3) := by decide +kernel
theorem dX6_keep_52 : decode cX6_keep 52 = .ok (.aload_n 0, 1) := by decide +kernel
theorem dX6_keep_53 : decode cX6_keep 53 = .ok (.iconst 1, 1) := by decide +kernel
theorem dX6_keep_54 : decode cX6_keep 54 = .ok (.putfield 195, 3) := by decide +kernel
theorem dX6_keep_57 : decode cX6_keep 57 = .ok (.aload_n 0, 1) := by decide +kernel
theorem dX6_keep_58 : decode cX6_keep 58 = .ok (.getfield 7, 3) := by decide +kernel
theorem dX6_keep_61 : decode cX6_keep 61 = .ok (.iconst 0, 1) := by decide +kernel
theorem dX6_keep_62 : decode cX6_keep 62 = .ok (.iaload, 1) := by decide +kernel
theorem dX6_keep_63 : decode cX6_keep 63 = .ok (.ireturn, 1) := by decide +kernel
set_option maxRecDepth 20000 in
theorem ggX6_restore_X6_looks : GoodIn wsX6_restore wsX6_looks := goodIn_r _ [10, 11, 2, 12, 4, 20, 21, 22, 23, 24, 25, 26, 27, 28, 29, 30, 31, 32, 33, 34, 35, 36, 37, 38, 39, 40, 41] (by decide +kernel) (by decide +kernel)
set_option maxRecDepth 20000 in
theorem gX6_restore_X6_looks : GoodIn wsX6_restore (wsV RX6 122 RX6 yX6_looks wsX6_looks) := goodIn_app (goodIn_of _ (by decide +kernel)) ggX6_restore_X6_looks
set_option maxRecDepth 20000 in
theorem ggX6_restore_X6_records : GoodIn wsX6_restore wsX6_records := goodIn_r _ [16, 17, 18, 19, 11, 12, 20, 21, 22, 23, 24, 25, 26, 27, 28, 29, 30, 31, 32, 33, 34, 35, 36, 37, 38, 39, 40, 41] (by decide +kernel) (by decide +kernel)
set_option maxRecDepth 20000 in
theorem gX6_restore_X6_records : GoodIn wsX6_restore (wsV RX6 116 RX6 yX6_records wsX6_records) := goodIn_app (goodIn_of _ (by decide +kernel)) ggX6_restore_X6_records
theorem dX6_restore_0 : decode cX6_restore 0 = .ok (.aload_n 0, 1) := by decide +kernel
theorem dX6_restore_1 : decode cX6_restore 1 = .ok (.getfield 195, 3) := by decide +kernel
theorem dX6_restore_4 : decode cX6_restore 4 = .ok (.ifCond .ne 6, 3) := by decide +kernel
theorem dX6_restore_7 : decode cX6_restore 7 = .ok (.bipush (-5), 2) := by decide +kernel
theorem dX6_restore_9 : decode cX6_restore 9 = .ok (.ireturn, 1) := by decide +kernel
theorem dX6_restore_10 : decode cX6_restore 10 = .ok (.aload_n 0, 1) := by decide +kernel
theorem dX6_restore_11 : decode cX6_restore 11 = .ok (.invokevirtual 122, 3) := by decide +kernel
theorem dX6_restore_14 : decode cX6_restore 14 = .ok (.aload_n 0, 1) := by decide +kernel
theorem dX6_restore_15 : decode cX6_restore 15 = .ok (.invokevirtual 116, 3) := by decide +kernel
theorem dX6_restore_18 : decode cX6_restore 18 = .ok (.iconst 0, 1) := by decide +kernel
theorem dX6_restore_19 : decode cX6_restore 19 = .ok (.istore_n 1, 1) := by decide +kernel
theorem dX6_restore_20 : decode cX6_restore 20 = .ok (.iload_n 1, 1) := by decide +kernel
theorem dX6_restore_21 : decode cX6_restore 21 = .ok (.bipush 43, 2) := by decide +kernel
theorem dX6_restore_23 : decode cX6_restore 23 = .ok (.if_icmp .ge 21, 3) := by decide +kernel
theorem dX6_restore_26 : decode cX6_restore 26 = .ok (.aload_n 0, 1) := by decide +kernel
theorem dX6_restore_27 : decode cX6_restore 27 = .ok (.getfield 7, 3) := by decide +kernel
theorem dX6_restore_30 : decode cX6_restore 30 = .ok (.iload_n 1, 1) := by decide +kernel
theorem dX6_restore_31 : decode cX6_restore 31 = .ok (.aload_n 0, 1) := by decide +kernel
theorem dX6_restore_32 : decode cX6_restore 32 = .ok (.getfield 23, 3) := by decide +kernel
theorem dX6_restore_35 : decode cX6_restore 35 = .ok (.iload_n 1, 1) := by decide +kernel
theorem dX6_restore_36 : decode cX6_restore 36 = .ok (.iaload, 1) := by decide +kernel
theorem dX6_restore_37 : decode cX6_restore 37 = .ok (.iastore, 1) := by decide +kernel
theorem dX6_restore_38 : decode cX6_restore 38 = .ok (.iinc 1 1, 3) := by decide +kernel
theorem dX6_restore_41 : decode cX6_restore 41 = .ok (.goto (-21), 3) := by decide +kernel
theorem dX6_restore_44 : decode cX6_restore 44 = .ok (.iconst 0, 1) := by decide +kernel
theorem dX6_restore_45 : decode cX6_restore 45 = .ok (.istore_n 1, 1) := by decide +kernel
theorem dX6_restore_46 : decode cX6_restore 46 = .ok (.iload_n 1, 1) := by decide +kernel
theorem dX6_restore_47 : decode cX6_restore 47 = .ok (.bipush 12, 2) := by decide +kernel
theorem dX6_restore_49 : decode cX6_restore 49 = .ok (.if_icmp .ge 21, 3) := by decide +kernel
theorem dX6_restore_52 : decode cX6_restore 52 = .ok (.aload_n 0, 1) := by decide +kernel
theorem dX6_restore_53 : decode cX6_restore 53 = .ok (.getfield 13, 3) := by decide +kernel
theorem dX6_restore_56 : decode cX6_restore 56 = .ok (.iload_n 1, 1) := by decide +kernel
theorem dX6_restore_57 : decode cX6_restore 57 = .ok (.aload_n 0, 1) := by decide +kernel
theorem dX6_restore_58 : decode cX6_restore 58 = .ok (.getfield 26, 3) := by decide +kernel
theorem dX6_restore_61 : decode cX6_restore 61 = .ok (.iload_n 1, 1) := by decide +kernel
theorem dX6_restore_62 : decode cX6_restore 62 = .ok (.laload, 1) := by decide +kernel
theorem dX6_restore_63 : decode cX6_restore 63 = .ok (.lastore, 1) := by decide +kernel
theorem dX6_restore_64 : decode cX6_restore 64 = .ok (.iinc 1 1, 3) := by decide +kernel
theorem dX6_restore_67 : decode cX6_restore 67 = .ok (.goto (-21), 3) := by decide +kernel
theorem dX6_restore_70 : decode cX6_restore 70 = .ok (.aload_n 0, 1) := by decide +kernel
theorem dX6_restore_71 : decode cX6_restore 71 = .ok (.getfield 7, 3) := by decide +kernel
theorem dX6_restore_74 : decode cX6_restore 74 = .ok (.iconst 0, 1) := by decide +kernel
theorem dX6_restore_75 : decode cX6_restore 75 = .ok (.iaload, 1) := by decide +kernel
theorem dX6_restore_76 : decode cX6_restore 76 = .ok (.ireturn, 1) := by decide +kernel
set_option maxRecDepth 20000 in
theorem ggX6_pullNow_X6_of : GoodIn wsX6_pullNow wsX6_of := goodIn_r _ [5, 6, 7, 8, 4, 9, 30, 31, 32, 33, 34, 35, 36, 37, 38, 39, 40, 41, 42, 43, 44, 45, 46, 47, 48, 49, 50, 51] (by decide +kernel) (by decide +kernel)
set_option maxRecDepth 20000 in
theorem gX6_pullNow_X6_of : GoodIn wsX6_pullNow (wsV RX6 53 RX6 yX6_of wsX6_of) := goodIn_app (goodIn_of _ (by decide +kernel)) ggX6_pullNow_X6_of
set_option maxRecDepth 20000 in
theorem ggX6_pullNow_X6_pullAt : GoodIn wsX6_pullNow wsX6_pullAt := goodIn_r _ [13, 14, 15, 16, 4, 17, 1, 2, 3, 5, 6, 7, 8, 9, 18, 19, 20, 21, 22, 23, 24, 25, 26, 27, 28, 29, 30, 31, 32, 33, 34, 35, 36, 37, 38, 39, 40, 41, 42, 43, 44, 45, 46, 47, 48, 49, 50, 51] (by decide +kernel) (by decide +kernel)
set_option maxRecDepth 20000 in
theorem gX6_pullNow_X6_pullAt : GoodIn wsX6_pullNow (wsV RX6 77 RX6 yX6_pullAt wsX6_pullAt) := goodIn_app (goodIn_of _ (by decide +kernel)) ggX6_pullNow_X6_pullAt
theorem dX6_pullNow_0 : decode cX6_pullNow 0 = .ok (.aload_n 0, 1) := by decide +kernel
theorem dX6_pullNow_1 : decode cX6_pullNow 1 = .ok (.iload_n 1, 1) := by decide +kernel
theorem dX6_pullNow_2 : decode cX6_pullNow 2 = .ok (.aload_n 0, 1) := by decide +kernel
theorem dX6_pullNow_3 : decode cX6_pullNow 3 = .ok (.iload_n 1, 1) := by decide +kernel
theorem dX6_pullNow_4 : decode cX6_pullNow 4 = .ok (.bipush 6, 2) := by decide +kernel
theorem dX6_pullNow_6 : decode cX6_pullNow 6 = .ok (.invokevirtual 53, 3) := by decide +kernel
theorem dX6_pullNow_9 : decode cX6_pullNow 9 = .ok (.aload_n 0, 1) := by decide +kernel
theorem dX6_pullNow_10 : decode cX6_pullNow 10 = .ok (.iload_n 1, 1) := by decide +kernel
theorem dX6_pullNow_11 : decode cX6_pullNow 11 = .ok (.bipush 7, 2) := by decide +kernel
theorem dX6_pullNow_13 : decode cX6_pullNow 13 = .ok (.invokevirtual 53, 3) := by decide +kernel
theorem dX6_pullNow_16 : decode cX6_pullNow 16 = .ok (.invokevirtual 77, 3) := by decide +kernel
theorem dX6_pullNow_19 : decode cX6_pullNow 19 = .ok (.ireturn, 1) := by decide +kernel
set_option maxRecDepth 20000 in
theorem ggX6_pair_X6_isPair : GoodIn wsX6_pair wsX6_isPair := goodIn_r _ [4, 5, 6, 3, 7] (by decide +kernel) (by decide +kernel)
set_option maxRecDepth 20000 in
theorem gX6_pair_X6_isPair : GoodIn wsX6_pair (va_wsS RX6 119 yX6_isPair wsX6_isPair) := goodIn_app (goodIn_of _ (by decide +kernel)) ggX6_pair_X6_isPair
set_option maxRecDepth 20000 in
theorem ggX6_pair_X6_capacityNow : GoodIn wsX6_pair wsX6_capacityNow := goodIn_r _ [11, 12, 13, 14, 3, 15, 16, 17, 18, 19, 20, 21, 22, 23, 51, 52, 53, 54, 55, 56, 57, 58, 59, 60, 61, 62, 63, 64, 65, 66, 67, 68, 69, 70, 71, 72] (by decide +kernel) (by decide +kernel)
set_option maxRecDepth 20000 in
theorem gX6_pair_X6_capacityNow : GoodIn wsX6_pair (wsV RX6 66 RX6 yX6_capacityNow wsX6_capacityNow) := goodIn_app (goodIn_of _ (by decide +kernel)) ggX6_pair_X6_capacityNow
set_option maxRecDepth 20000 in
theorem ggX6_pair_X6_of : GoodIn wsX6_pair wsX6_of := goodIn_r _ [15, 16, 17, 18, 3, 19, 51, 52, 53, 54, 55, 56, 57, 58, 59, 60, 61, 62, 63, 64, 65, 66, 67, 68, 69, 70, 71, 72] (by decide +kernel) (by decide +kernel)
set_option maxRecDepth 20000 in
theorem gX6_pair_X6_of : GoodIn wsX6_pair (wsV RX6 53 RX6 yX6_of wsX6_of) := goodIn_app (goodIn_of _ (by decide +kernel)) ggX6_pair_X6_of
set_option maxRecDepth 20000 in
theorem ggX6_pair_X6_pullNow : GoodIn wsX6_pair wsX6_pullNow := goodIn_r _ [27, 12, 13, 14, 3, 15, 16, 17, 18, 19, 28, 29, 30, 31, 32, 33, 34, 35, 36, 37, 38, 39, 40, 41, 42, 43, 20, 21, 22, 23, 51, 52, 53, 54, 55, 56, 57, 58, 59, 60, 61, 62, 63, 64, 65, 66, 67, 68, 69, 70, 71, 72] (by decide +kernel) (by decide +kernel)
set_option maxRecDepth 20000 in
theorem gX6_pair_X6_pullNow : GoodIn wsX6_pair (wsV RX6 198 RX6 yX6_pullNow wsX6_pullNow) := goodIn_app (goodIn_of _ (by decide +kernel)) ggX6_pair_X6_pullNow
set_option maxRecDepth 20000 in
theorem ggX6_pair_X6_spring : GoodIn wsX6_pair wsX6_spring := goodIn_r _ [47, 12, 13, 14, 3, 15, 16, 17, 18, 19, 51, 52, 53, 54, 55, 56, 57, 58, 59, 60, 61, 62, 63, 64, 65, 66, 67, 68, 69, 70, 71, 72] (by decide +kernel) (by decide +kernel)
set_option maxRecDepth 20000 in
theorem gX6_pair_X6_spring : GoodIn wsX6_pair (wsV RX6 80 RX6 yX6_spring wsX6_spring) := goodIn_app (goodIn_of _ (by decide +kernel)) ggX6_pair_X6_spring
set_option maxRecDepth 20000 in
theorem ggX6_pair_X6_size : GoodIn wsX6_pair wsX6_size := goodIn_r _ [50] (by decide +kernel) (by decide +kernel)
set_option maxRecDepth 20000 in
theorem gX6_pair_X6_size : GoodIn wsX6_pair (va_wsS RX6 83 yX6_size wsX6_size) := goodIn_app (goodIn_of _ (by decide +kernel)) ggX6_pair_X6_size
set_option maxRecDepth 20000 in
theorem ggX6_pair_X6_in : GoodIn wsX6_pair wsX6_in := goodIn_r _ [7] (by decide +kernel) (by decide +kernel)
set_option maxRecDepth 20000 in
theorem gX6_pair_X6_in : GoodIn wsX6_pair (va_wsS RX6 49 yX6_in wsX6_in) := goodIn_app (goodIn_of _ (by decide +kernel)) ggX6_pair_X6_in
theorem dX6_pair_0 : decode cX6_pair 0 = .ok (.iload_n 1, 1) := by decide +kernel
theorem dX6_pair_1 : decode cX6_pair 1 = .ok (.invokestatic 119, 3) := by decide +kernel
theorem dX6_pair_4 : decode cX6_pair 4 = .ok (.ifCond .ne 5, 3) := by decide +kernel
theorem dX6_pair_7 : decode cX6_pair 7 = .ok (.iconst (-1), 1) := by decide +kernel
theorem dX6_pair_8 : decode cX6_pair 8 = .ok (.ireturn, 1) := by decide +kernel
theorem dX6_pair_9 : decode cX6_pair 9 = .ok (.iload_n 2, 1) := by decide +kernel
theorem dX6_pair_10 : decode cX6_pair 10 = .ok (.tableswitch 75 7 12 #[38, 44, 44, 44, 53, 59], 38) := by decide +kernel
theorem dX6_pair_48 : decode cX6_pair 48 = .ok (.aload_n 0, 1) := by decide +kernel
theorem dX6_pair_49 : decode cX6_pair 49 = .ok (.iload_n 1, 1) := by decide +kernel
theorem dX6_pair_50 : decode cX6_pair 50 = .ok (.invokevirtual 66, 3) := by decide +kernel
theorem dX6_pair_53 : decode cX6_pair 53 = .ok (.ireturn, 1) := by decide +kernel
theorem dX6_pair_54 : decode cX6_pair 54 = .ok (.aload_n 0, 1) := by decide +kernel
theorem dX6_pair_55 : decode cX6_pair 55 = .ok (.iload_n 1, 1) := by decide +kernel
theorem dX6_pair_56 : decode cX6_pair 56 = .ok (.iload_n 2, 1) := by decide +kernel
theorem dX6_pair_57 : decode cX6_pair 57 = .ok (.iconst 1, 1) := by decide +kernel
theorem dX6_pair_58 : decode cX6_pair 58 = .ok (.isub, 1) := by decide +kernel
theorem dX6_pair_59 : decode cX6_pair 59 = .ok (.invokevirtual 53, 3) := by decide +kernel
theorem dX6_pair_62 : decode cX6_pair 62 = .ok (.ireturn, 1) := by decide +kernel
theorem dX6_pair_63 : decode cX6_pair 63 = .ok (.aload_n 0, 1) := by decide +kernel
theorem dX6_pair_64 : decode cX6_pair 64 = .ok (.iload_n 1, 1) := by decide +kernel
theorem dX6_pair_65 : decode cX6_pair 65 = .ok (.invokevirtual 198, 3) := by decide +kernel
theorem dX6_pair_68 : decode cX6_pair 68 = .ok (.ireturn, 1) := by decide +kernel
theorem dX6_pair_69 : decode cX6_pair 69 = .ok (.aload_n 0, 1) := by decide +kernel
theorem dX6_pair_70 : decode cX6_pair 70 = .ok (.iload_n 1, 1) := by decide +kernel
theorem dX6_pair_71 : decode cX6_pair 71 = .ok (.aload_n 0, 1) := by decide +kernel
theorem dX6_pair_72 : decode cX6_pair 72 = .ok (.iload_n 1, 1) := by decide +kernel
theorem dX6_pair_73 : decode cX6_pair 73 = .ok (.bipush 6, 2) := by decide +kernel
theorem dX6_pair_75 : decode cX6_pair 75 = .ok (.invokevirtual 53, 3) := by decide +kernel
theorem dX6_pair_78 : decode cX6_pair 78 = .ok (.invokevirtual 80, 3) := by decide +kernel
theorem dX6_pair_81 : decode cX6_pair 81 = .ok (.invokestatic 83, 3) := by decide +kernel
theorem dX6_pair_84 : decode cX6_pair 84 = .ok (.ireturn, 1) := by decide +kernel
theorem dX6_pair_85 : decode cX6_pair 85 = .ok (.iload_n 2, 1) := by decide +kernel
theorem dX6_pair_86 : decode cX6_pair 86 = .ok (.iconst 0, 1) := by decide +kernel
theorem dX6_pair_87 : decode cX6_pair 87 = .ok (.bipush 6, 2) := by decide +kernel
theorem dX6_pair_89 : decode cX6_pair 89 = .ok (.invokestatic 49, 3) := by decide +kernel
theorem dX6_pair_92 : decode cX6_pair 92 = .ok (.ifCond .eq 12, 3) := by decide +kernel
theorem dX6_pair_95 : decode cX6_pair 95 = .ok (.aload_n 0, 1) := by decide +kernel
theorem dX6_pair_96 : decode cX6_pair 96 = .ok (.iload_n 1, 1) := by decide +kernel
theorem dX6_pair_97 : decode cX6_pair 97 = .ok (.iload_n 2, 1) := by decide +kernel
theorem dX6_pair_98 : decode cX6_pair 98 = .ok (.invokevirtual 53, 3) := by decide +kernel
theorem dX6_pair_101 : decode cX6_pair 101 = .ok (.goto 5, 3) := by decide +kernel
theorem dX6_pair_104 : decode cX6_pair 104 = .ok (.bipush (-2), 2) := by decide +kernel
theorem dX6_pair_106 : decode cX6_pair 106 = .ok (.ireturn, 1) := by decide +kernel
set_option maxRecDepth 20000 in
theorem ggX6_book_X6_isPair : GoodIn wsX6_book wsX6_isPair := goodIn_r _ [7, 8, 9, 6, 10] (by decide +kernel) (by decide +kernel)
set_option maxRecDepth 20000 in
theorem gX6_book_X6_isPair : GoodIn wsX6_book (va_wsS RX6 119 yX6_isPair wsX6_isPair) := goodIn_app (goodIn_of _ (by decide +kernel)) ggX6_book_X6_isPair
set_option maxRecDepth 20000 in
theorem ggX6_book_X6_stored : GoodIn wsX6_book wsX6_stored := goodIn_r _ [14, 15, 16, 17, 6, 18, 19, 20, 21, 22, 23, 24, 25, 26, 27, 28, 29, 30, 31, 32, 33, 34, 35, 36, 37, 38, 39, 40, 41, 42, 43, 44, 45, 46, 47, 48, 49, 50, 51, 52, 53, 54, 55, 56] (by decide +kernel) (by decide +kernel)
set_option maxRecDepth 20000 in
theorem gX6_book_X6_stored : GoodIn wsX6_book (wsV RX6 90 RX6 yX6_stored wsX6_stored) := goodIn_app (goodIn_of _ (by decide +kernel)) ggX6_book_X6_stored
theorem dX6_book_0 : decode cX6_book 0 = .ok (.iload_n 1, 1) := by decide +kernel
theorem dX6_book_1 : decode cX6_book 1 = .ok (.invokestatic 119, 3) := by decide +kernel
theorem dX6_book_4 : decode cX6_book 4 = .ok (.ifCond .ne 7, 3) := by decide +kernel
theorem dX6_book_7 : decode cX6_book 7 = .ok (.ldc2_w 201, 3) := by decide +kernel
theorem dX6_book_10 : decode cX6_book 10 = .ok (.lreturn, 1) := by decide +kernel
theorem dX6_book_11 : decode cX6_book 11 = .ok (.iload_n 2, 1) := by decide +kernel
theorem dX6_book_12 : decode cX6_book 12 = .ok (.tableswitch 94 0 4 #[36, 42, 42, 42, 55], 36) := by decide +kernel
theorem dX6_book_48 : decode cX6_book 48 = .ok (.aload_n 0, 1) := by decide +kernel
theorem dX6_book_49 : decode cX6_book 49 = .ok (.iload_n 1, 1) := by decide +kernel
theorem dX6_book_50 : decode cX6_book 50 = .ok (.invokevirtual 90, 3) := by decide +kernel
theorem dX6_book_53 : decode cX6_book 53 = .ok (.lreturn, 1) := by decide +kernel
theorem dX6_book_54 : decode cX6_book 54 = .ok (.aload_n 0, 1) := by decide +kernel
theorem dX6_book_55 : decode cX6_book 55 = .ok (.getfield 13, 3) := by decide +kernel
theorem dX6_book_58 : decode cX6_book 58 = .ok (.iconst 3, 1) := by decide +kernel
theorem dX6_book_59 : decode cX6_book 59 = .ok (.iload_n 1, 1) := by decide +kernel
theorem dX6_book_60 : decode cX6_book 60 = .ok (.imul, 1) := by decide +kernel
theorem dX6_book_61 : decode cX6_book 61 = .ok (.iload_n 2, 1) := by decide +kernel
theorem dX6_book_62 : decode cX6_book 62 = .ok (.iadd, 1) := by decide +kernel
theorem dX6_book_63 : decode cX6_book 63 = .ok (.iconst 1, 1) := by decide +kernel
theorem dX6_book_64 : decode cX6_book 64 = .ok (.isub, 1) := by decide +kernel
theorem dX6_book_65 : decode cX6_book 65 = .ok (.laload, 1) := by decide +kernel
theorem dX6_book_66 : decode cX6_book 66 = .ok (.lreturn, 1) := by decide +kernel
theorem dX6_book_67 : decode cX6_book 67 = .ok (.aload_n 0, 1) := by decide +kernel
theorem dX6_book_68 : decode cX6_book 68 = .ok (.getfield 13, 3) := by decide +kernel
theorem dX6_book_71 : decode cX6_book 71 = .ok (.iconst 3, 1) := by decide +kernel
theorem dX6_book_72 : decode cX6_book 72 = .ok (.iload_n 1, 1) := by decide +kernel
theorem dX6_book_73 : decode cX6_book 73 = .ok (.imul, 1) := by decide +kernel
theorem dX6_book_74 : decode cX6_book 74 = .ok (.iconst 0, 1) := by decide +kernel
theorem dX6_book_75 : decode cX6_book 75 = .ok (.iadd, 1) := by decide +kernel
theorem dX6_book_76 : decode cX6_book 76 = .ok (.laload, 1) := by decide +kernel
theorem dX6_book_77 : decode cX6_book 77 = .ok (.aload_n 0, 1) := by decide +kernel
theorem dX6_book_78 : decode cX6_book 78 = .ok (.iload_n 1, 1) := by decide +kernel
theorem dX6_book_79 : decode cX6_book 79 = .ok (.invokevirtual 90, 3) := by decide +kernel
theorem dX6_book_82 : decode cX6_book 82 = .ok (.lsub, 1) := by decide +kernel
theorem dX6_book_83 : decode cX6_book 83 = .ok (.aload_n 0, 1) := by decide +kernel
theorem dX6_book_84 : decode cX6_book 84 = .ok (.getfield 13, 3) := by decide +kernel
theorem dX6_book_87 : decode cX6_book 87 = .ok (.iconst 3, 1) := by decide +kernel
theorem dX6_book_88 : decode cX6_book 88 = .ok (.iload_n 1, 1) := by decide +kernel
theorem dX6_book_89 : decode cX6_book 89 = .ok (.imul, 1) := by decide +kernel
theorem dX6_book_90 : decode cX6_book 90 = .ok (.iconst 1, 1) := by decide +kernel
theorem dX6_book_91 : decode cX6_book 91 = .ok (.iadd, 1) := by decide +kernel
theorem dX6_book_92 : decode cX6_book 92 = .ok (.laload, 1) := by decide +kernel
theorem dX6_book_93 : decode cX6_book 93 = .ok (.lsub, 1) := by decide +kernel
theorem dX6_book_94 : decode cX6_book 94 = .ok (.aload_n 0, 1) := by decide +kernel
theorem dX6_book_95 : decode cX6_book 95 = .ok (.getfield 13, 3) := by decide +kernel
theorem dX6_book_98 : decode cX6_book 98 = .ok (.iconst 3, 1) := by decide +kernel
theorem dX6_book_99 : decode cX6_book 99 = .ok (.iload_n 1, 1) := by decide +kernel
theorem dX6_book_100 : decode cX6_book 100 = .ok (.imul, 1) := by decide +kernel
theorem dX6_book_101 : decode cX6_book 101 = .ok (.iconst 2, 1) := by decide +kernel
theorem dX6_book_102 : decode cX6_book 102 = .ok (.iadd, 1) := by decide +kernel
theorem dX6_book_103 : decode cX6_book 103 = .ok (.laload, 1) := by decide +kernel
theorem dX6_book_104 : decode cX6_book 104 = .ok (.lsub, 1) := by decide +kernel
theorem dX6_book_105 : decode cX6_book 105 = .ok (.lreturn, 1) := by decide +kernel
theorem dX6_book_106 : decode cX6_book 106 = .ok (.ldc2_w 203, 3) := by decide +kernel
theorem dX6_book_109 : decode cX6_book 109 = .ok (.lreturn, 1) := by decide +kernel
set_option maxRecDepth 20000 in
theorem ggX6_why_X6_net : GoodIn wsX6_why wsX6_net := goodIn_r _ [5, 6, 7, 8, 4, 9, 10, 11, 12, 13, 14, 15, 16, 17, 18, 19, 20, 21, 22, 23, 24, 25, 26, 27, 28, 29, 30, 31, 32, 33, 34, 35, 36, 37, 45, 46, 47, 48, 49, 50, 51, 52, 53, 54, 55, 56, 57, 58, 59, 60, 61, 62, 63, 64, 65, 66] (by decide +kernel) (by decide +kernel)
set_option maxRecDepth 20000 in
theorem gX6_why_X6_net : GoodIn wsX6_why (wsV RX6 97 RX6 yX6_net wsX6_net) := goodIn_app (goodIn_of _ (by decide +kernel)) ggX6_why_X6_net
set_option maxRecDepth 20000 in
theorem ggX6_why_X6_of : GoodIn wsX6_why wsX6_of := goodIn_r _ [9, 10, 11, 12, 4, 13, 45, 46, 47, 48, 49, 50, 51, 52, 53, 54, 55, 56, 57, 58, 59, 60, 61, 62, 63, 64, 65, 66] (by decide +kernel) (by decide +kernel)
set_option maxRecDepth 20000 in
theorem gX6_why_X6_of : GoodIn wsX6_why (wsV RX6 53 RX6 yX6_of wsX6_of) := goodIn_app (goodIn_of _ (by decide +kernel)) ggX6_why_X6_of
set_option maxRecDepth 20000 in
theorem ggX6_why_X6_move : GoodIn wsX6_why wsX6_move := goodIn_r _ [41, 42, 43, 4, 44, 6, 7, 8, 9, 10, 11, 12, 13, 45, 46, 47, 48, 49, 50, 51, 52, 53, 54, 55, 56, 57, 58, 59, 60, 61, 62, 63, 64, 65, 66] (by decide +kernel) (by decide +kernel)
set_option maxRecDepth 20000 in
theorem gX6_why_X6_move : GoodIn wsX6_why (wsV RX6 100 RX6 yX6_move wsX6_move) := goodIn_app (goodIn_of _ (by decide +kernel)) ggX6_why_X6_move
set_option maxRecDepth 20000 in
theorem ggX6_why_X6_size : GoodIn wsX6_why wsX6_size := goodIn_r _ [44] (by decide +kernel) (by decide +kernel)
set_option maxRecDepth 20000 in
theorem gX6_why_X6_size : GoodIn wsX6_why (va_wsS RX6 83 yX6_size wsX6_size) := goodIn_app (goodIn_of _ (by decide +kernel)) ggX6_why_X6_size
theorem dX6_why_0 : decode cX6_why 0 = .ok (.aload_n 0, 1) := by decide +kernel
theorem dX6_why_1 : decode cX6_why 1 = .ok (.iload_n 1, 1) := by decide +kernel
theorem dX6_why_2 : decode cX6_why 2 = .ok (.invokevirtual 97, 3) := by decide +kernel
theorem dX6_why_5 : decode cX6_why 5 = .ok (.istore_n 2, 1) := by decide +kernel
theorem dX6_why_6 : decode cX6_why 6 = .ok (.aload_n 0, 1) := by decide +kernel
theorem dX6_why_7 : decode cX6_why 7 = .ok (.iload_n 1, 1) := by decide +kernel
theorem dX6_why_8 : decode cX6_why 8 = .ok (.aload_n 0, 1) := by decide +kernel
theorem dX6_why_9 : decode cX6_why 9 = .ok (.iload_n 1, 1) := by decide +kernel
theorem dX6_why_10 : decode cX6_why 10 = .ok (.bipush 6, 2) := by decide +kernel
theorem dX6_why_12 : decode cX6_why 12 = .ok (.invokevirtual 53, 3) := by decide +kernel
theorem dX6_why_15 : decode cX6_why 15 = .ok (.iload_n 2, 1) := by decide +kernel
theorem dX6_why_16 : decode cX6_why 16 = .ok (.invokevirtual 100, 3) := by decide +kernel
theorem dX6_why_19 : decode cX6_why 19 = .ok (.istore_n 3, 1) := by decide +kernel
theorem dX6_why_20 : decode cX6_why 20 = .ok (.iload_n 3, 1) := by decide +kernel
theorem dX6_why_21 : decode cX6_why 21 = .ok (.ifCond .le 7, 3) := by decide +kernel
theorem dX6_why_24 : decode cX6_why 24 = .ok (.iconst 0, 1) := by decide +kernel
theorem dX6_why_25 : decode cX6_why 25 = .ok (.goto 37, 3) := by decide +kernel
theorem dX6_why_28 : decode cX6_why 28 = .ok (.iload_n 3, 1) := by decide +kernel
theorem dX6_why_29 : decode cX6_why 29 = .ok (.ifCond .ge 7, 3) := by decide +kernel
theorem dX6_why_32 : decode cX6_why 32 = .ok (.iconst 1, 1) := by decide +kernel
theorem dX6_why_33 : decode cX6_why 33 = .ok (.goto 29, 3) := by decide +kernel
theorem dX6_why_36 : decode cX6_why 36 = .ok (.iload_n 2, 1) := by decide +kernel
theorem dX6_why_37 : decode cX6_why 37 = .ok (.ifCond .ne 7, 3) := by decide +kernel
theorem dX6_why_40 : decode cX6_why 40 = .ok (.iconst 2, 1) := by decide +kernel
theorem dX6_why_41 : decode cX6_why 41 = .ok (.goto 21, 3) := by decide +kernel
theorem dX6_why_44 : decode cX6_why 44 = .ok (.iload_n 2, 1) := by decide +kernel
theorem dX6_why_45 : decode cX6_why 45 = .ok (.invokestatic 83, 3) := by decide +kernel
theorem dX6_why_48 : decode cX6_why 48 = .ok (.aload_n 0, 1) := by decide +kernel
theorem dX6_why_49 : decode cX6_why 49 = .ok (.iload_n 1, 1) := by decide +kernel
theorem dX6_why_50 : decode cX6_why 50 = .ok (.iconst 4, 1) := by decide +kernel
theorem dX6_why_51 : decode cX6_why 51 = .ok (.invokevirtual 53, 3) := by decide +kernel
theorem dX6_why_54 : decode cX6_why 54 = .ok (.if_icmp .gt 7, 3) := by decide +kernel
theorem dX6_why_57 : decode cX6_why 57 = .ok (.iconst 3, 1) := by decide +kernel
theorem dX6_why_58 : decode cX6_why 58 = .ok (.goto 4, 3) := by decide +kernel
theorem dX6_why_61 : decode cX6_why 61 = .ok (.iconst 4, 1) := by decide +kernel
theorem dX6_why_62 : decode cX6_why 62 = .ok (.ireturn, 1) := by decide +kernel
set_option maxRecDepth 20000 in
theorem ggX6_reason_X6_isPair : GoodIn wsX6_reason wsX6_isPair := goodIn_r _ [4, 5, 6, 3, 7] (by decide +kernel) (by decide +kernel)
set_option maxRecDepth 20000 in
theorem gX6_reason_X6_isPair : GoodIn wsX6_reason (va_wsS RX6 119 yX6_isPair wsX6_isPair) := goodIn_app (goodIn_of _ (by decide +kernel)) ggX6_reason_X6_isPair
set_option maxRecDepth 20000 in
theorem ggX6_reason_X6_why : GoodIn wsX6_reason wsX6_why := goodIn_r _ [11, 12, 13, 14, 3, 15, 16, 17, 18, 19, 20, 21, 22, 23, 24, 25, 26, 27, 28, 29, 30, 31, 32, 33, 34, 35, 36, 37, 38, 39, 40, 41, 42, 43, 44, 45, 46, 47, 48, 49, 50, 51, 52, 53, 54, 55, 56, 57, 58, 59, 60, 61, 62, 63, 64, 65, 66, 67, 68, 69, 70, 71, 72, 73, 74, 75, 76] (by decide +kernel) (by decide +kernel)
set_option maxRecDepth 20000 in
theorem gX6_reason_X6_why : GoodIn wsX6_reason (wsV RX6 205 RX6 yX6_why wsX6_why) := goodIn_app (goodIn_of _ (by decide +kernel)) ggX6_reason_X6_why
theorem dX6_reason_0 : decode cX6_reason 0 = .ok (.iload_n 1, 1) := by decide +kernel
theorem dX6_reason_1 : decode cX6_reason 1 = .ok (.invokestatic 119, 3) := by decide +kernel
theorem dX6_reason_4 : decode cX6_reason 4 = .ok (.ifCond .eq 11, 3) := by decide +kernel
theorem dX6_reason_7 : decode cX6_reason 7 = .ok (.aload_n 0, 1) := by decide +kernel
theorem dX6_reason_8 : decode cX6_reason 8 = .ok (.iload_n 1, 1) := by decide +kernel
theorem dX6_reason_9 : decode cX6_reason 9 = .ok (.invokevirtual 205, 3) := by decide +kernel
theorem dX6_reason_12 : decode cX6_reason 12 = .ok (.goto 4, 3) := by decide +kernel
theorem dX6_reason_15 : decode cX6_reason 15 = .ok (.iconst (-1), 1) := by decide +kernel
theorem dX6_reason_16 : decode cX6_reason 16 = .ok (.ireturn, 1) := by decide +kernel
set_option maxRecDepth 20000 in
theorem ggX6_force_X6_isPair : GoodIn wsX6_force wsX6_isPair := goodIn_r _ [4, 5, 6, 3, 7] (by decide +kernel) (by decide +kernel)
set_option maxRecDepth 20000 in
theorem gX6_force_X6_isPair : GoodIn wsX6_force (va_wsS RX6 119 yX6_isPair wsX6_isPair) := goodIn_app (goodIn_of _ (by decide +kernel)) ggX6_force_X6_isPair
set_option maxRecDepth 20000 in
theorem ggX6_force_X6_in : GoodIn wsX6_force wsX6_in := goodIn_r _ [7] (by decide +kernel) (by decide +kernel)
set_option maxRecDepth 20000 in
theorem gX6_force_X6_in : GoodIn wsX6_force (va_wsS RX6 49 yX6_in wsX6_in) := goodIn_app (goodIn_of _ (by decide +kernel)) ggX6_force_X6_in
set_option maxRecDepth 20000 in
theorem ggX6_force_X6_of : GoodIn wsX6_force wsX6_of := goodIn_r _ [11, 12, 13, 14, 3, 15, 43, 44, 45, 46, 47, 48, 49, 50, 51, 52, 53, 54, 55, 56, 57, 58, 59, 60, 61, 62, 63, 64] (by decide +kernel) (by decide +kernel)
set_option maxRecDepth 20000 in
theorem gX6_force_X6_of : GoodIn wsX6_force (wsV RX6 53 RX6 yX6_of wsX6_of) := goodIn_app (goodIn_of _ (by decide +kernel)) ggX6_force_X6_of
set_option maxRecDepth 20000 in
theorem ggX6_force_X6_pullAt : GoodIn wsX6_force wsX6_pullAt := goodIn_r _ [19, 20, 21, 22, 3, 23, 8, 9, 10, 11, 12, 13, 14, 15, 24, 25, 26, 27, 28, 29, 30, 31, 32, 33, 34, 35, 43, 44, 45, 46, 47, 48, 49, 50, 51, 52, 53, 54, 55, 56, 57, 58, 59, 60, 61, 62, 63, 64] (by decide +kernel) (by decide +kernel)
set_option maxRecDepth 20000 in
theorem gX6_force_X6_pullAt : GoodIn wsX6_force (wsV RX6 77 RX6 yX6_pullAt wsX6_pullAt) := goodIn_app (goodIn_of _ (by decide +kernel)) ggX6_force_X6_pullAt
set_option maxRecDepth 20000 in
theorem ggX6_force_X6_spring : GoodIn wsX6_force wsX6_spring := goodIn_r _ [39, 8, 9, 10, 3, 11, 12, 13, 14, 15, 43, 44, 45, 46, 47, 48, 49, 50, 51, 52, 53, 54, 55, 56, 57, 58, 59, 60, 61, 62, 63, 64] (by decide +kernel) (by decide +kernel)
set_option maxRecDepth 20000 in
theorem gX6_force_X6_spring : GoodIn wsX6_force (wsV RX6 80 RX6 yX6_spring wsX6_spring) := goodIn_app (goodIn_of _ (by decide +kernel)) ggX6_force_X6_spring
set_option maxRecDepth 20000 in
theorem ggX6_force_X6_size : GoodIn wsX6_force wsX6_size := goodIn_r _ [42] (by decide +kernel) (by decide +kernel)
set_option maxRecDepth 20000 in
theorem gX6_force_X6_size : GoodIn wsX6_force (va_wsS RX6 83 yX6_size wsX6_size) := goodIn_app (goodIn_of _ (by decide +kernel)) ggX6_force_X6_size
theorem dX6_force_0 : decode cX6_force 0 = .ok (.iload_n 1, 1) := by decide +kernel
theorem dX6_force_1 : decode cX6_force 1 = .ok (.invokestatic 119, 3) := by decide +kernel
theorem dX6_force_4 : decode cX6_force 4 = .ok (.ifCond .ne 5, 3) := by decide +kernel
theorem dX6_force_7 : decode cX6_force 7 = .ok (.iconst (-1), 1) := by decide +kernel
theorem dX6_force_8 : decode cX6_force 8 = .ok (.ireturn, 1) := by decide +kernel
theorem dX6_force_9 : decode cX6_force 9 = .ok (.iload_n 2, 1) := by decide +kernel
theorem dX6_force_10 : decode cX6_force 10 = .ok (.iconst 0, 1) := by decide +kernel
theorem dX6_force_11 : decode cX6_force 11 = .ok (.bipush 40, 2) := by decide +kernel
theorem dX6_force_13 : decode cX6_force 13 = .ok (.invokestatic 49, 3) := by decide +kernel
theorem dX6_force_16 : decode cX6_force 16 = .ok (.ifCond .eq 29, 3) := by decide +kernel
theorem dX6_force_19 : decode cX6_force 19 = .ok (.aload_n 0, 1) := by decide +kernel
theorem dX6_force_20 : decode cX6_force 20 = .ok (.iload_n 1, 1) := by decide +kernel
theorem dX6_force_21 : decode cX6_force 21 = .ok (.iload_n 2, 1) := by decide +kernel
theorem dX6_force_22 : decode cX6_force 22 = .ok (.aload_n 0, 1) := by decide +kernel
theorem dX6_force_23 : decode cX6_force 23 = .ok (.iload_n 1, 1) := by decide +kernel
theorem dX6_force_24 : decode cX6_force 24 = .ok (.bipush 7, 2) := by decide +kernel
theorem dX6_force_26 : decode cX6_force 26 = .ok (.invokevirtual 53, 3) := by decide +kernel
theorem dX6_force_29 : decode cX6_force 29 = .ok (.invokevirtual 77, 3) := by decide +kernel
theorem dX6_force_32 : decode cX6_force 32 = .ok (.aload_n 0, 1) := by decide +kernel
theorem dX6_force_33 : decode cX6_force 33 = .ok (.iload_n 1, 1) := by decide +kernel
theorem dX6_force_34 : decode cX6_force 34 = .ok (.iload_n 2, 1) := by decide +kernel
theorem dX6_force_35 : decode cX6_force 35 = .ok (.invokevirtual 80, 3) := by decide +kernel
theorem dX6_force_38 : decode cX6_force 38 = .ok (.isub, 1) := by decide +kernel
theorem dX6_force_39 : decode cX6_force 39 = .ok (.invokestatic 83, 3) := by decide +kernel
theorem dX6_force_42 : decode cX6_force 42 = .ok (.goto 5, 3) := by decide +kernel
theorem dX6_force_45 : decode cX6_force 45 = .ok (.bipush (-2), 2) := by decide +kernel
theorem dX6_force_47 : decode cX6_force 47 = .ok (.ireturn, 1) := by decide +kernel
set_option maxRecDepth 20000 in
theorem ggX6_goes_X6_isOn : GoodIn wsX6_goes wsX6_isOn := goodIn_r _ [7, 8, 9, 10, 6, 11, 12, 13, 14, 15, 48, 49, 50, 51, 52, 53, 54, 55, 56, 57, 58, 59, 60, 61, 62, 63, 64, 65, 66, 67, 68, 69] (by decide +kernel) (by decide +kernel)
set_option maxRecDepth 20000 in
theorem gX6_goes_X6_isOn : GoodIn wsX6_goes (wsV RX6 62 RX6 yX6_isOn wsX6_isOn) := goodIn_app (goodIn_of _ (by decide +kernel)) ggX6_goes_X6_isOn
set_option maxRecDepth 20000 in
theorem ggX6_goes_X6_leak : GoodIn wsX6_goes wsX6_leak := goodIn_r _ [19, 20, 8, 9, 10, 6, 11, 12, 13, 14, 15, 48, 49, 50, 51, 52, 53, 54, 55, 56, 57, 58, 59, 60, 61, 62, 63, 64, 65, 66, 67, 68, 69] (by decide +kernel) (by decide +kernel)
set_option maxRecDepth 20000 in
theorem gX6_goes_X6_leak : GoodIn wsX6_goes (wsV RX6 94 RX6 yX6_leak wsX6_leak) := goodIn_app (goodIn_of _ (by decide +kernel)) ggX6_goes_X6_leak
set_option maxRecDepth 20000 in
theorem ggX6_goes_X6_pullAt : GoodIn wsX6_goes wsX6_pullAt := goodIn_r _ [24, 3, 4, 5, 6, 7, 8, 9, 10, 11, 12, 13, 14, 15, 25, 26, 27, 28, 29, 30, 31, 32, 33, 34, 35, 36, 48, 49, 50, 51, 52, 53, 54, 55, 56, 57, 58, 59, 60, 61, 62, 63, 64, 65, 66, 67, 68, 69] (by decide +kernel) (by decide +kernel)
set_option maxRecDepth 20000 in
theorem gX6_goes_X6_pullAt : GoodIn wsX6_goes (wsV RX6 77 RX6 yX6_pullAt wsX6_pullAt) := goodIn_app (goodIn_of _ (by decide +kernel)) ggX6_goes_X6_pullAt
set_option maxRecDepth 20000 in
theorem ggX6_goes_X6_spring : GoodIn wsX6_goes wsX6_spring := goodIn_r _ [40, 8, 9, 10, 6, 11, 12, 13, 14, 15, 48, 49, 50, 51, 52, 53, 54, 55, 56, 57, 58, 59, 60, 61, 62, 63, 64, 65, 66, 67, 68, 69] (by decide +kernel) (by decide +kernel)
set_option maxRecDepth 20000 in
theorem gX6_goes_X6_spring : GoodIn wsX6_goes (wsV RX6 80 RX6 yX6_spring wsX6_spring) := goodIn_app (goodIn_of _ (by decide +kernel)) ggX6_goes_X6_spring
set_option maxRecDepth 20000 in
theorem ggX6_goes_X6_move : GoodIn wsX6_goes wsX6_move := goodIn_r _ [44, 45, 46, 6, 47, 8, 9, 10, 11, 12, 13, 14, 15, 48, 49, 50, 51, 52, 53, 54, 55, 56, 57, 58, 59, 60, 61, 62, 63, 64, 65, 66, 67, 68, 69] (by decide +kernel) (by decide +kernel)
set_option maxRecDepth 20000 in
theorem gX6_goes_X6_move : GoodIn wsX6_goes (wsV RX6 100 RX6 yX6_move wsX6_move) := goodIn_app (goodIn_of _ (by decide +kernel)) ggX6_goes_X6_move
theorem dX6_goes_0 : decode cX6_goes 0 = .ok (.aload_n 0, 1) := by decide +kernel
theorem dX6_goes_1 : decode cX6_goes 1 = .ok (.dup, 1) := by decide +kernel
theorem dX6_goes_2 : decode cX6_goes 2 = .ok (.getfield 208, 3) := by decide +kernel
theorem dX6_goes_5 : decode cX6_goes 5 = .ok (.aload_n 0, 1) := by decide +kernel
theorem dX6_goes_6 : decode cX6_goes 6 = .ok (.iload_n 1, 1) := by decide +kernel
theorem dX6_goes_7 : decode cX6_goes 7 = .ok (.invokevirtual 62, 3) := by decide +kernel
theorem dX6_goes_10 : decode cX6_goes 10 = .ok (.ifCond .eq 7, 3) := by decide +kernel
theorem dX6_goes_13 : decode cX6_goes 13 = .ok (.iconst 0, 1) := by decide +kernel
theorem dX6_goes_14 : decode cX6_goes 14 = .ok (.goto 12, 3) := by decide +kernel
theorem dX6_goes_17 : decode cX6_goes 17 = .ok (.aload_n 0, 1) := by decide +kernel
theorem dX6_goes_18 : decode cX6_goes 18 = .ok (.iload_n 1, 1) := by decide +kernel
theorem dX6_goes_19 : decode cX6_goes 19 = .ok (.aload_n 0, 1) := by decide +kernel
theorem dX6_goes_20 : decode cX6_goes 20 = .ok (.getfield 208, 3) := by decide +kernel
theorem dX6_goes_23 : decode cX6_goes 23 = .ok (.invokevirtual 94, 3) := by decide +kernel
theorem dX6_goes_26 : decode cX6_goes 26 = .ok (.isub, 1) := by decide +kernel
theorem dX6_goes_27 : decode cX6_goes 27 = .ok (.putfield 208, 3) := by decide +kernel
theorem dX6_goes_30 : decode cX6_goes 30 = .ok (.aload_n 0, 1) := by decide +kernel
theorem dX6_goes_31 : decode cX6_goes 31 = .ok (.iload_n 1, 1) := by decide +kernel
theorem dX6_goes_32 : decode cX6_goes 32 = .ok (.aload_n 0, 1) := by decide +kernel
theorem dX6_goes_33 : decode cX6_goes 33 = .ok (.getfield 211, 3) := by decide +kernel
theorem dX6_goes_36 : decode cX6_goes 36 = .ok (.aload_n 0, 1) := by decide +kernel
theorem dX6_goes_37 : decode cX6_goes 37 = .ok (.iload_n 1, 1) := by decide +kernel
theorem dX6_goes_38 : decode cX6_goes 38 = .ok (.aload_n 0, 1) := by decide +kernel
theorem dX6_goes_39 : decode cX6_goes 39 = .ok (.getfield 211, 3) := by decide +kernel
theorem dX6_goes_42 : decode cX6_goes 42 = .ok (.aload_n 0, 1) := by decide +kernel
theorem dX6_goes_43 : decode cX6_goes 43 = .ok (.getfield 208, 3) := by decide +kernel
theorem dX6_goes_46 : decode cX6_goes 46 = .ok (.invokevirtual 77, 3) := by decide +kernel
theorem dX6_goes_49 : decode cX6_goes 49 = .ok (.aload_n 0, 1) := by decide +kernel
theorem dX6_goes_50 : decode cX6_goes 50 = .ok (.iload_n 1, 1) := by decide +kernel
theorem dX6_goes_51 : decode cX6_goes 51 = .ok (.aload_n 0, 1) := by decide +kernel
theorem dX6_goes_52 : decode cX6_goes 52 = .ok (.getfield 211, 3) := by decide +kernel
theorem dX6_goes_55 : decode cX6_goes 55 = .ok (.invokevirtual 80, 3) := by decide +kernel
theorem dX6_goes_58 : decode cX6_goes 58 = .ok (.isub, 1) := by decide +kernel
theorem dX6_goes_59 : decode cX6_goes 59 = .ok (.invokevirtual 100, 3) := by decide +kernel
theorem dX6_goes_62 : decode cX6_goes 62 = .ok (.istore_n 2, 1) := by decide +kernel
theorem dX6_goes_63 : decode cX6_goes 63 = .ok (.aload_n 0, 1) := by decide +kernel
theorem dX6_goes_64 : decode cX6_goes 64 = .ok (.dup, 1) := by decide +kernel
theorem dX6_goes_65 : decode cX6_goes 65 = .ok (.getfield 211, 3) := by decide +kernel
theorem dX6_goes_68 : decode cX6_goes 68 = .ok (.iload_n 2, 1) := by decide +kernel
theorem dX6_goes_69 : decode cX6_goes 69 = .ok (.iadd, 1) := by decide +kernel
theorem dX6_goes_70 : decode cX6_goes 70 = .ok (.putfield 211, 3) := by decide +kernel
theorem dX6_goes_73 : decode cX6_goes 73 = .ok (.iload_n 2, 1) := by decide +kernel
theorem dX6_goes_74 : decode cX6_goes 74 = .ok (.ireturn, 1) := by decide +kernel
set_option maxRecDepth 20000 in
theorem ggX6_sets_X6_of : GoodIn wsX6_sets wsX6_of := goodIn_r _ [7, 8, 9, 10, 6, 11, 12, 13, 14, 15, 16, 17, 18, 19, 20, 21, 22, 23, 24, 25, 26, 27, 28, 29, 30, 31, 32, 33] (by decide +kernel) (by decide +kernel)
set_option maxRecDepth 20000 in
theorem gX6_sets_X6_of : GoodIn wsX6_sets (wsV RX6 53 RX6 yX6_of wsX6_of) := goodIn_app (goodIn_of _ (by decide +kernel)) ggX6_sets_X6_of
theorem dX6_sets_0 : decode cX6_sets 0 = .ok (.aload_n 0, 1) := by decide +kernel
theorem dX6_sets_1 : decode cX6_sets 1 = .ok (.aload_n 0, 1) := by decide +kernel
theorem dX6_sets_2 : decode cX6_sets 2 = .ok (.iload_n 1, 1) := by decide +kernel
theorem dX6_sets_3 : decode cX6_sets 3 = .ok (.bipush 6, 2) := by decide +kernel
theorem dX6_sets_5 : decode cX6_sets 5 = .ok (.invokevirtual 53, 3) := by decide +kernel
theorem dX6_sets_8 : decode cX6_sets 8 = .ok (.putfield 211, 3) := by decide +kernel
theorem dX6_sets_11 : decode cX6_sets 11 = .ok (.aload_n 0, 1) := by decide +kernel
theorem dX6_sets_12 : decode cX6_sets 12 = .ok (.aload_n 0, 1) := by decide +kernel
theorem dX6_sets_13 : decode cX6_sets 13 = .ok (.iload_n 1, 1) := by decide +kernel
theorem dX6_sets_14 : decode cX6_sets 14 = .ok (.bipush 7, 2) := by decide +kernel
theorem dX6_sets_16 : decode cX6_sets 16 = .ok (.invokevirtual 53, 3) := by decide +kernel
theorem dX6_sets_19 : decode cX6_sets 19 = .ok (.putfield 208, 3) := by decide +kernel
theorem dX6_sets_22 : decode cX6_sets 22 = .ok (.return_, 1) := by decide +kernel
set_option maxRecDepth 20000 in
theorem ggX6_restsIn_X6_isPair : GoodIn wsX6_restsIn wsX6_isPair := goodIn_r _ [4, 5, 6, 3, 7] (by decide +kernel) (by decide +kernel)
set_option maxRecDepth 20000 in
theorem gX6_restsIn_X6_isPair : GoodIn wsX6_restsIn (va_wsS RX6 119 yX6_isPair wsX6_isPair) := goodIn_app (goodIn_of _ (by decide +kernel)) ggX6_restsIn_X6_isPair
set_option maxRecDepth 20000 in
theorem ggX6_restsIn_X6_sets : GoodIn wsX6_restsIn wsX6_sets := goodIn_r _ [11, 12, 13, 14, 15, 16, 3, 17, 18, 19, 20, 21, 62, 63, 64, 65, 66, 67, 68, 69, 70, 71, 72, 73, 74, 75, 76, 77, 78, 79, 80, 81, 82, 83] (by decide +kernel) (by decide +kernel)
set_option maxRecDepth 20000 in
theorem gX6_restsIn_X6_sets : GoodIn wsX6_restsIn (wsV RX6 214 RX6 yX6_sets wsX6_sets) := goodIn_app (goodIn_of _ (by decide +kernel)) ggX6_restsIn_X6_sets
set_option maxRecDepth 20000 in
theorem ggX6_restsIn_X6_goes : GoodIn wsX6_restsIn wsX6_goes := goodIn_r _ [25, 13, 12, 26, 27, 28, 3, 29, 14, 15, 16, 17, 18, 19, 20, 21, 30, 31, 32, 33, 34, 35, 36, 37, 38, 39, 40, 41, 42, 43, 44, 45, 46, 47, 48, 49, 50, 51, 52, 53, 54, 55, 56, 57, 58, 59, 60, 61, 62, 63, 64, 65, 66, 67, 68, 69, 70, 71, 72, 73, 74, 75, 76, 77, 78, 79, 80, 81, 82, 83] (by decide +kernel) (by decide +kernel)
set_option maxRecDepth 20000 in
theorem gX6_restsIn_X6_goes : GoodIn wsX6_restsIn (wsV RX6 217 RX6 yX6_goes wsX6_goes) := goodIn_app (goodIn_of _ (by decide +kernel)) ggX6_restsIn_X6_goes
theorem dX6_restsIn_0 : decode cX6_restsIn 0 = .ok (.iload_n 1, 1) := by decide +kernel
theorem dX6_restsIn_1 : decode cX6_restsIn 1 = .ok (.invokestatic 119, 3) := by decide +kernel
theorem dX6_restsIn_4 : decode cX6_restsIn 4 = .ok (.ifCond .ne 5, 3) := by decide +kernel
theorem dX6_restsIn_7 : decode cX6_restsIn 7 = .ok (.iconst (-1), 1) := by decide +kernel
theorem dX6_restsIn_8 : decode cX6_restsIn 8 = .ok (.ireturn, 1) := by decide +kernel
theorem dX6_restsIn_9 : decode cX6_restsIn 9 = .ok (.aload_n 0, 1) := by decide +kernel
theorem dX6_restsIn_10 : decode cX6_restsIn 10 = .ok (.iload_n 1, 1) := by decide +kernel
theorem dX6_restsIn_11 : decode cX6_restsIn 11 = .ok (.invokevirtual 214, 3) := by decide +kernel
theorem dX6_restsIn_14 : decode cX6_restsIn 14 = .ok (.iconst 0, 1) := by decide +kernel
theorem dX6_restsIn_15 : decode cX6_restsIn 15 = .ok (.istore_n 2, 1) := by decide +kernel
theorem dX6_restsIn_16 : decode cX6_restsIn 16 = .ok (.iload_n 2, 1) := by decide +kernel
theorem dX6_restsIn_17 : decode cX6_restsIn 17 = .ok (.sipush 400, 3) := by decide +kernel
theorem dX6_restsIn_20 : decode cX6_restsIn 20 = .ok (.if_icmp .gt 19, 3) := by decide +kernel
theorem dX6_restsIn_23 : decode cX6_restsIn 23 = .ok (.aload_n 0, 1) := by decide +kernel
theorem dX6_restsIn_24 : decode cX6_restsIn 24 = .ok (.iload_n 1, 1) := by decide +kernel
theorem dX6_restsIn_25 : decode cX6_restsIn 25 = .ok (.invokevirtual 217, 3) := by decide +kernel
theorem dX6_restsIn_28 : decode cX6_restsIn 28 = .ok (.ifCond .ne 5, 3) := by decide +kernel
theorem dX6_restsIn_31 : decode cX6_restsIn 31 = .ok (.iload_n 2, 1) := by decide +kernel
theorem dX6_restsIn_32 : decode cX6_restsIn 32 = .ok (.ireturn, 1) := by decide +kernel
theorem dX6_restsIn_33 : decode cX6_restsIn 33 = .ok (.iinc 2 1, 3) := by decide +kernel
theorem dX6_restsIn_36 : decode cX6_restsIn 36 = .ok (.goto (-20), 3) := by decide +kernel
theorem dX6_restsIn_39 : decode cX6_restsIn 39 = .ok (.bipush (-5), 2) := by decide +kernel
theorem dX6_restsIn_41 : decode cX6_restsIn 41 = .ok (.ireturn, 1) := by decide +kernel
set_option maxRecDepth 20000 in
theorem ggX6_depthIn_X6_isPair : GoodIn wsX6_depthIn wsX6_isPair := goodIn_r _ [5, 6, 7, 4, 8] (by decide +kernel) (by decide +kernel)
set_option maxRecDepth 20000 in
theorem gX6_depthIn_X6_isPair : GoodIn wsX6_depthIn (va_wsS RX6 119 yX6_isPair wsX6_isPair) := goodIn_app (goodIn_of _ (by decide +kernel)) ggX6_depthIn_X6_isPair
set_option maxRecDepth 20000 in
theorem ggX6_depthIn_X6_in : GoodIn wsX6_depthIn wsX6_in := goodIn_r _ [8] (by decide +kernel) (by decide +kernel)
set_option maxRecDepth 20000 in
theorem gX6_depthIn_X6_in : GoodIn wsX6_depthIn (va_wsS RX6 49 yX6_in wsX6_in) := goodIn_app (goodIn_of _ (by decide +kernel)) ggX6_depthIn_X6_in
set_option maxRecDepth 20000 in
theorem ggX6_depthIn_X6_sets : GoodIn wsX6_depthIn wsX6_sets := goodIn_r _ [12, 1, 13, 14, 15, 16, 4, 17, 18, 19, 20, 21, 62, 63, 64, 65, 66, 67, 68, 69, 70, 71, 72, 73, 74, 75, 76, 77, 78, 79, 80, 81, 82, 83] (by decide +kernel) (by decide +kernel)
set_option maxRecDepth 20000 in
theorem gX6_depthIn_X6_sets : GoodIn wsX6_depthIn (wsV RX6 214 RX6 yX6_sets wsX6_sets) := goodIn_app (goodIn_of _ (by decide +kernel)) ggX6_depthIn_X6_sets
set_option maxRecDepth 20000 in
theorem ggX6_depthIn_X6_goes : GoodIn wsX6_depthIn wsX6_goes := goodIn_r _ [25, 13, 1, 26, 27, 28, 4, 29, 14, 15, 16, 17, 18, 19, 20, 21, 30, 31, 32, 33, 34, 35, 36, 37, 38, 39, 40, 41, 42, 43, 44, 45, 46, 47, 48, 49, 50, 51, 52, 53, 54, 55, 56, 57, 58, 59, 60, 61, 62, 63, 64, 65, 66, 67, 68, 69, 70, 71, 72, 73, 74, 75, 76, 77, 78, 79, 80, 81, 82, 83] (by decide +kernel) (by decide +kernel)
set_option maxRecDepth 20000 in
theorem gX6_depthIn_X6_goes : GoodIn wsX6_depthIn (wsV RX6 217 RX6 yX6_goes wsX6_goes) := goodIn_app (goodIn_of _ (by decide +kernel)) ggX6_depthIn_X6_goes
theorem dX6_depthIn_0 : decode cX6_depthIn 0 = .ok (.iload_n 1, 1) := by decide +kernel
theorem dX6_depthIn_1 : decode cX6_depthIn 1 = .ok (.invokestatic 119, 3) := by decide +kernel
theorem dX6_depthIn_4 : decode cX6_depthIn 4 = .ok (.ifCond .ne 5, 3) := by decide +kernel
theorem dX6_depthIn_7 : decode cX6_depthIn 7 = .ok (.iconst (-1), 1) := by decide +kernel
theorem dX6_depthIn_8 : decode cX6_depthIn 8 = .ok (.ireturn, 1) := by decide +kernel
theorem dX6_depthIn_9 : decode cX6_depthIn 9 = .ok (.iload_n 2, 1) := by decide +kernel
theorem dX6_depthIn_10 : decode cX6_depthIn 10 = .ok (.iconst 1, 1) := by decide +kernel
theorem dX6_depthIn_11 : decode cX6_depthIn 11 = .ok (.sipush 400, 3) := by decide +kernel
theorem dX6_depthIn_14 : decode cX6_depthIn 14 = .ok (.invokestatic 49, 3) := by decide +kernel
theorem dX6_depthIn_17 : decode cX6_depthIn 17 = .ok (.ifCond .ne 6, 3) := by decide +kernel
theorem dX6_depthIn_20 : decode cX6_depthIn 20 = .ok (.bipush (-2), 2) := by decide +kernel
theorem dX6_depthIn_22 : decode cX6_depthIn 22 = .ok (.ireturn, 1) := by decide +kernel
theorem dX6_depthIn_23 : decode cX6_depthIn 23 = .ok (.aload_n 0, 1) := by decide +kernel
theorem dX6_depthIn_24 : decode cX6_depthIn 24 = .ok (.iload_n 1, 1) := by decide +kernel
theorem dX6_depthIn_25 : decode cX6_depthIn 25 = .ok (.invokevirtual 214, 3) := by decide +kernel
theorem dX6_depthIn_28 : decode cX6_depthIn 28 = .ok (.iconst 0, 1) := by decide +kernel
theorem dX6_depthIn_29 : decode cX6_depthIn 29 = .ok (.istore_n 3, 1) := by decide +kernel
theorem dX6_depthIn_30 : decode cX6_depthIn 30 = .ok (.iload_n 3, 1) := by decide +kernel
theorem dX6_depthIn_31 : decode cX6_depthIn 31 = .ok (.iload_n 2, 1) := by decide +kernel
theorem dX6_depthIn_32 : decode cX6_depthIn 32 = .ok (.if_icmp .ge 16, 3) := by decide +kernel
theorem dX6_depthIn_35 : decode cX6_depthIn 35 = .ok (.aload_n 0, 1) := by decide +kernel
theorem dX6_depthIn_36 : decode cX6_depthIn 36 = .ok (.iload_n 1, 1) := by decide +kernel
theorem dX6_depthIn_37 : decode cX6_depthIn 37 = .ok (.invokevirtual 217, 3) := by decide +kernel
theorem dX6_depthIn_40 : decode cX6_depthIn 40 = .ok (.istore 4, 2) := by decide +kernel
theorem dX6_depthIn_42 : decode cX6_depthIn 42 = .ok (.iinc 3 1, 3) := by decide +kernel
theorem dX6_depthIn_45 : decode cX6_depthIn 45 = .ok (.goto (-15), 3) := by decide +kernel
theorem dX6_depthIn_48 : decode cX6_depthIn 48 = .ok (.aload_n 0, 1) := by decide +kernel
theorem dX6_depthIn_49 : decode cX6_depthIn 49 = .ok (.getfield 211, 3) := by decide +kernel
theorem dX6_depthIn_52 : decode cX6_depthIn 52 = .ok (.ireturn, 1) := by decide +kernel
set_option maxRecDepth 20000 in
theorem ggX6_leastVoltage_X6_isPair : GoodIn wsX6_leastVoltage wsX6_isPair := goodIn_r _ [4, 5, 6, 3, 7] (by decide +kernel) (by decide +kernel)
set_option maxRecDepth 20000 in
theorem gX6_leastVoltage_X6_isPair : GoodIn wsX6_leastVoltage (va_wsS RX6 119 yX6_isPair wsX6_isPair) := goodIn_app (goodIn_of _ (by decide +kernel)) ggX6_leastVoltage_X6_isPair
set_option maxRecDepth 20000 in
theorem ggX6_leastVoltage_X6_of : GoodIn wsX6_leastVoltage wsX6_of := goodIn_r _ [11, 12, 13, 14, 3, 15, 31, 32, 33, 34, 35, 36, 37, 38, 39, 40, 41, 42, 43, 44, 45, 46, 47, 48, 49, 50, 51, 52] (by decide +kernel) (by decide +kernel)
set_option maxRecDepth 20000 in
theorem gX6_leastVoltage_X6_of : GoodIn wsX6_leastVoltage (wsV RX6 53 RX6 yX6_of wsX6_of) := goodIn_app (goodIn_of _ (by decide +kernel)) ggX6_leastVoltage_X6_of
set_option maxRecDepth 20000 in
theorem ggX6_leastVoltage_X6_pullBy : GoodIn wsX6_leastVoltage wsX6_pullBy := goodIn_r _ [19, 8, 9, 10, 3, 11, 12, 13, 14, 15, 31, 32, 33, 34, 35, 36, 37, 38, 39, 40, 41, 42, 43, 44, 45, 46, 47, 48, 49, 50, 51, 52] (by decide +kernel) (by decide +kernel)
set_option maxRecDepth 20000 in
theorem gX6_leastVoltage_X6_pullBy : GoodIn wsX6_leastVoltage (wsV RX6 70 RX6 yX6_pullBy wsX6_pullBy) := goodIn_app (goodIn_of _ (by decide +kernel)) ggX6_leastVoltage_X6_pullBy
set_option maxRecDepth 20000 in
theorem ggX6_leastVoltage_X6_spring : GoodIn wsX6_leastVoltage wsX6_spring := goodIn_r _ [23, 8, 9, 10, 3, 11, 12, 13, 14, 15, 31, 32, 33, 34, 35, 36, 37, 38, 39, 40, 41, 42, 43, 44, 45, 46, 47, 48, 49, 50, 51, 52] (by decide +kernel) (by decide +kernel)
set_option maxRecDepth 20000 in
theorem gX6_leastVoltage_X6_spring : GoodIn wsX6_leastVoltage (wsV RX6 80 RX6 yX6_spring wsX6_spring) := goodIn_app (goodIn_of _ (by decide +kernel)) ggX6_leastVoltage_X6_spring
set_option maxRecDepth 20000 in
theorem ggX6_leastVoltage_X6_move : GoodIn wsX6_leastVoltage wsX6_move := goodIn_r _ [27, 28, 29, 3, 30, 8, 9, 10, 11, 12, 13, 14, 15, 31, 32, 33, 34, 35, 36, 37, 38, 39, 40, 41, 42, 43, 44, 45, 46, 47, 48, 49, 50, 51, 52] (by decide +kernel) (by decide +kernel)
set_option maxRecDepth 20000 in
theorem gX6_leastVoltage_X6_move : GoodIn wsX6_leastVoltage (wsV RX6 100 RX6 yX6_move wsX6_move) := goodIn_app (goodIn_of _ (by decide +kernel)) ggX6_leastVoltage_X6_move
theorem dX6_leastVoltage_0 : decode cX6_leastVoltage 0 = .ok (.iload_n 1, 1) := by decide +kernel
theorem dX6_leastVoltage_1 : decode cX6_leastVoltage 1 = .ok (.invokestatic 119, 3) := by decide +kernel
theorem dX6_leastVoltage_4 : decode cX6_leastVoltage 4 = .ok (.ifCond .ne 5, 3) := by decide +kernel
theorem dX6_leastVoltage_7 : decode cX6_leastVoltage 7 = .ok (.iconst (-1), 1) := by decide +kernel
theorem dX6_leastVoltage_8 : decode cX6_leastVoltage 8 = .ok (.ireturn, 1) := by decide +kernel
theorem dX6_leastVoltage_9 : decode cX6_leastVoltage 9 = .ok (.aload_n 0, 1) := by decide +kernel
theorem dX6_leastVoltage_10 : decode cX6_leastVoltage 10 = .ok (.iload_n 1, 1) := by decide +kernel
theorem dX6_leastVoltage_11 : decode cX6_leastVoltage 11 = .ok (.bipush 6, 2) := by decide +kernel
theorem dX6_leastVoltage_13 : decode cX6_leastVoltage 13 = .ok (.invokevirtual 53, 3) := by decide +kernel
theorem dX6_leastVoltage_16 : decode cX6_leastVoltage 16 = .ok (.istore_n 2, 1) := by decide +kernel
theorem dX6_leastVoltage_17 : decode cX6_leastVoltage 17 = .ok (.iconst 0, 1) := by decide +kernel
theorem dX6_leastVoltage_18 : decode cX6_leastVoltage 18 = .ok (.istore_n 3, 1) := by decide +kernel
theorem dX6_leastVoltage_19 : decode cX6_leastVoltage 19 = .ok (.iload_n 3, 1) := by decide +kernel
theorem dX6_leastVoltage_20 : decode cX6_leastVoltage 20 = .ok (.bipush 30, 2) := by decide +kernel
theorem dX6_leastVoltage_22 : decode cX6_leastVoltage 22 = .ok (.if_icmp .gt 34, 3) := by decide +kernel
theorem dX6_leastVoltage_25 : decode cX6_leastVoltage 25 = .ok (.aload_n 0, 1) := by decide +kernel
theorem dX6_leastVoltage_26 : decode cX6_leastVoltage 26 = .ok (.iload_n 1, 1) := by decide +kernel
theorem dX6_leastVoltage_27 : decode cX6_leastVoltage 27 = .ok (.iload_n 2, 1) := by decide +kernel
theorem dX6_leastVoltage_28 : decode cX6_leastVoltage 28 = .ok (.aload_n 0, 1) := by decide +kernel
theorem dX6_leastVoltage_29 : decode cX6_leastVoltage 29 = .ok (.iload_n 1, 1) := by decide +kernel
theorem dX6_leastVoltage_30 : decode cX6_leastVoltage 30 = .ok (.iload_n 3, 1) := by decide +kernel
theorem dX6_leastVoltage_31 : decode cX6_leastVoltage 31 = .ok (.invokevirtual 70, 3) := by decide +kernel
theorem dX6_leastVoltage_34 : decode cX6_leastVoltage 34 = .ok (.aload_n 0, 1) := by decide +kernel
theorem dX6_leastVoltage_35 : decode cX6_leastVoltage 35 = .ok (.iload_n 1, 1) := by decide +kernel
theorem dX6_leastVoltage_36 : decode cX6_leastVoltage 36 = .ok (.iload_n 2, 1) := by decide +kernel
theorem dX6_leastVoltage_37 : decode cX6_leastVoltage 37 = .ok (.invokevirtual 80, 3) := by decide +kernel
theorem dX6_leastVoltage_40 : decode cX6_leastVoltage 40 = .ok (.isub, 1) := by decide +kernel
theorem dX6_leastVoltage_41 : decode cX6_leastVoltage 41 = .ok (.invokevirtual 100, 3) := by decide +kernel
theorem dX6_leastVoltage_44 : decode cX6_leastVoltage 44 = .ok (.iconst 1, 1) := by decide +kernel
theorem dX6_leastVoltage_45 : decode cX6_leastVoltage 45 = .ok (.if_icmp .ne 5, 3) := by decide +kernel
theorem dX6_leastVoltage_48 : decode cX6_leastVoltage 48 = .ok (.iload_n 3, 1) := by decide +kernel
theorem dX6_leastVoltage_49 : decode cX6_leastVoltage 49 = .ok (.ireturn, 1) := by decide +kernel
theorem dX6_leastVoltage_50 : decode cX6_leastVoltage 50 = .ok (.iinc 3 1, 3) := by decide +kernel
theorem dX6_leastVoltage_53 : decode cX6_leastVoltage 53 = .ok (.goto (-34), 3) := by decide +kernel
theorem dX6_leastVoltage_56 : decode cX6_leastVoltage 56 = .ok (.bipush (-5), 2) := by decide +kernel
theorem dX6_leastVoltage_58 : decode cX6_leastVoltage 58 = .ok (.ireturn, 1) := by decide +kernel
set_option maxRecDepth 20000 in
theorem ggX6_isDrawn_X6_of : GoodIn wsX6_isDrawn wsX6_of := goodIn_r _ [5, 6, 7, 8, 4, 9, 25, 26, 27, 28, 29, 30, 31, 32, 33, 34, 35, 36, 37, 38, 39, 40, 41, 42, 43, 44, 45, 46] (by decide +kernel) (by decide +kernel)
set_option maxRecDepth 20000 in
theorem gX6_isDrawn_X6_of : GoodIn wsX6_isDrawn (wsV RX6 53 RX6 yX6_of wsX6_of) := goodIn_app (goodIn_of _ (by decide +kernel)) ggX6_isDrawn_X6_of
set_option maxRecDepth 20000 in
theorem ggX6_isDrawn_X6_pullBy : GoodIn wsX6_isDrawn wsX6_pullBy := goodIn_r _ [13, 1, 2, 3, 4, 5, 6, 7, 8, 9, 25, 26, 27, 28, 29, 30, 31, 32, 33, 34, 35, 36, 37, 38, 39, 40, 41, 42, 43, 44, 45, 46] (by decide +kernel) (by decide +kernel)
set_option maxRecDepth 20000 in
theorem gX6_isDrawn_X6_pullBy : GoodIn wsX6_isDrawn (wsV RX6 70 RX6 yX6_pullBy wsX6_pullBy) := goodIn_app (goodIn_of _ (by decide +kernel)) ggX6_isDrawn_X6_pullBy
set_option maxRecDepth 20000 in
theorem ggX6_isDrawn_X6_spring : GoodIn wsX6_isDrawn wsX6_spring := goodIn_r _ [17, 1, 2, 3, 4, 5, 6, 7, 8, 9, 25, 26, 27, 28, 29, 30, 31, 32, 33, 34, 35, 36, 37, 38, 39, 40, 41, 42, 43, 44, 45, 46] (by decide +kernel) (by decide +kernel)
set_option maxRecDepth 20000 in
theorem gX6_isDrawn_X6_spring : GoodIn wsX6_isDrawn (wsV RX6 80 RX6 yX6_spring wsX6_spring) := goodIn_app (goodIn_of _ (by decide +kernel)) ggX6_isDrawn_X6_spring
set_option maxRecDepth 20000 in
theorem ggX6_isDrawn_X6_move : GoodIn wsX6_isDrawn wsX6_move := goodIn_r _ [21, 22, 23, 4, 24, 1, 2, 3, 5, 6, 7, 8, 9, 25, 26, 27, 28, 29, 30, 31, 32, 33, 34, 35, 36, 37, 38, 39, 40, 41, 42, 43, 44, 45, 46] (by decide +kernel) (by decide +kernel)
set_option maxRecDepth 20000 in
theorem gX6_isDrawn_X6_move : GoodIn wsX6_isDrawn (wsV RX6 100 RX6 yX6_move wsX6_move) := goodIn_app (goodIn_of _ (by decide +kernel)) ggX6_isDrawn_X6_move
theorem dX6_isDrawn_0 : decode cX6_isDrawn 0 = .ok (.aload_n 0, 1) := by decide +kernel
theorem dX6_isDrawn_1 : decode cX6_isDrawn 1 = .ok (.iload_n 1, 1) := by decide +kernel
theorem dX6_isDrawn_2 : decode cX6_isDrawn 2 = .ok (.bipush 6, 2) := by decide +kernel
theorem dX6_isDrawn_4 : decode cX6_isDrawn 4 = .ok (.invokevirtual 53, 3) := by decide +kernel
theorem dX6_isDrawn_7 : decode cX6_isDrawn 7 = .ok (.istore_n 3, 1) := by decide +kernel
theorem dX6_isDrawn_8 : decode cX6_isDrawn 8 = .ok (.iload_n 3, 1) := by decide +kernel
theorem dX6_isDrawn_9 : decode cX6_isDrawn 9 = .ok (.bipush 40, 2) := by decide +kernel
theorem dX6_isDrawn_11 : decode cX6_isDrawn 11 = .ok (.if_icmp .ge 32, 3) := by decide +kernel
theorem dX6_isDrawn_14 : decode cX6_isDrawn 14 = .ok (.aload_n 0, 1) := by decide +kernel
theorem dX6_isDrawn_15 : decode cX6_isDrawn 15 = .ok (.iload_n 1, 1) := by decide +kernel
theorem dX6_isDrawn_16 : decode cX6_isDrawn 16 = .ok (.iload_n 3, 1) := by decide +kernel
theorem dX6_isDrawn_17 : decode cX6_isDrawn 17 = .ok (.aload_n 0, 1) := by decide +kernel
theorem dX6_isDrawn_18 : decode cX6_isDrawn 18 = .ok (.iload_n 1, 1) := by decide +kernel
theorem dX6_isDrawn_19 : decode cX6_isDrawn 19 = .ok (.iload_n 2, 1) := by decide +kernel
theorem dX6_isDrawn_20 : decode cX6_isDrawn 20 = .ok (.invokevirtual 70, 3) := by decide +kernel
theorem dX6_isDrawn_23 : decode cX6_isDrawn 23 = .ok (.aload_n 0, 1) := by decide +kernel
theorem dX6_isDrawn_24 : decode cX6_isDrawn 24 = .ok (.iload_n 1, 1) := by decide +kernel
theorem dX6_isDrawn_25 : decode cX6_isDrawn 25 = .ok (.iload_n 3, 1) := by decide +kernel
theorem dX6_isDrawn_26 : decode cX6_isDrawn 26 = .ok (.invokevirtual 80, 3) := by decide +kernel
theorem dX6_isDrawn_29 : decode cX6_isDrawn 29 = .ok (.isub, 1) := by decide +kernel
theorem dX6_isDrawn_30 : decode cX6_isDrawn 30 = .ok (.invokevirtual 100, 3) := by decide +kernel
theorem dX6_isDrawn_33 : decode cX6_isDrawn 33 = .ok (.iconst 1, 1) := by decide +kernel
theorem dX6_isDrawn_34 : decode cX6_isDrawn 34 = .ok (.if_icmp .ne 9, 3) := by decide +kernel
theorem dX6_isDrawn_37 : decode cX6_isDrawn 37 = .ok (.iinc 3 1, 3) := by decide +kernel
theorem dX6_isDrawn_40 : decode cX6_isDrawn 40 = .ok (.goto (-32), 3) := by decide +kernel
theorem dX6_isDrawn_43 : decode cX6_isDrawn 43 = .ok (.iload_n 3, 1) := by decide +kernel
theorem dX6_isDrawn_44 : decode cX6_isDrawn 44 = .ok (.bipush 40, 2) := by decide +kernel
theorem dX6_isDrawn_46 : decode cX6_isDrawn 46 = .ok (.if_icmp .ne 7, 3) := by decide +kernel
theorem dX6_isDrawn_49 : decode cX6_isDrawn 49 = .ok (.iconst 1, 1) := by decide +kernel
theorem dX6_isDrawn_50 : decode cX6_isDrawn 50 = .ok (.goto 4, 3) := by decide +kernel
theorem dX6_isDrawn_53 : decode cX6_isDrawn 53 = .ok (.iconst 0, 1) := by decide +kernel
theorem dX6_isDrawn_54 : decode cX6_isDrawn 54 = .ok (.ireturn, 1) := by decide +kernel
set_option maxRecDepth 20000 in
theorem ggX6_drawingVoltage_X6_isPair : GoodIn wsX6_drawingVoltage wsX6_isPair := goodIn_r _ [4, 5, 6, 3, 7] (by decide +kernel) (by decide +kernel)
set_option maxRecDepth 20000 in
theorem gX6_drawingVoltage_X6_isPair : GoodIn wsX6_drawingVoltage (va_wsS RX6 119 yX6_isPair wsX6_isPair) := goodIn_app (goodIn_of _ (by decide +kernel)) ggX6_drawingVoltage_X6_isPair
set_option maxRecDepth 20000 in
theorem ggX6_drawingVoltage_X6_isDrawn : GoodIn wsX6_drawingVoltage wsX6_isDrawn := goodIn_r _ [11, 12, 13, 14, 3, 15, 16, 17, 18, 19, 20, 21, 22, 23, 24, 25, 26, 27, 28, 29, 30, 31, 32, 33, 34, 35, 36, 37, 38, 39, 40, 41, 42, 43, 44, 45, 46, 47, 48, 49, 50, 51, 52, 53, 54, 55, 56] (by decide +kernel) (by decide +kernel)
set_option maxRecDepth 20000 in
theorem gX6_drawingVoltage_X6_isDrawn : GoodIn wsX6_drawingVoltage (wsV RX6 220 RX6 yX6_isDrawn wsX6_isDrawn) := goodIn_app (goodIn_of _ (by decide +kernel)) ggX6_drawingVoltage_X6_isDrawn
theorem dX6_drawingVoltage_0 : decode cX6_drawingVoltage 0 = .ok (.iload_n 1, 1) := by decide +kernel
theorem dX6_drawingVoltage_1 : decode cX6_drawingVoltage 1 = .ok (.invokestatic 119, 3) := by decide +kernel
theorem dX6_drawingVoltage_4 : decode cX6_drawingVoltage 4 = .ok (.ifCond .ne 5, 3) := by decide +kernel
theorem dX6_drawingVoltage_7 : decode cX6_drawingVoltage 7 = .ok (.iconst (-1), 1) := by decide +kernel
theorem dX6_drawingVoltage_8 : decode cX6_drawingVoltage 8 = .ok (.ireturn, 1) := by decide +kernel
theorem dX6_drawingVoltage_9 : decode cX6_drawingVoltage 9 = .ok (.iconst 0, 1) := by decide +kernel
theorem dX6_drawingVoltage_10 : decode cX6_drawingVoltage 10 = .ok (.istore_n 2, 1) := by decide +kernel
theorem dX6_drawingVoltage_11 : decode cX6_drawingVoltage 11 = .ok (.iload_n 2, 1) := by decide +kernel
theorem dX6_drawingVoltage_12 : decode cX6_drawingVoltage 12 = .ok (.bipush 30, 2) := by decide +kernel
theorem dX6_drawingVoltage_14 : decode cX6_drawingVoltage 14 = .ok (.if_icmp .gt 20, 3) := by decide +kernel
theorem dX6_drawingVoltage_17 : decode cX6_drawingVoltage 17 = .ok (.aload_n 0, 1) := by decide +kernel
theorem dX6_drawingVoltage_18 : decode cX6_drawingVoltage 18 = .ok (.iload_n 1, 1) := by decide +kernel
theorem dX6_drawingVoltage_19 : decode cX6_drawingVoltage 19 = .ok (.iload_n 2, 1) := by decide +kernel
theorem dX6_drawingVoltage_20 : decode cX6_drawingVoltage 20 = .ok (.invokevirtual 220, 3) := by decide +kernel
theorem dX6_drawingVoltage_23 : decode cX6_drawingVoltage 23 = .ok (.ifCond .eq 5, 3) := by decide +kernel
theorem dX6_drawingVoltage_26 : decode cX6_drawingVoltage 26 = .ok (.iload_n 2, 1) := by decide +kernel
theorem dX6_drawingVoltage_27 : decode cX6_drawingVoltage 27 = .ok (.ireturn, 1) := by decide +kernel
theorem dX6_drawingVoltage_28 : decode cX6_drawingVoltage 28 = .ok (.iinc 2 1, 3) := by decide +kernel
theorem dX6_drawingVoltage_31 : decode cX6_drawingVoltage 31 = .ok (.goto (-20), 3) := by decide +kernel
theorem dX6_drawingVoltage_34 : decode cX6_drawingVoltage 34 = .ok (.bipush (-5), 2) := by decide +kernel
theorem dX6_drawingVoltage_36 : decode cX6_drawingVoltage 36 = .ok (.ireturn, 1) := by decide +kernel
set_option maxRecDepth 20000 in
theorem ggX6_strongest_X6_pullNow : GoodIn wsX6_strongest wsX6_pullNow := goodIn_r _ [5, 6, 7, 8, 4, 9, 10, 11, 12, 13, 14, 15, 16, 17, 18, 19, 20, 21, 22, 23, 24, 25, 26, 27, 28, 29, 30, 31, 32, 33, 34, 35, 36, 37, 38, 39, 40, 41, 42, 43, 44, 45, 46, 47, 48, 49, 50, 51, 52, 53, 54, 55] (by decide +kernel) (by decide +kernel)
set_option maxRecDepth 20000 in
theorem gX6_strongest_X6_pullNow : GoodIn wsX6_strongest (wsV RX6 198 RX6 yX6_pullNow wsX6_pullNow) := goodIn_app (goodIn_of _ (by decide +kernel)) ggX6_strongest_X6_pullNow
theorem dX6_strongest_0 : decode cX6_strongest 0 = .ok (.bipush (-5), 2) := by decide +kernel
theorem dX6_strongest_2 : decode cX6_strongest 2 = .ok (.istore_n 1, 1) := by decide +kernel
theorem dX6_strongest_3 : decode cX6_strongest 3 = .ok (.iconst 3, 1) := by decide +kernel
theorem dX6_strongest_4 : decode cX6_strongest 4 = .ok (.istore_n 2, 1) := by decide +kernel
theorem dX6_strongest_5 : decode cX6_strongest 5 = .ok (.iload_n 2, 1) := by decide +kernel
theorem dX6_strongest_6 : decode cX6_strongest 6 = .ok (.ifCond .lt 42, 3) := by decide +kernel
theorem dX6_strongest_9 : decode cX6_strongest 9 = .ok (.aload_n 0, 1) := by decide +kernel
theorem dX6_strongest_10 : decode cX6_strongest 10 = .ok (.iload_n 2, 1) := by decide +kernel
theorem dX6_strongest_11 : decode cX6_strongest 11 = .ok (.invokevirtual 198, 3) := by decide +kernel
theorem dX6_strongest_14 : decode cX6_strongest 14 = .ok (.ifCond .le 26, 3) := by decide +kernel
theorem dX6_strongest_17 : decode cX6_strongest 17 = .ok (.iload_n 1, 1) := by decide +kernel
theorem dX6_strongest_18 : decode cX6_strongest 18 = .ok (.bipush (-5), 2) := by decide +kernel
theorem dX6_strongest_20 : decode cX6_strongest 20 = .ok (.if_icmp .eq 16, 3) := by decide +kernel
theorem dX6_strongest_23 : decode cX6_strongest 23 = .ok (.aload_n 0, 1) := by decide +kernel
theorem dX6_strongest_24 : decode cX6_strongest 24 = .ok (.iload_n 2, 1) := by decide +kernel
theorem dX6_strongest_25 : decode cX6_strongest 25 = .ok (.invokevirtual 198, 3) := by decide +kernel
theorem dX6_strongest_28 : decode cX6_strongest 28 = .ok (.aload_n 0, 1) := by decide +kernel
theorem dX6_strongest_29 : decode cX6_strongest 29 = .ok (.iload_n 1, 1) := by decide +kernel
theorem dX6_strongest_30 : decode cX6_strongest 30 = .ok (.invokevirtual 198, 3) := by decide +kernel
theorem dX6_strongest_33 : decode cX6_strongest 33 = .ok (.if_icmp .lt 7, 3) := by decide +kernel
theorem dX6_strongest_36 : decode cX6_strongest 36 = .ok (.iload_n 2, 1) := by decide +kernel
theorem dX6_strongest_37 : decode cX6_strongest 37 = .ok (.goto 4, 3) := by decide +kernel
theorem dX6_strongest_40 : decode cX6_strongest 40 = .ok (.iload_n 1, 1) := by decide +kernel
theorem dX6_strongest_41 : decode cX6_strongest 41 = .ok (.istore_n 1, 1) := by decide +kernel
theorem dX6_strongest_42 : decode cX6_strongest 42 = .ok (.iinc 2 (-1), 3) := by decide +kernel
theorem dX6_strongest_45 : decode cX6_strongest 45 = .ok (.goto (-40), 3) := by decide +kernel
theorem dX6_strongest_48 : decode cX6_strongest 48 = .ok (.iload_n 1, 1) := by decide +kernel
theorem dX6_strongest_49 : decode cX6_strongest 49 = .ok (.ireturn, 1) := by decide +kernel
set_option maxRecDepth 20000 in
theorem ggX6_count_X6_of : GoodIn wsX6_count wsX6_of := goodIn_r _ [8, 1, 9, 10, 7, 11, 55, 56, 57, 58, 59, 60, 61, 62, 63, 64, 65, 66, 67, 68, 69, 70, 71, 72, 73, 74, 75, 76] (by decide +kernel) (by decide +kernel)
set_option maxRecDepth 20000 in
theorem gX6_count_X6_of : GoodIn wsX6_count (wsV RX6 53 RX6 yX6_of wsX6_of) := goodIn_app (goodIn_of _ (by decide +kernel)) ggX6_count_X6_of
set_option maxRecDepth 20000 in
theorem ggX6_count_X6_why : GoodIn wsX6_count wsX6_why := goodIn_r _ [15, 16, 17, 18, 7, 19, 4, 5, 6, 8, 1, 9, 10, 11, 20, 21, 22, 23, 24, 25, 26, 27, 28, 29, 30, 31, 32, 33, 34, 35, 36, 37, 38, 39, 40, 41, 42, 43, 44, 45, 46, 47, 48, 49, 50, 55, 56, 57, 58, 59, 60, 61, 62, 63, 64, 65, 66, 67, 68, 69, 70, 71, 72, 73, 74, 75, 76] (by decide +kernel) (by decide +kernel)
set_option maxRecDepth 20000 in
theorem gX6_count_X6_why : GoodIn wsX6_count (wsV RX6 205 RX6 yX6_why wsX6_why) := goodIn_app (goodIn_of _ (by decide +kernel)) ggX6_count_X6_why
set_option maxRecDepth 20000 in
theorem ggX6_count_X6_capacityNow : GoodIn wsX6_count wsX6_capacityNow := goodIn_r _ [54, 4, 5, 6, 7, 8, 1, 9, 10, 11, 36, 37, 38, 39, 55, 56, 57, 58, 59, 60, 61, 62, 63, 64, 65, 66, 67, 68, 69, 70, 71, 72, 73, 74, 75, 76] (by decide +kernel) (by decide +kernel)
set_option maxRecDepth 20000 in
theorem gX6_count_X6_capacityNow : GoodIn wsX6_count (wsV RX6 66 RX6 yX6_capacityNow wsX6_capacityNow) := goodIn_app (goodIn_of _ (by decide +kernel)) ggX6_count_X6_capacityNow
theorem dX6_count_0 : decode cX6_count 0 = .ok (.iconst 0, 1) := by decide +kernel
theorem dX6_count_1 : decode cX6_count 1 = .ok (.istore_n 2, 1) := by decide +kernel
theorem dX6_count_2 : decode cX6_count 2 = .ok (.iconst 0, 1) := by decide +kernel
theorem dX6_count_3 : decode cX6_count 3 = .ok (.istore_n 3, 1) := by decide +kernel
theorem dX6_count_4 : decode cX6_count 4 = .ok (.iload_n 3, 1) := by decide +kernel
theorem dX6_count_5 : decode cX6_count 5 = .ok (.iconst 4, 1) := by decide +kernel
theorem dX6_count_6 : decode cX6_count 6 = .ok (.if_icmp .ge 109, 3) := by decide +kernel
theorem dX6_count_9 : decode cX6_count 9 = .ok (.iload_n 2, 1) := by decide +kernel
theorem dX6_count_10 : decode cX6_count 10 = .ok (.iload_n 1, 1) := by decide +kernel
theorem dX6_count_11 : decode cX6_count 11 = .ok (.iconst 1, 1) := by decide +kernel
theorem dX6_count_12 : decode cX6_count 12 = .ok (.if_icmp .ne 13, 3) := by decide +kernel
theorem dX6_count_15 : decode cX6_count 15 = .ok (.aload_n 0, 1) := by decide +kernel
theorem dX6_count_16 : decode cX6_count 16 = .ok (.iload_n 3, 1) := by decide +kernel
theorem dX6_count_17 : decode cX6_count 17 = .ok (.bipush 9, 2) := by decide +kernel
theorem dX6_count_19 : decode cX6_count 19 = .ok (.invokevirtual 53, 3) := by decide +kernel
theorem dX6_count_22 : decode cX6_count 22 = .ok (.goto 85, 3) := by decide +kernel
theorem dX6_count_25 : decode cX6_count 25 = .ok (.iload_n 1, 1) := by decide +kernel
theorem dX6_count_26 : decode cX6_count 26 = .ok (.iconst 2, 1) := by decide +kernel
theorem dX6_count_27 : decode cX6_count 27 = .ok (.if_icmp .ne 20, 3) := by decide +kernel
theorem dX6_count_30 : decode cX6_count 30 = .ok (.aload_n 0, 1) := by decide +kernel
theorem dX6_count_31 : decode cX6_count 31 = .ok (.iload_n 3, 1) := by decide +kernel
theorem dX6_count_32 : decode cX6_count 32 = .ok (.invokevirtual 205, 3) := by decide +kernel
theorem dX6_count_35 : decode cX6_count 35 = .ok (.iconst 2, 1) := by decide +kernel
theorem dX6_count_36 : decode cX6_count 36 = .ok (.if_icmp .ge 7, 3) := by decide +kernel
theorem dX6_count_39 : decode cX6_count 39 = .ok (.iconst 1, 1) := by decide +kernel
theorem dX6_count_40 : decode cX6_count 40 = .ok (.goto 67, 3) := by decide +kernel
theorem dX6_count_43 : decode cX6_count 43 = .ok (.iconst 0, 1) := by decide +kernel
theorem dX6_count_44 : decode cX6_count 44 = .ok (.goto 63, 3) := by decide +kernel
theorem dX6_count_47 : decode cX6_count 47 = .ok (.iload_n 1, 1) := by decide +kernel
theorem dX6_count_48 : decode cX6_count 48 = .ok (.iconst 3, 1) := by decide +kernel
theorem dX6_count_49 : decode cX6_count 49 = .ok (.if_icmp .ne 13, 3) := by decide +kernel
theorem dX6_count_52 : decode cX6_count 52 = .ok (.aload_n 0, 1) := by decide +kernel
theorem dX6_count_53 : decode cX6_count 53 = .ok (.iload_n 3, 1) := by decide +kernel
theorem dX6_count_54 : decode cX6_count 54 = .ok (.bipush 7, 2) := by decide +kernel
theorem dX6_count_56 : decode cX6_count 56 = .ok (.invokevirtual 53, 3) := by decide +kernel
theorem dX6_count_59 : decode cX6_count 59 = .ok (.goto 48, 3) := by decide +kernel
theorem dX6_count_62 : decode cX6_count 62 = .ok (.iload_n 1, 1) := by decide +kernel
theorem dX6_count_63 : decode cX6_count 63 = .ok (.iconst 4, 1) := by decide +kernel
theorem dX6_count_64 : decode cX6_count 64 = .ok (.if_icmp .ne 11, 3) := by decide +kernel
theorem dX6_count_67 : decode cX6_count 67 = .ok (.aload_n 0, 1) := by decide +kernel
theorem dX6_count_68 : decode cX6_count 68 = .ok (.iload_n 3, 1) := by decide +kernel
theorem dX6_count_69 : decode cX6_count 69 = .ok (.invokevirtual 66, 3) := by decide +kernel
theorem dX6_count_72 : decode cX6_count 72 = .ok (.goto 35, 3) := by decide +kernel
theorem dX6_count_75 : decode cX6_count 75 = .ok (.iload_n 1, 1) := by decide +kernel
theorem dX6_count_76 : decode cX6_count 76 = .ok (.iconst 5, 1) := by decide +kernel
theorem dX6_count_77 : decode cX6_count 77 = .ok (.if_icmp .ne 13, 3) := by decide +kernel
theorem dX6_count_80 : decode cX6_count 80 = .ok (.aload_n 0, 1) := by decide +kernel
theorem dX6_count_81 : decode cX6_count 81 = .ok (.iload_n 3, 1) := by decide +kernel
theorem dX6_count_82 : decode cX6_count 82 = .ok (.bipush 6, 2) := by decide +kernel
theorem dX6_count_84 : decode cX6_count 84 = .ok (.invokevirtual 53, 3) := by decide +kernel
theorem dX6_count_87 : decode cX6_count 87 = .ok (.goto 20, 3) := by decide +kernel
theorem dX6_count_90 : decode cX6_count 90 = .ok (.aload_n 0, 1) := by decide +kernel
theorem dX6_count_91 : decode cX6_count 91 = .ok (.iload_n 3, 1) := by decide +kernel
theorem dX6_count_92 : decode cX6_count 92 = .ok (.bipush 6, 2) := by decide +kernel
theorem dX6_count_94 : decode cX6_count 94 = .ok (.invokevirtual 53, 3) := by decide +kernel
theorem dX6_count_97 : decode cX6_count 97 = .ok (.bipush 40, 2) := by decide +kernel
theorem dX6_count_99 : decode cX6_count 99 = .ok (.if_icmp .ne 7, 3) := by decide +kernel
theorem dX6_count_102 : decode cX6_count 102 = .ok (.iconst 1, 1) := by decide +kernel
theorem dX6_count_103 : decode cX6_count 103 = .ok (.goto 4, 3) := by decide +kernel
theorem dX6_count_106 : decode cX6_count 106 = .ok (.iconst 0, 1) := by decide +kernel
theorem dX6_count_107 : decode cX6_count 107 = .ok (.iadd, 1) := by decide +kernel
theorem dX6_count_108 : decode cX6_count 108 = .ok (.istore_n 2, 1) := by decide +kernel
theorem dX6_count_109 : decode cX6_count 109 = .ok (.iinc 3 1, 3) := by decide +kernel
theorem dX6_count_112 : decode cX6_count 112 = .ok (.goto (-108), 3) := by decide +kernel
theorem dX6_count_115 : decode cX6_count 115 = .ok (.iload_n 1, 1) := by decide +kernel
theorem dX6_count_116 : decode cX6_count 116 = .ok (.tableswitch 93 0 10 #[60, 67, 67, 67, 67, 67, 67, 69, 76, 83, 88], 60) := by decide +kernel
theorem dX6_count_176 : decode cX6_count 176 = .ok (.aload_n 0, 1) := by decide +kernel
theorem dX6_count_177 : decode cX6_count 177 = .ok (.getfield 7, 3) := by decide +kernel
theorem dX6_count_180 : decode cX6_count 180 = .ok (.iconst 0, 1) := by decide +kernel
theorem dX6_count_181 : decode cX6_count 181 = .ok (.iaload, 1) := by decide +kernel
theorem dX6_count_182 : decode cX6_count 182 = .ok (.ireturn, 1) := by decide +kernel
theorem dX6_count_183 : decode cX6_count 183 = .ok (.iload_n 2, 1) := by decide +kernel
theorem dX6_count_184 : decode cX6_count 184 = .ok (.ireturn, 1) := by decide +kernel
theorem dX6_count_185 : decode cX6_count 185 = .ok (.aload_n 0, 1) := by decide +kernel
theorem dX6_count_186 : decode cX6_count 186 = .ok (.getfield 7, 3) := by decide +kernel
theorem dX6_count_189 : decode cX6_count 189 = .ok (.iconst 1, 1) := by decide +kernel
theorem dX6_count_190 : decode cX6_count 190 = .ok (.iaload, 1) := by decide +kernel
theorem dX6_count_191 : decode cX6_count 191 = .ok (.ireturn, 1) := by decide +kernel
theorem dX6_count_192 : decode cX6_count 192 = .ok (.aload_n 0, 1) := by decide +kernel
theorem dX6_count_193 : decode cX6_count 193 = .ok (.getfield 7, 3) := by decide +kernel
theorem dX6_count_196 : decode cX6_count 196 = .ok (.iconst 2, 1) := by decide +kernel
theorem dX6_count_197 : decode cX6_count 197 = .ok (.iaload, 1) := by decide +kernel
theorem dX6_count_198 : decode cX6_count 198 = .ok (.ireturn, 1) := by decide +kernel
theorem dX6_count_199 : decode cX6_count 199 = .ok (.aload_n 0, 1) := by decide +kernel
theorem dX6_count_200 : decode cX6_count 200 = .ok (.getfield 56, 3) := by decide +kernel
theorem dX6_count_203 : decode cX6_count 203 = .ok (.ireturn, 1) := by decide +kernel
theorem dX6_count_204 : decode cX6_count 204 = .ok (.aload_n 0, 1) := by decide +kernel
theorem dX6_count_205 : decode cX6_count 205 = .ok (.getfield 149, 3) := by decide +kernel
theorem dX6_count_208 : decode cX6_count 208 = .ok (.ireturn, 1) := by decide +kernel
theorem dX6_count_209 : decode cX6_count 209 = .ok (.bipush (-2), 2) := by decide +kernel
theorem dX6_count_211 : decode cX6_count 211 = .ok (.ireturn, 1) := by decide +kernel
theorem dJ9_floorDiv_f86c9_0 : decode cJ9_floorDiv_f86c9 0 = .ok (.lload_n 0, 1) := by decide +kernel
theorem dJ9_floorDiv_f86c9_1 : decode cJ9_floorDiv_f86c9 1 = .ok (.lload_n 2, 1) := by decide +kernel
theorem dJ9_floorDiv_f86c9_2 : decode cJ9_floorDiv_f86c9 2 = .ok (.ldiv, 1) := by decide +kernel
theorem dJ9_floorDiv_f86c9_3 : decode cJ9_floorDiv_f86c9 3 = .ok (.lstore 4, 2) := by decide +kernel
theorem dJ9_floorDiv_f86c9_5 : decode cJ9_floorDiv_f86c9 5 = .ok (.lload_n 0, 1) := by decide +kernel
theorem dJ9_floorDiv_f86c9_6 : decode cJ9_floorDiv_f86c9 6 = .ok (.lload_n 2, 1) := by decide +kernel
theorem dJ9_floorDiv_f86c9_7 : decode cJ9_floorDiv_f86c9 7 = .ok (.lxor, 1) := by decide +kernel
theorem dJ9_floorDiv_f86c9_8 : decode cJ9_floorDiv_f86c9 8 = .ok (.lconst 0, 1) := by decide +kernel
theorem dJ9_floorDiv_f86c9_9 : decode cJ9_floorDiv_f86c9 9 = .ok (.lcmp, 1) := by decide +kernel
theorem dJ9_floorDiv_f86c9_10 : decode cJ9_floorDiv_f86c9 10 = .ok (.ifCond .ge 17, 3) := by decide +kernel
theorem dJ9_floorDiv_f86c9_13 : decode cJ9_floorDiv_f86c9 13 = .ok (.lload 4, 2) := by decide +kernel
theorem dJ9_floorDiv_f86c9_15 : decode cJ9_floorDiv_f86c9 15 = .ok (.lload_n 2, 1) := by decide +kernel
theorem dJ9_floorDiv_f86c9_16 : decode cJ9_floorDiv_f86c9 16 = .ok (.lmul, 1) := by decide +kernel
theorem dJ9_floorDiv_f86c9_17 : decode cJ9_floorDiv_f86c9 17 = .ok (.lload_n 0, 1) := by decide +kernel
theorem dJ9_floorDiv_f86c9_18 : decode cJ9_floorDiv_f86c9 18 = .ok (.lcmp, 1) := by decide +kernel
theorem dJ9_floorDiv_f86c9_19 : decode cJ9_floorDiv_f86c9 19 = .ok (.ifCond .eq 8, 3) := by decide +kernel
theorem dJ9_floorDiv_f86c9_22 : decode cJ9_floorDiv_f86c9 22 = .ok (.lload 4, 2) := by decide +kernel
theorem dJ9_floorDiv_f86c9_24 : decode cJ9_floorDiv_f86c9 24 = .ok (.lconst 1, 1) := by decide +kernel
theorem dJ9_floorDiv_f86c9_25 : decode cJ9_floorDiv_f86c9 25 = .ok (.lsub, 1) := by decide +kernel
theorem dJ9_floorDiv_f86c9_26 : decode cJ9_floorDiv_f86c9 26 = .ok (.lreturn, 1) := by decide +kernel
theorem dJ9_floorDiv_f86c9_27 : decode cJ9_floorDiv_f86c9 27 = .ok (.lload 4, 2) := by decide +kernel
theorem dJ9_floorDiv_f86c9_29 : decode cJ9_floorDiv_f86c9 29 = .ok (.lreturn, 1) := by decide +kernel
theorem dJ9_abs_0f7a4_0 : decode cJ9_abs_0f7a4 0 = .ok (.iload_n 0, 1) := by decide +kernel
theorem dJ9_abs_0f7a4_1 : decode cJ9_abs_0f7a4 1 = .ok (.ifCond .ge 8, 3) := by decide +kernel
theorem dJ9_abs_0f7a4_4 : decode cJ9_abs_0f7a4 4 = .ok (.iload_n 0, 1) := by decide +kernel
theorem dJ9_abs_0f7a4_5 : decode cJ9_abs_0f7a4 5 = .ok (.ineg, 1) := by decide +kernel
theorem dJ9_abs_0f7a4_6 : decode cJ9_abs_0f7a4 6 = .ok (.goto 4, 3) := by decide +kernel
theorem dJ9_abs_0f7a4_9 : decode cJ9_abs_0f7a4 9 = .ok (.iload_n 0, 1) := by decide +kernel
theorem dJ9_abs_0f7a4_10 : decode cJ9_abs_0f7a4 10 = .ok (.ireturn, 1) := by decide +kernel
