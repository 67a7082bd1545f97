set_option maxRecDepth 20000 in
theorem ggX0_init_X2_init : GoodIn wsX0_init wsX2_init := goodIn_r _ [10, 11, 2, 3, 12, 13, 14, 15, 16, 17, 18, 19, 20, 21, 24, 25, 26, 27, 28, 29, 30, 31, 32, 33, 34, 35] (by decide +kernel) (by decide +kernel)
set_option maxRecDepth 20000 in
theorem gX0_init_X2_init : GoodIn wsX0_init (wsX2_init) := ggX0_init_X2_init
theorem dX0_init_0 : decode cX0_init 0 = .ok (.aload_n 0, 1) := by decide +kernel
theorem dX0_init_1 : decode cX0_init 1 = .ok (.invokespecial 3, 3) := by decide +kernel
theorem dX0_init_4 : decode cX0_init 4 = .ok (.aload_n 0, 1) := by decide +kernel
theorem dX0_init_5 : decode cX0_init 5 = .ok (.iconst 4, 1) := by decide +kernel
theorem dX0_init_6 : decode cX0_init 6 = .ok (.anewarray 9, 3) := by decide +kernel
theorem dX0_init_9 : decode cX0_init 9 = .ok (.putfield 11, 3) := by decide +kernel
theorem dX0_init_12 : decode cX0_init 12 = .ok (.iconst 0, 1) := by decide +kernel
theorem dX0_init_13 : decode cX0_init 13 = .ok (.istore_n 1, 1) := by decide +kernel
theorem dX0_init_14 : decode cX0_init 14 = .ok (.iload_n 1, 1) := by decide +kernel
theorem dX0_init_15 : decode cX0_init 15 = .ok (.iconst 4, 1) := by decide +kernel
theorem dX0_init_16 : decode cX0_init 16 = .ok (.if_icmp .ge 22, 3) := by decide +kernel
theorem dX0_init_19 : decode cX0_init 19 = .ok (.aload_n 0, 1) := by decide +kernel
theorem dX0_init_20 : decode cX0_init 20 = .ok (.getfield 11, 3) := by decide +kernel
theorem dX0_init_23 : decode cX0_init 23 = .ok (.iload_n 1, 1) := by decide +kernel
theorem dX0_init_24 : decode cX0_init 24 = .ok (.new 9, 3) := by decide +kernel
theorem dX0_init_27 : decode cX0_init 27 = .ok (.dup, 1) := by decide +kernel
theorem dX0_init_28 : decode cX0_init 28 = .ok (.invokespecial 17, 3) := by decide +kernel
theorem dX0_init_31 : decode cX0_init 31 = .ok (.aastore, 1) := by decide +kernel
theorem dX0_init_32 : decode cX0_init 32 = .ok (.iinc 1 1, 3) := by decide +kernel
theorem dX0_init_35 : decode cX0_init 35 = .ok (.goto (-21), 3) := by decide +kernel
theorem dX0_init_38 : decode cX0_init 38 = .ok (.return_, 1) := by decide +kernel
set_option maxRecDepth 20000 in
theorem ggX0_push_X0_dropOldest : GoodIn wsX0_push wsX0_dropOldest := goodIn_r _ [7, 2, 1, 34, 35] (by decide +kernel) (by decide +kernel)
set_option maxRecDepth 20000 in
theorem gX0_push_X0_dropOldest : GoodIn wsX0_push (wsV RX0 22 RX0 yX0_dropOldest wsX0_dropOldest) := goodIn_app (goodIn_of _ (by decide +kernel)) ggX0_push_X0_dropOldest
set_option maxRecDepth 20000 in
theorem ggX0_push_X2_copyFrom : GoodIn wsX0_push wsX2_copyFrom := goodIn_r _ [12, 13, 14, 15, 16, 17, 18, 19, 20, 21, 22, 23, 24, 25, 26, 27, 28, 29, 30, 31, 32, 33, 36, 37, 38, 39, 40, 41, 42, 43, 44, 45, 46, 47] (by decide +kernel) (by decide +kernel)
set_option maxRecDepth 20000 in
theorem gX0_push_X2_copyFrom : GoodIn wsX0_push (wsV RX0 25 RX2 yX2_copyFrom wsX2_copyFrom) := goodIn_app (goodIn_of _ (by decide +kernel)) ggX0_push_X2_copyFrom
theorem dX0_push_0 : decode cX0_push 0 = .ok (.aload_n 0, 1) := by decide +kernel
theorem dX0_push_1 : decode cX0_push 1 = .ok (.getfield 18, 3) := by decide +kernel
theorem dX0_push_4 : decode cX0_push 4 = .ok (.iconst 4, 1) := by decide +kernel
theorem dX0_push_5 : decode cX0_push 5 = .ok (.if_icmp .lt 7, 3) := by decide +kernel
theorem dX0_push_8 : decode cX0_push 8 = .ok (.aload_n 0, 1) := by decide +kernel
theorem dX0_push_9 : decode cX0_push 9 = .ok (.invokevirtual 22, 3) := by decide +kernel
theorem dX0_push_12 : decode cX0_push 12 = .ok (.aload_n 0, 1) := by decide +kernel
theorem dX0_push_13 : decode cX0_push 13 = .ok (.getfield 11, 3) := by decide +kernel
theorem dX0_push_16 : decode cX0_push 16 = .ok (.aload_n 0, 1) := by decide +kernel
theorem dX0_push_17 : decode cX0_push 17 = .ok (.getfield 18, 3) := by decide +kernel
theorem dX0_push_20 : decode cX0_push 20 = .ok (.aaload, 1) := by decide +kernel
theorem dX0_push_21 : decode cX0_push 21 = .ok (.aload_n 1, 1) := by decide +kernel
theorem dX0_push_22 : decode cX0_push 22 = .ok (.invokevirtual 25, 3) := by decide +kernel
theorem dX0_push_25 : decode cX0_push 25 = .ok (.aload_n 0, 1) := by decide +kernel
theorem dX0_push_26 : decode cX0_push 26 = .ok (.dup, 1) := by decide +kernel
theorem dX0_push_27 : decode cX0_push 27 = .ok (.getfield 18, 3) := by decide +kernel
theorem dX0_push_30 : decode cX0_push 30 = .ok (.iconst 1, 1) := by decide +kernel
theorem dX0_push_31 : decode cX0_push 31 = .ok (.iadd, 1) := by decide +kernel
theorem dX0_push_32 : decode cX0_push 32 = .ok (.putfield 18, 3) := by decide +kernel
theorem dX0_push_35 : decode cX0_push 35 = .ok (.return_, 1) := by decide +kernel
theorem dX0_dropOldest_0 : decode cX0_dropOldest 0 = .ok (.aload_n 0, 1) := by decide +kernel
theorem dX0_dropOldest_1 : decode cX0_dropOldest 1 = .ok (.getfield 11, 3) := by decide +kernel
theorem dX0_dropOldest_4 : decode cX0_dropOldest 4 = .ok (.iconst 0, 1) := by decide +kernel
theorem dX0_dropOldest_5 : decode cX0_dropOldest 5 = .ok (.aaload, 1) := by decide +kernel
theorem dX0_dropOldest_6 : decode cX0_dropOldest 6 = .ok (.astore_n 1, 1) := by decide +kernel
theorem dX0_dropOldest_7 : decode cX0_dropOldest 7 = .ok (.iconst 1, 1) := by decide +kernel
theorem dX0_dropOldest_8 : decode cX0_dropOldest 8 = .ok (.istore_n 2, 1) := by decide +kernel
theorem dX0_dropOldest_9 : decode cX0_dropOldest 9 = .ok (.iload_n 2, 1) := by decide +kernel
theorem dX0_dropOldest_10 : decode cX0_dropOldest 10 = .ok (.iconst 4, 1) := by decide +kernel
theorem dX0_dropOldest_11 : decode cX0_dropOldest 11 = .ok (.if_icmp .ge 23, 3) := by decide +kernel
theorem dX0_dropOldest_14 : decode cX0_dropOldest 14 = .ok (.aload_n 0, 1) := by decide +kernel
theorem dX0_dropOldest_15 : decode cX0_dropOldest 15 = .ok (.getfield 11, 3) := by decide +kernel
theorem dX0_dropOldest_18 : decode cX0_dropOldest 18 = .ok (.iload_n 2, 1) := by decide +kernel
theorem dX0_dropOldest_19 : decode cX0_dropOldest 19 = .ok (.iconst 1, 1) := by decide +kernel
theorem dX0_dropOldest_20 : decode cX0_dropOldest 20 = .ok (.isub, 1) := by decide +kernel
theorem dX0_dropOldest_21 : decode cX0_dropOldest 21 = .ok (.aload_n 0, 1) := by decide +kernel
theorem dX0_dropOldest_22 : decode cX0_dropOldest 22 = .ok (.getfield 11, 3) := by decide +kernel
theorem dX0_dropOldest_25 : decode cX0_dropOldest 25 = .ok (.iload_n 2, 1) := by decide +kernel
theorem dX0_dropOldest_26 : decode cX0_dropOldest 26 = .ok (.aaload, 1) := by decide +kernel
theorem dX0_dropOldest_27 : decode cX0_dropOldest 27 = .ok (.aastore, 1) := by decide +kernel
theorem dX0_dropOldest_28 : decode cX0_dropOldest 28 = .ok (.iinc 2 1, 3) := by decide +kernel
theorem dX0_dropOldest_31 : decode cX0_dropOldest 31 = .ok (.goto (-22), 3) := by decide +kernel
theorem dX0_dropOldest_34 : decode cX0_dropOldest 34 = .ok (.aload_n 0, 1) := by decide +kernel
theorem dX0_dropOldest_35 : decode cX0_dropOldest 35 = .ok (.getfield 11, 3) := by decide +kernel
theorem dX0_dropOldest_38 : decode cX0_dropOldest 38 = .ok (.iconst 3, 1) := by decide +kernel
theorem dX0_dropOldest_39 : decode cX0_dropOldest 39 = .ok (.aload_n 1, 1) := by decide +kernel
theorem dX0_dropOldest_40 : decode cX0_dropOldest 40 = .ok (.aastore, 1) := by decide +kernel
theorem dX0_dropOldest_41 : decode cX0_dropOldest 41 = .ok (.aload_n 0, 1) := by decide +kernel
theorem dX0_dropOldest_42 : decode cX0_dropOldest 42 = .ok (.iconst 3, 1) := by decide +kernel
theorem dX0_dropOldest_43 : decode cX0_dropOldest 43 = .ok (.putfield 18, 3) := by decide +kernel
theorem dX0_dropOldest_46 : decode cX0_dropOldest 46 = .ok (.return_, 1) := by decide +kernel
set_option maxRecDepth 20000 in
theorem ggX0_popInto_X2_copyFrom : GoodIn wsX0_popInto wsX2_copyFrom := goodIn_r _ [7, 8, 9, 10, 11, 12, 13, 14, 15, 16, 17, 18, 19, 20, 21, 22, 23, 24, 25, 26, 27, 28, 31, 32, 33, 34, 35, 36, 37, 38, 39, 40, 41, 42] (by decide +kernel) (by decide +kernel)
set_option maxRecDepth 20000 in
theorem gX0_popInto_X2_copyFrom : GoodIn wsX0_popInto (wsV RX0 25 RX2 yX2_copyFrom wsX2_copyFrom) := goodIn_app (goodIn_of _ (by decide +kernel)) ggX0_popInto_X2_copyFrom
theorem dX0_popInto_0 : decode cX0_popInto 0 = .ok (.aload_n 0, 1) := by decide +kernel
theorem dX0_popInto_1 : decode cX0_popInto 1 = .ok (.getfield 18, 3) := by decide +kernel
theorem dX0_popInto_4 : decode cX0_popInto 4 = .ok (.iconst 1, 1) := by decide +kernel
theorem dX0_popInto_5 : decode cX0_popInto 5 = .ok (.if_icmp .ge 6, 3) := by decide +kernel
theorem dX0_popInto_8 : decode cX0_popInto 8 = .ok (.bipush (-5), 2) := by decide +kernel
theorem dX0_popInto_10 : decode cX0_popInto 10 = .ok (.ireturn, 1) := by decide +kernel
theorem dX0_popInto_11 : decode cX0_popInto 11 = .ok (.aload_n 0, 1) := by decide +kernel
theorem dX0_popInto_12 : decode cX0_popInto 12 = .ok (.dup, 1) := by decide +kernel
theorem dX0_popInto_13 : decode cX0_popInto 13 = .ok (.getfield 18, 3) := by decide +kernel
theorem dX0_popInto_16 : decode cX0_popInto 16 = .ok (.iconst 1, 1) := by decide +kernel
theorem dX0_popInto_17 : decode cX0_popInto 17 = .ok (.isub, 1) := by decide +kernel
theorem dX0_popInto_18 : decode cX0_popInto 18 = .ok (.putfield 18, 3) := by decide +kernel
theorem dX0_popInto_21 : decode cX0_popInto 21 = .ok (.aload_n 1, 1) := by decide +kernel
theorem dX0_popInto_22 : decode cX0_popInto 22 = .ok (.aload_n 0, 1) := by decide +kernel
theorem dX0_popInto_23 : decode cX0_popInto 23 = .ok (.getfield 11, 3) := by decide +kernel
theorem dX0_popInto_26 : decode cX0_popInto 26 = .ok (.aload_n 0, 1) := by decide +kernel
theorem dX0_popInto_27 : decode cX0_popInto 27 = .ok (.getfield 18, 3) := by decide +kernel
theorem dX0_popInto_30 : decode cX0_popInto 30 = .ok (.aaload, 1) := by decide +kernel
theorem dX0_popInto_31 : decode cX0_popInto 31 = .ok (.invokevirtual 25, 3) := by decide +kernel
theorem dX0_popInto_34 : decode cX0_popInto 34 = .ok (.aload_n 0, 1) := by decide +kernel
theorem dX0_popInto_35 : decode cX0_popInto 35 = .ok (.getfield 18, 3) := by decide +kernel
theorem dX0_popInto_38 : decode cX0_popInto 38 = .ok (.ireturn, 1) := by decide +kernel
theorem dX1_init_0 : decode cX1_init 0 = .ok (.aload_n 0, 1) := by decide +kernel
theorem dX1_init_1 : decode cX1_init 1 = .ok (.invokespecial 3, 3) := by decide +kernel
theorem dX1_init_4 : decode cX1_init 4 = .ok (.aload_n 0, 1) := by decide +kernel
theorem dX1_init_5 : decode cX1_init 5 = .ok (.bipush 6, 2) := by decide +kernel
theorem dX1_init_7 : decode cX1_init 7 = .ok (.newarray .int, 2) := by decide +kernel
theorem dX1_init_9 : decode cX1_init 9 = .ok (.dup, 1) := by decide +kernel
theorem dX1_init_10 : decode cX1_init 10 = .ok (.iconst 0, 1) := by decide +kernel
theorem dX1_init_11 : decode cX1_init 11 = .ok (.iconst 1, 1) := by decide +kernel
theorem dX1_init_12 : decode cX1_init 12 = .ok (.iastore, 1) := by decide +kernel
theorem dX1_init_13 : decode cX1_init 13 = .ok (.dup, 1) := by decide +kernel
theorem dX1_init_14 : decode cX1_init 14 = .ok (.iconst 1, 1) := by decide +kernel
theorem dX1_init_15 : decode cX1_init 15 = .ok (.iconst 2, 1) := by decide +kernel
theorem dX1_init_16 : decode cX1_init 16 = .ok (.iastore, 1) := by decide +kernel
theorem dX1_init_17 : decode cX1_init 17 = .ok (.dup, 1) := by decide +kernel
theorem dX1_init_18 : decode cX1_init 18 = .ok (.iconst 2, 1) := by decide +kernel
theorem dX1_init_19 : decode cX1_init 19 = .ok (.iconst 0, 1) := by decide +kernel
theorem dX1_init_20 : decode cX1_init 20 = .ok (.iastore, 1) := by decide +kernel
theorem dX1_init_21 : decode cX1_init 21 = .ok (.dup, 1) := by decide +kernel
theorem dX1_init_22 : decode cX1_init 22 = .ok (.iconst 3, 1) := by decide +kernel
theorem dX1_init_23 : decode cX1_init 23 = .ok (.iconst 0, 1) := by decide +kernel
theorem dX1_init_24 : decode cX1_init 24 = .ok (.iastore, 1) := by decide +kernel
theorem dX1_init_25 : decode cX1_init 25 = .ok (.dup, 1) := by decide +kernel
theorem dX1_init_26 : decode cX1_init 26 = .ok (.iconst 4, 1) := by decide +kernel
theorem dX1_init_27 : decode cX1_init 27 = .ok (.iconst 0, 1) := by decide +kernel
theorem dX1_init_28 : decode cX1_init 28 = .ok (.iastore, 1) := by decide +kernel
theorem dX1_init_29 : decode cX1_init 29 = .ok (.dup, 1) := by decide +kernel
theorem dX1_init_30 : decode cX1_init 30 = .ok (.iconst 5, 1) := by decide +kernel
theorem dX1_init_31 : decode cX1_init 31 = .ok (.iconst 0, 1) := by decide +kernel
theorem dX1_init_32 : decode cX1_init 32 = .ok (.iastore, 1) := by decide +kernel
theorem dX1_init_33 : decode cX1_init 33 = .ok (.putfield 9, 3) := by decide +kernel
theorem dX1_init_36 : decode cX1_init 36 = .ok (.aload_n 0, 1) := by decide +kernel
theorem dX1_init_37 : decode cX1_init 37 = .ok (.bipush 10, 2) := by decide +kernel
theorem dX1_init_39 : decode cX1_init 39 = .ok (.putfield 15, 3) := by decide +kernel
theorem dX1_init_42 : decode cX1_init 42 = .ok (.return_, 1) := by decide +kernel
theorem dX1_isSetting_0 : decode cX1_isSetting 0 = .ok (.iload_n 0, 1) := by decide +kernel
theorem dX1_isSetting_1 : decode cX1_isSetting 1 = .ok (.ifCond .lt 13, 3) := by decide +kernel
theorem dX1_isSetting_4 : decode cX1_isSetting 4 = .ok (.iload_n 0, 1) := by decide +kernel
theorem dX1_isSetting_5 : decode cX1_isSetting 5 = .ok (.bipush 6, 2) := by decide +kernel
theorem dX1_isSetting_7 : decode cX1_isSetting 7 = .ok (.if_icmp .ge 7, 3) := by decide +kernel
theorem dX1_isSetting_10 : decode cX1_isSetting 10 = .ok (.iconst 1, 1) := by decide +kernel
theorem dX1_isSetting_11 : decode cX1_isSetting 11 = .ok (.goto 4, 3) := by decide +kernel
theorem dX1_isSetting_14 : decode cX1_isSetting 14 = .ok (.iconst 0, 1) := by decide +kernel
theorem dX1_isSetting_15 : decode cX1_isSetting 15 = .ok (.ireturn, 1) := by decide +kernel
set_option maxRecDepth 20000 in
theorem ggX1_isInRange_X1_isSetting : GoodIn wsX1_isInRange wsX1_isSetting := goodIn_r _ [6] (by decide +kernel) (by decide +kernel)
set_option maxRecDepth 20000 in
theorem gX1_isInRange_X1_isSetting : GoodIn wsX1_isInRange (va_wsS RX1 19 yX1_isSetting wsX1_isSetting) := goodIn_app (goodIn_of _ (by decide +kernel)) ggX1_isInRange_X1_isSetting
theorem dX1_isInRange_0 : decode cX1_isInRange 0 = .ok (.iload_n 0, 1) := by decide +kernel
theorem dX1_isInRange_1 : decode cX1_isInRange 1 = .ok (.invokestatic 19, 3) := by decide +kernel
theorem dX1_isInRange_4 : decode cX1_isInRange 4 = .ok (.ifCond .eq 25, 3) := by decide +kernel
theorem dX1_isInRange_7 : decode cX1_isInRange 7 = .ok (.iload_n 1, 1) := by decide +kernel
theorem dX1_isInRange_8 : decode cX1_isInRange 8 = .ok (.getstatic 23, 3) := by decide +kernel
theorem dX1_isInRange_11 : decode cX1_isInRange 11 = .ok (.iload_n 0, 1) := by decide +kernel
theorem dX1_isInRange_12 : decode cX1_isInRange 12 = .ok (.iaload, 1) := by decide +kernel
theorem dX1_isInRange_13 : decode cX1_isInRange 13 = .ok (.if_icmp .lt 16, 3) := by decide +kernel
theorem dX1_isInRange_16 : decode cX1_isInRange 16 = .ok (.iload_n 1, 1) := by decide +kernel
theorem dX1_isInRange_17 : decode cX1_isInRange 17 = .ok (.getstatic 26, 3) := by decide +kernel
theorem dX1_isInRange_20 : decode cX1_isInRange 20 = .ok (.iload_n 0, 1) := by decide +kernel
theorem dX1_isInRange_21 : decode cX1_isInRange 21 = .ok (.iaload, 1) := by decide +kernel
theorem dX1_isInRange_22 : decode cX1_isInRange 22 = .ok (.if_icmp .gt 7, 3) := by decide +kernel
theorem dX1_isInRange_25 : decode cX1_isInRange 25 = .ok (.iconst 1, 1) := by decide +kernel
theorem dX1_isInRange_26 : decode cX1_isInRange 26 = .ok (.goto 4, 3) := by decide +kernel
theorem dX1_isInRange_29 : decode cX1_isInRange 29 = .ok (.iconst 0, 1) := by decide +kernel
theorem dX1_isInRange_30 : decode cX1_isInRange 30 = .ok (.ireturn, 1) := by decide +kernel
theorem dX1_copyFrom_0 : decode cX1_copyFrom 0 = .ok (.aload_n 1, 1) := by decide +kernel
theorem dX1_copyFrom_1 : decode cX1_copyFrom 1 = .ok (.getfield 9, 3) := by decide +kernel
theorem dX1_copyFrom_4 : decode cX1_copyFrom 4 = .ok (.iconst 0, 1) := by decide +kernel
theorem dX1_copyFrom_5 : decode cX1_copyFrom 5 = .ok (.aload_n 0, 1) := by decide +kernel
theorem dX1_copyFrom_6 : decode cX1_copyFrom 6 = .ok (.getfield 9, 3) := by decide +kernel
theorem dX1_copyFrom_9 : decode cX1_copyFrom 9 = .ok (.iconst 0, 1) := by decide +kernel
theorem dX1_copyFrom_10 : decode cX1_copyFrom 10 = .ok (.bipush 6, 2) := by decide +kernel
theorem dX1_copyFrom_12 : decode cX1_copyFrom 12 = .ok (.invokestatic 29, 3) := by decide +kernel
theorem dX1_copyFrom_15 : decode cX1_copyFrom 15 = .ok (.aload_n 0, 1) := by decide +kernel
theorem dX1_copyFrom_16 : decode cX1_copyFrom 16 = .ok (.aload_n 1, 1) := by decide +kernel
theorem dX1_copyFrom_17 : decode cX1_copyFrom 17 = .ok (.getfield 35, 3) := by decide +kernel
theorem dX1_copyFrom_20 : decode cX1_copyFrom 20 = .ok (.putfield 35, 3) := by decide +kernel
theorem dX1_copyFrom_23 : decode cX1_copyFrom 23 = .ok (.aload_n 0, 1) := by decide +kernel
theorem dX1_copyFrom_24 : decode cX1_copyFrom 24 = .ok (.aload_n 1, 1) := by decide +kernel
theorem dX1_copyFrom_25 : decode cX1_copyFrom 25 = .ok (.getfield 38, 3) := by decide +kernel
theorem dX1_copyFrom_28 : decode cX1_copyFrom 28 = .ok (.putfield 38, 3) := by decide +kernel
theorem dX1_copyFrom_31 : decode cX1_copyFrom 31 = .ok (.aload_n 0, 1) := by decide +kernel
theorem dX1_copyFrom_32 : decode cX1_copyFrom 32 = .ok (.aload_n 1, 1) := by decide +kernel
theorem dX1_copyFrom_33 : decode cX1_copyFrom 33 = .ok (.getfield 15, 3) := by decide +kernel
theorem dX1_copyFrom_36 : decode cX1_copyFrom 36 = .ok (.putfield 15, 3) := by decide +kernel
theorem dX1_copyFrom_39 : decode cX1_copyFrom 39 = .ok (.aload_n 0, 1) := by decide +kernel
theorem dX1_copyFrom_40 : decode cX1_copyFrom 40 = .ok (.aload_n 1, 1) := by decide +kernel
theorem dX1_copyFrom_41 : decode cX1_copyFrom 41 = .ok (.getfield 41, 3) := by decide +kernel
theorem dX1_copyFrom_44 : decode cX1_copyFrom 44 = .ok (.putfield 41, 3) := by decide +kernel
theorem dX1_copyFrom_47 : decode cX1_copyFrom 47 = .ok (.aload_n 0, 1) := by decide +kernel
theorem dX1_copyFrom_48 : decode cX1_copyFrom 48 = .ok (.aload_n 1, 1) := by decide +kernel
theorem dX1_copyFrom_49 : decode cX1_copyFrom 49 = .ok (.getfield 45, 3) := by decide +kernel
theorem dX1_copyFrom_52 : decode cX1_copyFrom 52 = .ok (.putfield 45, 3) := by decide +kernel
theorem dX1_copyFrom_55 : decode cX1_copyFrom 55 = .ok (.aload_n 0, 1) := by decide +kernel
theorem dX1_copyFrom_56 : decode cX1_copyFrom 56 = .ok (.aload_n 1, 1) := by decide +kernel
theorem dX1_copyFrom_57 : decode cX1_copyFrom 57 = .ok (.getfield 49, 3) := by decide +kernel
theorem dX1_copyFrom_60 : decode cX1_copyFrom 60 = .ok (.putfield 49, 3) := by decide +kernel
theorem dX1_copyFrom_63 : decode cX1_copyFrom 63 = .ok (.aload_n 0, 1) := by decide +kernel
theorem dX1_copyFrom_64 : decode cX1_copyFrom 64 = .ok (.aload_n 1, 1) := by decide +kernel
theorem dX1_copyFrom_65 : decode cX1_copyFrom 65 = .ok (.getfield 52, 3) := by decide +kernel
theorem dX1_copyFrom_68 : decode cX1_copyFrom 68 = .ok (.putfield 52, 3) := by decide +kernel
theorem dX1_copyFrom_71 : decode cX1_copyFrom 71 = .ok (.return_, 1) := by decide +kernel
theorem dX1_capacityAt_0 : decode cX1_capacityAt 0 = .ok (.aload_n 0, 1) := by decide +kernel
theorem dX1_capacityAt_1 : decode cX1_capacityAt 1 = .ok (.getfield 9, 3) := by decide +kernel
theorem dX1_capacityAt_4 : decode cX1_capacityAt 4 = .ok (.iconst 0, 1) := by decide +kernel
theorem dX1_capacityAt_5 : decode cX1_capacityAt 5 = .ok (.iaload, 1) := by decide +kernel
theorem dX1_capacityAt_6 : decode cX1_capacityAt 6 = .ok (.bipush 40, 2) := by decide +kernel
theorem dX1_capacityAt_8 : decode cX1_capacityAt 8 = .ok (.aload_n 0, 1) := by decide +kernel
theorem dX1_capacityAt_9 : decode cX1_capacityAt 9 = .ok (.getfield 9, 3) := by decide +kernel
theorem dX1_capacityAt_12 : decode cX1_capacityAt 12 = .ok (.iconst 1, 1) := by decide +kernel
theorem dX1_capacityAt_13 : decode cX1_capacityAt 13 = .ok (.iaload, 1) := by decide +kernel
theorem dX1_capacityAt_14 : decode cX1_capacityAt 14 = .ok (.iconst 1, 1) := by decide +kernel
theorem dX1_capacityAt_15 : decode cX1_capacityAt 15 = .ok (.isub, 1) := by decide +kernel
theorem dX1_capacityAt_16 : decode cX1_capacityAt 16 = .ok (.iload_n 1, 1) := by decide +kernel
theorem dX1_capacityAt_17 : decode cX1_capacityAt 17 = .ok (.imul, 1) := by decide +kernel
theorem dX1_capacityAt_18 : decode cX1_capacityAt 18 = .ok (.iadd, 1) := by decide +kernel
theorem dX1_capacityAt_19 : decode cX1_capacityAt 19 = .ok (.imul, 1) := by decide +kernel
theorem dX1_capacityAt_20 : decode cX1_capacityAt 20 = .ok (.ireturn, 1) := by decide +kernel
set_option maxRecDepth 20000 in
theorem ggX1_stored_X1_capacityAt : GoodIn wsX1_stored wsX1_capacityAt := goodIn_r _ [9, 10, 11, 12, 13, 14, 15, 16, 17, 18] (by decide +kernel) (by decide +kernel)
set_option maxRecDepth 20000 in
theorem gX1_stored_X1_capacityAt : GoodIn wsX1_stored (wsV RX1 55 RX1 yX1_capacityAt wsX1_capacityAt) := goodIn_app (goodIn_of _ (by decide +kernel)) ggX1_stored_X1_capacityAt
theorem dX1_stored_0 : decode cX1_stored 0 = .ok (.aload_n 0, 1) := by decide +kernel
theorem dX1_stored_1 : decode cX1_stored 1 = .ok (.getfield 41, 3) := by decide +kernel
theorem dX1_stored_4 : decode cX1_stored 4 = .ok (.ifCond .eq 15, 3) := by decide +kernel
theorem dX1_stored_7 : decode cX1_stored 7 = .ok (.aload_n 0, 1) := by decide +kernel
theorem dX1_stored_8 : decode cX1_stored 8 = .ok (.getfield 15, 3) := by decide +kernel
theorem dX1_stored_11 : decode cX1_stored 11 = .ok (.i2l, 1) := by decide +kernel
theorem dX1_stored_12 : decode cX1_stored 12 = .ok (.aload_n 0, 1) := by decide +kernel
theorem dX1_stored_13 : decode cX1_stored 13 = .ok (.getfield 38, 3) := by decide +kernel
theorem dX1_stored_16 : decode cX1_stored 16 = .ok (.i2l, 1) := by decide +kernel
theorem dX1_stored_17 : decode cX1_stored 17 = .ok (.lmul, 1) := by decide +kernel
theorem dX1_stored_18 : decode cX1_stored 18 = .ok (.lreturn, 1) := by decide +kernel
theorem dX1_stored_19 : decode cX1_stored 19 = .ok (.aload_n 0, 1) := by decide +kernel
theorem dX1_stored_20 : decode cX1_stored 20 = .ok (.aload_n 0, 1) := by decide +kernel
theorem dX1_stored_21 : decode cX1_stored 21 = .ok (.getfield 35, 3) := by decide +kernel
theorem dX1_stored_24 : decode cX1_stored 24 = .ok (.invokevirtual 55, 3) := by decide +kernel
theorem dX1_stored_27 : decode cX1_stored 27 = .ok (.i2l, 1) := by decide +kernel
theorem dX1_stored_28 : decode cX1_stored 28 = .ok (.lstore_n 1, 1) := by decide +kernel
theorem dX1_stored_29 : decode cX1_stored 29 = .ok (.lload_n 1, 1) := by decide +kernel
theorem dX1_stored_30 : decode cX1_stored 30 = .ok (.lconst 1, 1) := by decide +kernel
theorem dX1_stored_31 : decode cX1_stored 31 = .ok (.lcmp, 1) := by decide +kernel
theorem dX1_stored_32 : decode cX1_stored 32 = .ok (.ifCond .ge 7, 3) := by decide +kernel
theorem dX1_stored_35 : decode cX1_stored 35 = .ok (.lconst 0, 1) := by decide +kernel
theorem dX1_stored_36 : decode cX1_stored 36 = .ok (.goto 16, 3) := by decide +kernel
theorem dX1_stored_39 : decode cX1_stored 39 = .ok (.aload_n 0, 1) := by decide +kernel
theorem dX1_stored_40 : decode cX1_stored 40 = .ok (.getfield 38, 3) := by decide +kernel
theorem dX1_stored_43 : decode cX1_stored 43 = .ok (.i2l, 1) := by decide +kernel
theorem dX1_stored_44 : decode cX1_stored 44 = .ok (.aload_n 0, 1) := by decide +kernel
theorem dX1_stored_45 : decode cX1_stored 45 = .ok (.getfield 38, 3) := by decide +kernel
theorem dX1_stored_48 : decode cX1_stored 48 = .ok (.i2l, 1) := by decide +kernel
theorem dX1_stored_49 : decode cX1_stored 49 = .ok (.lmul, 1) := by decide +kernel
theorem dX1_stored_50 : decode cX1_stored 50 = .ok (.lload_n 1, 1) := by decide +kernel
theorem dX1_stored_51 : decode cX1_stored 51 = .ok (.ldiv, 1) := by decide +kernel
theorem dX1_stored_52 : decode cX1_stored 52 = .ok (.lreturn, 1) := by decide +kernel
theorem dX1_pullOf_0 : decode cX1_pullOf 0 = .ok (.aload_n 0, 1) := by decide +kernel
theorem dX1_pullOf_1 : decode cX1_pullOf 1 = .ok (.getfield 9, 3) := by decide +kernel
theorem dX1_pullOf_4 : decode cX1_pullOf 4 = .ok (.iconst 0, 1) := by decide +kernel
theorem dX1_pullOf_5 : decode cX1_pullOf 5 = .ok (.iaload, 1) := by decide +kernel
theorem dX1_pullOf_6 : decode cX1_pullOf 6 = .ok (.aload_n 0, 1) := by decide +kernel
theorem dX1_pullOf_7 : decode cX1_pullOf 7 = .ok (.getfield 9, 3) := by decide +kernel
theorem dX1_pullOf_10 : decode cX1_pullOf 10 = .ok (.iconst 1, 1) := by decide +kernel
theorem dX1_pullOf_11 : decode cX1_pullOf 11 = .ok (.iaload, 1) := by decide +kernel
theorem dX1_pullOf_12 : decode cX1_pullOf 12 = .ok (.iconst 1, 1) := by decide +kernel
theorem dX1_pullOf_13 : decode cX1_pullOf 13 = .ok (.isub, 1) := by decide +kernel
theorem dX1_pullOf_14 : decode cX1_pullOf 14 = .ok (.imul, 1) := by decide +kernel
theorem dX1_pullOf_15 : decode cX1_pullOf 15 = .ok (.iload_n 1, 1) := by decide +kernel
theorem dX1_pullOf_16 : decode cX1_pullOf 16 = .ok (.imul, 1) := by decide +kernel
theorem dX1_pullOf_17 : decode cX1_pullOf 17 = .ok (.iload_n 1, 1) := by decide +kernel
theorem dX1_pullOf_18 : decode cX1_pullOf 18 = .ok (.imul, 1) := by decide +kernel
theorem dX1_pullOf_19 : decode cX1_pullOf 19 = .ok (.ireturn, 1) := by decide +kernel
set_option maxRecDepth 20000 in
theorem ggX1_pullAt_X1_pullOf : GoodIn wsX1_pullAt wsX1_pullOf := goodIn_r _ [9, 3, 14, 15, 16, 17, 18, 19, 20, 21] (by decide +kernel) (by decide +kernel)
set_option maxRecDepth 20000 in
theorem gX1_pullAt_X1_pullOf : GoodIn wsX1_pullAt (wsV RX1 59 RX1 yX1_pullOf wsX1_pullOf) := goodIn_app (goodIn_of _ (by decide +kernel)) ggX1_pullAt_X1_pullOf
set_option maxRecDepth 20000 in
theorem ggX1_pullAt_X1_capacityAt : GoodIn wsX1_pullAt wsX1_capacityAt := goodIn_r _ [13, 3, 14, 15, 16, 17, 18, 19, 20, 21] (by decide +kernel) (by decide +kernel)
set_option maxRecDepth 20000 in
theorem gX1_pullAt_X1_capacityAt : GoodIn wsX1_pullAt (wsV RX1 55 RX1 yX1_capacityAt wsX1_capacityAt) := goodIn_app (goodIn_of _ (by decide +kernel)) ggX1_pullAt_X1_capacityAt
theorem dX1_pullAt_0 : decode cX1_pullAt 0 = .ok (.aload_n 0, 1) := by decide +kernel
theorem dX1_pullAt_1 : decode cX1_pullAt 1 = .ok (.getfield 41, 3) := by decide +kernel
theorem dX1_pullAt_4 : decode cX1_pullAt 4 = .ok (.ifCond .eq 12, 3) := by decide +kernel
theorem dX1_pullAt_7 : decode cX1_pullAt 7 = .ok (.aload_n 0, 1) := by decide +kernel
theorem dX1_pullAt_8 : decode cX1_pullAt 8 = .ok (.aload_n 0, 1) := by decide +kernel
theorem dX1_pullAt_9 : decode cX1_pullAt 9 = .ok (.getfield 15, 3) := by decide +kernel
theorem dX1_pullAt_12 : decode cX1_pullAt 12 = .ok (.invokevirtual 59, 3) := by decide +kernel
theorem dX1_pullAt_15 : decode cX1_pullAt 15 = .ok (.ireturn, 1) := by decide +kernel
theorem dX1_pullAt_16 : decode cX1_pullAt 16 = .ok (.aload_n 0, 1) := by decide +kernel
theorem dX1_pullAt_17 : decode cX1_pullAt 17 = .ok (.iload_n 1, 1) := by decide +kernel
theorem dX1_pullAt_18 : decode cX1_pullAt 18 = .ok (.invokevirtual 55, 3) := by decide +kernel
theorem dX1_pullAt_21 : decode cX1_pullAt 21 = .ok (.i2l, 1) := by decide +kernel
theorem dX1_pullAt_22 : decode cX1_pullAt 22 = .ok (.lstore_n 2, 1) := by decide +kernel
theorem dX1_pullAt_23 : decode cX1_pullAt 23 = .ok (.lload_n 2, 1) := by decide +kernel
theorem dX1_pullAt_24 : decode cX1_pullAt 24 = .ok (.lconst 1, 1) := by decide +kernel
theorem dX1_pullAt_25 : decode cX1_pullAt 25 = .ok (.lcmp, 1) := by decide +kernel
theorem dX1_pullAt_26 : decode cX1_pullAt 26 = .ok (.ifCond .ge 5, 3) := by decide +kernel
theorem dX1_pullAt_29 : decode cX1_pullAt 29 = .ok (.iconst 0, 1) := by decide +kernel
theorem dX1_pullAt_30 : decode cX1_pullAt 30 = .ok (.ireturn, 1) := by decide +kernel
theorem dX1_pullAt_31 : decode cX1_pullAt 31 = .ok (.aload_n 0, 1) := by decide +kernel
theorem dX1_pullAt_32 : decode cX1_pullAt 32 = .ok (.getfield 9, 3) := by decide +kernel
theorem dX1_pullAt_35 : decode cX1_pullAt 35 = .ok (.iconst 0, 1) := by decide +kernel
theorem dX1_pullAt_36 : decode cX1_pullAt 36 = .ok (.iaload, 1) := by decide +kernel
theorem dX1_pullAt_37 : decode cX1_pullAt 37 = .ok (.aload_n 0, 1) := by decide +kernel
theorem dX1_pullAt_38 : decode cX1_pullAt 38 = .ok (.getfield 9, 3) := by decide +kernel
theorem dX1_pullAt_41 : decode cX1_pullAt 41 = .ok (.iconst 1, 1) := by decide +kernel
theorem dX1_pullAt_42 : decode cX1_pullAt 42 = .ok (.iaload, 1) := by decide +kernel
theorem dX1_pullAt_43 : decode cX1_pullAt 43 = .ok (.iconst 1, 1) := by decide +kernel
theorem dX1_pullAt_44 : decode cX1_pullAt 44 = .ok (.isub, 1) := by decide +kernel
theorem dX1_pullAt_45 : decode cX1_pullAt 45 = .ok (.imul, 1) := by decide +kernel
theorem dX1_pullAt_46 : decode cX1_pullAt 46 = .ok (.i2l, 1) := by decide +kernel
theorem dX1_pullAt_47 : decode cX1_pullAt 47 = .ok (.lstore 4, 2) := by decide +kernel
theorem dX1_pullAt_49 : decode cX1_pullAt 49 = .ok (.lload 4, 2) := by decide +kernel
theorem dX1_pullAt_51 : decode cX1_pullAt 51 = .ok (.aload_n 0, 1) := by decide +kernel
theorem dX1_pullAt_52 : decode cX1_pullAt 52 = .ok (.getfield 38, 3) := by decide +kernel
theorem dX1_pullAt_55 : decode cX1_pullAt 55 = .ok (.i2l, 1) := by decide +kernel
theorem dX1_pullAt_56 : decode cX1_pullAt 56 = .ok (.lmul, 1) := by decide +kernel
theorem dX1_pullAt_57 : decode cX1_pullAt 57 = .ok (.aload_n 0, 1) := by decide +kernel
theorem dX1_pullAt_58 : decode cX1_pullAt 58 = .ok (.getfield 38, 3) := by decide +kernel
theorem dX1_pullAt_61 : decode cX1_pullAt 61 = .ok (.i2l, 1) := by decide +kernel
theorem dX1_pullAt_62 : decode cX1_pullAt 62 = .ok (.lmul, 1) := by decide +kernel
theorem dX1_pullAt_63 : decode cX1_pullAt 63 = .ok (.lload_n 2, 1) := by decide +kernel
theorem dX1_pullAt_64 : decode cX1_pullAt 64 = .ok (.lload_n 2, 1) := by decide +kernel
theorem dX1_pullAt_65 : decode cX1_pullAt 65 = .ok (.lmul, 1) := by decide +kernel
theorem dX1_pullAt_66 : decode cX1_pullAt 66 = .ok (.ldiv, 1) := by decide +kernel
theorem dX1_pullAt_67 : decode cX1_pullAt 67 = .ok (.l2i, 1) := by decide +kernel
theorem dX1_pullAt_68 : decode cX1_pullAt 68 = .ok (.ireturn, 1) := by decide +kernel
theorem dX1_drawnBackAt_0 : decode cX1_drawnBackAt 0 = .ok (.aload_n 0, 1) := by decide +kernel
theorem dX1_drawnBackAt_1 : decode cX1_drawnBackAt 1 = .ok (.getfield 9, 3) := by decide +kernel
theorem dX1_drawnBackAt_4 : decode cX1_drawnBackAt 4 = .ok (.iconst 2, 1) := by decide +kernel
theorem dX1_drawnBackAt_5 : decode cX1_drawnBackAt 5 = .ok (.iaload, 1) := by decide +kernel
theorem dX1_drawnBackAt_6 : decode cX1_drawnBackAt 6 = .ok (.iload_n 1, 1) := by decide +kernel
theorem dX1_drawnBackAt_7 : decode cX1_drawnBackAt 7 = .ok (.aload_n 0, 1) := by decide +kernel
theorem dX1_drawnBackAt_8 : decode cX1_drawnBackAt 8 = .ok (.getfield 9, 3) := by decide +kernel
theorem dX1_drawnBackAt_11 : decode cX1_drawnBackAt 11 = .ok (.iconst 3, 1) := by decide +kernel
theorem dX1_drawnBackAt_12 : decode cX1_drawnBackAt 12 = .ok (.iaload, 1) := by decide +kernel
theorem dX1_drawnBackAt_13 : decode cX1_drawnBackAt 13 = .ok (.isub, 1) := by decide +kernel
theorem dX1_drawnBackAt_14 : decode cX1_drawnBackAt 14 = .ok (.imul, 1) := by decide +kernel
theorem dX1_drawnBackAt_15 : decode cX1_drawnBackAt 15 = .ok (.ireturn, 1) := by decide +kernel
set_option maxRecDepth 20000 in
theorem ggX1_netAt_X1_pullAt : GoodIn wsX1_netAt wsX1_pullAt := goodIn_r _ [5, 6, 7, 8, 9, 10, 11, 12, 4, 13, 14, 15, 16, 17, 22, 23, 24, 25, 26, 27, 28, 29] (by decide +kernel) (by decide +kernel)
set_option maxRecDepth 20000 in
theorem gX1_netAt_X1_pullAt : GoodIn wsX1_netAt (wsV RX1 62 RX1 yX1_pullAt wsX1_pullAt) := goodIn_app (goodIn_of _ (by decide +kernel)) ggX1_netAt_X1_pullAt
set_option maxRecDepth 20000 in
theorem ggX1_netAt_X1_drawnBackAt : GoodIn wsX1_netAt wsX1_drawnBackAt := goodIn_r _ [21, 8, 22, 23, 24, 25, 26, 27, 28, 29] (by decide +kernel) (by decide +kernel)
set_option maxRecDepth 20000 in
theorem gX1_netAt_X1_drawnBackAt : GoodIn wsX1_netAt (wsV RX1 65 RX1 yX1_drawnBackAt wsX1_drawnBackAt) := goodIn_app (goodIn_of _ (by decide +kernel)) ggX1_netAt_X1_drawnBackAt
theorem dX1_netAt_0 : decode cX1_netAt 0 = .ok (.aload_n 0, 1) := by decide +kernel
theorem dX1_netAt_1 : decode cX1_netAt 1 = .ok (.iload_n 1, 1) := by decide +kernel
theorem dX1_netAt_2 : decode cX1_netAt 2 = .ok (.invokevirtual 62, 3) := by decide +kernel
theorem dX1_netAt_5 : decode cX1_netAt 5 = .ok (.aload_n 0, 1) := by decide +kernel
theorem dX1_netAt_6 : decode cX1_netAt 6 = .ok (.iload_n 1, 1) := by decide +kernel
theorem dX1_netAt_7 : decode cX1_netAt 7 = .ok (.invokevirtual 65, 3) := by decide +kernel
theorem dX1_netAt_10 : decode cX1_netAt 10 = .ok (.isub, 1) := by decide +kernel
theorem dX1_netAt_11 : decode cX1_netAt 11 = .ok (.ireturn, 1) := by decide +kernel
theorem dX1_stepBy_0 : decode cX1_stepBy 0 = .ok (.iload_n 1, 1) := by decide +kernel
theorem dX1_stepBy_1 : decode cX1_stepBy 1 = .ok (.invokestatic 68, 3) := by decide +kernel
theorem dX1_stepBy_4 : decode cX1_stepBy 4 = .ok (.aload_n 0, 1) := by decide +kernel
theorem dX1_stepBy_5 : decode cX1_stepBy 5 = .ok (.getfield 9, 3) := by decide +kernel
theorem dX1_stepBy_8 : decode cX1_stepBy 8 = .ok (.iconst 4, 1) := by decide +kernel
theorem dX1_stepBy_9 : decode cX1_stepBy 9 = .ok (.iaload, 1) := by decide +kernel
theorem dX1_stepBy_10 : decode cX1_stepBy 10 = .ok (.if_icmp .gt 5, 3) := by decide +kernel
theorem dX1_stepBy_13 : decode cX1_stepBy 13 = .ok (.iconst 0, 1) := by decide +kernel
theorem dX1_stepBy_14 : decode cX1_stepBy 14 = .ok (.ireturn, 1) := by decide +kernel
theorem dX1_stepBy_15 : decode cX1_stepBy 15 = .ok (.iload_n 1, 1) := by decide +kernel
theorem dX1_stepBy_16 : decode cX1_stepBy 16 = .ok (.ifCond .le 18, 3) := by decide +kernel
theorem dX1_stepBy_19 : decode cX1_stepBy 19 = .ok (.aload_n 0, 1) := by decide +kernel
theorem dX1_stepBy_20 : decode cX1_stepBy 20 = .ok (.getfield 35, 3) := by decide +kernel
theorem dX1_stepBy_23 : decode cX1_stepBy 23 = .ok (.bipush 40, 2) := by decide +kernel
theorem dX1_stepBy_25 : decode cX1_stepBy 25 = .ok (.if_icmp .ge 7, 3) := by decide +kernel
theorem dX1_stepBy_28 : decode cX1_stepBy 28 = .ok (.iconst 1, 1) := by decide +kernel
theorem dX1_stepBy_29 : decode cX1_stepBy 29 = .ok (.goto 4, 3) := by decide +kernel
theorem dX1_stepBy_32 : decode cX1_stepBy 32 = .ok (.iconst 0, 1) := by decide +kernel
theorem dX1_stepBy_33 : decode cX1_stepBy 33 = .ok (.ireturn, 1) := by decide +kernel
theorem dX1_stepBy_34 : decode cX1_stepBy 34 = .ok (.aload_n 0, 1) := by decide +kernel
theorem dX1_stepBy_35 : decode cX1_stepBy 35 = .ok (.getfield 35, 3) := by decide +kernel
theorem dX1_stepBy_38 : decode cX1_stepBy 38 = .ok (.ifCond .le 7, 3) := by decide +kernel
theorem dX1_stepBy_41 : decode cX1_stepBy 41 = .ok (.iconst (-1), 1) := by decide +kernel
theorem dX1_stepBy_42 : decode cX1_stepBy 42 = .ok (.goto 4, 3) := by decide +kernel
theorem dX1_stepBy_45 : decode cX1_stepBy 45 = .ok (.iconst 0, 1) := by decide +kernel
theorem dX1_stepBy_46 : decode cX1_stepBy 46 = .ok (.ireturn, 1) := by decide +kernel
set_option maxRecDepth 20000 in
theorem ggX1_reasonNow_X1_netAt : GoodIn wsX1_reasonNow wsX1_netAt := goodIn_r _ [11, 12, 13, 14, 10, 15, 16, 17, 6, 18, 19, 20, 21, 22, 23, 24, 25, 26, 27, 28, 29, 30, 35, 36, 37, 38, 39, 40, 41, 42] (by decide +kernel) (by decide +kernel)
set_option maxRecDepth 20000 in
theorem gX1_reasonNow_X1_netAt : GoodIn wsX1_reasonNow (wsV RX1 73 RX1 yX1_netAt wsX1_netAt) := goodIn_app (goodIn_of _ (by decide +kernel)) ggX1_reasonNow_X1_netAt
set_option maxRecDepth 20000 in
theorem ggX1_reasonNow_X1_stepBy : GoodIn wsX1_reasonNow wsX1_stepBy := goodIn_r _ [34, 2, 3, 4, 5, 6, 1, 35, 36, 37, 38, 39, 40, 41, 42] (by decide +kernel) (by decide +kernel)
set_option maxRecDepth 20000 in
theorem gX1_reasonNow_X1_stepBy : GoodIn wsX1_reasonNow (wsV RX1 76 RX1 yX1_stepBy wsX1_stepBy) := goodIn_app (goodIn_of _ (by decide +kernel)) ggX1_reasonNow_X1_stepBy
theorem dX1_reasonNow_0 : decode cX1_reasonNow 0 = .ok (.aload_n 0, 1) := by decide +kernel
theorem dX1_reasonNow_1 : decode cX1_reasonNow 1 = .ok (.aload_n 0, 1) := by decide +kernel
theorem dX1_reasonNow_2 : decode cX1_reasonNow 2 = .ok (.getfield 35, 3) := by decide +kernel
theorem dX1_reasonNow_5 : decode cX1_reasonNow 5 = .ok (.invokevirtual 73, 3) := by decide +kernel
theorem dX1_reasonNow_8 : decode cX1_reasonNow 8 = .ok (.istore_n 1, 1) := by decide +kernel
theorem dX1_reasonNow_9 : decode cX1_reasonNow 9 = .ok (.aload_n 0, 1) := by decide +kernel
theorem dX1_reasonNow_10 : decode cX1_reasonNow 10 = .ok (.iload_n 1, 1) := by decide +kernel
theorem dX1_reasonNow_11 : decode cX1_reasonNow 11 = .ok (.invokevirtual 76, 3) := by decide +kernel
theorem dX1_reasonNow_14 : decode cX1_reasonNow 14 = .ok (.ifCond .eq 13, 3) := by decide +kernel
theorem dX1_reasonNow_17 : decode cX1_reasonNow 17 = .ok (.iload_n 1, 1) := by decide +kernel
theorem dX1_reasonNow_18 : decode cX1_reasonNow 18 = .ok (.ifCond .le 7, 3) := by decide +kernel
theorem dX1_reasonNow_21 : decode cX1_reasonNow 21 = .ok (.iconst 0, 1) := by decide +kernel
theorem dX1_reasonNow_22 : decode cX1_reasonNow 22 = .ok (.goto 4, 3) := by decide +kernel
theorem dX1_reasonNow_25 : decode cX1_reasonNow 25 = .ok (.iconst 1, 1) := by decide +kernel
theorem dX1_reasonNow_26 : decode cX1_reasonNow 26 = .ok (.ireturn, 1) := by decide +kernel
theorem dX1_reasonNow_27 : decode cX1_reasonNow 27 = .ok (.iload_n 1, 1) := by decide +kernel
theorem dX1_reasonNow_28 : decode cX1_reasonNow 28 = .ok (.ifCond .ne 5, 3) := by decide +kernel
theorem dX1_reasonNow_31 : decode cX1_reasonNow 31 = .ok (.iconst 2, 1) := by decide +kernel
theorem dX1_reasonNow_32 : decode cX1_reasonNow 32 = .ok (.ireturn, 1) := by decide +kernel
theorem dX1_reasonNow_33 : decode cX1_reasonNow 33 = .ok (.iload_n 1, 1) := by decide +kernel
theorem dX1_reasonNow_34 : decode cX1_reasonNow 34 = .ok (.invokestatic 68, 3) := by decide +kernel
theorem dX1_reasonNow_37 : decode cX1_reasonNow 37 = .ok (.aload_n 0, 1) := by decide +kernel
theorem dX1_reasonNow_38 : decode cX1_reasonNow 38 = .ok (.getfield 9, 3) := by decide +kernel
theorem dX1_reasonNow_41 : decode cX1_reasonNow 41 = .ok (.iconst 4, 1) := by decide +kernel
theorem dX1_reasonNow_42 : decode cX1_reasonNow 42 = .ok (.iaload, 1) := by decide +kernel
theorem dX1_reasonNow_43 : decode cX1_reasonNow 43 = .ok (.if_icmp .gt 7, 3) := by decide +kernel
theorem dX1_reasonNow_46 : decode cX1_reasonNow 46 = .ok (.iconst 3, 1) := by decide +kernel
theorem dX1_reasonNow_47 : decode cX1_reasonNow 47 = .ok (.goto 4, 3) := by decide +kernel
theorem dX1_reasonNow_50 : decode cX1_reasonNow 50 = .ok (.iconst 4, 1) := by decide +kernel
theorem dX1_reasonNow_51 : decode cX1_reasonNow 51 = .ok (.ireturn, 1) := by decide +kernel
set_option maxRecDepth 20000 in
theorem ggX1_isDrawnInAt_X1_pullOf : GoodIn wsX1_isDrawnInAt wsX1_pullOf := goodIn_r _ [6, 1, 11, 12, 13, 14, 15, 16, 17, 18] (by decide +kernel) (by decide +kernel)
set_option maxRecDepth 20000 in
theorem gX1_isDrawnInAt_X1_pullOf : GoodIn wsX1_isDrawnInAt (wsV RX1 59 RX1 yX1_pullOf wsX1_pullOf) := goodIn_app (goodIn_of _ (by decide +kernel)) ggX1_isDrawnInAt_X1_pullOf
set_option maxRecDepth 20000 in
theorem ggX1_isDrawnInAt_X1_drawnBackAt : GoodIn wsX1_isDrawnInAt wsX1_drawnBackAt := goodIn_r _ [10, 1, 11, 12, 13, 14, 15, 16, 17, 18] (by decide +kernel) (by decide +kernel)
set_option maxRecDepth 20000 in
theorem gX1_isDrawnInAt_X1_drawnBackAt : GoodIn wsX1_isDrawnInAt (wsV RX1 65 RX1 yX1_drawnBackAt wsX1_drawnBackAt) := goodIn_app (goodIn_of _ (by decide +kernel)) ggX1_isDrawnInAt_X1_drawnBackAt
theorem dX1_isDrawnInAt_0 : decode cX1_isDrawnInAt 0 = .ok (.iload_n 1, 1) := by decide +kernel
theorem dX1_isDrawnInAt_1 : decode cX1_isDrawnInAt 1 = .ok (.bipush 40, 2) := by decide +kernel
theorem dX1_isDrawnInAt_3 : decode cX1_isDrawnInAt 3 = .ok (.if_icmp .ge 27, 3) := by decide +kernel
theorem dX1_isDrawnInAt_6 : decode cX1_isDrawnInAt 6 = .ok (.aload_n 0, 1) := by decide +kernel
theorem dX1_isDrawnInAt_7 : decode cX1_isDrawnInAt 7 = .ok (.iload_n 2, 1) := by decide +kernel
theorem dX1_isDrawnInAt_8 : decode cX1_isDrawnInAt 8 = .ok (.invokevirtual 59, 3) := by decide +kernel
theorem dX1_isDrawnInAt_11 : decode cX1_isDrawnInAt 11 = .ok (.aload_n 0, 1) := by decide +kernel
theorem dX1_isDrawnInAt_12 : decode cX1_isDrawnInAt 12 = .ok (.iload_n 1, 1) := by decide +kernel
theorem dX1_isDrawnInAt_13 : decode cX1_isDrawnInAt 13 = .ok (.invokevirtual 65, 3) := by decide +kernel
theorem dX1_isDrawnInAt_16 : decode cX1_isDrawnInAt 16 = .ok (.isub, 1) := by decide +kernel
theorem dX1_isDrawnInAt_17 : decode cX1_isDrawnInAt 17 = .ok (.aload_n 0, 1) := by decide +kernel
theorem dX1_isDrawnInAt_18 : decode cX1_isDrawnInAt 18 = .ok (.getfield 9, 3) := by decide +kernel
theorem dX1_isDrawnInAt_21 : decode cX1_isDrawnInAt 21 = .ok (.iconst 4, 1) := by decide +kernel
theorem dX1_isDrawnInAt_22 : decode cX1_isDrawnInAt 22 = .ok (.iaload, 1) := by decide +kernel
theorem dX1_isDrawnInAt_23 : decode cX1_isDrawnInAt 23 = .ok (.if_icmp .le 7, 3) := by decide +kernel
theorem dX1_isDrawnInAt_26 : decode cX1_isDrawnInAt 26 = .ok (.iconst 1, 1) := by decide +kernel
theorem dX1_isDrawnInAt_27 : decode cX1_isDrawnInAt 27 = .ok (.goto 4, 3) := by decide +kernel
theorem dX1_isDrawnInAt_30 : decode cX1_isDrawnInAt 30 = .ok (.iconst 0, 1) := by decide +kernel
theorem dX1_isDrawnInAt_31 : decode cX1_isDrawnInAt 31 = .ok (.ireturn, 1) := by decide +kernel
set_option maxRecDepth 20000 in
theorem ggX1_isDrawnAllTheWayIn_X1_isDrawnInAt : GoodIn wsX1_isDrawnAllTheWayIn wsX1_isDrawnInAt := goodIn_r _ [6, 7, 8, 9, 10, 5, 11, 12, 13, 14, 15, 16, 17, 18, 19, 20, 21, 22, 23] (by decide +kernel) (by decide +kernel)
set_option maxRecDepth 20000 in
theorem gX1_isDrawnAllTheWayIn_X1_isDrawnInAt : GoodIn wsX1_isDrawnAllTheWayIn (wsV RX1 79 RX1 yX1_isDrawnInAt wsX1_isDrawnInAt) := goodIn_app (goodIn_of _ (by decide +kernel)) ggX1_isDrawnAllTheWayIn_X1_isDrawnInAt
theorem dX1_isDrawnAllTheWayIn_0 : decode cX1_isDrawnAllTheWayIn 0 = .ok (.aload_n 0, 1) := by decide +kernel
theorem dX1_isDrawnAllTheWayIn_1 : decode cX1_isDrawnAllTheWayIn 1 = .ok (.getfield 35, 3) := by decide +kernel
theorem dX1_isDrawnAllTheWayIn_4 : decode cX1_isDrawnAllTheWayIn 4 = .ok (.istore_n 2, 1) := by decide +kernel
theorem dX1_isDrawnAllTheWayIn_5 : decode cX1_isDrawnAllTheWayIn 5 = .ok (.iload_n 2, 1) := by decide +kernel
theorem dX1_isDrawnAllTheWayIn_6 : decode cX1_isDrawnAllTheWayIn 6 = .ok (.bipush 40, 2) := by decide +kernel
theorem dX1_isDrawnAllTheWayIn_8 : decode cX1_isDrawnAllTheWayIn 8 = .ok (.if_icmp .ge 20, 3) := by decide +kernel
theorem dX1_isDrawnAllTheWayIn_11 : decode cX1_isDrawnAllTheWayIn 11 = .ok (.aload_n 0, 1) := by decide +kernel
theorem dX1_isDrawnAllTheWayIn_12 : decode cX1_isDrawnAllTheWayIn 12 = .ok (.iload_n 2, 1) := by decide +kernel
theorem dX1_isDrawnAllTheWayIn_13 : decode cX1_isDrawnAllTheWayIn 13 = .ok (.iload_n 1, 1) := by decide +kernel
theorem dX1_isDrawnAllTheWayIn_14 : decode cX1_isDrawnAllTheWayIn 14 = .ok (.invokevirtual 79, 3) := by decide +kernel
theorem dX1_isDrawnAllTheWayIn_17 : decode cX1_isDrawnAllTheWayIn 17 = .ok (.ifCond .ne 5, 3) := by decide +kernel
theorem dX1_isDrawnAllTheWayIn_20 : decode cX1_isDrawnAllTheWayIn 20 = .ok (.iconst 0, 1) := by decide +kernel
theorem dX1_isDrawnAllTheWayIn_21 : decode cX1_isDrawnAllTheWayIn 21 = .ok (.ireturn, 1) := by decide +kernel
theorem dX1_isDrawnAllTheWayIn_22 : decode cX1_isDrawnAllTheWayIn 22 = .ok (.iinc 2 1, 3) := by decide +kernel
theorem dX1_isDrawnAllTheWayIn_25 : decode cX1_isDrawnAllTheWayIn 25 = .ok (.goto (-20), 3) := by decide +kernel
theorem dX1_isDrawnAllTheWayIn_28 : decode cX1_isDrawnAllTheWayIn 28 = .ok (.iconst 1, 1) := by decide +kernel
theorem dX1_isDrawnAllTheWayIn_29 : decode cX1_isDrawnAllTheWayIn 29 = .ok (.ireturn, 1) := by decide +kernel
set_option maxRecDepth 20000 in
theorem ggX1_movesInTick_X1_leakAway : GoodIn wsX1_movesInTick wsX1_leakAway := goodIn_r _ [6, 7, 8, 9, 10, 11, 12, 13, 5, 14, 15, 1, 16, 17, 18, 19, 50, 51, 52, 53, 54, 55, 56, 57] (by decide +kernel) (by decide +kernel)
set_option maxRecDepth 20000 in
theorem gX1_movesInTick_X1_leakAway : GoodIn wsX1_movesInTick (wsV RX1 83 RX1 yX1_leakAway wsX1_leakAway) := goodIn_app (goodIn_of _ (by decide +kernel)) ggX1_movesInTick_X1_leakAway
set_option maxRecDepth 20000 in
theorem ggX1_movesInTick_X1_netAt : GoodIn wsX1_movesInTick wsX1_netAt := goodIn_r _ [23, 24, 25, 26, 5, 27, 7, 15, 9, 8, 28, 29, 30, 31, 16, 17, 18, 19, 32, 33, 34, 35, 50, 51, 52, 53, 54, 55, 56, 57] (by decide +kernel) (by decide +kernel)
set_option maxRecDepth 20000 in
theorem gX1_movesInTick_X1_netAt : GoodIn wsX1_movesInTick (wsV RX1 73 RX1 yX1_netAt wsX1_netAt) := goodIn_app (goodIn_of _ (by decide +kernel)) ggX1_movesInTick_X1_netAt
set_option maxRecDepth 20000 in
theorem ggX1_movesInTick_X1_stepBy : GoodIn wsX1_movesInTick wsX1_stepBy := goodIn_r _ [39, 40, 41, 42, 43, 9, 1, 50, 51, 52, 53, 54, 55, 56, 57] (by decide +kernel) (by decide +kernel)
set_option maxRecDepth 20000 in
theorem gX1_movesInTick_X1_stepBy : GoodIn wsX1_movesInTick (wsV RX1 76 RX1 yX1_stepBy wsX1_stepBy) := goodIn_app (goodIn_of _ (by decide +kernel)) ggX1_movesInTick_X1_stepBy
set_option maxRecDepth 20000 in
theorem ggX1_movesInTick_X1_holdVoltage : GoodIn wsX1_movesInTick wsX1_holdVoltage := goodIn_r _ [47, 7, 1, 15, 48, 49, 8, 16, 17, 18, 5, 19, 9, 50, 51, 52, 53, 54, 55, 56, 57] (by decide +kernel) (by decide +kernel)
set_option maxRecDepth 20000 in
theorem gX1_movesInTick_X1_holdVoltage : GoodIn wsX1_movesInTick (wsV RX1 86 RX1 yX1_holdVoltage wsX1_holdVoltage) := goodIn_app (goodIn_of _ (by decide +kernel)) ggX1_movesInTick_X1_holdVoltage
theorem dX1_movesInTick_0 : decode cX1_movesInTick 0 = .ok (.aload_n 0, 1) := by decide +kernel
theorem dX1_movesInTick_1 : decode cX1_movesInTick 1 = .ok (.invokevirtual 83, 3) := by decide +kernel
theorem dX1_movesInTick_4 : decode cX1_movesInTick 4 = .ok (.aload_n 0, 1) := by decide +kernel
theorem dX1_movesInTick_5 : decode cX1_movesInTick 5 = .ok (.aload_n 0, 1) := by decide +kernel
theorem dX1_movesInTick_6 : decode cX1_movesInTick 6 = .ok (.aload_n 0, 1) := by decide +kernel
theorem dX1_movesInTick_7 : decode cX1_movesInTick 7 = .ok (.getfield 35, 3) := by decide +kernel
theorem dX1_movesInTick_10 : decode cX1_movesInTick 10 = .ok (.invokevirtual 73, 3) := by decide +kernel
theorem dX1_movesInTick_13 : decode cX1_movesInTick 13 = .ok (.invokevirtual 76, 3) := by decide +kernel
theorem dX1_movesInTick_16 : decode cX1_movesInTick 16 = .ok (.istore_n 1, 1) := by decide +kernel
theorem dX1_movesInTick_17 : decode cX1_movesInTick 17 = .ok (.aload_n 0, 1) := by decide +kernel
theorem dX1_movesInTick_18 : decode cX1_movesInTick 18 = .ok (.dup, 1) := by decide +kernel
theorem dX1_movesInTick_19 : decode cX1_movesInTick 19 = .ok (.getfield 35, 3) := by decide +kernel
theorem dX1_movesInTick_22 : decode cX1_movesInTick 22 = .ok (.iload_n 1, 1) := by decide +kernel
theorem dX1_movesInTick_23 : decode cX1_movesInTick 23 = .ok (.iadd, 1) := by decide +kernel
theorem dX1_movesInTick_24 : decode cX1_movesInTick 24 = .ok (.putfield 35, 3) := by decide +kernel
theorem dX1_movesInTick_27 : decode cX1_movesInTick 27 = .ok (.aload_n 0, 1) := by decide +kernel
theorem dX1_movesInTick_28 : decode cX1_movesInTick 28 = .ok (.invokevirtual 86, 3) := by decide +kernel
theorem dX1_movesInTick_31 : decode cX1_movesInTick 31 = .ok (.iload_n 1, 1) := by decide +kernel
theorem dX1_movesInTick_32 : decode cX1_movesInTick 32 = .ok (.ifCond .eq 7, 3) := by decide +kernel
theorem dX1_movesInTick_35 : decode cX1_movesInTick 35 = .ok (.iconst 1, 1) := by decide +kernel
theorem dX1_movesInTick_36 : decode cX1_movesInTick 36 = .ok (.goto 4, 3) := by decide +kernel
theorem dX1_movesInTick_39 : decode cX1_movesInTick 39 = .ok (.iconst 0, 1) := by decide +kernel
theorem dX1_movesInTick_40 : decode cX1_movesInTick 40 = .ok (.ireturn, 1) := by decide +kernel
set_option maxRecDepth 20000 in
theorem ggX1_leakAway_X1_stored : GoodIn wsX1_leakAway wsX1_stored := goodIn_r _ [9, 1, 10, 2, 11, 12, 13, 14, 8, 15, 3, 16, 17, 18, 19, 20, 21, 22, 23] (by decide +kernel) (by decide +kernel)
set_option maxRecDepth 20000 in
theorem gX1_leakAway_X1_stored : GoodIn wsX1_leakAway (wsV RX1 89 RX1 yX1_stored wsX1_stored) := goodIn_app (goodIn_of _ (by decide +kernel)) ggX1_leakAway_X1_stored
theorem dX1_leakAway_0 : decode cX1_leakAway 0 = .ok (.aload_n 0, 1) := by decide +kernel
theorem dX1_leakAway_1 : decode cX1_leakAway 1 = .ok (.getfield 41, 3) := by decide +kernel
theorem dX1_leakAway_4 : decode cX1_leakAway 4 = .ok (.ifCond .eq 4, 3) := by decide +kernel
theorem dX1_leakAway_7 : decode cX1_leakAway 7 = .ok (.return_, 1) := by decide +kernel
theorem dX1_leakAway_8 : decode cX1_leakAway 8 = .ok (.aload_n 0, 1) := by decide +kernel
theorem dX1_leakAway_9 : decode cX1_leakAway 9 = .ok (.invokevirtual 89, 3) := by decide +kernel
theorem dX1_leakAway_12 : decode cX1_leakAway 12 = .ok (.lstore_n 1, 1) := by decide +kernel
theorem dX1_leakAway_13 : decode cX1_leakAway 13 = .ok (.aload_n 0, 1) := by decide +kernel
theorem dX1_leakAway_14 : decode cX1_leakAway 14 = .ok (.dup, 1) := by decide +kernel
theorem dX1_leakAway_15 : decode cX1_leakAway 15 = .ok (.getfield 38, 3) := by decide +kernel
theorem dX1_leakAway_18 : decode cX1_leakAway 18 = .ok (.aload_n 0, 1) := by decide +kernel
theorem dX1_leakAway_19 : decode cX1_leakAway 19 = .ok (.getfield 38, 3) := by decide +kernel
theorem dX1_leakAway_22 : decode cX1_leakAway 22 = .ok (.aload_n 0, 1) := by decide +kernel
theorem dX1_leakAway_23 : decode cX1_leakAway 23 = .ok (.getfield 9, 3) := by decide +kernel
theorem dX1_leakAway_26 : decode cX1_leakAway 26 = .ok (.iconst 5, 1) := by decide +kernel
theorem dX1_leakAway_27 : decode cX1_leakAway 27 = .ok (.iaload, 1) := by decide +kernel
theorem dX1_leakAway_28 : decode cX1_leakAway 28 = .ok (.imul, 1) := by decide +kernel
theorem dX1_leakAway_29 : decode cX1_leakAway 29 = .ok (.sipush 1000, 3) := by decide +kernel
theorem dX1_leakAway_32 : decode cX1_leakAway 32 = .ok (.idiv, 1) := by decide +kernel
theorem dX1_leakAway_33 : decode cX1_leakAway 33 = .ok (.isub, 1) := by decide +kernel
theorem dX1_leakAway_34 : decode cX1_leakAway 34 = .ok (.putfield 38, 3) := by decide +kernel
theorem dX1_leakAway_37 : decode cX1_leakAway 37 = .ok (.aload_n 0, 1) := by decide +kernel
theorem dX1_leakAway_38 : decode cX1_leakAway 38 = .ok (.dup, 1) := by decide +kernel
theorem dX1_leakAway_39 : decode cX1_leakAway 39 = .ok (.getfield 49, 3) := by decide +kernel
theorem dX1_leakAway_42 : decode cX1_leakAway 42 = .ok (.lload_n 1, 1) := by decide +kernel
theorem dX1_leakAway_43 : decode cX1_leakAway 43 = .ok (.aload_n 0, 1) := by decide +kernel
theorem dX1_leakAway_44 : decode cX1_leakAway 44 = .ok (.invokevirtual 89, 3) := by decide +kernel
theorem dX1_leakAway_47 : decode cX1_leakAway 47 = .ok (.lsub, 1) := by decide +kernel
theorem dX1_leakAway_48 : decode cX1_leakAway 48 = .ok (.ladd, 1) := by decide +kernel
theorem dX1_leakAway_49 : decode cX1_leakAway 49 = .ok (.putfield 49, 3) := by decide +kernel
theorem dX1_leakAway_52 : decode cX1_leakAway 52 = .ok (.return_, 1) := by decide +kernel
set_option maxRecDepth 20000 in
theorem ggX1_holdVoltage_X1_capacityAt : GoodIn wsX1_holdVoltage wsX1_capacityAt := goodIn_r _ [11, 12, 13, 14, 15, 16, 17, 18, 19, 20] (by decide +kernel) (by decide +kernel)
set_option maxRecDepth 20000 in
theorem gX1_holdVoltage_X1_capacityAt : GoodIn wsX1_holdVoltage (wsV RX1 55 RX1 yX1_capacityAt wsX1_capacityAt) := goodIn_app (goodIn_of _ (by decide +kernel)) ggX1_holdVoltage_X1_capacityAt
theorem dX1_holdVoltage_0 : decode cX1_holdVoltage 0 = .ok (.aload_n 0, 1) := by decide +kernel
theorem dX1_holdVoltage_1 : decode cX1_holdVoltage 1 = .ok (.getfield 41, 3) := by decide +kernel
theorem dX1_holdVoltage_4 : decode cX1_holdVoltage 4 = .ok (.ifCond .ne 4, 3) := by decide +kernel
theorem dX1_holdVoltage_7 : decode cX1_holdVoltage 7 = .ok (.return_, 1) := by decide +kernel
theorem dX1_holdVoltage_8 : decode cX1_holdVoltage 8 = .ok (.aload_n 0, 1) := by decide +kernel
theorem dX1_holdVoltage_9 : decode cX1_holdVoltage 9 = .ok (.aload_n 0, 1) := by decide +kernel
theorem dX1_holdVoltage_10 : decode cX1_holdVoltage 10 = .ok (.getfield 35, 3) := by decide +kernel
theorem dX1_holdVoltage_13 : decode cX1_holdVoltage 13 = .ok (.invokevirtual 55, 3) := by decide +kernel
theorem dX1_holdVoltage_16 : decode cX1_holdVoltage 16 = .ok (.aload_n 0, 1) := by decide +kernel
theorem dX1_holdVoltage_17 : decode cX1_holdVoltage 17 = .ok (.getfield 15, 3) := by decide +kernel
theorem dX1_holdVoltage_20 : decode cX1_holdVoltage 20 = .ok (.imul, 1) := by decide +kernel
theorem dX1_holdVoltage_21 : decode cX1_holdVoltage 21 = .ok (.istore_n 1, 1) := by decide +kernel
theorem dX1_holdVoltage_22 : decode cX1_holdVoltage 22 = .ok (.aload_n 0, 1) := by decide +kernel
theorem dX1_holdVoltage_23 : decode cX1_holdVoltage 23 = .ok (.dup, 1) := by decide +kernel
theorem dX1_holdVoltage_24 : decode cX1_holdVoltage 24 = .ok (.getfield 45, 3) := by decide +kernel
theorem dX1_holdVoltage_27 : decode cX1_holdVoltage 27 = .ok (.ldc2_w 93, 3) := by decide +kernel
theorem dX1_holdVoltage_30 : decode cX1_holdVoltage 30 = .ok (.aload_n 0, 1) := by decide +kernel
theorem dX1_holdVoltage_31 : decode cX1_holdVoltage 31 = .ok (.getfield 15, 3) := by decide +kernel
theorem dX1_holdVoltage_34 : decode cX1_holdVoltage 34 = .ok (.i2l, 1) := by decide +kernel
theorem dX1_holdVoltage_35 : decode cX1_holdVoltage 35 = .ok (.lmul, 1) := by decide +kernel
theorem dX1_holdVoltage_36 : decode cX1_holdVoltage 36 = .ok (.iload_n 1, 1) := by decide +kernel
theorem dX1_holdVoltage_37 : decode cX1_holdVoltage 37 = .ok (.aload_n 0, 1) := by decide +kernel
theorem dX1_holdVoltage_38 : decode cX1_holdVoltage 38 = .ok (.getfield 38, 3) := by decide +kernel
theorem dX1_holdVoltage_41 : decode cX1_holdVoltage 41 = .ok (.isub, 1) := by decide +kernel
theorem dX1_holdVoltage_42 : decode cX1_holdVoltage 42 = .ok (.i2l, 1) := by decide +kernel
theorem dX1_holdVoltage_43 : decode cX1_holdVoltage 43 = .ok (.lmul, 1) := by decide +kernel
theorem dX1_holdVoltage_44 : decode cX1_holdVoltage 44 = .ok (.ladd, 1) := by decide +kernel
theorem dX1_holdVoltage_45 : decode cX1_holdVoltage 45 = .ok (.putfield 45, 3) := by decide +kernel
theorem dX1_holdVoltage_48 : decode cX1_holdVoltage 48 = .ok (.aload_n 0, 1) := by decide +kernel
theorem dX1_holdVoltage_49 : decode cX1_holdVoltage 49 = .ok (.iload_n 1, 1) := by decide +kernel
theorem dX1_holdVoltage_50 : decode cX1_holdVoltage 50 = .ok (.putfield 38, 3) := by decide +kernel
theorem dX1_holdVoltage_53 : decode cX1_holdVoltage 53 = .ok (.return_, 1) := by decide +kernel
set_option maxRecDepth 20000 in
theorem ggX2_init_X1_init : GoodIn wsX2_init wsX1_init := goodIn_r _ [9, 10, 2, 3, 11, 12, 13, 18, 19, 20, 21, 22, 23, 24, 25] (by decide +kernel) (by decide +kernel)
set_option maxRecDepth 20000 in
theorem gX2_init_X1_init_n17 : GoodIn wsX2_init (wsX1_init) := ggX2_init_X1_init
theorem dX2_init_0 : decode cX2_init 0 = .ok (.aload_n 0, 1) := by decide +kernel
theorem dX2_init_1 : decode cX2_init 1 = .ok (.invokespecial 3, 3) := by decide +kernel
theorem dX2_init_4 : decode cX2_init 4 = .ok (.aload_n 0, 1) := by decide +kernel
theorem dX2_init_5 : decode cX2_init 5 = .ok (.iconst 4, 1) := by decide +kernel
theorem dX2_init_6 : decode cX2_init 6 = .ok (.anewarray 9, 3) := by decide +kernel
theorem dX2_init_9 : decode cX2_init 9 = .ok (.putfield 11, 3) := by decide +kernel
theorem dX2_init_12 : decode cX2_init 12 = .ok (.iconst 0, 1) := by decide +kernel
theorem dX2_init_13 : decode cX2_init 13 = .ok (.istore_n 1, 1) := by decide +kernel
theorem dX2_init_14 : decode cX2_init 14 = .ok (.iload_n 1, 1) := by decide +kernel
theorem dX2_init_15 : decode cX2_init 15 = .ok (.iconst 4, 1) := by decide +kernel
theorem dX2_init_16 : decode cX2_init 16 = .ok (.if_icmp .ge 22, 3) := by decide +kernel
theorem dX2_init_19 : decode cX2_init 19 = .ok (.aload_n 0, 1) := by decide +kernel
theorem dX2_init_20 : decode cX2_init 20 = .ok (.getfield 11, 3) := by decide +kernel
theorem dX2_init_23 : decode cX2_init 23 = .ok (.iload_n 1, 1) := by decide +kernel
theorem dX2_init_24 : decode cX2_init 24 = .ok (.new 9, 3) := by decide +kernel
theorem dX2_init_27 : decode cX2_init 27 = .ok (.dup, 1) := by decide +kernel
theorem dX2_init_28 : decode cX2_init 28 = .ok (.invokespecial 17, 3) := by decide +kernel
theorem dX2_init_31 : decode cX2_init 31 = .ok (.aastore, 1) := by decide +kernel
theorem dX2_init_32 : decode cX2_init 32 = .ok (.iinc 1 1, 3) := by decide +kernel
theorem dX2_init_35 : decode cX2_init 35 = .ok (.goto (-21), 3) := by decide +kernel
theorem dX2_init_38 : decode cX2_init 38 = .ok (.return_, 1) := by decide +kernel
set_option maxRecDepth 20000 in
theorem ggX2_copyFrom_X1_copyFrom : GoodIn wsX2_copyFrom wsX1_copyFrom := goodIn_r _ [9, 10, 11, 12, 13, 14, 15, 16, 17, 18, 19, 20, 21, 26, 27, 28, 29, 30, 31, 32, 33] (by decide +kernel) (by decide +kernel)
set_option maxRecDepth 20000 in
theorem gX2_copyFrom_X1_copyFrom : GoodIn wsX2_copyFrom (wsV RX2 18 RX1 yX1_copyFrom wsX1_copyFrom) := goodIn_app (goodIn_of _ (by decide +kernel)) ggX2_copyFrom_X1_copyFrom
theorem dX2_copyFrom_0 : decode cX2_copyFrom 0 = .ok (.iconst 0, 1) := by decide +kernel
theorem dX2_copyFrom_1 : decode cX2_copyFrom 1 = .ok (.istore_n 2, 1) := by decide +kernel
theorem dX2_copyFrom_2 : decode cX2_copyFrom 2 = .ok (.iload_n 2, 1) := by decide +kernel
theorem dX2_copyFrom_3 : decode cX2_copyFrom 3 = .ok (.iconst 4, 1) := by decide +kernel
theorem dX2_copyFrom_4 : decode cX2_copyFrom 4 = .ok (.if_icmp .ge 24, 3) := by decide +kernel
theorem dX2_copyFrom_7 : decode cX2_copyFrom 7 = .ok (.aload_n 0, 1) := by decide +kernel
theorem dX2_copyFrom_8 : decode cX2_copyFrom 8 = .ok (.getfield 11, 3) := by decide +kernel
theorem dX2_copyFrom_11 : decode cX2_copyFrom 11 = .ok (.iload_n 2, 1) := by decide +kernel
theorem dX2_copyFrom_12 : decode cX2_copyFrom 12 = .ok (.aaload, 1) := by decide +kernel
theorem dX2_copyFrom_13 : decode cX2_copyFrom 13 = .ok (.aload_n 1, 1) := by decide +kernel
theorem dX2_copyFrom_14 : decode cX2_copyFrom 14 = .ok (.getfield 11, 3) := by decide +kernel
theorem dX2_copyFrom_17 : decode cX2_copyFrom 17 = .ok (.iload_n 2, 1) := by decide +kernel
theorem dX2_copyFrom_18 : decode cX2_copyFrom 18 = .ok (.aaload, 1) := by decide +kernel
theorem dX2_copyFrom_19 : decode cX2_copyFrom 19 = .ok (.invokevirtual 18, 3) := by decide +kernel
theorem dX2_copyFrom_22 : decode cX2_copyFrom 22 = .ok (.iinc 2 1, 3) := by decide +kernel
theorem dX2_copyFrom_25 : decode cX2_copyFrom 25 = .ok (.goto (-23), 3) := by decide +kernel
theorem dX2_copyFrom_28 : decode cX2_copyFrom 28 = .ok (.aload_n 0, 1) := by decide +kernel
theorem dX2_copyFrom_29 : decode cX2_copyFrom 29 = .ok (.aload_n 1, 1) := by decide +kernel
theorem dX2_copyFrom_30 : decode cX2_copyFrom 30 = .ok (.getfield 22, 3) := by decide +kernel
theorem dX2_copyFrom_33 : decode cX2_copyFrom 33 = .ok (.putfield 22, 3) := by decide +kernel
theorem dX2_copyFrom_36 : decode cX2_copyFrom 36 = .ok (.aload_n 0, 1) := by decide +kernel
theorem dX2_copyFrom_37 : decode cX2_copyFrom 37 = .ok (.aload_n 1, 1) := by decide +kernel
theorem dX2_copyFrom_38 : decode cX2_copyFrom 38 = .ok (.getfield 26, 3) := by decide +kernel
theorem dX2_copyFrom_41 : decode cX2_copyFrom 41 = .ok (.putfield 26, 3) := by decide +kernel
theorem dX2_copyFrom_44 : decode cX2_copyFrom 44 = .ok (.aload_n 0, 1) := by decide +kernel
theorem dX2_copyFrom_45 : decode cX2_copyFrom 45 = .ok (.aload_n 1, 1) := by decide +kernel
theorem dX2_copyFrom_46 : decode cX2_copyFrom 46 = .ok (.getfield 29, 3) := by decide +kernel
theorem dX2_copyFrom_49 : decode cX2_copyFrom 49 = .ok (.putfield 29, 3) := by decide +kernel
theorem dX2_copyFrom_52 : decode cX2_copyFrom 52 = .ok (.return_, 1) := by decide +kernel
set_option maxRecDepth 20000 in
theorem ggX2_change_X5_isPair : GoodIn wsX2_change wsX5_isPair := goodIn_r _ [5] (by decide +kernel) (by decide +kernel)
set_option maxRecDepth 20000 in
theorem gX2_change_X5_isPair_n32 : GoodIn wsX2_change (wsX5_isPair) := ggX2_change_X5_isPair
set_option maxRecDepth 20000 in
theorem ggX2_change_X1_isSetting : GoodIn wsX2_change wsX1_isSetting := goodIn_r _ [9] (by decide +kernel) (by decide +kernel)
set_option maxRecDepth 20000 in
theorem gX2_change_X1_isSetting : GoodIn wsX2_change (va_wsS RX2 36 yX1_isSetting wsX1_isSetting) := goodIn_app (goodIn_of _ (by decide +kernel)) ggX2_change_X1_isSetting
set_option maxRecDepth 20000 in
theorem ggX2_change_X1_isInRange : GoodIn wsX2_change wsX1_isInRange := goodIn_r _ [12, 13, 14, 15, 7, 8, 9] (by decide +kernel) (by decide +kernel)
set_option maxRecDepth 20000 in
theorem gX2_change_X1_isInRange : GoodIn wsX2_change (va_wsS RX2 39 yX1_isInRange wsX1_isInRange) := goodIn_app (goodIn_of _ (by decide +kernel)) ggX2_change_X1_isInRange
set_option maxRecDepth 20000 in
theorem ggX2_change_X1_holdVoltage : GoodIn wsX2_change wsX1_holdVoltage := goodIn_r _ [19, 20, 21, 22, 23, 24, 25, 26, 27, 28, 8, 29, 30, 35, 36, 37, 38, 39, 40, 41, 42] (by decide +kernel) (by decide +kernel)
set_option maxRecDepth 20000 in
theorem gX2_change_X1_holdVoltage : GoodIn wsX2_change (wsV RX2 47 RX1 yX1_holdVoltage wsX1_holdVoltage) := goodIn_app (goodIn_of _ (by decide +kernel)) ggX2_change_X1_holdVoltage
theorem dX2_change_0 : decode cX2_change 0 = .ok (.iload_n 1, 1) := by decide +kernel
theorem dX2_change_1 : decode cX2_change 1 = .ok (.invokestatic 32, 3) := by decide +kernel
theorem dX2_change_4 : decode cX2_change 4 = .ok (.ifCond .eq 10, 3) := by decide +kernel
theorem dX2_change_7 : decode cX2_change 7 = .ok (.iload_n 2, 1) := by decide +kernel
theorem dX2_change_8 : decode cX2_change 8 = .ok (.invokestatic 36, 3) := by decide +kernel
theorem dX2_change_11 : decode cX2_change 11 = .ok (.ifCond .ne 5, 3) := by decide +kernel
theorem dX2_change_14 : decode cX2_change 14 = .ok (.iconst (-1), 1) := by decide +kernel
theorem dX2_change_15 : decode cX2_change 15 = .ok (.ireturn, 1) := by decide +kernel
theorem dX2_change_16 : decode cX2_change 16 = .ok (.iload_n 2, 1) := by decide +kernel
theorem dX2_change_17 : decode cX2_change 17 = .ok (.iload_n 3, 1) := by decide +kernel
theorem dX2_change_18 : decode cX2_change 18 = .ok (.invokestatic 39, 3) := by decide +kernel
theorem dX2_change_21 : decode cX2_change 21 = .ok (.ifCond .ne 6, 3) := by decide +kernel
theorem dX2_change_24 : decode cX2_change 24 = .ok (.bipush (-2), 2) := by decide +kernel
theorem dX2_change_26 : decode cX2_change 26 = .ok (.ireturn, 1) := by decide +kernel
theorem dX2_change_27 : decode cX2_change 27 = .ok (.aload_n 0, 1) := by decide +kernel
theorem dX2_change_28 : decode cX2_change 28 = .ok (.getfield 11, 3) := by decide +kernel
theorem dX2_change_31 : decode cX2_change 31 = .ok (.iload_n 1, 1) := by decide +kernel
theorem dX2_change_32 : decode cX2_change 32 = .ok (.aaload, 1) := by decide +kernel
theorem dX2_change_33 : decode cX2_change 33 = .ok (.astore 4, 2) := by decide +kernel
theorem dX2_change_35 : decode cX2_change 35 = .ok (.aload 4, 2) := by decide +kernel
theorem dX2_change_37 : decode cX2_change 37 = .ok (.getfield 43, 3) := by decide +kernel
theorem dX2_change_40 : decode cX2_change 40 = .ok (.iload_n 2, 1) := by decide +kernel
theorem dX2_change_41 : decode cX2_change 41 = .ok (.iaload, 1) := by decide +kernel
theorem dX2_change_42 : decode cX2_change 42 = .ok (.istore 5, 2) := by decide +kernel
theorem dX2_change_44 : decode cX2_change 44 = .ok (.iload 5, 2) := by decide +kernel
theorem dX2_change_46 : decode cX2_change 46 = .ok (.iload_n 3, 1) := by decide +kernel
theorem dX2_change_47 : decode cX2_change 47 = .ok (.if_icmp .ne 6, 3) := by decide +kernel
theorem dX2_change_50 : decode cX2_change 50 = .ok (.bipush (-5), 2) := by decide +kernel
theorem dX2_change_52 : decode cX2_change 52 = .ok (.ireturn, 1) := by decide +kernel
theorem dX2_change_53 : decode cX2_change 53 = .ok (.aload 4, 2) := by decide +kernel
theorem dX2_change_55 : decode cX2_change 55 = .ok (.getfield 43, 3) := by decide +kernel
theorem dX2_change_58 : decode cX2_change 58 = .ok (.iload_n 2, 1) := by decide +kernel
theorem dX2_change_59 : decode cX2_change 59 = .ok (.iload_n 3, 1) := by decide +kernel
theorem dX2_change_60 : decode cX2_change 60 = .ok (.iastore, 1) := by decide +kernel
theorem dX2_change_61 : decode cX2_change 61 = .ok (.aload 4, 2) := by decide +kernel
theorem dX2_change_63 : decode cX2_change 63 = .ok (.invokevirtual 47, 3) := by decide +kernel
theorem dX2_change_66 : decode cX2_change 66 = .ok (.iload 5, 2) := by decide +kernel
theorem dX2_change_68 : decode cX2_change 68 = .ok (.ireturn, 1) := by decide +kernel
set_option maxRecDepth 20000 in
theorem ggX2_connect_X5_isPair : GoodIn wsX2_connect wsX5_isPair := goodIn_r _ [7] (by decide +kernel) (by decide +kernel)
set_option maxRecDepth 20000 in
theorem gX2_connect_X5_isPair_n32 : GoodIn wsX2_connect (wsX5_isPair) := ggX2_connect_X5_isPair
set_option maxRecDepth 20000 in
theorem ggX2_connect_X1_holdVoltage : GoodIn wsX2_connect wsX1_holdVoltage := goodIn_r _ [12, 13, 14, 15, 16, 17, 18, 19, 20, 21, 11, 22, 23, 28, 29, 30, 31, 32, 33, 34, 35] (by decide +kernel) (by decide +kernel)
set_option maxRecDepth 20000 in
theorem gX2_connect_X1_holdVoltage : GoodIn wsX2_connect (wsV RX2 47 RX1 yX1_holdVoltage wsX1_holdVoltage) := goodIn_app (goodIn_of _ (by decide +kernel)) ggX2_connect_X1_holdVoltage
theorem dX2_connect_0 : decode cX2_connect 0 = .ok (.iload_n 1, 1) := by decide +kernel
theorem dX2_connect_1 : decode cX2_connect 1 = .ok (.invokestatic 32, 3) := by decide +kernel
theorem dX2_connect_4 : decode cX2_connect 4 = .ok (.ifCond .ne 5, 3) := by decide +kernel
theorem dX2_connect_7 : decode cX2_connect 7 = .ok (.iconst (-1), 1) := by decide +kernel
theorem dX2_connect_8 : decode cX2_connect 8 = .ok (.ireturn, 1) := by decide +kernel
theorem dX2_connect_9 : decode cX2_connect 9 = .ok (.iload_n 2, 1) := by decide +kernel
theorem dX2_connect_10 : decode cX2_connect 10 = .ok (.ifCond .lt 9, 3) := by decide +kernel
theorem dX2_connect_13 : decode cX2_connect 13 = .ok (.iload_n 2, 1) := by decide +kernel
theorem dX2_connect_14 : decode cX2_connect 14 = .ok (.bipush 30, 2) := by decide +kernel
theorem dX2_connect_16 : decode cX2_connect 16 = .ok (.if_icmp .le 6, 3) := by decide +kernel
theorem dX2_connect_19 : decode cX2_connect 19 = .ok (.bipush (-2), 2) := by decide +kernel
theorem dX2_connect_21 : decode cX2_connect 21 = .ok (.ireturn, 1) := by decide +kernel
theorem dX2_connect_22 : decode cX2_connect 22 = .ok (.aload_n 0, 1) := by decide +kernel
theorem dX2_connect_23 : decode cX2_connect 23 = .ok (.getfield 11, 3) := by decide +kernel
theorem dX2_connect_26 : decode cX2_connect 26 = .ok (.iload_n 1, 1) := by decide +kernel
theorem dX2_connect_27 : decode cX2_connect 27 = .ok (.aaload, 1) := by decide +kernel
theorem dX2_connect_28 : decode cX2_connect 28 = .ok (.astore_n 3, 1) := by decide +kernel
theorem dX2_connect_29 : decode cX2_connect 29 = .ok (.aload_n 3, 1) := by decide +kernel
theorem dX2_connect_30 : decode cX2_connect 30 = .ok (.getfield 50, 3) := by decide +kernel
theorem dX2_connect_33 : decode cX2_connect 33 = .ok (.ifCond .eq 14, 3) := by decide +kernel
theorem dX2_connect_36 : decode cX2_connect 36 = .ok (.aload_n 3, 1) := by decide +kernel
theorem dX2_connect_37 : decode cX2_connect 37 = .ok (.getfield 54, 3) := by decide +kernel
theorem dX2_connect_40 : decode cX2_connect 40 = .ok (.iload_n 2, 1) := by decide +kernel
theorem dX2_connect_41 : decode cX2_connect 41 = .ok (.if_icmp .ne 6, 3) := by decide +kernel
theorem dX2_connect_44 : decode cX2_connect 44 = .ok (.bipush (-5), 2) := by decide +kernel
theorem dX2_connect_46 : decode cX2_connect 46 = .ok (.ireturn, 1) := by decide +kernel
theorem dX2_connect_47 : decode cX2_connect 47 = .ok (.aload_n 3, 1) := by decide +kernel
theorem dX2_connect_48 : decode cX2_connect 48 = .ok (.iconst 1, 1) := by decide +kernel
theorem dX2_connect_49 : decode cX2_connect 49 = .ok (.putfield 50, 3) := by decide +kernel
theorem dX2_connect_52 : decode cX2_connect 52 = .ok (.aload_n 3, 1) := by decide +kernel
theorem dX2_connect_53 : decode cX2_connect 53 = .ok (.iload_n 2, 1) := by decide +kernel
theorem dX2_connect_54 : decode cX2_connect 54 = .ok (.putfield 54, 3) := by decide +kernel
theorem dX2_connect_57 : decode cX2_connect 57 = .ok (.aload_n 3, 1) := by decide +kernel
theorem dX2_connect_58 : decode cX2_connect 58 = .ok (.invokevirtual 47, 3) := by decide +kernel
theorem dX2_connect_61 : decode cX2_connect 61 = .ok (.aload_n 3, 1) := by decide +kernel
theorem dX2_connect_62 : decode cX2_connect 62 = .ok (.getfield 57, 3) := by decide +kernel
theorem dX2_connect_65 : decode cX2_connect 65 = .ok (.ireturn, 1) := by decide +kernel
set_option maxRecDepth 20000 in
theorem ggX2_disconnect_X5_isPair : GoodIn wsX2_disconnect wsX5_isPair := goodIn_r _ [6] (by decide +kernel) (by decide +kernel)
set_option maxRecDepth 20000 in
theorem gX2_disconnect_X5_isPair_n32 : GoodIn wsX2_disconnect (wsX5_isPair) := ggX2_disconnect_X5_isPair
theorem dX2_disconnect_0 : decode cX2_disconnect 0 = .ok (.iload_n 1, 1) := by decide +kernel
theorem dX2_disconnect_1 : decode cX2_disconnect 1 = .ok (.invokestatic 32, 3) := by decide +kernel
theorem dX2_disconnect_4 : decode cX2_disconnect 4 = .ok (.ifCond .ne 5, 3) := by decide +kernel
theorem dX2_disconnect_7 : decode cX2_disconnect 7 = .ok (.iconst (-1), 1) := by decide +kernel
theorem dX2_disconnect_8 : decode cX2_disconnect 8 = .ok (.ireturn, 1) := by decide +kernel
theorem dX2_disconnect_9 : decode cX2_disconnect 9 = .ok (.aload_n 0, 1) := by decide +kernel
theorem dX2_disconnect_10 : decode cX2_disconnect 10 = .ok (.getfield 11, 3) := by decide +kernel
theorem dX2_disconnect_13 : decode cX2_disconnect 13 = .ok (.iload_n 1, 1) := by decide +kernel
theorem dX2_disconnect_14 : decode cX2_disconnect 14 = .ok (.aaload, 1) := by decide +kernel
theorem dX2_disconnect_15 : decode cX2_disconnect 15 = .ok (.astore_n 2, 1) := by decide +kernel
theorem dX2_disconnect_16 : decode cX2_disconnect 16 = .ok (.aload_n 2, 1) := by decide +kernel
theorem dX2_disconnect_17 : decode cX2_disconnect 17 = .ok (.getfield 50, 3) := by decide +kernel
theorem dX2_disconnect_20 : decode cX2_disconnect 20 = .ok (.ifCond .ne 6, 3) := by decide +kernel
theorem dX2_disconnect_23 : decode cX2_disconnect 23 = .ok (.bipush (-5), 2) := by decide +kernel
theorem dX2_disconnect_25 : decode cX2_disconnect 25 = .ok (.ireturn, 1) := by decide +kernel
theorem dX2_disconnect_26 : decode cX2_disconnect 26 = .ok (.aload_n 2, 1) := by decide +kernel
theorem dX2_disconnect_27 : decode cX2_disconnect 27 = .ok (.iconst 0, 1) := by decide +kernel
theorem dX2_disconnect_28 : decode cX2_disconnect 28 = .ok (.putfield 50, 3) := by decide +kernel
theorem dX2_disconnect_31 : decode cX2_disconnect 31 = .ok (.aload_n 2, 1) := by decide +kernel
theorem dX2_disconnect_32 : decode cX2_disconnect 32 = .ok (.getfield 57, 3) := by decide +kernel
theorem dX2_disconnect_35 : decode cX2_disconnect 35 = .ok (.ireturn, 1) := by decide +kernel
set_option maxRecDepth 20000 in
theorem ggX2_putSlab_X5_isPair : GoodIn wsX2_putSlab wsX5_isPair := goodIn_r _ [5] (by decide +kernel) (by decide +kernel)
set_option maxRecDepth 20000 in
theorem gX2_putSlab_X5_isPair_n32 : GoodIn wsX2_putSlab (wsX5_isPair) := ggX2_putSlab_X5_isPair
set_option maxRecDepth 20000 in
theorem ggX2_putSlab_X5_isDepth : GoodIn wsX2_putSlab wsX5_isDepth := goodIn_r _ [7] (by decide +kernel) (by decide +kernel)
set_option maxRecDepth 20000 in
theorem gX2_putSlab_X5_isDepth_n60 : GoodIn wsX2_putSlab (wsX5_isDepth) := ggX2_putSlab_X5_isDepth
set_option maxRecDepth 20000 in
theorem ggX2_putSlab_X1_holdVoltage : GoodIn wsX2_putSlab wsX1_holdVoltage := goodIn_r _ [12, 13, 14, 15, 16, 17, 18, 19, 20, 21, 11, 22, 23, 28, 29, 30, 31, 32, 33, 34, 35] (by decide +kernel) (by decide +kernel)
set_option maxRecDepth 20000 in
theorem gX2_putSlab_X1_holdVoltage : GoodIn wsX2_putSlab (wsV RX2 47 RX1 yX1_holdVoltage wsX1_holdVoltage) := goodIn_app (goodIn_of _ (by decide +kernel)) ggX2_putSlab_X1_holdVoltage
theorem dX2_putSlab_0 : decode cX2_putSlab 0 = .ok (.iload_n 1, 1) := by decide +kernel
theorem dX2_putSlab_1 : decode cX2_putSlab 1 = .ok (.invokestatic 32, 3) := by decide +kernel
theorem dX2_putSlab_4 : decode cX2_putSlab 4 = .ok (.ifCond .ne 5, 3) := by decide +kernel
theorem dX2_putSlab_7 : decode cX2_putSlab 7 = .ok (.iconst (-1), 1) := by decide +kernel
theorem dX2_putSlab_8 : decode cX2_putSlab 8 = .ok (.ireturn, 1) := by decide +kernel
theorem dX2_putSlab_9 : decode cX2_putSlab 9 = .ok (.iload_n 2, 1) := by decide +kernel
theorem dX2_putSlab_10 : decode cX2_putSlab 10 = .ok (.invokestatic 60, 3) := by decide +kernel
theorem dX2_putSlab_13 : decode cX2_putSlab 13 = .ok (.ifCond .ne 6, 3) := by decide +kernel
theorem dX2_putSlab_16 : decode cX2_putSlab 16 = .ok (.bipush (-2), 2) := by decide +kernel
theorem dX2_putSlab_18 : decode cX2_putSlab 18 = .ok (.ireturn, 1) := by decide +kernel
theorem dX2_putSlab_19 : decode cX2_putSlab 19 = .ok (.aload_n 0, 1) := by decide +kernel
theorem dX2_putSlab_20 : decode cX2_putSlab 20 = .ok (.getfield 11, 3) := by decide +kernel
theorem dX2_putSlab_23 : decode cX2_putSlab 23 = .ok (.iload_n 1, 1) := by decide +kernel
theorem dX2_putSlab_24 : decode cX2_putSlab 24 = .ok (.aaload, 1) := by decide +kernel
theorem dX2_putSlab_25 : decode cX2_putSlab 25 = .ok (.astore_n 3, 1) := by decide +kernel
theorem dX2_putSlab_26 : decode cX2_putSlab 26 = .ok (.aload_n 3, 1) := by decide +kernel
theorem dX2_putSlab_27 : decode cX2_putSlab 27 = .ok (.getfield 63, 3) := by decide +kernel
theorem dX2_putSlab_30 : decode cX2_putSlab 30 = .ok (.istore 4, 2) := by decide +kernel
theorem dX2_putSlab_32 : decode cX2_putSlab 32 = .ok (.iload 4, 2) := by decide +kernel
theorem dX2_putSlab_34 : decode cX2_putSlab 34 = .ok (.iload_n 2, 1) := by decide +kernel
theorem dX2_putSlab_35 : decode cX2_putSlab 35 = .ok (.if_icmp .ne 6, 3) := by decide +kernel
theorem dX2_putSlab_38 : decode cX2_putSlab 38 = .ok (.bipush (-5), 2) := by decide +kernel
theorem dX2_putSlab_40 : decode cX2_putSlab 40 = .ok (.ireturn, 1) := by decide +kernel
theorem dX2_putSlab_41 : decode cX2_putSlab 41 = .ok (.aload_n 3, 1) := by decide +kernel
theorem dX2_putSlab_42 : decode cX2_putSlab 42 = .ok (.iload_n 2, 1) := by decide +kernel
theorem dX2_putSlab_43 : decode cX2_putSlab 43 = .ok (.putfield 63, 3) := by decide +kernel
theorem dX2_putSlab_46 : decode cX2_putSlab 46 = .ok (.aload_n 3, 1) := by decide +kernel
theorem dX2_putSlab_47 : decode cX2_putSlab 47 = .ok (.invokevirtual 47, 3) := by decide +kernel
theorem dX2_putSlab_50 : decode cX2_putSlab 50 = .ok (.iload 4, 2) := by decide +kernel
theorem dX2_putSlab_52 : decode cX2_putSlab 52 = .ok (.ireturn, 1) := by decide +kernel
set_option maxRecDepth 20000 in
theorem ggX2_share_X5_isPair : GoodIn wsX2_share wsX5_isPair := goodIn_r _ [9] (by decide +kernel) (by decide +kernel)
set_option maxRecDepth 20000 in
theorem gX2_share_X5_isPair_n32 : GoodIn wsX2_share (wsX5_isPair) := ggX2_share_X5_isPair
set_option maxRecDepth 20000 in
theorem ggX2_share_X1_capacityAt : GoodIn wsX2_share wsX1_capacityAt := goodIn_r _ [14, 15, 42, 43, 44, 45, 46, 47, 48, 49] (by decide +kernel) (by decide +kernel)
set_option maxRecDepth 20000 in
theorem gX2_share_X1_capacityAt : GoodIn wsX2_share (wsV RX2 66 RX1 yX1_capacityAt wsX1_capacityAt) := goodIn_app (goodIn_of _ (by decide +kernel)) ggX2_share_X1_capacityAt
set_option maxRecDepth 20000 in
theorem ggX2_share_X2_shareOf : GoodIn wsX2_share wsX2_shareOf := goodIn_r _ [19] (by decide +kernel) (by decide +kernel)
set_option maxRecDepth 20000 in
theorem gX2_share_X2_shareOf : GoodIn wsX2_share (va_wsS RX2 70 yX2_shareOf wsX2_shareOf) := goodIn_app (goodIn_of _ (by decide +kernel)) ggX2_share_X2_shareOf
set_option maxRecDepth 20000 in
theorem ggX2_share_X2_moveCharges : GoodIn wsX2_share wsX2_moveCharges := goodIn_r _ [22, 3, 23, 24, 25, 26, 27, 13, 28, 29, 30, 31, 32, 33, 11, 12, 14, 15, 34, 35, 36, 37, 42, 43, 44, 45, 46, 47, 48, 49] (by decide +kernel) (by decide +kernel)
set_option maxRecDepth 20000 in
theorem gX2_share_X2_moveCharges : GoodIn wsX2_share (va_wsS RX2 75 yX2_moveCharges wsX2_moveCharges) := goodIn_app (goodIn_of _ (by decide +kernel)) ggX2_share_X2_moveCharges
theorem dX2_share_0 : decode cX2_share 0 = .ok (.iload_n 1, 1) := by decide +kernel
theorem dX2_share_1 : decode cX2_share 1 = .ok (.invokestatic 32, 3) := by decide +kernel
theorem dX2_share_4 : decode cX2_share 4 = .ok (.ifCond .eq 10, 3) := by decide +kernel
theorem dX2_share_7 : decode cX2_share 7 = .ok (.iload_n 2, 1) := by decide +kernel
theorem dX2_share_8 : decode cX2_share 8 = .ok (.invokestatic 32, 3) := by decide +kernel
theorem dX2_share_11 : decode cX2_share 11 = .ok (.ifCond .ne 5, 3) := by decide +kernel
theorem dX2_share_14 : decode cX2_share 14 = .ok (.iconst (-1), 1) := by decide +kernel
theorem dX2_share_15 : decode cX2_share 15 = .ok (.ireturn, 1) := by decide +kernel
theorem dX2_share_16 : decode cX2_share 16 = .ok (.iload_n 1, 1) := by decide +kernel
theorem dX2_share_17 : decode cX2_share 17 = .ok (.iload_n 2, 1) := by decide +kernel
theorem dX2_share_18 : decode cX2_share 18 = .ok (.if_icmp .ne 6, 3) := by decide +kernel
theorem dX2_share_21 : decode cX2_share 21 = .ok (.bipush (-2), 2) := by decide +kernel
theorem dX2_share_23 : decode cX2_share 23 = .ok (.ireturn, 1) := by decide +kernel
theorem dX2_share_24 : decode cX2_share 24 = .ok (.aload_n 0, 1) := by decide +kernel
theorem dX2_share_25 : decode cX2_share 25 = .ok (.getfield 11, 3) := by decide +kernel
theorem dX2_share_28 : decode cX2_share 28 = .ok (.iload_n 1, 1) := by decide +kernel
theorem dX2_share_29 : decode cX2_share 29 = .ok (.aaload, 1) := by decide +kernel
theorem dX2_share_30 : decode cX2_share 30 = .ok (.astore_n 3, 1) := by decide +kernel
theorem dX2_share_31 : decode cX2_share 31 = .ok (.aload_n 0, 1) := by decide +kernel
theorem dX2_share_32 : decode cX2_share 32 = .ok (.getfield 11, 3) := by decide +kernel
theorem dX2_share_35 : decode cX2_share 35 = .ok (.iload_n 2, 1) := by decide +kernel
theorem dX2_share_36 : decode cX2_share 36 = .ok (.aaload, 1) := by decide +kernel
theorem dX2_share_37 : decode cX2_share 37 = .ok (.astore 4, 2) := by decide +kernel
theorem dX2_share_39 : decode cX2_share 39 = .ok (.aload_n 3, 1) := by decide +kernel
theorem dX2_share_40 : decode cX2_share 40 = .ok (.getfield 50, 3) := by decide +kernel
theorem dX2_share_43 : decode cX2_share 43 = .ok (.ifCond .ne 11, 3) := by decide +kernel
theorem dX2_share_46 : decode cX2_share 46 = .ok (.aload 4, 2) := by decide +kernel
theorem dX2_share_48 : decode cX2_share 48 = .ok (.getfield 50, 3) := by decide +kernel
theorem dX2_share_51 : decode cX2_share 51 = .ok (.ifCond .eq 6, 3) := by decide +kernel
theorem dX2_share_54 : decode cX2_share 54 = .ok (.bipush (-4), 2) := by decide +kernel
theorem dX2_share_56 : decode cX2_share 56 = .ok (.ireturn, 1) := by decide +kernel
theorem dX2_share_57 : decode cX2_share 57 = .ok (.aload_n 3, 1) := by decide +kernel
theorem dX2_share_58 : decode cX2_share 58 = .ok (.getfield 57, 3) := by decide +kernel
theorem dX2_share_61 : decode cX2_share 61 = .ok (.aload 4, 2) := by decide +kernel
theorem dX2_share_63 : decode cX2_share 63 = .ok (.getfield 57, 3) := by decide +kernel
theorem dX2_share_66 : decode cX2_share 66 = .ok (.iadd, 1) := by decide +kernel
theorem dX2_share_67 : decode cX2_share 67 = .ok (.istore 5, 2) := by decide +kernel
theorem dX2_share_69 : decode cX2_share 69 = .ok (.iload 5, 2) := by decide +kernel
theorem dX2_share_71 : decode cX2_share 71 = .ok (.aload_n 3, 1) := by decide +kernel
theorem dX2_share_72 : decode cX2_share 72 = .ok (.aload_n 3, 1) := by decide +kernel
theorem dX2_share_73 : decode cX2_share 73 = .ok (.getfield 63, 3) := by decide +kernel
theorem dX2_share_76 : decode cX2_share 76 = .ok (.invokevirtual 66, 3) := by decide +kernel
theorem dX2_share_79 : decode cX2_share 79 = .ok (.aload 4, 2) := by decide +kernel
theorem dX2_share_81 : decode cX2_share 81 = .ok (.aload 4, 2) := by decide +kernel
theorem dX2_share_83 : decode cX2_share 83 = .ok (.getfield 63, 3) := by decide +kernel
theorem dX2_share_86 : decode cX2_share 86 = .ok (.invokevirtual 66, 3) := by decide +kernel
theorem dX2_share_89 : decode cX2_share 89 = .ok (.invokestatic 70, 3) := by decide +kernel
theorem dX2_share_92 : decode cX2_share 92 = .ok (.istore 6, 2) := by decide +kernel
theorem dX2_share_94 : decode cX2_share 94 = .ok (.iload 6, 2) := by decide +kernel
theorem dX2_share_96 : decode cX2_share 96 = .ok (.ldc 74, 2) := by decide +kernel
theorem dX2_share_98 : decode cX2_share 98 = .ok (.if_icmp .gt 13, 3) := by decide +kernel
theorem dX2_share_101 : decode cX2_share 101 = .ok (.iload 5, 2) := by decide +kernel
theorem dX2_share_103 : decode cX2_share 103 = .ok (.iload 6, 2) := by decide +kernel
theorem dX2_share_105 : decode cX2_share 105 = .ok (.isub, 1) := by decide +kernel
theorem dX2_share_106 : decode cX2_share 106 = .ok (.ldc 74, 2) := by decide +kernel
theorem dX2_share_108 : decode cX2_share 108 = .ok (.if_icmp .le 6, 3) := by decide +kernel
theorem dX2_share_111 : decode cX2_share 111 = .ok (.bipush (-3), 2) := by decide +kernel
theorem dX2_share_113 : decode cX2_share 113 = .ok (.ireturn, 1) := by decide +kernel
theorem dX2_share_114 : decode cX2_share 114 = .ok (.iload 6, 2) := by decide +kernel
theorem dX2_share_116 : decode cX2_share 116 = .ok (.aload_n 3, 1) := by decide +kernel
theorem dX2_share_117 : decode cX2_share 117 = .ok (.getfield 57, 3) := by decide +kernel
theorem dX2_share_120 : decode cX2_share 120 = .ok (.if_icmp .ne 6, 3) := by decide +kernel
theorem dX2_share_123 : decode cX2_share 123 = .ok (.bipush (-5), 2) := by decide +kernel
theorem dX2_share_125 : decode cX2_share 125 = .ok (.ireturn, 1) := by decide +kernel
theorem dX2_share_126 : decode cX2_share 126 = .ok (.aload_n 3, 1) := by decide +kernel
theorem dX2_share_127 : decode cX2_share 127 = .ok (.aload 4, 2) := by decide +kernel
theorem dX2_share_129 : decode cX2_share 129 = .ok (.iload 6, 2) := by decide +kernel
theorem dX2_share_131 : decode cX2_share 131 = .ok (.invokestatic 75, 3) := by decide +kernel
theorem dX2_share_134 : decode cX2_share 134 = .ok (.aload_n 0, 1) := by decide +kernel
theorem dX2_share_135 : decode cX2_share 135 = .ok (.dup, 1) := by decide +kernel
theorem dX2_share_136 : decode cX2_share 136 = .ok (.getfield 26, 3) := by decide +kernel
theorem dX2_share_139 : decode cX2_share 139 = .ok (.iconst 1, 1) := by decide +kernel
theorem dX2_share_140 : decode cX2_share 140 = .ok (.iadd, 1) := by decide +kernel
theorem dX2_share_141 : decode cX2_share 141 = .ok (.putfield 26, 3) := by decide +kernel
theorem dX2_share_144 : decode cX2_share 144 = .ok (.iload 6, 2) := by decide +kernel
theorem dX2_share_146 : decode cX2_share 146 = .ok (.ireturn, 1) := by decide +kernel
theorem dX2_shareOf_0 : decode cX2_shareOf 0 = .ok (.iload_n 1, 1) := by decide +kernel
theorem dX2_shareOf_1 : decode cX2_shareOf 1 = .ok (.iload_n 2, 1) := by decide +kernel
theorem dX2_shareOf_2 : decode cX2_shareOf 2 = .ok (.iadd, 1) := by decide +kernel
theorem dX2_shareOf_3 : decode cX2_shareOf 3 = .ok (.istore_n 3, 1) := by decide +kernel
theorem dX2_shareOf_4 : decode cX2_shareOf 4 = .ok (.iload_n 3, 1) := by decide +kernel
theorem dX2_shareOf_5 : decode cX2_shareOf 5 = .ok (.iconst 1, 1) := by decide +kernel
theorem dX2_shareOf_6 : decode cX2_shareOf 6 = .ok (.if_icmp .ge 7, 3) := by decide +kernel
theorem dX2_shareOf_9 : decode cX2_shareOf 9 = .ok (.iconst 0, 1) := by decide +kernel
theorem dX2_shareOf_10 : decode cX2_shareOf 10 = .ok (.goto 12, 3) := by decide +kernel
theorem dX2_shareOf_13 : decode cX2_shareOf 13 = .ok (.iload_n 0, 1) := by decide +kernel
theorem dX2_shareOf_14 : decode cX2_shareOf 14 = .ok (.i2l, 1) := by decide +kernel
theorem dX2_shareOf_15 : decode cX2_shareOf 15 = .ok (.iload_n 1, 1) := by decide +kernel
theorem dX2_shareOf_16 : decode cX2_shareOf 16 = .ok (.i2l, 1) := by decide +kernel
theorem dX2_shareOf_17 : decode cX2_shareOf 17 = .ok (.lmul, 1) := by decide +kernel
theorem dX2_shareOf_18 : decode cX2_shareOf 18 = .ok (.iload_n 3, 1) := by decide +kernel
theorem dX2_shareOf_19 : decode cX2_shareOf 19 = .ok (.i2l, 1) := by decide +kernel
theorem dX2_shareOf_20 : decode cX2_shareOf 20 = .ok (.ldiv, 1) := by decide +kernel
theorem dX2_shareOf_21 : decode cX2_shareOf 21 = .ok (.l2i, 1) := by decide +kernel
theorem dX2_shareOf_22 : decode cX2_shareOf 22 = .ok (.ireturn, 1) := by decide +kernel
set_option maxRecDepth 20000 in
theorem ggX2_moveCharges_X1_stored : GoodIn wsX2_moveCharges wsX1_stored := goodIn_r _ [8, 9, 10, 11, 12, 13, 14, 15, 7, 16, 17, 22, 23, 24, 25, 26, 27, 28, 29] (by decide +kernel) (by decide +kernel)
set_option maxRecDepth 20000 in
theorem gX2_moveCharges_X1_stored : GoodIn wsX2_moveCharges (wsV RX2 79 RX1 yX1_stored wsX1_stored) := goodIn_app (goodIn_of _ (by decide +kernel)) ggX2_moveCharges_X1_stored
set_option maxRecDepth 20000 in
theorem ggX2_moveCharges_J9_floorDiv_f86c9 : GoodIn wsX2_moveCharges wsJ9_floorDiv_f86c9 := goodIn_r _ [21] (by decide +kernel) (by decide +kernel)
set_option maxRecDepth 20000 in
theorem gX2_moveCharges_J9_floorDiv_f86c9 : GoodIn wsX2_moveCharges (va_wsS RX2 85 yJ9_floorDiv_f86c9 wsJ9_floorDiv_f86c9) := goodIn_app (goodIn_of _ (by decide +kernel)) ggX2_moveCharges_J9_floorDiv_f86c9
theorem dX2_moveCharges_0 : decode cX2_moveCharges 0 = .ok (.aload_n 0, 1) := by decide +kernel
theorem dX2_moveCharges_1 : decode cX2_moveCharges 1 = .ok (.invokevirtual 79, 3) := by decide +kernel
theorem dX2_moveCharges_4 : decode cX2_moveCharges 4 = .ok (.aload_n 1, 1) := by decide +kernel
theorem dX2_moveCharges_5 : decode cX2_moveCharges 5 = .ok (.invokevirtual 79, 3) := by decide +kernel
theorem dX2_moveCharges_8 : decode cX2_moveCharges 8 = .ok (.ladd, 1) := by decide +kernel
theorem dX2_moveCharges_9 : decode cX2_moveCharges 9 = .ok (.lstore_n 3, 1) := by decide +kernel
theorem dX2_moveCharges_10 : decode cX2_moveCharges 10 = .ok (.aload_n 1, 1) := by decide +kernel
theorem dX2_moveCharges_11 : decode cX2_moveCharges 11 = .ok (.dup, 1) := by decide +kernel
theorem dX2_moveCharges_12 : decode cX2_moveCharges 12 = .ok (.getfield 57, 3) := by decide +kernel
theorem dX2_moveCharges_15 : decode cX2_moveCharges 15 = .ok (.aload_n 0, 1) := by decide +kernel
theorem dX2_moveCharges_16 : decode cX2_moveCharges 16 = .ok (.getfield 57, 3) := by decide +kernel
theorem dX2_moveCharges_19 : decode cX2_moveCharges 19 = .ok (.iload_n 2, 1) := by decide +kernel
theorem dX2_moveCharges_20 : decode cX2_moveCharges 20 = .ok (.isub, 1) := by decide +kernel
theorem dX2_moveCharges_21 : decode cX2_moveCharges 21 = .ok (.iadd, 1) := by decide +kernel
theorem dX2_moveCharges_22 : decode cX2_moveCharges 22 = .ok (.putfield 57, 3) := by decide +kernel
theorem dX2_moveCharges_25 : decode cX2_moveCharges 25 = .ok (.aload_n 0, 1) := by decide +kernel
theorem dX2_moveCharges_26 : decode cX2_moveCharges 26 = .ok (.iload_n 2, 1) := by decide +kernel
theorem dX2_moveCharges_27 : decode cX2_moveCharges 27 = .ok (.putfield 57, 3) := by decide +kernel
theorem dX2_moveCharges_30 : decode cX2_moveCharges 30 = .ok (.lload_n 3, 1) := by decide +kernel
theorem dX2_moveCharges_31 : decode cX2_moveCharges 31 = .ok (.aload_n 0, 1) := by decide +kernel
theorem dX2_moveCharges_32 : decode cX2_moveCharges 32 = .ok (.invokevirtual 79, 3) := by decide +kernel
theorem dX2_moveCharges_35 : decode cX2_moveCharges 35 = .ok (.lsub, 1) := by decide +kernel
theorem dX2_moveCharges_36 : decode cX2_moveCharges 36 = .ok (.aload_n 1, 1) := by decide +kernel
theorem dX2_moveCharges_37 : decode cX2_moveCharges 37 = .ok (.invokevirtual 79, 3) := by decide +kernel
theorem dX2_moveCharges_40 : decode cX2_moveCharges 40 = .ok (.lsub, 1) := by decide +kernel
theorem dX2_moveCharges_41 : decode cX2_moveCharges 41 = .ok (.lstore 5, 2) := by decide +kernel
theorem dX2_moveCharges_43 : decode cX2_moveCharges 43 = .ok (.lload 5, 2) := by decide +kernel
theorem dX2_moveCharges_45 : decode cX2_moveCharges 45 = .ok (.ldc2_w 83, 3) := by decide +kernel
theorem dX2_moveCharges_48 : decode cX2_moveCharges 48 = .ok (.invokestatic 85, 3) := by decide +kernel
theorem dX2_moveCharges_51 : decode cX2_moveCharges 51 = .ok (.lstore 7, 2) := by decide +kernel
theorem dX2_moveCharges_53 : decode cX2_moveCharges 53 = .ok (.aload_n 0, 1) := by decide +kernel
theorem dX2_moveCharges_54 : decode cX2_moveCharges 54 = .ok (.dup, 1) := by decide +kernel
theorem dX2_moveCharges_55 : decode cX2_moveCharges 55 = .ok (.getfield 91, 3) := by decide +kernel
theorem dX2_moveCharges_58 : decode cX2_moveCharges 58 = .ok (.lload 7, 2) := by decide +kernel
theorem dX2_moveCharges_60 : decode cX2_moveCharges 60 = .ok (.ladd, 1) := by decide +kernel
theorem dX2_moveCharges_61 : decode cX2_moveCharges 61 = .ok (.putfield 91, 3) := by decide +kernel
theorem dX2_moveCharges_64 : decode cX2_moveCharges 64 = .ok (.aload_n 1, 1) := by decide +kernel
theorem dX2_moveCharges_65 : decode cX2_moveCharges 65 = .ok (.dup, 1) := by decide +kernel
theorem dX2_moveCharges_66 : decode cX2_moveCharges 66 = .ok (.getfield 91, 3) := by decide +kernel
theorem dX2_moveCharges_69 : decode cX2_moveCharges 69 = .ok (.lload 5, 2) := by decide +kernel
theorem dX2_moveCharges_71 : decode cX2_moveCharges 71 = .ok (.lload 7, 2) := by decide +kernel
theorem dX2_moveCharges_73 : decode cX2_moveCharges 73 = .ok (.lsub, 1) := by decide +kernel
theorem dX2_moveCharges_74 : decode cX2_moveCharges 74 = .ok (.ladd, 1) := by decide +kernel
theorem dX2_moveCharges_75 : decode cX2_moveCharges 75 = .ok (.putfield 91, 3) := by decide +kernel
theorem dX2_moveCharges_78 : decode cX2_moveCharges 78 = .ok (.return_, 1) := by decide +kernel
set_option maxRecDepth 20000 in
theorem ggX2_letPass_X1_movesInTick : GoodIn wsX2_letPass wsX1_movesInTick := goodIn_r _ [9, 10, 11, 12, 13, 8, 14, 15, 16, 17, 18, 19, 20, 21, 22, 23, 24, 25, 26, 27, 28, 29, 30, 31, 32, 33, 34, 35, 36, 37, 38, 39, 40, 41, 42, 43, 44, 45, 46, 47, 48, 49, 50, 51, 52, 53, 54, 55, 56, 57, 62, 63, 64, 65, 66, 67, 68, 69] (by decide +kernel) (by decide +kernel)
set_option maxRecDepth 20000 in
theorem gX2_letPass_X1_movesInTick : GoodIn wsX2_letPass (wsV RX2 96 RX1 yX1_movesInTick wsX1_movesInTick) := goodIn_app (goodIn_of _ (by decide +kernel)) ggX2_letPass_X1_movesInTick
theorem dX2_letPass_0 : decode cX2_letPass 0 = .ok (.iload_n 1, 1) := by decide +kernel
theorem dX2_letPass_1 : decode cX2_letPass 1 = .ok (.iconst 1, 1) := by decide +kernel
theorem dX2_letPass_2 : decode cX2_letPass 2 = .ok (.if_icmp .lt 9, 3) := by decide +kernel
theorem dX2_letPass_5 : decode cX2_letPass 5 = .ok (.iload_n 1, 1) := by decide +kernel
theorem dX2_letPass_6 : decode cX2_letPass 6 = .ok (.bipush 99, 2) := by decide +kernel
theorem dX2_letPass_8 : decode cX2_letPass 8 = .ok (.if_icmp .le 6, 3) := by decide +kernel
theorem dX2_letPass_11 : decode cX2_letPass 11 = .ok (.bipush (-2), 2) := by decide +kernel
theorem dX2_letPass_13 : decode cX2_letPass 13 = .ok (.ireturn, 1) := by decide +kernel
theorem dX2_letPass_14 : decode cX2_letPass 14 = .ok (.aload_n 0, 1) := by decide +kernel
theorem dX2_letPass_15 : decode cX2_letPass 15 = .ok (.getfield 22, 3) := by decide +kernel
theorem dX2_letPass_18 : decode cX2_letPass 18 = .ok (.iload_n 1, 1) := by decide +kernel
theorem dX2_letPass_19 : decode cX2_letPass 19 = .ok (.iadd, 1) := by decide +kernel
theorem dX2_letPass_20 : decode cX2_letPass 20 = .ok (.ldc 95, 2) := by decide +kernel
theorem dX2_letPass_22 : decode cX2_letPass 22 = .ok (.if_icmp .le 6, 3) := by decide +kernel
theorem dX2_letPass_25 : decode cX2_letPass 25 = .ok (.bipush (-3), 2) := by decide +kernel
theorem dX2_letPass_27 : decode cX2_letPass 27 = .ok (.ireturn, 1) := by decide +kernel
theorem dX2_letPass_28 : decode cX2_letPass 28 = .ok (.iconst 0, 1) := by decide +kernel
theorem dX2_letPass_29 : decode cX2_letPass 29 = .ok (.istore_n 2, 1) := by decide +kernel
theorem dX2_letPass_30 : decode cX2_letPass 30 = .ok (.iconst 0, 1) := by decide +kernel
theorem dX2_letPass_31 : decode cX2_letPass 31 = .ok (.istore_n 3, 1) := by decide +kernel
theorem dX2_letPass_32 : decode cX2_letPass 32 = .ok (.iload_n 3, 1) := by decide +kernel
theorem dX2_letPass_33 : decode cX2_letPass 33 = .ok (.iload_n 1, 1) := by decide +kernel
theorem dX2_letPass_34 : decode cX2_letPass 34 = .ok (.if_icmp .ge 52, 3) := by decide +kernel
theorem dX2_letPass_37 : decode cX2_letPass 37 = .ok (.iconst 0, 1) := by decide +kernel
theorem dX2_letPass_38 : decode cX2_letPass 38 = .ok (.istore_n 2, 1) := by decide +kernel
theorem dX2_letPass_39 : decode cX2_letPass 39 = .ok (.iconst 0, 1) := by decide +kernel
theorem dX2_letPass_40 : decode cX2_letPass 40 = .ok (.istore 4, 2) := by decide +kernel
theorem dX2_letPass_42 : decode cX2_letPass 42 = .ok (.iload 4, 2) := by decide +kernel
theorem dX2_letPass_44 : decode cX2_letPass 44 = .ok (.iconst 4, 1) := by decide +kernel
theorem dX2_letPass_45 : decode cX2_letPass 45 = .ok (.if_icmp .ge 25, 3) := by decide +kernel
theorem dX2_letPass_48 : decode cX2_letPass 48 = .ok (.aload_n 0, 1) := by decide +kernel
theorem dX2_letPass_49 : decode cX2_letPass 49 = .ok (.getfield 11, 3) := by decide +kernel
theorem dX2_letPass_52 : decode cX2_letPass 52 = .ok (.iload 4, 2) := by decide +kernel
theorem dX2_letPass_54 : decode cX2_letPass 54 = .ok (.aaload, 1) := by decide +kernel
theorem dX2_letPass_55 : decode cX2_letPass 55 = .ok (.invokevirtual 96, 3) := by decide +kernel
theorem dX2_letPass_58 : decode cX2_letPass 58 = .ok (.ifCond .eq 6, 3) := by decide +kernel
theorem dX2_letPass_61 : decode cX2_letPass 61 = .ok (.iinc 2 1, 3) := by decide +kernel
theorem dX2_letPass_64 : decode cX2_letPass 64 = .ok (.iinc 4 1, 3) := by decide +kernel
theorem dX2_letPass_67 : decode cX2_letPass 67 = .ok (.goto (-25), 3) := by decide +kernel
theorem dX2_letPass_70 : decode cX2_letPass 70 = .ok (.aload_n 0, 1) := by decide +kernel
theorem dX2_letPass_71 : decode cX2_letPass 71 = .ok (.dup, 1) := by decide +kernel
theorem dX2_letPass_72 : decode cX2_letPass 72 = .ok (.getfield 29, 3) := by decide +kernel
theorem dX2_letPass_75 : decode cX2_letPass 75 = .ok (.iload_n 2, 1) := by decide +kernel
theorem dX2_letPass_76 : decode cX2_letPass 76 = .ok (.iadd, 1) := by decide +kernel
theorem dX2_letPass_77 : decode cX2_letPass 77 = .ok (.putfield 29, 3) := by decide +kernel
theorem dX2_letPass_80 : decode cX2_letPass 80 = .ok (.iinc 3 1, 3) := by decide +kernel
theorem dX2_letPass_83 : decode cX2_letPass 83 = .ok (.goto (-51), 3) := by decide +kernel
theorem dX2_letPass_86 : decode cX2_letPass 86 = .ok (.aload_n 0, 1) := by decide +kernel
theorem dX2_letPass_87 : decode cX2_letPass 87 = .ok (.dup, 1) := by decide +kernel
theorem dX2_letPass_88 : decode cX2_letPass 88 = .ok (.getfield 22, 3) := by decide +kernel
theorem dX2_letPass_91 : decode cX2_letPass 91 = .ok (.iload_n 1, 1) := by decide +kernel
theorem dX2_letPass_92 : decode cX2_letPass 92 = .ok (.iadd, 1) := by decide +kernel
theorem dX2_letPass_93 : decode cX2_letPass 93 = .ok (.putfield 22, 3) := by decide +kernel
theorem dX2_letPass_96 : decode cX2_letPass 96 = .ok (.iload_n 2, 1) := by decide +kernel
theorem dX2_letPass_97 : decode cX2_letPass 97 = .ok (.ireturn, 1) := by decide +kernel
