set_option maxRecDepth 20000 in
theorem ggX5_init_X2_init : GoodIn wsX5_init wsX2_init := goodIn_r _ [24, 25, 2, 3, 26, 27, 15, 16, 28, 29, 30, 31, 32, 33, 56, 57, 58, 59, 72, 73, 74, 75, 76, 77, 78, 79] (by decide +kernel) (by decide +kernel)
set_option maxRecDepth 20000 in
theorem gX5_init_X2_init : GoodIn wsX5_init (wsX2_init) := ggX5_init_X2_init
set_option maxRecDepth 20000 in
theorem ggX5_init_X0_init : GoodIn wsX5_init wsX0_init := goodIn_r _ [36, 37, 2, 3, 38, 39, 5, 6, 40, 23, 24, 25, 26, 27, 15, 16, 28, 29, 30, 31, 32, 33, 70, 71, 56, 57, 58, 59, 72, 73, 74, 75, 76, 77, 78, 79] (by decide +kernel) (by decide +kernel)
set_option maxRecDepth 20000 in
theorem gX5_init_X0_init : GoodIn wsX5_init (wsX0_init) := ggX5_init_X0_init
set_option maxRecDepth 20000 in
theorem ggX5_init_X1_init : GoodIn wsX5_init wsX1_init := goodIn_r _ [29, 30, 2, 3, 31, 32, 33, 72, 73, 74, 75, 76, 77, 78, 79] (by decide +kernel) (by decide +kernel)
set_option maxRecDepth 20000 in
theorem gX5_init_X1_init_n31 : GoodIn wsX5_init (wsX1_init) := ggX5_init_X1_init
set_option maxRecDepth 20000 in
theorem ggX5_init_X4_init : GoodIn wsX5_init wsX4_init := goodIn_r _ [42, 43, 2, 3, 44, 45, 46, 47, 31, 48, 49, 50, 51, 52, 53, 54, 55, 88, 89, 80, 81, 82, 83, 84, 85, 86, 87] (by decide +kernel) (by decide +kernel)
set_option maxRecDepth 20000 in
theorem gX5_init_X4_init_n38 : GoodIn wsX5_init (wsX4_init) := ggX5_init_X4_init
theorem dX5_init_0 : decode cX5_init 0 = .ok (.aload_n 0, 1) := by decide +kernel
theorem dX5_init_1 : decode cX5_init 1 = .ok (.invokespecial 1, 3) := by decide +kernel
theorem dX5_init_4 : decode cX5_init 4 = .ok (.aload_n 0, 1) := by decide +kernel
theorem dX5_init_5 : decode cX5_init 5 = .ok (.new 7, 3) := by decide +kernel
theorem dX5_init_8 : decode cX5_init 8 = .ok (.dup, 1) := by decide +kernel
theorem dX5_init_9 : decode cX5_init 9 = .ok (.invokespecial 9, 3) := by decide +kernel
theorem dX5_init_12 : decode cX5_init 12 = .ok (.putfield 10, 3) := by decide +kernel
theorem dX5_init_15 : decode cX5_init 15 = .ok (.aload_n 0, 1) := by decide +kernel
theorem dX5_init_16 : decode cX5_init 16 = .ok (.new 7, 3) := by decide +kernel
theorem dX5_init_19 : decode cX5_init 19 = .ok (.dup, 1) := by decide +kernel
theorem dX5_init_20 : decode cX5_init 20 = .ok (.invokespecial 9, 3) := by decide +kernel
theorem dX5_init_23 : decode cX5_init 23 = .ok (.putfield 16, 3) := by decide +kernel
theorem dX5_init_26 : decode cX5_init 26 = .ok (.aload_n 0, 1) := by decide +kernel
theorem dX5_init_27 : decode cX5_init 27 = .ok (.new 7, 3) := by decide +kernel
theorem dX5_init_30 : decode cX5_init 30 = .ok (.dup, 1) := by decide +kernel
theorem dX5_init_31 : decode cX5_init 31 = .ok (.invokespecial 9, 3) := by decide +kernel
theorem dX5_init_34 : decode cX5_init 34 = .ok (.putfield 19, 3) := by decide +kernel
theorem dX5_init_37 : decode cX5_init 37 = .ok (.aload_n 0, 1) := by decide +kernel
theorem dX5_init_38 : decode cX5_init 38 = .ok (.new 22, 3) := by decide +kernel
theorem dX5_init_41 : decode cX5_init 41 = .ok (.dup, 1) := by decide +kernel
theorem dX5_init_42 : decode cX5_init 42 = .ok (.invokespecial 24, 3) := by decide +kernel
theorem dX5_init_45 : decode cX5_init 45 = .ok (.putfield 25, 3) := by decide +kernel
theorem dX5_init_48 : decode cX5_init 48 = .ok (.aload_n 0, 1) := by decide +kernel
theorem dX5_init_49 : decode cX5_init 49 = .ok (.new 29, 3) := by decide +kernel
theorem dX5_init_52 : decode cX5_init 52 = .ok (.dup, 1) := by decide +kernel
theorem dX5_init_53 : decode cX5_init 53 = .ok (.invokespecial 31, 3) := by decide +kernel
theorem dX5_init_56 : decode cX5_init 56 = .ok (.putfield 32, 3) := by decide +kernel
theorem dX5_init_59 : decode cX5_init 59 = .ok (.aload_n 0, 1) := by decide +kernel
theorem dX5_init_60 : decode cX5_init 60 = .ok (.new 36, 3) := by decide +kernel
theorem dX5_init_63 : decode cX5_init 63 = .ok (.dup, 1) := by decide +kernel
theorem dX5_init_64 : decode cX5_init 64 = .ok (.invokespecial 38, 3) := by decide +kernel
theorem dX5_init_67 : decode cX5_init 67 = .ok (.putfield 39, 3) := by decide +kernel
theorem dX5_init_70 : decode cX5_init 70 = .ok (.return_, 1) := by decide +kernel
set_option maxRecDepth 20000 in
theorem ggX5_set_X2_copyFrom : GoodIn wsX5_set wsX2_copyFrom := goodIn_r _ [7, 8, 9, 10, 11, 12, 13, 14, 15, 16, 17, 18, 19, 20, 21, 22, 23, 24, 25, 26, 27, 28, 82, 83, 84, 85, 86, 87, 88, 89, 90, 91, 92, 93] (by decide +kernel) (by decide +kernel)
set_option maxRecDepth 20000 in
theorem gX5_set_X2_copyFrom : GoodIn wsX5_set (wsV RX5 43 RX2 yX2_copyFrom wsX2_copyFrom) := goodIn_app (goodIn_of _ (by decide +kernel)) ggX5_set_X2_copyFrom
set_option maxRecDepth 20000 in
theorem ggX5_set_X2_change : GoodIn wsX5_set wsX2_change := goodIn_r _ [32, 8, 33, 34, 35, 36, 37, 38, 15, 39, 40, 41, 42, 43, 44, 45, 46, 47, 48, 49, 25, 22, 24, 26, 50, 23, 51, 52, 53, 54, 17, 82, 83, 84, 85, 86, 87, 88, 89, 90, 91, 92, 93] (by decide +kernel) (by decide +kernel)
set_option maxRecDepth 20000 in
theorem gX5_set_X2_change : GoodIn wsX5_set (wsV RX5 47 RX2 yX2_change wsX2_change) := goodIn_app (goodIn_of _ (by decide +kernel)) ggX5_set_X2_change
set_option maxRecDepth 20000 in
theorem ggX5_set_X5_recorded : GoodIn wsX5_set wsX5_recorded := goodIn_r _ [58, 59, 1, 60, 61, 62, 63, 64, 65, 66, 67, 68, 69, 70, 71, 4, 5, 6, 7, 8, 9, 10, 11, 12, 13, 14, 15, 16, 17, 18, 19, 20, 21, 22, 23, 24, 25, 26, 27, 28, 72, 73, 74, 75, 76, 77, 78, 79, 80, 81, 94, 95, 82, 83, 84, 85, 86, 87, 88, 89, 90, 91, 92, 93] (by decide +kernel) (by decide +kernel)
set_option maxRecDepth 20000 in
theorem gX5_set_X5_recorded : GoodIn wsX5_set (wsV RX5 51 RX5 yX5_recorded wsX5_recorded) := goodIn_app (goodIn_of _ (by decide +kernel)) ggX5_set_X5_recorded
theorem dX5_set_0 : decode cX5_set 0 = .ok (.aload_n 0, 1) := by decide +kernel
theorem dX5_set_1 : decode cX5_set 1 = .ok (.getfield 16, 3) := by decide +kernel
theorem dX5_set_4 : decode cX5_set 4 = .ok (.aload_n 0, 1) := by decide +kernel
theorem dX5_set_5 : decode cX5_set 5 = .ok (.getfield 10, 3) := by decide +kernel
theorem dX5_set_8 : decode cX5_set 8 = .ok (.invokevirtual 43, 3) := by decide +kernel
theorem dX5_set_11 : decode cX5_set 11 = .ok (.aload_n 0, 1) := by decide +kernel
theorem dX5_set_12 : decode cX5_set 12 = .ok (.aload_n 0, 1) := by decide +kernel
theorem dX5_set_13 : decode cX5_set 13 = .ok (.getfield 10, 3) := by decide +kernel
theorem dX5_set_16 : decode cX5_set 16 = .ok (.iload_n 1, 1) := by decide +kernel
theorem dX5_set_17 : decode cX5_set 17 = .ok (.iload_n 2, 1) := by decide +kernel
theorem dX5_set_18 : decode cX5_set 18 = .ok (.iload_n 3, 1) := by decide +kernel
theorem dX5_set_19 : decode cX5_set 19 = .ok (.invokevirtual 47, 3) := by decide +kernel
theorem dX5_set_22 : decode cX5_set 22 = .ok (.invokevirtual 51, 3) := by decide +kernel
theorem dX5_set_25 : decode cX5_set 25 = .ok (.ireturn, 1) := by decide +kernel
set_option maxRecDepth 20000 in
theorem ggX5_turnOn_X2_copyFrom : GoodIn wsX5_turnOn wsX2_copyFrom := goodIn_r _ [7, 8, 9, 10, 11, 12, 13, 14, 15, 16, 17, 18, 19, 20, 21, 22, 23, 24, 25, 26, 27, 28, 75, 76, 77, 78, 79, 80, 81, 82, 83, 84, 85, 86] (by decide +kernel) (by decide +kernel)
set_option maxRecDepth 20000 in
theorem gX5_turnOn_X2_copyFrom : GoodIn wsX5_turnOn (wsV RX5 43 RX2 yX2_copyFrom wsX2_copyFrom) := goodIn_app (goodIn_of _ (by decide +kernel)) ggX5_turnOn_X2_copyFrom
set_option maxRecDepth 20000 in
theorem ggX5_turnOn_X2_connect : GoodIn wsX5_turnOn wsX2_connect := goodIn_r _ [32, 8, 33, 34, 35, 36, 37, 38, 39, 40, 41, 15, 42, 25, 22, 24, 26, 43, 23, 44, 45, 46, 47, 17, 75, 76, 77, 78, 79, 80, 81, 82, 83, 84, 85, 86] (by decide +kernel) (by decide +kernel)
set_option maxRecDepth 20000 in
theorem gX5_turnOn_X2_connect : GoodIn wsX5_turnOn (wsV RX5 55 RX2 yX2_connect wsX2_connect) := goodIn_app (goodIn_of _ (by decide +kernel)) ggX5_turnOn_X2_connect
set_option maxRecDepth 20000 in
theorem ggX5_turnOn_X5_recorded : GoodIn wsX5_turnOn wsX5_recorded := goodIn_r _ [51, 52, 1, 53, 54, 55, 56, 57, 58, 59, 60, 61, 62, 63, 64, 4, 5, 6, 7, 8, 9, 10, 11, 12, 13, 14, 15, 16, 17, 18, 19, 20, 21, 22, 23, 24, 25, 26, 27, 28, 65, 66, 67, 68, 69, 70, 71, 72, 73, 74, 87, 88, 75, 76, 77, 78, 79, 80, 81, 82, 83, 84, 85, 86] (by decide +kernel) (by decide +kernel)
set_option maxRecDepth 20000 in
theorem gX5_turnOn_X5_recorded : GoodIn wsX5_turnOn (wsV RX5 51 RX5 yX5_recorded wsX5_recorded) := goodIn_app (goodIn_of _ (by decide +kernel)) ggX5_turnOn_X5_recorded
theorem dX5_turnOn_0 : decode cX5_turnOn 0 = .ok (.aload_n 0, 1) := by decide +kernel
theorem dX5_turnOn_1 : decode cX5_turnOn 1 = .ok (.getfield 16, 3) := by decide +kernel
theorem dX5_turnOn_4 : decode cX5_turnOn 4 = .ok (.aload_n 0, 1) := by decide +kernel
theorem dX5_turnOn_5 : decode cX5_turnOn 5 = .ok (.getfield 10, 3) := by decide +kernel
theorem dX5_turnOn_8 : decode cX5_turnOn 8 = .ok (.invokevirtual 43, 3) := by decide +kernel
theorem dX5_turnOn_11 : decode cX5_turnOn 11 = .ok (.aload_n 0, 1) := by decide +kernel
theorem dX5_turnOn_12 : decode cX5_turnOn 12 = .ok (.aload_n 0, 1) := by decide +kernel
theorem dX5_turnOn_13 : decode cX5_turnOn 13 = .ok (.getfield 10, 3) := by decide +kernel
theorem dX5_turnOn_16 : decode cX5_turnOn 16 = .ok (.iload_n 1, 1) := by decide +kernel
theorem dX5_turnOn_17 : decode cX5_turnOn 17 = .ok (.iload_n 2, 1) := by decide +kernel
theorem dX5_turnOn_18 : decode cX5_turnOn 18 = .ok (.invokevirtual 55, 3) := by decide +kernel
theorem dX5_turnOn_21 : decode cX5_turnOn 21 = .ok (.invokevirtual 51, 3) := by decide +kernel
theorem dX5_turnOn_24 : decode cX5_turnOn 24 = .ok (.ireturn, 1) := by decide +kernel
set_option maxRecDepth 20000 in
theorem ggX5_turnOff_X2_copyFrom : GoodIn wsX5_turnOff wsX2_copyFrom := goodIn_r _ [7, 8, 9, 10, 11, 12, 13, 14, 15, 16, 17, 18, 19, 20, 21, 22, 23, 24, 25, 26, 27, 28, 65, 66, 67, 68, 69, 70, 71, 72, 73, 74, 75, 76] (by decide +kernel) (by decide +kernel)
set_option maxRecDepth 20000 in
theorem gX5_turnOff_X2_copyFrom : GoodIn wsX5_turnOff (wsV RX5 43 RX2 yX2_copyFrom wsX2_copyFrom) := goodIn_app (goodIn_of _ (by decide +kernel)) ggX5_turnOff_X2_copyFrom
set_option maxRecDepth 20000 in
theorem ggX5_turnOff_X2_disconnect : GoodIn wsX5_turnOff wsX2_disconnect := goodIn_r _ [32, 8, 33, 34, 35, 36, 37, 65, 66, 67, 68, 69, 70, 71, 72, 73, 74, 75, 76] (by decide +kernel) (by decide +kernel)
set_option maxRecDepth 20000 in
theorem gX5_turnOff_X2_disconnect : GoodIn wsX5_turnOff (wsV RX5 59 RX2 yX2_disconnect wsX2_disconnect) := goodIn_app (goodIn_of _ (by decide +kernel)) ggX5_turnOff_X2_disconnect
set_option maxRecDepth 20000 in
theorem ggX5_turnOff_X5_recorded : GoodIn wsX5_turnOff wsX5_recorded := goodIn_r _ [41, 42, 1, 43, 44, 45, 46, 47, 48, 49, 50, 51, 52, 53, 54, 4, 5, 6, 7, 8, 9, 10, 11, 12, 13, 14, 15, 16, 17, 18, 19, 20, 21, 22, 23, 24, 25, 26, 27, 28, 55, 56, 57, 58, 59, 60, 61, 62, 63, 64, 77, 78, 65, 66, 67, 68, 69, 70, 71, 72, 73, 74, 75, 76] (by decide +kernel) (by decide +kernel)
set_option maxRecDepth 20000 in
theorem gX5_turnOff_X5_recorded : GoodIn wsX5_turnOff (wsV RX5 51 RX5 yX5_recorded wsX5_recorded) := goodIn_app (goodIn_of _ (by decide +kernel)) ggX5_turnOff_X5_recorded
theorem dX5_turnOff_0 : decode cX5_turnOff 0 = .ok (.aload_n 0, 1) := by decide +kernel
theorem dX5_turnOff_1 : decode cX5_turnOff 1 = .ok (.getfield 16, 3) := by decide +kernel
theorem dX5_turnOff_4 : decode cX5_turnOff 4 = .ok (.aload_n 0, 1) := by decide +kernel
theorem dX5_turnOff_5 : decode cX5_turnOff 5 = .ok (.getfield 10, 3) := by decide +kernel
theorem dX5_turnOff_8 : decode cX5_turnOff 8 = .ok (.invokevirtual 43, 3) := by decide +kernel
theorem dX5_turnOff_11 : decode cX5_turnOff 11 = .ok (.aload_n 0, 1) := by decide +kernel
theorem dX5_turnOff_12 : decode cX5_turnOff 12 = .ok (.aload_n 0, 1) := by decide +kernel
theorem dX5_turnOff_13 : decode cX5_turnOff 13 = .ok (.getfield 10, 3) := by decide +kernel
theorem dX5_turnOff_16 : decode cX5_turnOff 16 = .ok (.iload_n 1, 1) := by decide +kernel
theorem dX5_turnOff_17 : decode cX5_turnOff 17 = .ok (.invokevirtual 59, 3) := by decide +kernel
theorem dX5_turnOff_20 : decode cX5_turnOff 20 = .ok (.invokevirtual 51, 3) := by decide +kernel
theorem dX5_turnOff_23 : decode cX5_turnOff 23 = .ok (.ireturn, 1) := by decide +kernel
set_option maxRecDepth 20000 in
theorem ggX5_put_X2_copyFrom : GoodIn wsX5_put wsX2_copyFrom := goodIn_r _ [7, 8, 9, 10, 11, 12, 13, 14, 15, 16, 17, 18, 19, 20, 21, 22, 23, 24, 25, 26, 27, 28, 75, 76, 77, 78, 79, 80, 81, 82, 83, 84, 85, 86] (by decide +kernel) (by decide +kernel)
set_option maxRecDepth 20000 in
theorem gX5_put_X2_copyFrom : GoodIn wsX5_put (wsV RX5 43 RX2 yX2_copyFrom wsX2_copyFrom) := goodIn_app (goodIn_of _ (by decide +kernel)) ggX5_put_X2_copyFrom
set_option maxRecDepth 20000 in
theorem ggX5_put_X2_putSlab : GoodIn wsX5_put wsX2_putSlab := goodIn_r _ [32, 8, 33, 34, 35, 36, 37, 38, 39, 40, 41, 15, 42, 25, 22, 24, 26, 43, 23, 44, 45, 46, 47, 17, 75, 76, 77, 78, 79, 80, 81, 82, 83, 84, 85, 86] (by decide +kernel) (by decide +kernel)
set_option maxRecDepth 20000 in
theorem gX5_put_X2_putSlab : GoodIn wsX5_put (wsV RX5 62 RX2 yX2_putSlab wsX2_putSlab) := goodIn_app (goodIn_of _ (by decide +kernel)) ggX5_put_X2_putSlab
set_option maxRecDepth 20000 in
theorem ggX5_put_X5_recorded : GoodIn wsX5_put wsX5_recorded := goodIn_r _ [51, 52, 1, 53, 54, 55, 56, 57, 58, 59, 60, 61, 62, 63, 64, 4, 5, 6, 7, 8, 9, 10, 11, 12, 13, 14, 15, 16, 17, 18, 19, 20, 21, 22, 23, 24, 25, 26, 27, 28, 65, 66, 67, 68, 69, 70, 71, 72, 73, 74, 87, 88, 75, 76, 77, 78, 79, 80, 81, 82, 83, 84, 85, 86] (by decide +kernel) (by decide +kernel)
set_option maxRecDepth 20000 in
theorem gX5_put_X5_recorded : GoodIn wsX5_put (wsV RX5 51 RX5 yX5_recorded wsX5_recorded) := goodIn_app (goodIn_of _ (by decide +kernel)) ggX5_put_X5_recorded
theorem dX5_put_0 : decode cX5_put 0 = .ok (.aload_n 0, 1) := by decide +kernel
theorem dX5_put_1 : decode cX5_put 1 = .ok (.getfield 16, 3) := by decide +kernel
theorem dX5_put_4 : decode cX5_put 4 = .ok (.aload_n 0, 1) := by decide +kernel
theorem dX5_put_5 : decode cX5_put 5 = .ok (.getfield 10, 3) := by decide +kernel
theorem dX5_put_8 : decode cX5_put 8 = .ok (.invokevirtual 43, 3) := by decide +kernel
theorem dX5_put_11 : decode cX5_put 11 = .ok (.aload_n 0, 1) := by decide +kernel
theorem dX5_put_12 : decode cX5_put 12 = .ok (.aload_n 0, 1) := by decide +kernel
theorem dX5_put_13 : decode cX5_put 13 = .ok (.getfield 10, 3) := by decide +kernel
theorem dX5_put_16 : decode cX5_put 16 = .ok (.iload_n 1, 1) := by decide +kernel
theorem dX5_put_17 : decode cX5_put 17 = .ok (.iload_n 2, 1) := by decide +kernel
theorem dX5_put_18 : decode cX5_put 18 = .ok (.invokevirtual 62, 3) := by decide +kernel
theorem dX5_put_21 : decode cX5_put 21 = .ok (.invokevirtual 51, 3) := by decide +kernel
theorem dX5_put_24 : decode cX5_put 24 = .ok (.ireturn, 1) := by decide +kernel
set_option maxRecDepth 20000 in
theorem ggX5_couple_X2_copyFrom : GoodIn wsX5_couple wsX2_copyFrom := goodIn_r _ [7, 8, 9, 10, 11, 12, 13, 14, 15, 16, 17, 18, 19, 20, 21, 22, 23, 24, 25, 26, 27, 28, 88, 89, 90, 91, 92, 93, 94, 95, 96, 97, 98, 99] (by decide +kernel) (by decide +kernel)
set_option maxRecDepth 20000 in
theorem gX5_couple_X2_copyFrom : GoodIn wsX5_couple (wsV RX5 43 RX2 yX2_copyFrom wsX2_copyFrom) := goodIn_app (goodIn_of _ (by decide +kernel)) ggX5_couple_X2_copyFrom
set_option maxRecDepth 20000 in
theorem ggX5_couple_X2_share : GoodIn wsX5_couple wsX2_share := goodIn_r _ [32, 8, 33, 34, 35, 36, 10, 37, 38, 39, 40, 41, 42, 15, 43, 17, 44, 45, 6, 46, 47, 48, 49, 50, 51, 52, 53, 54, 55, 25, 24, 23, 22, 56, 57, 58, 59, 60, 88, 89, 90, 91, 92, 93, 94, 95, 96, 97, 98, 99] (by decide +kernel) (by decide +kernel)
set_option maxRecDepth 20000 in
theorem gX5_couple_X2_share : GoodIn wsX5_couple (wsV RX5 65 RX2 yX2_share wsX2_share) := goodIn_app (goodIn_of _ (by decide +kernel)) ggX5_couple_X2_share
set_option maxRecDepth 20000 in
theorem ggX5_couple_X5_recorded : GoodIn wsX5_couple wsX5_recorded := goodIn_r _ [64, 65, 1, 66, 67, 68, 69, 70, 71, 72, 73, 74, 75, 76, 77, 4, 5, 6, 7, 8, 9, 10, 11, 12, 13, 14, 15, 16, 17, 18, 19, 20, 21, 22, 23, 24, 25, 26, 27, 28, 78, 79, 80, 81, 82, 83, 84, 85, 86, 87, 100, 101, 88, 89, 90, 91, 92, 93, 94, 95, 96, 97, 98, 99] (by decide +kernel) (by decide +kernel)
set_option maxRecDepth 20000 in
theorem gX5_couple_X5_recorded : GoodIn wsX5_couple (wsV RX5 51 RX5 yX5_recorded wsX5_recorded) := goodIn_app (goodIn_of _ (by decide +kernel)) ggX5_couple_X5_recorded
theorem dX5_couple_0 : decode cX5_couple 0 = .ok (.aload_n 0, 1) := by decide +kernel
theorem dX5_couple_1 : decode cX5_couple 1 = .ok (.getfield 16, 3) := by decide +kernel
theorem dX5_couple_4 : decode cX5_couple 4 = .ok (.aload_n 0, 1) := by decide +kernel
theorem dX5_couple_5 : decode cX5_couple 5 = .ok (.getfield 10, 3) := by decide +kernel
theorem dX5_couple_8 : decode cX5_couple 8 = .ok (.invokevirtual 43, 3) := by decide +kernel
theorem dX5_couple_11 : decode cX5_couple 11 = .ok (.aload_n 0, 1) := by decide +kernel
theorem dX5_couple_12 : decode cX5_couple 12 = .ok (.aload_n 0, 1) := by decide +kernel
theorem dX5_couple_13 : decode cX5_couple 13 = .ok (.getfield 10, 3) := by decide +kernel
theorem dX5_couple_16 : decode cX5_couple 16 = .ok (.iload_n 1, 1) := by decide +kernel
theorem dX5_couple_17 : decode cX5_couple 17 = .ok (.iload_n 2, 1) := by decide +kernel
theorem dX5_couple_18 : decode cX5_couple 18 = .ok (.invokevirtual 65, 3) := by decide +kernel
theorem dX5_couple_21 : decode cX5_couple 21 = .ok (.invokevirtual 51, 3) := by decide +kernel
theorem dX5_couple_24 : decode cX5_couple 24 = .ok (.ireturn, 1) := by decide +kernel
set_option maxRecDepth 20000 in
theorem ggX5_pass_X2_copyFrom : GoodIn wsX5_pass wsX2_copyFrom := goodIn_r _ [7, 8, 9, 10, 11, 12, 13, 14, 15, 16, 17, 18, 19, 20, 21, 22, 23, 24, 25, 26, 27, 28, 107, 108, 109, 110, 111, 112, 113, 114, 115, 116, 117, 118] (by decide +kernel) (by decide +kernel)
set_option maxRecDepth 20000 in
theorem gX5_pass_X2_copyFrom : GoodIn wsX5_pass (wsV RX5 43 RX2 yX2_copyFrom wsX2_copyFrom) := goodIn_app (goodIn_of _ (by decide +kernel)) ggX5_pass_X2_copyFrom
set_option maxRecDepth 20000 in
theorem ggX5_pass_X2_letPass : GoodIn wsX5_pass wsX2_letPass := goodIn_r _ [32, 9, 33, 8, 11, 34, 35, 36, 15, 37, 22, 38, 39, 40, 41, 25, 23, 17, 27, 42, 43, 44, 45, 24, 46, 47, 48, 49, 50, 51, 52, 53, 54, 55, 56, 57, 58, 59, 60, 61, 62, 63, 64, 65, 66, 67, 68, 69, 70, 71, 72, 73, 74, 75, 76, 77, 26, 78, 107, 108, 109, 110, 111, 112, 113, 114, 115, 116, 117, 118] (by decide +kernel) (by decide +kernel)
set_option maxRecDepth 20000 in
theorem gX5_pass_X2_letPass : GoodIn wsX5_pass (wsV RX5 68 RX2 yX2_letPass wsX2_letPass) := goodIn_app (goodIn_of _ (by decide +kernel)) ggX5_pass_X2_letPass
set_option maxRecDepth 20000 in
theorem ggX5_pass_X5_recorded : GoodIn wsX5_pass wsX5_recorded := goodIn_r _ [83, 84, 1, 85, 86, 87, 88, 89, 90, 91, 92, 93, 94, 95, 96, 4, 5, 6, 7, 8, 9, 10, 11, 12, 13, 14, 15, 16, 17, 18, 19, 20, 21, 22, 23, 24, 25, 26, 27, 28, 97, 98, 99, 100, 101, 102, 103, 104, 105, 106, 119, 120, 107, 108, 109, 110, 111, 112, 113, 114, 115, 116, 117, 118] (by decide +kernel) (by decide +kernel)
set_option maxRecDepth 20000 in
theorem gX5_pass_X5_recorded : GoodIn wsX5_pass (wsV RX5 51 RX5 yX5_recorded wsX5_recorded) := goodIn_app (goodIn_of _ (by decide +kernel)) ggX5_pass_X5_recorded
theorem dX5_pass_0 : decode cX5_pass 0 = .ok (.aload_n 0, 1) := by decide +kernel
theorem dX5_pass_1 : decode cX5_pass 1 = .ok (.getfield 16, 3) := by decide +kernel
theorem dX5_pass_4 : decode cX5_pass 4 = .ok (.aload_n 0, 1) := by decide +kernel
theorem dX5_pass_5 : decode cX5_pass 5 = .ok (.getfield 10, 3) := by decide +kernel
theorem dX5_pass_8 : decode cX5_pass 8 = .ok (.invokevirtual 43, 3) := by decide +kernel
theorem dX5_pass_11 : decode cX5_pass 11 = .ok (.aload_n 0, 1) := by decide +kernel
theorem dX5_pass_12 : decode cX5_pass 12 = .ok (.aload_n 0, 1) := by decide +kernel
theorem dX5_pass_13 : decode cX5_pass 13 = .ok (.getfield 10, 3) := by decide +kernel
theorem dX5_pass_16 : decode cX5_pass 16 = .ok (.iload_n 1, 1) := by decide +kernel
theorem dX5_pass_17 : decode cX5_pass 17 = .ok (.invokevirtual 68, 3) := by decide +kernel
theorem dX5_pass_20 : decode cX5_pass 20 = .ok (.invokevirtual 51, 3) := by decide +kernel
theorem dX5_pass_23 : decode cX5_pass 23 = .ok (.ireturn, 1) := by decide +kernel
set_option maxRecDepth 20000 in
theorem ggX5_recorded_X0_push : GoodIn wsX5_recorded wsX0_push := goodIn_r _ [7, 8, 9, 10, 11, 12, 6, 13, 14, 15, 16, 17, 18, 19, 20, 21, 22, 23, 24, 25, 26, 27, 28, 29, 30, 31, 32, 33, 34, 35, 36, 37, 38, 39, 50, 51, 52, 53, 54, 55, 56, 57, 58, 59, 60, 61, 62, 63] (by decide +kernel) (by decide +kernel)
set_option maxRecDepth 20000 in
theorem gX5_recorded_X0_push : GoodIn wsX5_recorded (wsV RX5 71 RX0 yX0_push wsX0_push) := goodIn_app (goodIn_of _ (by decide +kernel)) ggX5_recorded_X0_push
theorem dX5_recorded_0 : decode cX5_recorded 0 = .ok (.iload_n 1, 1) := by decide +kernel
theorem dX5_recorded_1 : decode cX5_recorded 1 = .ok (.ifCond .lt 14, 3) := by decide +kernel
theorem dX5_recorded_4 : decode cX5_recorded 4 = .ok (.aload_n 0, 1) := by decide +kernel
theorem dX5_recorded_5 : decode cX5_recorded 5 = .ok (.getfield 25, 3) := by decide +kernel
theorem dX5_recorded_8 : decode cX5_recorded 8 = .ok (.aload_n 0, 1) := by decide +kernel
theorem dX5_recorded_9 : decode cX5_recorded 9 = .ok (.getfield 16, 3) := by decide +kernel
theorem dX5_recorded_12 : decode cX5_recorded 12 = .ok (.invokevirtual 71, 3) := by decide +kernel
theorem dX5_recorded_15 : decode cX5_recorded 15 = .ok (.iload_n 1, 1) := by decide +kernel
theorem dX5_recorded_16 : decode cX5_recorded 16 = .ok (.ireturn, 1) := by decide +kernel
set_option maxRecDepth 20000 in
theorem ggX5_undo_X0_popInto : GoodIn wsX5_undo wsX0_popInto := goodIn_r _ [7, 8, 9, 10, 11, 12, 13, 14, 15, 16, 17, 18, 19, 20, 21, 22, 23, 24, 25, 26, 27, 28, 29, 30, 31, 32, 33, 34, 35, 46, 47, 48, 49, 50, 51, 52, 53, 54, 55, 56, 57, 58, 59] (by decide +kernel) (by decide +kernel)
set_option maxRecDepth 20000 in
theorem gX5_undo_X0_popInto : GoodIn wsX5_undo (wsV RX5 121 RX0 yX0_popInto wsX0_popInto) := goodIn_app (goodIn_of _ (by decide +kernel)) ggX5_undo_X0_popInto
theorem dX5_undo_0 : decode cX5_undo 0 = .ok (.aload_n 0, 1) := by decide +kernel
theorem dX5_undo_1 : decode cX5_undo 1 = .ok (.getfield 25, 3) := by decide +kernel
theorem dX5_undo_4 : decode cX5_undo 4 = .ok (.aload_n 0, 1) := by decide +kernel
theorem dX5_undo_5 : decode cX5_undo 5 = .ok (.getfield 10, 3) := by decide +kernel
theorem dX5_undo_8 : decode cX5_undo 8 = .ok (.invokevirtual 121, 3) := by decide +kernel
theorem dX5_undo_11 : decode cX5_undo 11 = .ok (.ireturn, 1) := by decide +kernel
set_option maxRecDepth 20000 in
theorem ggX5_restore_X2_copyFrom : GoodIn wsX5_restore wsX2_copyFrom := goodIn_r _ [10, 11, 12, 13, 14, 15, 16, 17, 18, 19, 20, 21, 22, 23, 24, 25, 26, 27, 28, 29, 30, 31, 60, 61, 62, 63, 64, 65, 66, 67, 68, 69, 70, 71] (by decide +kernel) (by decide +kernel)
set_option maxRecDepth 20000 in
theorem gX5_restore_X2_copyFrom : GoodIn wsX5_restore (wsV RX5 43 RX2 yX2_copyFrom wsX2_copyFrom) := goodIn_app (goodIn_of _ (by decide +kernel)) ggX5_restore_X2_copyFrom
set_option maxRecDepth 20000 in
theorem ggX5_restore_X5_recorded : GoodIn wsX5_restore wsX5_recorded := goodIn_r _ [36, 37, 2, 38, 39, 40, 41, 42, 43, 44, 45, 46, 47, 48, 49, 7, 8, 9, 10, 11, 12, 13, 14, 15, 16, 17, 18, 19, 20, 21, 22, 23, 24, 25, 26, 27, 28, 29, 30, 31, 50, 51, 52, 53, 54, 55, 56, 57, 58, 59, 72, 73, 60, 61, 62, 63, 64, 65, 66, 67, 68, 69, 70, 71] (by decide +kernel) (by decide +kernel)
set_option maxRecDepth 20000 in
theorem gX5_restore_X5_recorded : GoodIn wsX5_restore (wsV RX5 51 RX5 yX5_recorded wsX5_recorded) := goodIn_app (goodIn_of _ (by decide +kernel)) ggX5_restore_X5_recorded
theorem dX5_restore_0 : decode cX5_restore 0 = .ok (.aload_n 0, 1) := by decide +kernel
theorem dX5_restore_1 : decode cX5_restore 1 = .ok (.getfield 125, 3) := by decide +kernel
theorem dX5_restore_4 : decode cX5_restore 4 = .ok (.ifCond .ne 6, 3) := by decide +kernel
theorem dX5_restore_7 : decode cX5_restore 7 = .ok (.bipush (-5), 2) := by decide +kernel
theorem dX5_restore_9 : decode cX5_restore 9 = .ok (.ireturn, 1) := by decide +kernel
theorem dX5_restore_10 : decode cX5_restore 10 = .ok (.aload_n 0, 1) := by decide +kernel
theorem dX5_restore_11 : decode cX5_restore 11 = .ok (.getfield 16, 3) := by decide +kernel
theorem dX5_restore_14 : decode cX5_restore 14 = .ok (.aload_n 0, 1) := by decide +kernel
theorem dX5_restore_15 : decode cX5_restore 15 = .ok (.getfield 10, 3) := by decide +kernel
theorem dX5_restore_18 : decode cX5_restore 18 = .ok (.invokevirtual 43, 3) := by decide +kernel
theorem dX5_restore_21 : decode cX5_restore 21 = .ok (.aload_n 0, 1) := by decide +kernel
theorem dX5_restore_22 : decode cX5_restore 22 = .ok (.getfield 10, 3) := by decide +kernel
theorem dX5_restore_25 : decode cX5_restore 25 = .ok (.aload_n 0, 1) := by decide +kernel
theorem dX5_restore_26 : decode cX5_restore 26 = .ok (.getfield 19, 3) := by decide +kernel
theorem dX5_restore_29 : decode cX5_restore 29 = .ok (.invokevirtual 43, 3) := by decide +kernel
theorem dX5_restore_32 : decode cX5_restore 32 = .ok (.aload_n 0, 1) := by decide +kernel
theorem dX5_restore_33 : decode cX5_restore 33 = .ok (.aload_n 0, 1) := by decide +kernel
theorem dX5_restore_34 : decode cX5_restore 34 = .ok (.getfield 10, 3) := by decide +kernel
theorem dX5_restore_37 : decode cX5_restore 37 = .ok (.getfield 128, 3) := by decide +kernel
theorem dX5_restore_40 : decode cX5_restore 40 = .ok (.invokevirtual 51, 3) := by decide +kernel
theorem dX5_restore_43 : decode cX5_restore 43 = .ok (.ireturn, 1) := by decide +kernel
set_option maxRecDepth 20000 in
theorem ggX5_pair_X5_isPair : GoodIn wsX5_pair wsX5_isPair := goodIn_r _ [15] (by decide +kernel) (by decide +kernel)
set_option maxRecDepth 20000 in
theorem gX5_pair_X5_isPair : GoodIn wsX5_pair (va_wsS RX5 131 yX5_isPair wsX5_isPair) := goodIn_app (goodIn_of _ (by decide +kernel)) ggX5_pair_X5_isPair
set_option maxRecDepth 20000 in
theorem ggX5_pair_X1_isSetting : GoodIn wsX5_pair wsX1_isSetting := goodIn_r _ [19] (by decide +kernel) (by decide +kernel)
set_option maxRecDepth 20000 in
theorem gX5_pair_X1_isSetting : GoodIn wsX5_pair (va_wsS RX5 139 yX1_isSetting wsX1_isSetting) := goodIn_app (goodIn_of _ (by decide +kernel)) ggX5_pair_X1_isSetting
set_option maxRecDepth 20000 in
theorem ggX5_pair_X1_capacityAt : GoodIn wsX5_pair wsX1_capacityAt := goodIn_r _ [23, 24, 55, 56, 57, 58, 59, 60, 61, 62] (by decide +kernel) (by decide +kernel)
set_option maxRecDepth 20000 in
theorem gX5_pair_X1_capacityAt : GoodIn wsX5_pair (wsV RX5 149 RX1 yX1_capacityAt wsX1_capacityAt) := goodIn_app (goodIn_of _ (by decide +kernel)) ggX5_pair_X1_capacityAt
set_option maxRecDepth 20000 in
theorem ggX5_pair_X1_pullAt : GoodIn wsX5_pair wsX1_pullAt := goodIn_r _ [28, 29, 30, 24, 31, 32, 33, 34, 18, 35, 36, 21, 22, 23, 55, 56, 57, 58, 59, 60, 61, 62] (by decide +kernel) (by decide +kernel)
set_option maxRecDepth 20000 in
theorem gX5_pair_X1_pullAt : GoodIn wsX5_pair (wsV RX5 161 RX1 yX1_pullAt wsX1_pullAt) := goodIn_app (goodIn_of _ (by decide +kernel)) ggX5_pair_X1_pullAt
set_option maxRecDepth 20000 in
theorem ggX5_pair_X1_drawnBackAt : GoodIn wsX5_pair wsX1_drawnBackAt := goodIn_r _ [40, 24, 55, 56, 57, 58, 59, 60, 61, 62] (by decide +kernel) (by decide +kernel)
set_option maxRecDepth 20000 in
theorem gX5_pair_X1_drawnBackAt : GoodIn wsX5_pair (wsV RX5 164 RX1 yX1_drawnBackAt wsX1_drawnBackAt) := goodIn_app (goodIn_of _ (by decide +kernel)) ggX5_pair_X1_drawnBackAt
theorem dX5_pair_0 : decode cX5_pair 0 = .ok (.iload_n 1, 1) := by decide +kernel
theorem dX5_pair_1 : decode cX5_pair 1 = .ok (.invokestatic 131, 3) := by decide +kernel
theorem dX5_pair_4 : decode cX5_pair 4 = .ok (.ifCond .ne 5, 3) := by decide +kernel
theorem dX5_pair_7 : decode cX5_pair 7 = .ok (.iconst (-1), 1) := by decide +kernel
theorem dX5_pair_8 : decode cX5_pair 8 = .ok (.ireturn, 1) := by decide +kernel
theorem dX5_pair_9 : decode cX5_pair 9 = .ok (.aload_n 0, 1) := by decide +kernel
theorem dX5_pair_10 : decode cX5_pair 10 = .ok (.getfield 10, 3) := by decide +kernel
theorem dX5_pair_13 : decode cX5_pair 13 = .ok (.getfield 135, 3) := by decide +kernel
theorem dX5_pair_16 : decode cX5_pair 16 = .ok (.iload_n 1, 1) := by decide +kernel
theorem dX5_pair_17 : decode cX5_pair 17 = .ok (.aaload, 1) := by decide +kernel
theorem dX5_pair_18 : decode cX5_pair 18 = .ok (.astore_n 3, 1) := by decide +kernel
theorem dX5_pair_19 : decode cX5_pair 19 = .ok (.iload_n 2, 1) := by decide +kernel
theorem dX5_pair_20 : decode cX5_pair 20 = .ok (.invokestatic 139, 3) := by decide +kernel
theorem dX5_pair_23 : decode cX5_pair 23 = .ok (.ifCond .eq 10, 3) := by decide +kernel
theorem dX5_pair_26 : decode cX5_pair 26 = .ok (.aload_n 3, 1) := by decide +kernel
theorem dX5_pair_27 : decode cX5_pair 27 = .ok (.getfield 142, 3) := by decide +kernel
theorem dX5_pair_30 : decode cX5_pair 30 = .ok (.iload_n 2, 1) := by decide +kernel
theorem dX5_pair_31 : decode cX5_pair 31 = .ok (.iaload, 1) := by decide +kernel
theorem dX5_pair_32 : decode cX5_pair 32 = .ok (.ireturn, 1) := by decide +kernel
theorem dX5_pair_33 : decode cX5_pair 33 = .ok (.iload_n 2, 1) := by decide +kernel
theorem dX5_pair_34 : decode cX5_pair 34 = .ok (.tableswitch 100 6 12 #[42, 47, 56, 61, 66, 79, 88], 42) := by decide +kernel
theorem dX5_pair_76 : decode cX5_pair 76 = .ok (.aload_n 3, 1) := by decide +kernel
theorem dX5_pair_77 : decode cX5_pair 77 = .ok (.getfield 146, 3) := by decide +kernel
theorem dX5_pair_80 : decode cX5_pair 80 = .ok (.ireturn, 1) := by decide +kernel
theorem dX5_pair_81 : decode cX5_pair 81 = .ok (.aload_n 3, 1) := by decide +kernel
theorem dX5_pair_82 : decode cX5_pair 82 = .ok (.aload_n 3, 1) := by decide +kernel
theorem dX5_pair_83 : decode cX5_pair 83 = .ok (.getfield 146, 3) := by decide +kernel
theorem dX5_pair_86 : decode cX5_pair 86 = .ok (.invokevirtual 149, 3) := by decide +kernel
theorem dX5_pair_89 : decode cX5_pair 89 = .ok (.ireturn, 1) := by decide +kernel
theorem dX5_pair_90 : decode cX5_pair 90 = .ok (.aload_n 3, 1) := by decide +kernel
theorem dX5_pair_91 : decode cX5_pair 91 = .ok (.getfield 152, 3) := by decide +kernel
theorem dX5_pair_94 : decode cX5_pair 94 = .ok (.ireturn, 1) := by decide +kernel
theorem dX5_pair_95 : decode cX5_pair 95 = .ok (.aload_n 3, 1) := by decide +kernel
theorem dX5_pair_96 : decode cX5_pair 96 = .ok (.getfield 155, 3) := by decide +kernel
theorem dX5_pair_99 : decode cX5_pair 99 = .ok (.ireturn, 1) := by decide +kernel
theorem dX5_pair_100 : decode cX5_pair 100 = .ok (.aload_n 3, 1) := by decide +kernel
theorem dX5_pair_101 : decode cX5_pair 101 = .ok (.getfield 158, 3) := by decide +kernel
theorem dX5_pair_104 : decode cX5_pair 104 = .ok (.ifCond .eq 7, 3) := by decide +kernel
theorem dX5_pair_107 : decode cX5_pair 107 = .ok (.iconst 1, 1) := by decide +kernel
theorem dX5_pair_108 : decode cX5_pair 108 = .ok (.goto 4, 3) := by decide +kernel
theorem dX5_pair_111 : decode cX5_pair 111 = .ok (.iconst 0, 1) := by decide +kernel
theorem dX5_pair_112 : decode cX5_pair 112 = .ok (.ireturn, 1) := by decide +kernel
theorem dX5_pair_113 : decode cX5_pair 113 = .ok (.aload_n 3, 1) := by decide +kernel
theorem dX5_pair_114 : decode cX5_pair 114 = .ok (.aload_n 3, 1) := by decide +kernel
theorem dX5_pair_115 : decode cX5_pair 115 = .ok (.getfield 146, 3) := by decide +kernel
theorem dX5_pair_118 : decode cX5_pair 118 = .ok (.invokevirtual 161, 3) := by decide +kernel
theorem dX5_pair_121 : decode cX5_pair 121 = .ok (.ireturn, 1) := by decide +kernel
theorem dX5_pair_122 : decode cX5_pair 122 = .ok (.aload_n 3, 1) := by decide +kernel
theorem dX5_pair_123 : decode cX5_pair 123 = .ok (.aload_n 3, 1) := by decide +kernel
theorem dX5_pair_124 : decode cX5_pair 124 = .ok (.getfield 146, 3) := by decide +kernel
theorem dX5_pair_127 : decode cX5_pair 127 = .ok (.invokevirtual 164, 3) := by decide +kernel
theorem dX5_pair_130 : decode cX5_pair 130 = .ok (.invokestatic 167, 3) := by decide +kernel
theorem dX5_pair_133 : decode cX5_pair 133 = .ok (.ireturn, 1) := by decide +kernel
theorem dX5_pair_134 : decode cX5_pair 134 = .ok (.bipush (-2), 2) := by decide +kernel
theorem dX5_pair_136 : decode cX5_pair 136 = .ok (.ireturn, 1) := by decide +kernel
set_option maxRecDepth 20000 in
theorem ggX5_book_X5_isPair : GoodIn wsX5_book wsX5_isPair := goodIn_r _ [11] (by decide +kernel) (by decide +kernel)
set_option maxRecDepth 20000 in
theorem gX5_book_X5_isPair : GoodIn wsX5_book (va_wsS RX5 131 yX5_isPair wsX5_isPair) := goodIn_app (goodIn_of _ (by decide +kernel)) ggX5_book_X5_isPair
set_option maxRecDepth 20000 in
theorem ggX5_book_X1_stored : GoodIn wsX5_book wsX1_stored := goodIn_r _ [16, 17, 18, 19, 20, 21, 22, 23, 15, 24, 25, 40, 41, 42, 43, 44, 45, 46, 47] (by decide +kernel) (by decide +kernel)
set_option maxRecDepth 20000 in
theorem gX5_book_X1_stored : GoodIn wsX5_book (wsV RX5 174 RX1 yX1_stored wsX1_stored) := goodIn_app (goodIn_of _ (by decide +kernel)) ggX5_book_X1_stored
theorem dX5_book_0 : decode cX5_book 0 = .ok (.iload_n 1, 1) := by decide +kernel
theorem dX5_book_1 : decode cX5_book 1 = .ok (.invokestatic 131, 3) := by decide +kernel
theorem dX5_book_4 : decode cX5_book 4 = .ok (.ifCond .ne 7, 3) := by decide +kernel
theorem dX5_book_7 : decode cX5_book 7 = .ok (.ldc2_w 172, 3) := by decide +kernel
theorem dX5_book_10 : decode cX5_book 10 = .ok (.lreturn, 1) := by decide +kernel
theorem dX5_book_11 : decode cX5_book 11 = .ok (.aload_n 0, 1) := by decide +kernel
theorem dX5_book_12 : decode cX5_book 12 = .ok (.getfield 10, 3) := by decide +kernel
theorem dX5_book_15 : decode cX5_book 15 = .ok (.getfield 135, 3) := by decide +kernel
theorem dX5_book_18 : decode cX5_book 18 = .ok (.iload_n 1, 1) := by decide +kernel
theorem dX5_book_19 : decode cX5_book 19 = .ok (.aaload, 1) := by decide +kernel
theorem dX5_book_20 : decode cX5_book 20 = .ok (.astore_n 3, 1) := by decide +kernel
theorem dX5_book_21 : decode cX5_book 21 = .ok (.iload_n 2, 1) := by decide +kernel
theorem dX5_book_22 : decode cX5_book 22 = .ok (.tableswitch 74 0 4 #[34, 39, 44, 49, 54], 34) := by decide +kernel
theorem dX5_book_56 : decode cX5_book 56 = .ok (.aload_n 3, 1) := by decide +kernel
theorem dX5_book_57 : decode cX5_book 57 = .ok (.invokevirtual 174, 3) := by decide +kernel
theorem dX5_book_60 : decode cX5_book 60 = .ok (.lreturn, 1) := by decide +kernel
theorem dX5_book_61 : decode cX5_book 61 = .ok (.aload_n 3, 1) := by decide +kernel
theorem dX5_book_62 : decode cX5_book 62 = .ok (.getfield 178, 3) := by decide +kernel
theorem dX5_book_65 : decode cX5_book 65 = .ok (.lreturn, 1) := by decide +kernel
theorem dX5_book_66 : decode cX5_book 66 = .ok (.aload_n 3, 1) := by decide +kernel
theorem dX5_book_67 : decode cX5_book 67 = .ok (.getfield 182, 3) := by decide +kernel
theorem dX5_book_70 : decode cX5_book 70 = .ok (.lreturn, 1) := by decide +kernel
theorem dX5_book_71 : decode cX5_book 71 = .ok (.aload_n 3, 1) := by decide +kernel
theorem dX5_book_72 : decode cX5_book 72 = .ok (.getfield 185, 3) := by decide +kernel
theorem dX5_book_75 : decode cX5_book 75 = .ok (.lreturn, 1) := by decide +kernel
theorem dX5_book_76 : decode cX5_book 76 = .ok (.aload_n 3, 1) := by decide +kernel
theorem dX5_book_77 : decode cX5_book 77 = .ok (.getfield 178, 3) := by decide +kernel
theorem dX5_book_80 : decode cX5_book 80 = .ok (.aload_n 3, 1) := by decide +kernel
theorem dX5_book_81 : decode cX5_book 81 = .ok (.invokevirtual 174, 3) := by decide +kernel
theorem dX5_book_84 : decode cX5_book 84 = .ok (.lsub, 1) := by decide +kernel
theorem dX5_book_85 : decode cX5_book 85 = .ok (.aload_n 3, 1) := by decide +kernel
theorem dX5_book_86 : decode cX5_book 86 = .ok (.getfield 182, 3) := by decide +kernel
theorem dX5_book_89 : decode cX5_book 89 = .ok (.lsub, 1) := by decide +kernel
theorem dX5_book_90 : decode cX5_book 90 = .ok (.aload_n 3, 1) := by decide +kernel
theorem dX5_book_91 : decode cX5_book 91 = .ok (.getfield 185, 3) := by decide +kernel
theorem dX5_book_94 : decode cX5_book 94 = .ok (.lsub, 1) := by decide +kernel
theorem dX5_book_95 : decode cX5_book 95 = .ok (.lreturn, 1) := by decide +kernel
theorem dX5_book_96 : decode cX5_book 96 = .ok (.ldc2_w 188, 3) := by decide +kernel
theorem dX5_book_99 : decode cX5_book 99 = .ok (.lreturn, 1) := by decide +kernel
set_option maxRecDepth 20000 in
theorem ggX5_reason_X5_isPair : GoodIn wsX5_reason wsX5_isPair := goodIn_r _ [6] (by decide +kernel) (by decide +kernel)
set_option maxRecDepth 20000 in
theorem gX5_reason_X5_isPair : GoodIn wsX5_reason (va_wsS RX5 131 yX5_isPair wsX5_isPair) := goodIn_app (goodIn_of _ (by decide +kernel)) ggX5_reason_X5_isPair
set_option maxRecDepth 20000 in
theorem ggX5_reason_X1_reasonNow : GoodIn wsX5_reason wsX1_reasonNow := goodIn_r _ [11, 12, 13, 14, 15, 16, 17, 18, 19, 20, 10, 21, 22, 23, 24, 25, 26, 27, 28, 29, 30, 31, 32, 33, 34, 35, 36, 37, 38, 39, 40, 41, 42, 43, 44, 59, 60, 61, 62, 63, 64, 65, 66] (by decide +kernel) (by decide +kernel)
set_option maxRecDepth 20000 in
theorem gX5_reason_X1_reasonNow : GoodIn wsX5_reason (wsV RX5 190 RX1 yX1_reasonNow wsX1_reasonNow) := goodIn_app (goodIn_of _ (by decide +kernel)) ggX5_reason_X1_reasonNow
theorem dX5_reason_0 : decode cX5_reason 0 = .ok (.iload_n 1, 1) := by decide +kernel
theorem dX5_reason_1 : decode cX5_reason 1 = .ok (.invokestatic 131, 3) := by decide +kernel
theorem dX5_reason_4 : decode cX5_reason 4 = .ok (.ifCond .eq 18, 3) := by decide +kernel
theorem dX5_reason_7 : decode cX5_reason 7 = .ok (.aload_n 0, 1) := by decide +kernel
theorem dX5_reason_8 : decode cX5_reason 8 = .ok (.getfield 10, 3) := by decide +kernel
theorem dX5_reason_11 : decode cX5_reason 11 = .ok (.getfield 135, 3) := by decide +kernel
theorem dX5_reason_14 : decode cX5_reason 14 = .ok (.iload_n 1, 1) := by decide +kernel
theorem dX5_reason_15 : decode cX5_reason 15 = .ok (.aaload, 1) := by decide +kernel
theorem dX5_reason_16 : decode cX5_reason 16 = .ok (.invokevirtual 190, 3) := by decide +kernel
theorem dX5_reason_19 : decode cX5_reason 19 = .ok (.goto 4, 3) := by decide +kernel
theorem dX5_reason_22 : decode cX5_reason 22 = .ok (.iconst (-1), 1) := by decide +kernel
theorem dX5_reason_23 : decode cX5_reason 23 = .ok (.ireturn, 1) := by decide +kernel
set_option maxRecDepth 20000 in
theorem ggX5_force_X5_isPair : GoodIn wsX5_force wsX5_isPair := goodIn_r _ [10] (by decide +kernel) (by decide +kernel)
set_option maxRecDepth 20000 in
theorem gX5_force_X5_isPair : GoodIn wsX5_force (va_wsS RX5 131 yX5_isPair wsX5_isPair) := goodIn_app (goodIn_of _ (by decide +kernel)) ggX5_force_X5_isPair
set_option maxRecDepth 20000 in
theorem ggX5_force_X5_isDepth : GoodIn wsX5_force wsX5_isDepth := goodIn_r _ [13] (by decide +kernel) (by decide +kernel)
set_option maxRecDepth 20000 in
theorem gX5_force_X5_isDepth : GoodIn wsX5_force (va_wsS RX5 193 yX5_isDepth wsX5_isDepth) := goodIn_app (goodIn_of _ (by decide +kernel)) ggX5_force_X5_isDepth
set_option maxRecDepth 20000 in
theorem ggX5_force_X1_netAt : GoodIn wsX5_force wsX1_netAt := goodIn_r _ [18, 19, 20, 21, 17, 22, 23, 24, 25, 26, 27, 28, 29, 30, 31, 32, 33, 34, 35, 36, 37, 38, 53, 54, 55, 56, 57, 58, 59, 60] (by decide +kernel) (by decide +kernel)
set_option maxRecDepth 20000 in
theorem gX5_force_X1_netAt : GoodIn wsX5_force (wsV RX5 196 RX1 yX1_netAt wsX1_netAt) := goodIn_app (goodIn_of _ (by decide +kernel)) ggX5_force_X1_netAt
theorem dX5_force_0 : decode cX5_force 0 = .ok (.iload_n 1, 1) := by decide +kernel
theorem dX5_force_1 : decode cX5_force 1 = .ok (.invokestatic 131, 3) := by decide +kernel
theorem dX5_force_4 : decode cX5_force 4 = .ok (.ifCond .ne 5, 3) := by decide +kernel
theorem dX5_force_7 : decode cX5_force 7 = .ok (.iconst (-1), 1) := by decide +kernel
theorem dX5_force_8 : decode cX5_force 8 = .ok (.ireturn, 1) := by decide +kernel
theorem dX5_force_9 : decode cX5_force 9 = .ok (.iload_n 2, 1) := by decide +kernel
theorem dX5_force_10 : decode cX5_force 10 = .ok (.invokestatic 193, 3) := by decide +kernel
theorem dX5_force_13 : decode cX5_force 13 = .ok (.ifCond .ne 6, 3) := by decide +kernel
theorem dX5_force_16 : decode cX5_force 16 = .ok (.bipush (-2), 2) := by decide +kernel
theorem dX5_force_18 : decode cX5_force 18 = .ok (.ireturn, 1) := by decide +kernel
theorem dX5_force_19 : decode cX5_force 19 = .ok (.aload_n 0, 1) := by decide +kernel
theorem dX5_force_20 : decode cX5_force 20 = .ok (.getfield 10, 3) := by decide +kernel
theorem dX5_force_23 : decode cX5_force 23 = .ok (.getfield 135, 3) := by decide +kernel
theorem dX5_force_26 : decode cX5_force 26 = .ok (.iload_n 1, 1) := by decide +kernel
theorem dX5_force_27 : decode cX5_force 27 = .ok (.aaload, 1) := by decide +kernel
theorem dX5_force_28 : decode cX5_force 28 = .ok (.iload_n 2, 1) := by decide +kernel
theorem dX5_force_29 : decode cX5_force 29 = .ok (.invokevirtual 196, 3) := by decide +kernel
theorem dX5_force_32 : decode cX5_force 32 = .ok (.invokestatic 167, 3) := by decide +kernel
theorem dX5_force_35 : decode cX5_force 35 = .ok (.ireturn, 1) := by decide +kernel
set_option maxRecDepth 20000 in
theorem ggX5_restsIn_X5_isPair : GoodIn wsX5_restsIn wsX5_isPair := goodIn_r _ [7] (by decide +kernel) (by decide +kernel)
set_option maxRecDepth 20000 in
theorem gX5_restsIn_X5_isPair : GoodIn wsX5_restsIn (va_wsS RX5 131 yX5_isPair wsX5_isPair) := goodIn_app (goodIn_of _ (by decide +kernel)) ggX5_restsIn_X5_isPair
set_option maxRecDepth 20000 in
theorem ggX5_restsIn_X1_copyFrom : GoodIn wsX5_restsIn wsX1_copyFrom := goodIn_r _ [12, 13, 14, 15, 16, 17, 18, 19, 20, 21, 22, 23, 24, 84, 85, 86, 87, 88, 89, 90, 91] (by decide +kernel) (by decide +kernel)
set_option maxRecDepth 20000 in
theorem gX5_restsIn_X1_copyFrom : GoodIn wsX5_restsIn (wsV RX5 199 RX1 yX1_copyFrom wsX1_copyFrom) := goodIn_app (goodIn_of _ (by decide +kernel)) ggX5_restsIn_X1_copyFrom
set_option maxRecDepth 20000 in
theorem ggX5_restsIn_X1_movesInTick : GoodIn wsX5_restsIn wsX1_movesInTick := goodIn_r _ [28, 18, 29, 30, 31, 11, 32, 21, 19, 13, 23, 33, 34, 35, 36, 20, 37, 38, 39, 40, 41, 42, 43, 44, 45, 46, 47, 48, 49, 50, 51, 52, 53, 54, 55, 56, 57, 58, 59, 60, 61, 62, 63, 64, 65, 66, 67, 68, 22, 69, 84, 85, 86, 87, 88, 89, 90, 91] (by decide +kernel) (by decide +kernel)
set_option maxRecDepth 20000 in
theorem gX5_restsIn_X1_movesInTick : GoodIn wsX5_restsIn (wsV RX5 202 RX1 yX1_movesInTick wsX1_movesInTick) := goodIn_app (goodIn_of _ (by decide +kernel)) ggX5_restsIn_X1_movesInTick
theorem dX5_restsIn_0 : decode cX5_restsIn 0 = .ok (.iload_n 1, 1) := by decide +kernel
theorem dX5_restsIn_1 : decode cX5_restsIn 1 = .ok (.invokestatic 131, 3) := by decide +kernel
theorem dX5_restsIn_4 : decode cX5_restsIn 4 = .ok (.ifCond .ne 5, 3) := by decide +kernel
theorem dX5_restsIn_7 : decode cX5_restsIn 7 = .ok (.iconst (-1), 1) := by decide +kernel
theorem dX5_restsIn_8 : decode cX5_restsIn 8 = .ok (.ireturn, 1) := by decide +kernel
theorem dX5_restsIn_9 : decode cX5_restsIn 9 = .ok (.aload_n 0, 1) := by decide +kernel
theorem dX5_restsIn_10 : decode cX5_restsIn 10 = .ok (.getfield 32, 3) := by decide +kernel
theorem dX5_restsIn_13 : decode cX5_restsIn 13 = .ok (.aload_n 0, 1) := by decide +kernel
theorem dX5_restsIn_14 : decode cX5_restsIn 14 = .ok (.getfield 10, 3) := by decide +kernel
theorem dX5_restsIn_17 : decode cX5_restsIn 17 = .ok (.getfield 135, 3) := by decide +kernel
theorem dX5_restsIn_20 : decode cX5_restsIn 20 = .ok (.iload_n 1, 1) := by decide +kernel
theorem dX5_restsIn_21 : decode cX5_restsIn 21 = .ok (.aaload, 1) := by decide +kernel
theorem dX5_restsIn_22 : decode cX5_restsIn 22 = .ok (.invokevirtual 199, 3) := by decide +kernel
theorem dX5_restsIn_25 : decode cX5_restsIn 25 = .ok (.iconst 0, 1) := by decide +kernel
theorem dX5_restsIn_26 : decode cX5_restsIn 26 = .ok (.istore_n 2, 1) := by decide +kernel
theorem dX5_restsIn_27 : decode cX5_restsIn 27 = .ok (.iload_n 2, 1) := by decide +kernel
theorem dX5_restsIn_28 : decode cX5_restsIn 28 = .ok (.sipush 400, 3) := by decide +kernel
theorem dX5_restsIn_31 : decode cX5_restsIn 31 = .ok (.if_icmp .gt 21, 3) := by decide +kernel
theorem dX5_restsIn_34 : decode cX5_restsIn 34 = .ok (.aload_n 0, 1) := by decide +kernel
theorem dX5_restsIn_35 : decode cX5_restsIn 35 = .ok (.getfield 32, 3) := by decide +kernel
theorem dX5_restsIn_38 : decode cX5_restsIn 38 = .ok (.invokevirtual 202, 3) := by decide +kernel
theorem dX5_restsIn_41 : decode cX5_restsIn 41 = .ok (.ifCond .ne 5, 3) := by decide +kernel
theorem dX5_restsIn_44 : decode cX5_restsIn 44 = .ok (.iload_n 2, 1) := by decide +kernel
theorem dX5_restsIn_45 : decode cX5_restsIn 45 = .ok (.ireturn, 1) := by decide +kernel
theorem dX5_restsIn_46 : decode cX5_restsIn 46 = .ok (.iinc 2 1, 3) := by decide +kernel
theorem dX5_restsIn_49 : decode cX5_restsIn 49 = .ok (.goto (-22), 3) := by decide +kernel
theorem dX5_restsIn_52 : decode cX5_restsIn 52 = .ok (.bipush (-5), 2) := by decide +kernel
theorem dX5_restsIn_54 : decode cX5_restsIn 54 = .ok (.ireturn, 1) := by decide +kernel
set_option maxRecDepth 20000 in
theorem ggX5_depthIn_X5_isPair : GoodIn wsX5_depthIn wsX5_isPair := goodIn_r _ [8] (by decide +kernel) (by decide +kernel)
set_option maxRecDepth 20000 in
theorem gX5_depthIn_X5_isPair : GoodIn wsX5_depthIn (va_wsS RX5 131 yX5_isPair wsX5_isPair) := goodIn_app (goodIn_of _ (by decide +kernel)) ggX5_depthIn_X5_isPair
set_option maxRecDepth 20000 in
theorem ggX5_depthIn_X1_copyFrom : GoodIn wsX5_depthIn wsX1_copyFrom := goodIn_r _ [13, 14, 15, 16, 17, 18, 19, 20, 21, 22, 23, 24, 25, 85, 86, 87, 88, 89, 90, 91, 92] (by decide +kernel) (by decide +kernel)
set_option maxRecDepth 20000 in
theorem gX5_depthIn_X1_copyFrom : GoodIn wsX5_depthIn (wsV RX5 199 RX1 yX1_copyFrom wsX1_copyFrom) := goodIn_app (goodIn_of _ (by decide +kernel)) ggX5_depthIn_X1_copyFrom
set_option maxRecDepth 20000 in
theorem ggX5_depthIn_X1_movesInTick : GoodIn wsX5_depthIn wsX1_movesInTick := goodIn_r _ [29, 19, 30, 31, 32, 12, 33, 22, 20, 14, 24, 34, 35, 36, 37, 21, 38, 39, 40, 41, 42, 43, 44, 45, 46, 47, 48, 49, 50, 51, 52, 53, 54, 55, 56, 57, 58, 59, 60, 61, 62, 63, 64, 65, 66, 67, 68, 69, 23, 70, 85, 86, 87, 88, 89, 90, 91, 92] (by decide +kernel) (by decide +kernel)
set_option maxRecDepth 20000 in
theorem gX5_depthIn_X1_movesInTick : GoodIn wsX5_depthIn (wsV RX5 202 RX1 yX1_movesInTick wsX1_movesInTick) := goodIn_app (goodIn_of _ (by decide +kernel)) ggX5_depthIn_X1_movesInTick
theorem dX5_depthIn_0 : decode cX5_depthIn 0 = .ok (.iload_n 1, 1) := by decide +kernel
theorem dX5_depthIn_1 : decode cX5_depthIn 1 = .ok (.invokestatic 131, 3) := by decide +kernel
theorem dX5_depthIn_4 : decode cX5_depthIn 4 = .ok (.ifCond .ne 5, 3) := by decide +kernel
theorem dX5_depthIn_7 : decode cX5_depthIn 7 = .ok (.iconst (-1), 1) := by decide +kernel
theorem dX5_depthIn_8 : decode cX5_depthIn 8 = .ok (.ireturn, 1) := by decide +kernel
theorem dX5_depthIn_9 : decode cX5_depthIn 9 = .ok (.iload_n 2, 1) := by decide +kernel
theorem dX5_depthIn_10 : decode cX5_depthIn 10 = .ok (.iconst 1, 1) := by decide +kernel
theorem dX5_depthIn_11 : decode cX5_depthIn 11 = .ok (.if_icmp .lt 10, 3) := by decide +kernel
theorem dX5_depthIn_14 : decode cX5_depthIn 14 = .ok (.iload_n 2, 1) := by decide +kernel
theorem dX5_depthIn_15 : decode cX5_depthIn 15 = .ok (.sipush 400, 3) := by decide +kernel
theorem dX5_depthIn_18 : decode cX5_depthIn 18 = .ok (.if_icmp .le 6, 3) := by decide +kernel
theorem dX5_depthIn_21 : decode cX5_depthIn 21 = .ok (.bipush (-2), 2) := by decide +kernel
theorem dX5_depthIn_23 : decode cX5_depthIn 23 = .ok (.ireturn, 1) := by decide +kernel
theorem dX5_depthIn_24 : decode cX5_depthIn 24 = .ok (.aload_n 0, 1) := by decide +kernel
theorem dX5_depthIn_25 : decode cX5_depthIn 25 = .ok (.getfield 32, 3) := by decide +kernel
theorem dX5_depthIn_28 : decode cX5_depthIn 28 = .ok (.aload_n 0, 1) := by decide +kernel
theorem dX5_depthIn_29 : decode cX5_depthIn 29 = .ok (.getfield 10, 3) := by decide +kernel
theorem dX5_depthIn_32 : decode cX5_depthIn 32 = .ok (.getfield 135, 3) := by decide +kernel
theorem dX5_depthIn_35 : decode cX5_depthIn 35 = .ok (.iload_n 1, 1) := by decide +kernel
theorem dX5_depthIn_36 : decode cX5_depthIn 36 = .ok (.aaload, 1) := by decide +kernel
theorem dX5_depthIn_37 : decode cX5_depthIn 37 = .ok (.invokevirtual 199, 3) := by decide +kernel
theorem dX5_depthIn_40 : decode cX5_depthIn 40 = .ok (.iconst 0, 1) := by decide +kernel
theorem dX5_depthIn_41 : decode cX5_depthIn 41 = .ok (.istore_n 3, 1) := by decide +kernel
theorem dX5_depthIn_42 : decode cX5_depthIn 42 = .ok (.iload_n 3, 1) := by decide +kernel
theorem dX5_depthIn_43 : decode cX5_depthIn 43 = .ok (.iload_n 2, 1) := by decide +kernel
theorem dX5_depthIn_44 : decode cX5_depthIn 44 = .ok (.if_icmp .ge 17, 3) := by decide +kernel
theorem dX5_depthIn_47 : decode cX5_depthIn 47 = .ok (.aload_n 0, 1) := by decide +kernel
theorem dX5_depthIn_48 : decode cX5_depthIn 48 = .ok (.getfield 32, 3) := by decide +kernel
theorem dX5_depthIn_51 : decode cX5_depthIn 51 = .ok (.invokevirtual 202, 3) := by decide +kernel
theorem dX5_depthIn_54 : decode cX5_depthIn 54 = .ok (.pop, 1) := by decide +kernel
theorem dX5_depthIn_55 : decode cX5_depthIn 55 = .ok (.iinc 3 1, 3) := by decide +kernel
theorem dX5_depthIn_58 : decode cX5_depthIn 58 = .ok (.goto (-16), 3) := by decide +kernel
theorem dX5_depthIn_61 : decode cX5_depthIn 61 = .ok (.aload_n 0, 1) := by decide +kernel
theorem dX5_depthIn_62 : decode cX5_depthIn 62 = .ok (.getfield 32, 3) := by decide +kernel
theorem dX5_depthIn_65 : decode cX5_depthIn 65 = .ok (.getfield 146, 3) := by decide +kernel
theorem dX5_depthIn_68 : decode cX5_depthIn 68 = .ok (.ireturn, 1) := by decide +kernel
set_option maxRecDepth 20000 in
theorem ggX5_leastVoltage_X5_isPair : GoodIn wsX5_leastVoltage wsX5_isPair := goodIn_r _ [7] (by decide +kernel) (by decide +kernel)
set_option maxRecDepth 20000 in
theorem gX5_leastVoltage_X5_isPair : GoodIn wsX5_leastVoltage (va_wsS RX5 131 yX5_isPair wsX5_isPair) := goodIn_app (goodIn_of _ (by decide +kernel)) ggX5_leastVoltage_X5_isPair
set_option maxRecDepth 20000 in
theorem ggX5_leastVoltage_X1_isDrawnInAt : GoodIn wsX5_leastVoltage wsX1_isDrawnInAt := goodIn_r _ [12, 13, 14, 15, 16, 11, 17, 18, 19, 20, 21, 36, 37, 38, 39, 40, 41, 42, 43] (by decide +kernel) (by decide +kernel)
set_option maxRecDepth 20000 in
theorem gX5_leastVoltage_X1_isDrawnInAt : GoodIn wsX5_leastVoltage (wsV RX5 206 RX1 yX1_isDrawnInAt wsX1_isDrawnInAt) := goodIn_app (goodIn_of _ (by decide +kernel)) ggX5_leastVoltage_X1_isDrawnInAt
theorem dX5_leastVoltage_0 : decode cX5_leastVoltage 0 = .ok (.iload_n 1, 1) := by decide +kernel
theorem dX5_leastVoltage_1 : decode cX5_leastVoltage 1 = .ok (.invokestatic 131, 3) := by decide +kernel
theorem dX5_leastVoltage_4 : decode cX5_leastVoltage 4 = .ok (.ifCond .ne 5, 3) := by decide +kernel
theorem dX5_leastVoltage_7 : decode cX5_leastVoltage 7 = .ok (.iconst (-1), 1) := by decide +kernel
theorem dX5_leastVoltage_8 : decode cX5_leastVoltage 8 = .ok (.ireturn, 1) := by decide +kernel
theorem dX5_leastVoltage_9 : decode cX5_leastVoltage 9 = .ok (.aload_n 0, 1) := by decide +kernel
theorem dX5_leastVoltage_10 : decode cX5_leastVoltage 10 = .ok (.getfield 10, 3) := by decide +kernel
theorem dX5_leastVoltage_13 : decode cX5_leastVoltage 13 = .ok (.getfield 135, 3) := by decide +kernel
theorem dX5_leastVoltage_16 : decode cX5_leastVoltage 16 = .ok (.iload_n 1, 1) := by decide +kernel
theorem dX5_leastVoltage_17 : decode cX5_leastVoltage 17 = .ok (.aaload, 1) := by decide +kernel
theorem dX5_leastVoltage_18 : decode cX5_leastVoltage 18 = .ok (.astore_n 2, 1) := by decide +kernel
theorem dX5_leastVoltage_19 : decode cX5_leastVoltage 19 = .ok (.iconst 0, 1) := by decide +kernel
theorem dX5_leastVoltage_20 : decode cX5_leastVoltage 20 = .ok (.istore_n 3, 1) := by decide +kernel
theorem dX5_leastVoltage_21 : decode cX5_leastVoltage 21 = .ok (.iload_n 3, 1) := by decide +kernel
theorem dX5_leastVoltage_22 : decode cX5_leastVoltage 22 = .ok (.bipush 30, 2) := by decide +kernel
theorem dX5_leastVoltage_24 : decode cX5_leastVoltage 24 = .ok (.if_icmp .gt 23, 3) := by decide +kernel
theorem dX5_leastVoltage_27 : decode cX5_leastVoltage 27 = .ok (.aload_n 2, 1) := by decide +kernel
theorem dX5_leastVoltage_28 : decode cX5_leastVoltage 28 = .ok (.aload_n 2, 1) := by decide +kernel
theorem dX5_leastVoltage_29 : decode cX5_leastVoltage 29 = .ok (.getfield 146, 3) := by decide +kernel
theorem dX5_leastVoltage_32 : decode cX5_leastVoltage 32 = .ok (.iload_n 3, 1) := by decide +kernel
theorem dX5_leastVoltage_33 : decode cX5_leastVoltage 33 = .ok (.invokevirtual 206, 3) := by decide +kernel
theorem dX5_leastVoltage_36 : decode cX5_leastVoltage 36 = .ok (.ifCond .eq 5, 3) := by decide +kernel
theorem dX5_leastVoltage_39 : decode cX5_leastVoltage 39 = .ok (.iload_n 3, 1) := by decide +kernel
theorem dX5_leastVoltage_40 : decode cX5_leastVoltage 40 = .ok (.ireturn, 1) := by decide +kernel
theorem dX5_leastVoltage_41 : decode cX5_leastVoltage 41 = .ok (.iinc 3 1, 3) := by decide +kernel
theorem dX5_leastVoltage_44 : decode cX5_leastVoltage 44 = .ok (.goto (-23), 3) := by decide +kernel
theorem dX5_leastVoltage_47 : decode cX5_leastVoltage 47 = .ok (.bipush (-5), 2) := by decide +kernel
theorem dX5_leastVoltage_49 : decode cX5_leastVoltage 49 = .ok (.ireturn, 1) := by decide +kernel
set_option maxRecDepth 20000 in
theorem ggX5_drawingVoltage_X5_isPair : GoodIn wsX5_drawingVoltage wsX5_isPair := goodIn_r _ [6] (by decide +kernel) (by decide +kernel)
set_option maxRecDepth 20000 in
theorem gX5_drawingVoltage_X5_isPair : GoodIn wsX5_drawingVoltage (va_wsS RX5 131 yX5_isPair wsX5_isPair) := goodIn_app (goodIn_of _ (by decide +kernel)) ggX5_drawingVoltage_X5_isPair
set_option maxRecDepth 20000 in
theorem ggX5_drawingVoltage_X1_isDrawnAllTheWayIn : GoodIn wsX5_drawingVoltage wsX1_isDrawnAllTheWayIn := goodIn_r _ [11, 12, 13, 14, 15, 10, 16, 17, 18, 19, 20, 21, 22, 23, 24, 25, 40, 41, 42, 43, 44, 45, 46, 47] (by decide +kernel) (by decide +kernel)
set_option maxRecDepth 20000 in
theorem gX5_drawingVoltage_X1_isDrawnAllTheWayIn : GoodIn wsX5_drawingVoltage (wsV RX5 210 RX1 yX1_isDrawnAllTheWayIn wsX1_isDrawnAllTheWayIn) := goodIn_app (goodIn_of _ (by decide +kernel)) ggX5_drawingVoltage_X1_isDrawnAllTheWayIn
theorem dX5_drawingVoltage_0 : decode cX5_drawingVoltage 0 = .ok (.iload_n 1, 1) := by decide +kernel
theorem dX5_drawingVoltage_1 : decode cX5_drawingVoltage 1 = .ok (.invokestatic 131, 3) := by decide +kernel
theorem dX5_drawingVoltage_4 : decode cX5_drawingVoltage 4 = .ok (.ifCond .ne 5, 3) := by decide +kernel
theorem dX5_drawingVoltage_7 : decode cX5_drawingVoltage 7 = .ok (.iconst (-1), 1) := by decide +kernel
theorem dX5_drawingVoltage_8 : decode cX5_drawingVoltage 8 = .ok (.ireturn, 1) := by decide +kernel
theorem dX5_drawingVoltage_9 : decode cX5_drawingVoltage 9 = .ok (.iconst 0, 1) := by decide +kernel
theorem dX5_drawingVoltage_10 : decode cX5_drawingVoltage 10 = .ok (.istore_n 2, 1) := by decide +kernel
theorem dX5_drawingVoltage_11 : decode cX5_drawingVoltage 11 = .ok (.iload_n 2, 1) := by decide +kernel
theorem dX5_drawingVoltage_12 : decode cX5_drawingVoltage 12 = .ok (.bipush 30, 2) := by decide +kernel
theorem dX5_drawingVoltage_14 : decode cX5_drawingVoltage 14 = .ok (.if_icmp .gt 27, 3) := by decide +kernel
theorem dX5_drawingVoltage_17 : decode cX5_drawingVoltage 17 = .ok (.aload_n 0, 1) := by decide +kernel
theorem dX5_drawingVoltage_18 : decode cX5_drawingVoltage 18 = .ok (.getfield 10, 3) := by decide +kernel
theorem dX5_drawingVoltage_21 : decode cX5_drawingVoltage 21 = .ok (.getfield 135, 3) := by decide +kernel
theorem dX5_drawingVoltage_24 : decode cX5_drawingVoltage 24 = .ok (.iload_n 1, 1) := by decide +kernel
theorem dX5_drawingVoltage_25 : decode cX5_drawingVoltage 25 = .ok (.aaload, 1) := by decide +kernel
theorem dX5_drawingVoltage_26 : decode cX5_drawingVoltage 26 = .ok (.iload_n 2, 1) := by decide +kernel
theorem dX5_drawingVoltage_27 : decode cX5_drawingVoltage 27 = .ok (.invokevirtual 210, 3) := by decide +kernel
theorem dX5_drawingVoltage_30 : decode cX5_drawingVoltage 30 = .ok (.ifCond .eq 5, 3) := by decide +kernel
theorem dX5_drawingVoltage_33 : decode cX5_drawingVoltage 33 = .ok (.iload_n 2, 1) := by decide +kernel
theorem dX5_drawingVoltage_34 : decode cX5_drawingVoltage 34 = .ok (.ireturn, 1) := by decide +kernel
theorem dX5_drawingVoltage_35 : decode cX5_drawingVoltage 35 = .ok (.iinc 2 1, 3) := by decide +kernel
theorem dX5_drawingVoltage_38 : decode cX5_drawingVoltage 38 = .ok (.goto (-27), 3) := by decide +kernel
theorem dX5_drawingVoltage_41 : decode cX5_drawingVoltage 41 = .ok (.bipush (-5), 2) := by decide +kernel
theorem dX5_drawingVoltage_43 : decode cX5_drawingVoltage 43 = .ok (.ireturn, 1) := by decide +kernel
set_option maxRecDepth 20000 in
theorem ggX5_strongest_X1_pullAt : GoodIn wsX5_strongest wsX1_pullAt := goodIn_r _ [8, 9, 10, 11, 12, 13, 14, 15, 7, 16, 17, 18, 19, 20, 35, 36, 37, 38, 39, 40, 41, 42] (by decide +kernel) (by decide +kernel)
set_option maxRecDepth 20000 in
theorem gX5_strongest_X1_pullAt : GoodIn wsX5_strongest (wsV RX5 161 RX1 yX1_pullAt wsX1_pullAt) := goodIn_app (goodIn_of _ (by decide +kernel)) ggX5_strongest_X1_pullAt
theorem dX5_strongest_0 : decode cX5_strongest 0 = .ok (.iconst 0, 1) := by decide +kernel
theorem dX5_strongest_1 : decode cX5_strongest 1 = .ok (.istore_n 1, 1) := by decide +kernel
theorem dX5_strongest_2 : decode cX5_strongest 2 = .ok (.bipush (-5), 2) := by decide +kernel
theorem dX5_strongest_4 : decode cX5_strongest 4 = .ok (.istore_n 2, 1) := by decide +kernel
theorem dX5_strongest_5 : decode cX5_strongest 5 = .ok (.iconst 0, 1) := by decide +kernel
theorem dX5_strongest_6 : decode cX5_strongest 6 = .ok (.istore_n 3, 1) := by decide +kernel
theorem dX5_strongest_7 : decode cX5_strongest 7 = .ok (.iload_n 3, 1) := by decide +kernel
theorem dX5_strongest_8 : decode cX5_strongest 8 = .ok (.iconst 4, 1) := by decide +kernel
theorem dX5_strongest_9 : decode cX5_strongest 9 = .ok (.if_icmp .ge 43, 3) := by decide +kernel
theorem dX5_strongest_12 : decode cX5_strongest 12 = .ok (.aload_n 0, 1) := by decide +kernel
theorem dX5_strongest_13 : decode cX5_strongest 13 = .ok (.getfield 10, 3) := by decide +kernel
theorem dX5_strongest_16 : decode cX5_strongest 16 = .ok (.getfield 135, 3) := by decide +kernel
theorem dX5_strongest_19 : decode cX5_strongest 19 = .ok (.iload_n 3, 1) := by decide +kernel
theorem dX5_strongest_20 : decode cX5_strongest 20 = .ok (.aaload, 1) := by decide +kernel
theorem dX5_strongest_21 : decode cX5_strongest 21 = .ok (.astore 4, 2) := by decide +kernel
theorem dX5_strongest_23 : decode cX5_strongest 23 = .ok (.aload 4, 2) := by decide +kernel
theorem dX5_strongest_25 : decode cX5_strongest 25 = .ok (.aload 4, 2) := by decide +kernel
theorem dX5_strongest_27 : decode cX5_strongest 27 = .ok (.getfield 146, 3) := by decide +kernel
theorem dX5_strongest_30 : decode cX5_strongest 30 = .ok (.invokevirtual 161, 3) := by decide +kernel
theorem dX5_strongest_33 : decode cX5_strongest 33 = .ok (.istore 5, 2) := by decide +kernel
theorem dX5_strongest_35 : decode cX5_strongest 35 = .ok (.iload 5, 2) := by decide +kernel
theorem dX5_strongest_37 : decode cX5_strongest 37 = .ok (.iload_n 1, 1) := by decide +kernel
theorem dX5_strongest_38 : decode cX5_strongest 38 = .ok (.if_icmp .le 8, 3) := by decide +kernel
theorem dX5_strongest_41 : decode cX5_strongest 41 = .ok (.iload 5, 2) := by decide +kernel
theorem dX5_strongest_43 : decode cX5_strongest 43 = .ok (.istore_n 1, 1) := by decide +kernel
theorem dX5_strongest_44 : decode cX5_strongest 44 = .ok (.iload_n 3, 1) := by decide +kernel
theorem dX5_strongest_45 : decode cX5_strongest 45 = .ok (.istore_n 2, 1) := by decide +kernel
theorem dX5_strongest_46 : decode cX5_strongest 46 = .ok (.iinc 3 1, 3) := by decide +kernel
theorem dX5_strongest_49 : decode cX5_strongest 49 = .ok (.goto (-42), 3) := by decide +kernel
theorem dX5_strongest_52 : decode cX5_strongest 52 = .ok (.iload_n 2, 1) := by decide +kernel
theorem dX5_strongest_53 : decode cX5_strongest 53 = .ok (.ireturn, 1) := by decide +kernel
set_option maxRecDepth 20000 in
theorem ggX5_count_X5_sumOfPairs : GoodIn wsX5_count wsX5_sumOfPairs := goodIn_r _ [14, 1, 15, 16, 17, 13, 18, 19, 20, 21, 22, 23, 24, 25, 26, 27, 28, 29, 30, 31, 32, 33, 34, 35, 36, 37, 38, 39, 40, 41, 42, 43, 44, 45, 46, 47, 48, 49, 50, 51, 52, 53, 54, 55, 56, 57, 58, 59, 60, 61, 62, 63, 64, 65, 66, 67, 68, 69, 70, 71, 72, 73, 74, 87, 88, 89, 90, 91, 92, 93, 94] (by decide +kernel) (by decide +kernel)
set_option maxRecDepth 20000 in
theorem gX5_count_X5_sumOfPairs : GoodIn wsX5_count (wsV RX5 225 RX5 yX5_sumOfPairs wsX5_sumOfPairs) := goodIn_app (goodIn_of _ (by decide +kernel)) ggX5_count_X5_sumOfPairs
theorem dX5_count_0 : decode cX5_count 0 = .ok (.iload_n 1, 1) := by decide +kernel
theorem dX5_count_1 : decode cX5_count 1 = .ok (.tableswitch 102 0 10 #[59, 102, 102, 102, 102, 102, 102, 67, 75, 83, 91], 59) := by decide +kernel
theorem dX5_count_60 : decode cX5_count 60 = .ok (.aload_n 0, 1) := by decide +kernel
theorem dX5_count_61 : decode cX5_count 61 = .ok (.getfield 10, 3) := by decide +kernel
theorem dX5_count_64 : decode cX5_count 64 = .ok (.getfield 128, 3) := by decide +kernel
theorem dX5_count_67 : decode cX5_count 67 = .ok (.ireturn, 1) := by decide +kernel
theorem dX5_count_68 : decode cX5_count 68 = .ok (.aload_n 0, 1) := by decide +kernel
theorem dX5_count_69 : decode cX5_count 69 = .ok (.getfield 10, 3) := by decide +kernel
theorem dX5_count_72 : decode cX5_count 72 = .ok (.getfield 213, 3) := by decide +kernel
theorem dX5_count_75 : decode cX5_count 75 = .ok (.ireturn, 1) := by decide +kernel
theorem dX5_count_76 : decode cX5_count 76 = .ok (.aload_n 0, 1) := by decide +kernel
theorem dX5_count_77 : decode cX5_count 77 = .ok (.getfield 10, 3) := by decide +kernel
theorem dX5_count_80 : decode cX5_count 80 = .ok (.getfield 216, 3) := by decide +kernel
theorem dX5_count_83 : decode cX5_count 83 = .ok (.ireturn, 1) := by decide +kernel
theorem dX5_count_84 : decode cX5_count 84 = .ok (.aload_n 0, 1) := by decide +kernel
theorem dX5_count_85 : decode cX5_count 85 = .ok (.getfield 25, 3) := by decide +kernel
theorem dX5_count_88 : decode cX5_count 88 = .ok (.getfield 219, 3) := by decide +kernel
theorem dX5_count_91 : decode cX5_count 91 = .ok (.ireturn, 1) := by decide +kernel
theorem dX5_count_92 : decode cX5_count 92 = .ok (.aload_n 0, 1) := by decide +kernel
theorem dX5_count_93 : decode cX5_count 93 = .ok (.getfield 39, 3) := by decide +kernel
theorem dX5_count_96 : decode cX5_count 96 = .ok (.getfield 74, 3) := by decide +kernel
theorem dX5_count_99 : decode cX5_count 99 = .ok (.getfield 222, 3) := by decide +kernel
theorem dX5_count_102 : decode cX5_count 102 = .ok (.ireturn, 1) := by decide +kernel
theorem dX5_count_103 : decode cX5_count 103 = .ok (.iload_n 1, 1) := by decide +kernel
theorem dX5_count_104 : decode cX5_count 104 = .ok (.iconst 1, 1) := by decide +kernel
theorem dX5_count_105 : decode cX5_count 105 = .ok (.if_icmp .lt 17, 3) := by decide +kernel
theorem dX5_count_108 : decode cX5_count 108 = .ok (.iload_n 1, 1) := by decide +kernel
theorem dX5_count_109 : decode cX5_count 109 = .ok (.bipush 6, 2) := by decide +kernel
theorem dX5_count_111 : decode cX5_count 111 = .ok (.if_icmp .gt 11, 3) := by decide +kernel
theorem dX5_count_114 : decode cX5_count 114 = .ok (.aload_n 0, 1) := by decide +kernel
theorem dX5_count_115 : decode cX5_count 115 = .ok (.iload_n 1, 1) := by decide +kernel
theorem dX5_count_116 : decode cX5_count 116 = .ok (.invokevirtual 225, 3) := by decide +kernel
theorem dX5_count_119 : decode cX5_count 119 = .ok (.goto 5, 3) := by decide +kernel
theorem dX5_count_122 : decode cX5_count 122 = .ok (.bipush (-2), 2) := by decide +kernel
theorem dX5_count_124 : decode cX5_count 124 = .ok (.ireturn, 1) := by decide +kernel
set_option maxRecDepth 20000 in
theorem ggX5_sumOfPairs_X5_partOfCount : GoodIn wsX5_sumOfPairs wsX5_partOfCount := goodIn_r _ [6, 7, 8, 9, 10, 11, 12, 13, 14, 15, 16, 17, 18, 19, 20, 21, 22, 23, 24, 25, 26, 27, 28, 29, 30, 31, 32, 33, 34, 35, 36, 37, 38, 39, 40, 41, 42, 43, 44, 45, 46, 47, 48, 63, 64, 65, 66, 67, 68, 69, 70] (by decide +kernel) (by decide +kernel)
set_option maxRecDepth 20000 in
theorem gX5_sumOfPairs_X5_partOfCount : GoodIn wsX5_sumOfPairs (va_wsS RX5 228 yX5_partOfCount wsX5_partOfCount) := goodIn_app (goodIn_of _ (by decide +kernel)) ggX5_sumOfPairs_X5_partOfCount
theorem dX5_sumOfPairs_0 : decode cX5_sumOfPairs 0 = .ok (.iconst 0, 1) := by decide +kernel
theorem dX5_sumOfPairs_1 : decode cX5_sumOfPairs 1 = .ok (.istore_n 2, 1) := by decide +kernel
theorem dX5_sumOfPairs_2 : decode cX5_sumOfPairs 2 = .ok (.iconst 0, 1) := by decide +kernel
theorem dX5_sumOfPairs_3 : decode cX5_sumOfPairs 3 = .ok (.istore_n 3, 1) := by decide +kernel
theorem dX5_sumOfPairs_4 : decode cX5_sumOfPairs 4 = .ok (.iload_n 3, 1) := by decide +kernel
theorem dX5_sumOfPairs_5 : decode cX5_sumOfPairs 5 = .ok (.iconst 4, 1) := by decide +kernel
theorem dX5_sumOfPairs_6 : decode cX5_sumOfPairs 6 = .ok (.if_icmp .ge 25, 3) := by decide +kernel
theorem dX5_sumOfPairs_9 : decode cX5_sumOfPairs 9 = .ok (.iload_n 2, 1) := by decide +kernel
theorem dX5_sumOfPairs_10 : decode cX5_sumOfPairs 10 = .ok (.aload_n 0, 1) := by decide +kernel
theorem dX5_sumOfPairs_11 : decode cX5_sumOfPairs 11 = .ok (.getfield 10, 3) := by decide +kernel
theorem dX5_sumOfPairs_14 : decode cX5_sumOfPairs 14 = .ok (.getfield 135, 3) := by decide +kernel
theorem dX5_sumOfPairs_17 : decode cX5_sumOfPairs 17 = .ok (.iload_n 3, 1) := by decide +kernel
theorem dX5_sumOfPairs_18 : decode cX5_sumOfPairs 18 = .ok (.aaload, 1) := by decide +kernel
theorem dX5_sumOfPairs_19 : decode cX5_sumOfPairs 19 = .ok (.iload_n 1, 1) := by decide +kernel
theorem dX5_sumOfPairs_20 : decode cX5_sumOfPairs 20 = .ok (.invokestatic 228, 3) := by decide +kernel
theorem dX5_sumOfPairs_23 : decode cX5_sumOfPairs 23 = .ok (.iadd, 1) := by decide +kernel
theorem dX5_sumOfPairs_24 : decode cX5_sumOfPairs 24 = .ok (.istore_n 2, 1) := by decide +kernel
theorem dX5_sumOfPairs_25 : decode cX5_sumOfPairs 25 = .ok (.iinc 3 1, 3) := by decide +kernel
theorem dX5_sumOfPairs_28 : decode cX5_sumOfPairs 28 = .ok (.goto (-24), 3) := by decide +kernel
theorem dX5_sumOfPairs_31 : decode cX5_sumOfPairs 31 = .ok (.iload_n 2, 1) := by decide +kernel
theorem dX5_sumOfPairs_32 : decode cX5_sumOfPairs 32 = .ok (.ireturn, 1) := by decide +kernel
set_option maxRecDepth 20000 in
theorem ggX5_partOfCount_X1_reasonNow : GoodIn wsX5_partOfCount wsX1_reasonNow := goodIn_r _ [8, 9, 10, 11, 12, 13, 14, 15, 16, 17, 7, 18, 19, 20, 21, 22, 23, 24, 25, 26, 27, 28, 29, 30, 31, 32, 33, 34, 35, 36, 37, 38, 39, 40, 41, 43, 44, 45, 46, 47, 48, 49, 50] (by decide +kernel) (by decide +kernel)
set_option maxRecDepth 20000 in
theorem gX5_partOfCount_X1_reasonNow : GoodIn wsX5_partOfCount (wsV RX5 190 RX1 yX1_reasonNow wsX1_reasonNow) := goodIn_app (goodIn_of _ (by decide +kernel)) ggX5_partOfCount_X1_reasonNow
set_option maxRecDepth 20000 in
theorem ggX5_partOfCount_X1_capacityAt : GoodIn wsX5_partOfCount wsX1_capacityAt := goodIn_r _ [33, 14, 43, 44, 45, 46, 47, 48, 49, 50] (by decide +kernel) (by decide +kernel)
set_option maxRecDepth 20000 in
theorem gX5_partOfCount_X1_capacityAt : GoodIn wsX5_partOfCount (wsV RX5 149 RX1 yX1_capacityAt wsX1_capacityAt) := goodIn_app (goodIn_of _ (by decide +kernel)) ggX5_partOfCount_X1_capacityAt
theorem dX5_partOfCount_0 : decode cX5_partOfCount 0 = .ok (.iload_n 1, 1) := by decide +kernel
theorem dX5_partOfCount_1 : decode cX5_partOfCount 1 = .ok (.tableswitch 81 1 5 #[35, 48, 62, 67, 76], 35) := by decide +kernel
theorem dX5_partOfCount_36 : decode cX5_partOfCount 36 = .ok (.aload_n 0, 1) := by decide +kernel
theorem dX5_partOfCount_37 : decode cX5_partOfCount 37 = .ok (.getfield 158, 3) := by decide +kernel
theorem dX5_partOfCount_40 : decode cX5_partOfCount 40 = .ok (.ifCond .eq 7, 3) := by decide +kernel
theorem dX5_partOfCount_43 : decode cX5_partOfCount 43 = .ok (.iconst 1, 1) := by decide +kernel
theorem dX5_partOfCount_44 : decode cX5_partOfCount 44 = .ok (.goto 4, 3) := by decide +kernel
theorem dX5_partOfCount_47 : decode cX5_partOfCount 47 = .ok (.iconst 0, 1) := by decide +kernel
theorem dX5_partOfCount_48 : decode cX5_partOfCount 48 = .ok (.ireturn, 1) := by decide +kernel
theorem dX5_partOfCount_49 : decode cX5_partOfCount 49 = .ok (.aload_n 0, 1) := by decide +kernel
theorem dX5_partOfCount_50 : decode cX5_partOfCount 50 = .ok (.invokevirtual 190, 3) := by decide +kernel
theorem dX5_partOfCount_53 : decode cX5_partOfCount 53 = .ok (.iconst 1, 1) := by decide +kernel
theorem dX5_partOfCount_54 : decode cX5_partOfCount 54 = .ok (.if_icmp .gt 7, 3) := by decide +kernel
theorem dX5_partOfCount_57 : decode cX5_partOfCount 57 = .ok (.iconst 1, 1) := by decide +kernel
theorem dX5_partOfCount_58 : decode cX5_partOfCount 58 = .ok (.goto 4, 3) := by decide +kernel
theorem dX5_partOfCount_61 : decode cX5_partOfCount 61 = .ok (.iconst 0, 1) := by decide +kernel
theorem dX5_partOfCount_62 : decode cX5_partOfCount 62 = .ok (.ireturn, 1) := by decide +kernel
theorem dX5_partOfCount_63 : decode cX5_partOfCount 63 = .ok (.aload_n 0, 1) := by decide +kernel
theorem dX5_partOfCount_64 : decode cX5_partOfCount 64 = .ok (.getfield 152, 3) := by decide +kernel
theorem dX5_partOfCount_67 : decode cX5_partOfCount 67 = .ok (.ireturn, 1) := by decide +kernel
theorem dX5_partOfCount_68 : decode cX5_partOfCount 68 = .ok (.aload_n 0, 1) := by decide +kernel
theorem dX5_partOfCount_69 : decode cX5_partOfCount 69 = .ok (.aload_n 0, 1) := by decide +kernel
theorem dX5_partOfCount_70 : decode cX5_partOfCount 70 = .ok (.getfield 146, 3) := by decide +kernel
theorem dX5_partOfCount_73 : decode cX5_partOfCount 73 = .ok (.invokevirtual 149, 3) := by decide +kernel
theorem dX5_partOfCount_76 : decode cX5_partOfCount 76 = .ok (.ireturn, 1) := by decide +kernel
theorem dX5_partOfCount_77 : decode cX5_partOfCount 77 = .ok (.aload_n 0, 1) := by decide +kernel
theorem dX5_partOfCount_78 : decode cX5_partOfCount 78 = .ok (.getfield 146, 3) := by decide +kernel
theorem dX5_partOfCount_81 : decode cX5_partOfCount 81 = .ok (.ireturn, 1) := by decide +kernel
theorem dX5_partOfCount_82 : decode cX5_partOfCount 82 = .ok (.aload_n 0, 1) := by decide +kernel
theorem dX5_partOfCount_83 : decode cX5_partOfCount 83 = .ok (.getfield 146, 3) := by decide +kernel
theorem dX5_partOfCount_86 : decode cX5_partOfCount 86 = .ok (.bipush 40, 2) := by decide +kernel
theorem dX5_partOfCount_88 : decode cX5_partOfCount 88 = .ok (.if_icmp .ne 7, 3) := by decide +kernel
theorem dX5_partOfCount_91 : decode cX5_partOfCount 91 = .ok (.iconst 1, 1) := by decide +kernel
theorem dX5_partOfCount_92 : decode cX5_partOfCount 92 = .ok (.goto 4, 3) := by decide +kernel
theorem dX5_partOfCount_95 : decode cX5_partOfCount 95 = .ok (.iconst 0, 1) := by decide +kernel
theorem dX5_partOfCount_96 : decode cX5_partOfCount 96 = .ok (.ireturn, 1) := by decide +kernel
theorem dX5_isPair_0 : decode cX5_isPair 0 = .ok (.iload_n 0, 1) := by decide +kernel
theorem dX5_isPair_1 : decode cX5_isPair 1 = .ok (.ifCond .lt 12, 3) := by decide +kernel
theorem dX5_isPair_4 : decode cX5_isPair 4 = .ok (.iload_n 0, 1) := by decide +kernel
theorem dX5_isPair_5 : decode cX5_isPair 5 = .ok (.iconst 4, 1) := by decide +kernel
theorem dX5_isPair_6 : decode cX5_isPair 6 = .ok (.if_icmp .ge 7, 3) := by decide +kernel
theorem dX5_isPair_9 : decode cX5_isPair 9 = .ok (.iconst 1, 1) := by decide +kernel
theorem dX5_isPair_10 : decode cX5_isPair 10 = .ok (.goto 4, 3) := by decide +kernel
theorem dX5_isPair_13 : decode cX5_isPair 13 = .ok (.iconst 0, 1) := by decide +kernel
theorem dX5_isPair_14 : decode cX5_isPair 14 = .ok (.ireturn, 1) := by decide +kernel
theorem dX5_isDepth_0 : decode cX5_isDepth 0 = .ok (.iload_n 0, 1) := by decide +kernel
theorem dX5_isDepth_1 : decode cX5_isDepth 1 = .ok (.ifCond .lt 13, 3) := by decide +kernel
theorem dX5_isDepth_4 : decode cX5_isDepth 4 = .ok (.iload_n 0, 1) := by decide +kernel
theorem dX5_isDepth_5 : decode cX5_isDepth 5 = .ok (.bipush 40, 2) := by decide +kernel
theorem dX5_isDepth_7 : decode cX5_isDepth 7 = .ok (.if_icmp .gt 7, 3) := by decide +kernel
theorem dX5_isDepth_10 : decode cX5_isDepth 10 = .ok (.iconst 1, 1) := by decide +kernel
theorem dX5_isDepth_11 : decode cX5_isDepth 11 = .ok (.goto 4, 3) := by decide +kernel
theorem dX5_isDepth_14 : decode cX5_isDepth 14 = .ok (.iconst 0, 1) := by decide +kernel
theorem dX5_isDepth_15 : decode cX5_isDepth 15 = .ok (.ireturn, 1) := by decide +kernel
theorem dJ9_floorDiv_f86c9_0 : decode cJ9_floorDiv_f86c9 0 = .ok (.lload_n 0, 1) := by decide +kernel
theorem dJ9_floorDiv_f86c9_1 : decode cJ9_floorDiv_f86c9 1 = .ok (.lload_n 2, 1) := by decide +kernel
theorem dJ9_floorDiv_f86c9_2 : decode cJ9_floorDiv_f86c9 2 = .ok (.ldiv, 1) := by decide +kernel
theorem dJ9_floorDiv_f86c9_3 : decode cJ9_floorDiv_f86c9 3 = .ok (.lstore 4, 2) := by decide +kernel
theorem dJ9_floorDiv_f86c9_5 : decode cJ9_floorDiv_f86c9 5 = .ok (.lload_n 0, 1) := by decide +kernel
theorem dJ9_floorDiv_f86c9_6 : decode cJ9_floorDiv_f86c9 6 = .ok (.lload_n 2, 1) := by decide +kernel
theorem dJ9_floorDiv_f86c9_7 : decode cJ9_floorDiv_f86c9 7 = .ok (.lxor, 1) := by decide +kernel
theorem dJ9_floorDiv_f86c9_8 : decode cJ9_floorDiv_f86c9 8 = .ok (.lconst 0, 1) := by decide +kernel
theorem dJ9_floorDiv_f86c9_9 : decode cJ9_floorDiv_f86c9 9 = .ok (.lcmp, 1) := by decide +kernel
theorem dJ9_floorDiv_f86c9_10 : decode cJ9_floorDiv_f86c9 10 = .ok (.ifCond .ge 17, 3) := by decide +kernel
theorem dJ9_floorDiv_f86c9_13 : decode cJ9_floorDiv_f86c9 13 = .ok (.lload 4, 2) := by decide +kernel
theorem dJ9_floorDiv_f86c9_15 : decode cJ9_floorDiv_f86c9 15 = .ok (.lload_n 2, 1) := by decide +kernel
theorem dJ9_floorDiv_f86c9_16 : decode cJ9_floorDiv_f86c9 16 = .ok (.lmul, 1) := by decide +kernel
theorem dJ9_floorDiv_f86c9_17 : decode cJ9_floorDiv_f86c9 17 = .ok (.lload_n 0, 1) := by decide +kernel
theorem dJ9_floorDiv_f86c9_18 : decode cJ9_floorDiv_f86c9 18 = .ok (.lcmp, 1) := by decide +kernel
theorem dJ9_floorDiv_f86c9_19 : decode cJ9_floorDiv_f86c9 19 = .ok (.ifCond .eq 8, 3) := by decide +kernel
theorem dJ9_floorDiv_f86c9_22 : decode cJ9_floorDiv_f86c9 22 = .ok (.lload 4, 2) := by decide +kernel
theorem dJ9_floorDiv_f86c9_24 : decode cJ9_floorDiv_f86c9 24 = .ok (.lconst 1, 1) := by decide +kernel
theorem dJ9_floorDiv_f86c9_25 : decode cJ9_floorDiv_f86c9 25 = .ok (.lsub, 1) := by decide +kernel
theorem dJ9_floorDiv_f86c9_26 : decode cJ9_floorDiv_f86c9 26 = .ok (.lreturn, 1) := by decide +kernel
theorem dJ9_floorDiv_f86c9_27 : decode cJ9_floorDiv_f86c9 27 = .ok (.lload 4, 2) := by decide +kernel
theorem dJ9_floorDiv_f86c9_29 : decode cJ9_floorDiv_f86c9 29 = .ok (.lreturn, 1) := by decide +kernel
theorem dJ9_abs_0f7a4_0 : decode cJ9_abs_0f7a4 0 = .ok (.iload_n 0, 1) := by decide +kernel
theorem dJ9_abs_0f7a4_1 : decode cJ9_abs_0f7a4 1 = .ok (.ifCond .ge 8, 3) := by decide +kernel
theorem dJ9_abs_0f7a4_4 : decode cJ9_abs_0f7a4 4 = .ok (.iload_n 0, 1) := by decide +kernel
theorem dJ9_abs_0f7a4_5 : decode cJ9_abs_0f7a4 5 = .ok (.ineg, 1) := by decide +kernel
theorem dJ9_abs_0f7a4_6 : decode cJ9_abs_0f7a4 6 = .ok (.goto 4, 3) := by decide +kernel
theorem dJ9_abs_0f7a4_9 : decode cJ9_abs_0f7a4 9 = .ok (.iload_n 0, 1) := by decide +kernel
theorem dJ9_abs_0f7a4_10 : decode cJ9_abs_0f7a4 10 = .ok (.ireturn, 1) := by decide +kernel
