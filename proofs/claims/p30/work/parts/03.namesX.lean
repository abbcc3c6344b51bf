theorem dX0_init_0 : decode cX0_init 0 = .ok (.aload_n 0, 1) := by decide +kernel
theorem dX0_init_1 : decode cX0_init 1 = .ok (.invokespecial 3, 3) := by decide +kernel
theorem dX0_init_4 : decode cX0_init 4 = .ok (.aload_n 0, 1) := by decide +kernel
theorem dX0_init_5 : decode cX0_init 5 = .ok (.iconst (-1), 1) := by decide +kernel
theorem dX0_init_6 : decode cX0_init 6 = .ok (.putfield 9, 3) := by decide +kernel
theorem dX0_init_9 : decode cX0_init 9 = .ok (.return_, 1) := by decide +kernel
set_option maxRecDepth 20000 in
theorem ggX0_jump_J9_floorMod_7cf53 : GoodIn wsX0_jump wsJ9_floorMod_7cf53 := goodIn_r _ [6] (by decide +kernel) (by decide +kernel)
set_option maxRecDepth 20000 in
theorem gX0_jump_J9_floorMod_7cf53 : GoodIn wsX0_jump (va_wsS RX0 21 yJ9_floorMod_7cf53 wsJ9_floorMod_7cf53) := goodIn_app (goodIn_of _ (by decide +kernel)) ggX0_jump_J9_floorMod_7cf53
theorem dX0_jump_0 : decode cX0_jump 0 = .ok (.aload_n 0, 1) := by decide +kernel
theorem dX0_jump_1 : decode cX0_jump 1 = .ok (.aload_n 0, 1) := by decide +kernel
theorem dX0_jump_2 : decode cX0_jump 2 = .ok (.getfield 9, 3) := by decide +kernel
theorem dX0_jump_5 : decode cX0_jump 5 = .ok (.iconst (-1), 1) := by decide +kernel
theorem dX0_jump_6 : decode cX0_jump 6 = .ok (.if_icmp .eq 8, 3) := by decide +kernel
theorem dX0_jump_9 : decode cX0_jump 9 = .ok (.iload_n 1, 1) := by decide +kernel
theorem dX0_jump_10 : decode cX0_jump 10 = .ok (.iconst 1, 1) := by decide +kernel
theorem dX0_jump_11 : decode cX0_jump 11 = .ok (.if_icmp .ge 7, 3) := by decide +kernel
theorem dX0_jump_14 : decode cX0_jump 14 = .ok (.iconst 0, 1) := by decide +kernel
theorem dX0_jump_15 : decode cX0_jump 15 = .ok (.goto 16, 3) := by decide +kernel
theorem dX0_jump_18 : decode cX0_jump 18 = .ok (.aload_n 0, 1) := by decide +kernel
theorem dX0_jump_19 : decode cX0_jump 19 = .ok (.getfield 9, 3) := by decide +kernel
theorem dX0_jump_22 : decode cX0_jump 22 = .ok (.aload_n 0, 1) := by decide +kernel
theorem dX0_jump_23 : decode cX0_jump 23 = .ok (.getfield 15, 3) := by decide +kernel
theorem dX0_jump_26 : decode cX0_jump 26 = .ok (.iadd, 1) := by decide +kernel
theorem dX0_jump_27 : decode cX0_jump 27 = .ok (.iload_n 1, 1) := by decide +kernel
theorem dX0_jump_28 : decode cX0_jump 28 = .ok (.invokestatic 21, 3) := by decide +kernel
theorem dX0_jump_31 : decode cX0_jump 31 = .ok (.putfield 9, 3) := by decide +kernel
theorem dX0_jump_34 : decode cX0_jump 34 = .ok (.return_, 1) := by decide +kernel
theorem dX1_init_0 : decode cX1_init 0 = .ok (.aload_n 0, 1) := by decide +kernel
theorem dX1_init_1 : decode cX1_init 1 = .ok (.invokespecial 3, 3) := by decide +kernel
theorem dX1_init_4 : decode cX1_init 4 = .ok (.aload_n 0, 1) := by decide +kernel
theorem dX1_init_5 : decode cX1_init 5 = .ok (.aload_n 1, 1) := by decide +kernel
theorem dX1_init_6 : decode cX1_init 6 = .ok (.putfield 9, 3) := by decide +kernel
theorem dX1_init_9 : decode cX1_init 9 = .ok (.aload_n 0, 1) := by decide +kernel
theorem dX1_init_10 : decode cX1_init 10 = .ok (.bipush 91, 2) := by decide +kernel
theorem dX1_init_12 : decode cX1_init 12 = .ok (.newarray .int, 2) := by decide +kernel
theorem dX1_init_14 : decode cX1_init 14 = .ok (.putfield 15, 3) := by decide +kernel
theorem dX1_init_17 : decode cX1_init 17 = .ok (.return_, 1) := by decide +kernel
theorem dX1_begin_0 : decode cX1_begin 0 = .ok (.aload_n 0, 1) := by decide +kernel
theorem dX1_begin_1 : decode cX1_begin 1 = .ok (.iload_n 1, 1) := by decide +kernel
theorem dX1_begin_2 : decode cX1_begin 2 = .ok (.putfield 19, 3) := by decide +kernel
theorem dX1_begin_5 : decode cX1_begin 5 = .ok (.aload_n 0, 1) := by decide +kernel
theorem dX1_begin_6 : decode cX1_begin 6 = .ok (.aload_n 2, 1) := by decide +kernel
theorem dX1_begin_7 : decode cX1_begin 7 = .ok (.putfield 9, 3) := by decide +kernel
theorem dX1_begin_10 : decode cX1_begin 10 = .ok (.aload_n 0, 1) := by decide +kernel
theorem dX1_begin_11 : decode cX1_begin 11 = .ok (.iconst 0, 1) := by decide +kernel
theorem dX1_begin_12 : decode cX1_begin 12 = .ok (.putfield 23, 3) := by decide +kernel
theorem dX1_begin_15 : decode cX1_begin 15 = .ok (.return_, 1) := by decide +kernel
theorem dX1_spare_0 : decode cX1_spare 0 = .ok (.aload_n 0, 1) := by decide +kernel
theorem dX1_spare_1 : decode cX1_spare 1 = .ok (.getfield 9, 3) := by decide +kernel
theorem dX1_spare_4 : decode cX1_spare 4 = .ok (.getfield 32, 3) := by decide +kernel
theorem dX1_spare_7 : decode cX1_spare 7 = .ok (.aload_n 0, 1) := by decide +kernel
theorem dX1_spare_8 : decode cX1_spare 8 = .ok (.getfield 23, 3) := by decide +kernel
theorem dX1_spare_11 : decode cX1_spare 11 = .ok (.isub, 1) := by decide +kernel
theorem dX1_spare_12 : decode cX1_spare 12 = .ok (.ireturn, 1) := by decide +kernel
set_option maxRecDepth 20000 in
theorem ggX1_put_X1_spare : GoodIn wsX1_put wsX1_spare := goodIn_r _ [6, 7, 8, 1, 14, 15, 16, 17, 18, 19, 20, 21] (by decide +kernel) (by decide +kernel)
set_option maxRecDepth 20000 in
theorem gX1_put_X1_spare : GoodIn wsX1_put (wsV RX1 37 RX1 yX1_spare wsX1_spare) := goodIn_app (goodIn_of _ (by decide +kernel)) ggX1_put_X1_spare
set_option maxRecDepth 20000 in
theorem ggX1_put_X1_setRust : GoodIn wsX1_put wsX1_setRust := goodIn_r _ [12, 13, 14, 15, 16, 17] (by decide +kernel) (by decide +kernel)
set_option maxRecDepth 20000 in
theorem gX1_put_X1_setRust : GoodIn wsX1_put (wsV RX1 41 RX1 yX1_setRust wsX1_setRust) := goodIn_app (goodIn_of _ (by decide +kernel)) ggX1_put_X1_setRust
theorem dX1_put_0 : decode cX1_put 0 = .ok (.aload_n 0, 1) := by decide +kernel
theorem dX1_put_1 : decode cX1_put 1 = .ok (.invokevirtual 37, 3) := by decide +kernel
theorem dX1_put_4 : decode cX1_put 4 = .ok (.ifCond .le 22, 3) := by decide +kernel
theorem dX1_put_7 : decode cX1_put 7 = .ok (.aload_n 0, 1) := by decide +kernel
theorem dX1_put_8 : decode cX1_put 8 = .ok (.aload_n 0, 1) := by decide +kernel
theorem dX1_put_9 : decode cX1_put 9 = .ok (.getfield 23, 3) := by decide +kernel
theorem dX1_put_12 : decode cX1_put 12 = .ok (.iload_n 1, 1) := by decide +kernel
theorem dX1_put_13 : decode cX1_put 13 = .ok (.invokevirtual 41, 3) := by decide +kernel
theorem dX1_put_16 : decode cX1_put 16 = .ok (.aload_n 0, 1) := by decide +kernel
theorem dX1_put_17 : decode cX1_put 17 = .ok (.dup, 1) := by decide +kernel
theorem dX1_put_18 : decode cX1_put 18 = .ok (.getfield 23, 3) := by decide +kernel
theorem dX1_put_21 : decode cX1_put 21 = .ok (.iconst 1, 1) := by decide +kernel
theorem dX1_put_22 : decode cX1_put 22 = .ok (.iadd, 1) := by decide +kernel
theorem dX1_put_23 : decode cX1_put 23 = .ok (.putfield 23, 3) := by decide +kernel
theorem dX1_put_26 : decode cX1_put 26 = .ok (.return_, 1) := by decide +kernel
set_option maxRecDepth 20000 in
theorem ggX1_takeTop_X1_rustOf : GoodIn wsX1_takeTop wsX1_rustOf := goodIn_r _ [6, 7, 8, 9, 10, 11] (by decide +kernel) (by decide +kernel)
set_option maxRecDepth 20000 in
theorem gX1_takeTop_X1_rustOf : GoodIn wsX1_takeTop (wsV RX1 45 RX1 yX1_rustOf wsX1_rustOf) := goodIn_app (goodIn_of _ (by decide +kernel)) ggX1_takeTop_X1_rustOf
theorem dX1_takeTop_0 : decode cX1_takeTop 0 = .ok (.aload_n 0, 1) := by decide +kernel
theorem dX1_takeTop_1 : decode cX1_takeTop 1 = .ok (.getfield 23, 3) := by decide +kernel
theorem dX1_takeTop_4 : decode cX1_takeTop 4 = .ok (.iconst 1, 1) := by decide +kernel
theorem dX1_takeTop_5 : decode cX1_takeTop 5 = .ok (.if_icmp .ge 5, 3) := by decide +kernel
theorem dX1_takeTop_8 : decode cX1_takeTop 8 = .ok (.iconst 0, 1) := by decide +kernel
theorem dX1_takeTop_9 : decode cX1_takeTop 9 = .ok (.ireturn, 1) := by decide +kernel
theorem dX1_takeTop_10 : decode cX1_takeTop 10 = .ok (.aload_n 0, 1) := by decide +kernel
theorem dX1_takeTop_11 : decode cX1_takeTop 11 = .ok (.dup, 1) := by decide +kernel
theorem dX1_takeTop_12 : decode cX1_takeTop 12 = .ok (.getfield 23, 3) := by decide +kernel
theorem dX1_takeTop_15 : decode cX1_takeTop 15 = .ok (.iconst 1, 1) := by decide +kernel
theorem dX1_takeTop_16 : decode cX1_takeTop 16 = .ok (.isub, 1) := by decide +kernel
theorem dX1_takeTop_17 : decode cX1_takeTop 17 = .ok (.putfield 23, 3) := by decide +kernel
theorem dX1_takeTop_20 : decode cX1_takeTop 20 = .ok (.aload_n 0, 1) := by decide +kernel
theorem dX1_takeTop_21 : decode cX1_takeTop 21 = .ok (.aload_n 0, 1) := by decide +kernel
theorem dX1_takeTop_22 : decode cX1_takeTop 22 = .ok (.getfield 23, 3) := by decide +kernel
theorem dX1_takeTop_25 : decode cX1_takeTop 25 = .ok (.invokevirtual 45, 3) := by decide +kernel
theorem dX1_takeTop_28 : decode cX1_takeTop 28 = .ok (.ireturn, 1) := by decide +kernel
theorem dX1_rustOf_0 : decode cX1_rustOf 0 = .ok (.iload_n 1, 1) := by decide +kernel
theorem dX1_rustOf_1 : decode cX1_rustOf 1 = .ok (.ifCond .lt 21, 3) := by decide +kernel
theorem dX1_rustOf_4 : decode cX1_rustOf 4 = .ok (.iload_n 1, 1) := by decide +kernel
theorem dX1_rustOf_5 : decode cX1_rustOf 5 = .ok (.aload_n 0, 1) := by decide +kernel
theorem dX1_rustOf_6 : decode cX1_rustOf 6 = .ok (.getfield 15, 3) := by decide +kernel
theorem dX1_rustOf_9 : decode cX1_rustOf 9 = .ok (.arraylength, 1) := by decide +kernel
theorem dX1_rustOf_10 : decode cX1_rustOf 10 = .ok (.if_icmp .ge 12, 3) := by decide +kernel
theorem dX1_rustOf_13 : decode cX1_rustOf 13 = .ok (.aload_n 0, 1) := by decide +kernel
theorem dX1_rustOf_14 : decode cX1_rustOf 14 = .ok (.getfield 15, 3) := by decide +kernel
theorem dX1_rustOf_17 : decode cX1_rustOf 17 = .ok (.iload_n 1, 1) := by decide +kernel
theorem dX1_rustOf_18 : decode cX1_rustOf 18 = .ok (.iaload, 1) := by decide +kernel
theorem dX1_rustOf_19 : decode cX1_rustOf 19 = .ok (.goto 4, 3) := by decide +kernel
theorem dX1_rustOf_22 : decode cX1_rustOf 22 = .ok (.iconst 0, 1) := by decide +kernel
theorem dX1_rustOf_23 : decode cX1_rustOf 23 = .ok (.ireturn, 1) := by decide +kernel
theorem dX1_setRust_0 : decode cX1_setRust 0 = .ok (.iload_n 1, 1) := by decide +kernel
theorem dX1_setRust_1 : decode cX1_setRust 1 = .ok (.ifCond .lt 19, 3) := by decide +kernel
theorem dX1_setRust_4 : decode cX1_setRust 4 = .ok (.iload_n 1, 1) := by decide +kernel
theorem dX1_setRust_5 : decode cX1_setRust 5 = .ok (.aload_n 0, 1) := by decide +kernel
theorem dX1_setRust_6 : decode cX1_setRust 6 = .ok (.getfield 15, 3) := by decide +kernel
theorem dX1_setRust_9 : decode cX1_setRust 9 = .ok (.arraylength, 1) := by decide +kernel
theorem dX1_setRust_10 : decode cX1_setRust 10 = .ok (.if_icmp .ge 10, 3) := by decide +kernel
theorem dX1_setRust_13 : decode cX1_setRust 13 = .ok (.aload_n 0, 1) := by decide +kernel
theorem dX1_setRust_14 : decode cX1_setRust 14 = .ok (.getfield 15, 3) := by decide +kernel
theorem dX1_setRust_17 : decode cX1_setRust 17 = .ok (.iload_n 1, 1) := by decide +kernel
theorem dX1_setRust_18 : decode cX1_setRust 18 = .ok (.iload_n 2, 1) := by decide +kernel
theorem dX1_setRust_19 : decode cX1_setRust 19 = .ok (.iastore, 1) := by decide +kernel
theorem dX1_setRust_20 : decode cX1_setRust 20 = .ok (.return_, 1) := by decide +kernel
set_option maxRecDepth 20000 in
theorem ggX1_isCovered_X2_firstOn : GoodIn wsX1_isCovered wsX2_firstOn := goodIn_r _ [7, 8, 9, 14, 15, 16, 17] (by decide +kernel) (by decide +kernel)
set_option maxRecDepth 20000 in
theorem gX1_isCovered_X2_firstOn : GoodIn wsX1_isCovered (wsV RX1 49 RX2 yX2_firstOn wsX2_firstOn) := goodIn_app (goodIn_of _ (by decide +kernel)) ggX1_isCovered_X2_firstOn
theorem dX1_isCovered_0 : decode cX1_isCovered 0 = .ok (.aload_n 0, 1) := by decide +kernel
theorem dX1_isCovered_1 : decode cX1_isCovered 1 = .ok (.getfield 9, 3) := by decide +kernel
theorem dX1_isCovered_4 : decode cX1_isCovered 4 = .ok (.iload_n 1, 1) := by decide +kernel
theorem dX1_isCovered_5 : decode cX1_isCovered 5 = .ok (.invokevirtual 49, 3) := by decide +kernel
theorem dX1_isCovered_8 : decode cX1_isCovered 8 = .ok (.aload_n 0, 1) := by decide +kernel
theorem dX1_isCovered_9 : decode cX1_isCovered 9 = .ok (.getfield 23, 3) := by decide +kernel
theorem dX1_isCovered_12 : decode cX1_isCovered 12 = .ok (.if_icmp .ge 7, 3) := by decide +kernel
theorem dX1_isCovered_15 : decode cX1_isCovered 15 = .ok (.iconst 1, 1) := by decide +kernel
theorem dX1_isCovered_16 : decode cX1_isCovered 16 = .ok (.goto 4, 3) := by decide +kernel
theorem dX1_isCovered_19 : decode cX1_isCovered 19 = .ok (.iconst 0, 1) := by decide +kernel
theorem dX1_isCovered_20 : decode cX1_isCovered 20 = .ok (.ireturn, 1) := by decide +kernel
set_option maxRecDepth 20000 in
theorem ggX1_ballsOn_X2_layerOf : GoodIn wsX1_ballsOn wsX2_layerOf := goodIn_r _ [15, 16, 17, 18, 14, 19, 20, 21, 44, 45, 46, 47] (by decide +kernel) (by decide +kernel)
set_option maxRecDepth 20000 in
theorem gX1_ballsOn_X2_layerOf : GoodIn wsX1_ballsOn (wsV RX1 52 RX2 yX2_layerOf wsX2_layerOf) := goodIn_app (goodIn_of _ (by decide +kernel)) ggX1_ballsOn_X2_layerOf
set_option maxRecDepth 20000 in
theorem ggX1_ballsOn_X2_rowOf : GoodIn wsX1_ballsOn wsX2_rowOf := goodIn_r _ [25, 20, 26, 12, 13, 14, 15, 16, 17, 18, 19, 21, 27, 28, 29, 30, 31, 44, 45, 46, 47] (by decide +kernel) (by decide +kernel)
set_option maxRecDepth 20000 in
theorem gX1_ballsOn_X2_rowOf : GoodIn wsX1_ballsOn (wsV RX1 55 RX2 yX2_rowOf wsX2_rowOf) := goodIn_app (goodIn_of _ (by decide +kernel)) ggX1_ballsOn_X2_rowOf
set_option maxRecDepth 20000 in
theorem ggX1_ballsOn_X2_placeOf : GoodIn wsX1_ballsOn wsX2_placeOf := goodIn_r _ [35, 20, 26, 12, 13, 14, 15, 16, 17, 18, 19, 21, 27, 28, 29, 30, 31, 44, 45, 46, 47] (by decide +kernel) (by decide +kernel)
set_option maxRecDepth 20000 in
theorem gX1_ballsOn_X2_placeOf : GoodIn wsX1_ballsOn (wsV RX1 58 RX2 yX2_placeOf wsX2_placeOf) := goodIn_app (goodIn_of _ (by decide +kernel)) ggX1_ballsOn_X2_placeOf
set_option maxRecDepth 20000 in
theorem ggX1_ballsOn_X2_numberOf : GoodIn wsX1_ballsOn wsX2_numberOf := goodIn_r _ [39, 20, 27, 28, 29, 14, 30, 21, 31, 44, 45, 46, 47] (by decide +kernel) (by decide +kernel)
set_option maxRecDepth 20000 in
theorem gX1_ballsOn_X2_numberOf : GoodIn wsX1_ballsOn (wsV RX1 73 RX2 yX2_numberOf wsX2_numberOf) := goodIn_app (goodIn_of _ (by decide +kernel)) ggX1_ballsOn_X2_numberOf
theorem dX1_ballsOn_0 : decode cX1_ballsOn 0 = .ok (.aload_n 0, 1) := by decide +kernel
theorem dX1_ballsOn_1 : decode cX1_ballsOn 1 = .ok (.getfield 9, 3) := by decide +kernel
theorem dX1_ballsOn_4 : decode cX1_ballsOn 4 = .ok (.iload_n 1, 1) := by decide +kernel
theorem dX1_ballsOn_5 : decode cX1_ballsOn 5 = .ok (.invokevirtual 52, 3) := by decide +kernel
theorem dX1_ballsOn_8 : decode cX1_ballsOn 8 = .ok (.iconst 1, 1) := by decide +kernel
theorem dX1_ballsOn_9 : decode cX1_ballsOn 9 = .ok (.iadd, 1) := by decide +kernel
theorem dX1_ballsOn_10 : decode cX1_ballsOn 10 = .ok (.istore_n 2, 1) := by decide +kernel
theorem dX1_ballsOn_11 : decode cX1_ballsOn 11 = .ok (.aload_n 0, 1) := by decide +kernel
theorem dX1_ballsOn_12 : decode cX1_ballsOn 12 = .ok (.getfield 9, 3) := by decide +kernel
theorem dX1_ballsOn_15 : decode cX1_ballsOn 15 = .ok (.iload_n 1, 1) := by decide +kernel
theorem dX1_ballsOn_16 : decode cX1_ballsOn 16 = .ok (.invokevirtual 55, 3) := by decide +kernel
theorem dX1_ballsOn_19 : decode cX1_ballsOn 19 = .ok (.istore_n 3, 1) := by decide +kernel
theorem dX1_ballsOn_20 : decode cX1_ballsOn 20 = .ok (.aload_n 0, 1) := by decide +kernel
theorem dX1_ballsOn_21 : decode cX1_ballsOn 21 = .ok (.getfield 9, 3) := by decide +kernel
theorem dX1_ballsOn_24 : decode cX1_ballsOn 24 = .ok (.iload_n 1, 1) := by decide +kernel
theorem dX1_ballsOn_25 : decode cX1_ballsOn 25 = .ok (.invokevirtual 58, 3) := by decide +kernel
theorem dX1_ballsOn_28 : decode cX1_ballsOn 28 = .ok (.istore 4, 2) := by decide +kernel
theorem dX1_ballsOn_30 : decode cX1_ballsOn 30 = .ok (.aload_n 0, 1) := by decide +kernel
theorem dX1_ballsOn_31 : decode cX1_ballsOn 31 = .ok (.getfield 9, 3) := by decide +kernel
theorem dX1_ballsOn_34 : decode cX1_ballsOn 34 = .ok (.getfield 61, 3) := by decide +kernel
theorem dX1_ballsOn_37 : decode cX1_ballsOn 37 = .ok (.iload_n 2, 1) := by decide +kernel
theorem dX1_ballsOn_38 : decode cX1_ballsOn 38 = .ok (.isub, 1) := by decide +kernel
theorem dX1_ballsOn_39 : decode cX1_ballsOn 39 = .ok (.iconst 1, 1) := by decide +kernel
theorem dX1_ballsOn_40 : decode cX1_ballsOn 40 = .ok (.isub, 1) := by decide +kernel
theorem dX1_ballsOn_41 : decode cX1_ballsOn 41 = .ok (.istore 5, 2) := by decide +kernel
theorem dX1_ballsOn_43 : decode cX1_ballsOn 43 = .ok (.iconst 0, 1) := by decide +kernel
theorem dX1_ballsOn_44 : decode cX1_ballsOn 44 = .ok (.istore 6, 2) := by decide +kernel
theorem dX1_ballsOn_46 : decode cX1_ballsOn 46 = .ok (.iload_n 3, 1) := by decide +kernel
theorem dX1_ballsOn_47 : decode cX1_ballsOn 47 = .ok (.iconst 1, 1) := by decide +kernel
theorem dX1_ballsOn_48 : decode cX1_ballsOn 48 = .ok (.isub, 1) := by decide +kernel
theorem dX1_ballsOn_49 : decode cX1_ballsOn 49 = .ok (.iconst 0, 1) := by decide +kernel
theorem dX1_ballsOn_50 : decode cX1_ballsOn 50 = .ok (.invokestatic 64, 3) := by decide +kernel
theorem dX1_ballsOn_53 : decode cX1_ballsOn 53 = .ok (.istore 7, 2) := by decide +kernel
theorem dX1_ballsOn_55 : decode cX1_ballsOn 55 = .ok (.iload 7, 2) := by decide +kernel
theorem dX1_ballsOn_57 : decode cX1_ballsOn 57 = .ok (.iload_n 3, 1) := by decide +kernel
theorem dX1_ballsOn_58 : decode cX1_ballsOn 58 = .ok (.iload 5, 2) := by decide +kernel
theorem dX1_ballsOn_60 : decode cX1_ballsOn 60 = .ok (.invokestatic 70, 3) := by decide +kernel
theorem dX1_ballsOn_63 : decode cX1_ballsOn 63 = .ok (.if_icmp .gt 59, 3) := by decide +kernel
theorem dX1_ballsOn_66 : decode cX1_ballsOn 66 = .ok (.iload 4, 2) := by decide +kernel
theorem dX1_ballsOn_68 : decode cX1_ballsOn 68 = .ok (.iconst 1, 1) := by decide +kernel
theorem dX1_ballsOn_69 : decode cX1_ballsOn 69 = .ok (.isub, 1) := by decide +kernel
theorem dX1_ballsOn_70 : decode cX1_ballsOn 70 = .ok (.iconst 0, 1) := by decide +kernel
theorem dX1_ballsOn_71 : decode cX1_ballsOn 71 = .ok (.invokestatic 64, 3) := by decide +kernel
theorem dX1_ballsOn_74 : decode cX1_ballsOn 74 = .ok (.istore 8, 2) := by decide +kernel
theorem dX1_ballsOn_76 : decode cX1_ballsOn 76 = .ok (.iload 8, 2) := by decide +kernel
theorem dX1_ballsOn_78 : decode cX1_ballsOn 78 = .ok (.iload 4, 2) := by decide +kernel
theorem dX1_ballsOn_80 : decode cX1_ballsOn 80 = .ok (.iload 5, 2) := by decide +kernel
theorem dX1_ballsOn_82 : decode cX1_ballsOn 82 = .ok (.invokestatic 70, 3) := by decide +kernel
theorem dX1_ballsOn_85 : decode cX1_ballsOn 85 = .ok (.if_icmp .gt 31, 3) := by decide +kernel
theorem dX1_ballsOn_88 : decode cX1_ballsOn 88 = .ok (.aload_n 0, 1) := by decide +kernel
theorem dX1_ballsOn_89 : decode cX1_ballsOn 89 = .ok (.getfield 9, 3) := by decide +kernel
theorem dX1_ballsOn_92 : decode cX1_ballsOn 92 = .ok (.iload_n 2, 1) := by decide +kernel
theorem dX1_ballsOn_93 : decode cX1_ballsOn 93 = .ok (.iload 7, 2) := by decide +kernel
theorem dX1_ballsOn_95 : decode cX1_ballsOn 95 = .ok (.iload 8, 2) := by decide +kernel
theorem dX1_ballsOn_97 : decode cX1_ballsOn 97 = .ok (.invokevirtual 73, 3) := by decide +kernel
theorem dX1_ballsOn_100 : decode cX1_ballsOn 100 = .ok (.aload_n 0, 1) := by decide +kernel
theorem dX1_ballsOn_101 : decode cX1_ballsOn 101 = .ok (.getfield 23, 3) := by decide +kernel
theorem dX1_ballsOn_104 : decode cX1_ballsOn 104 = .ok (.if_icmp .ge 6, 3) := by decide +kernel
theorem dX1_ballsOn_107 : decode cX1_ballsOn 107 = .ok (.iinc 6 1, 3) := by decide +kernel
theorem dX1_ballsOn_110 : decode cX1_ballsOn 110 = .ok (.iinc 8 1, 3) := by decide +kernel
theorem dX1_ballsOn_113 : decode cX1_ballsOn 113 = .ok (.goto (-37), 3) := by decide +kernel
theorem dX1_ballsOn_116 : decode cX1_ballsOn 116 = .ok (.iinc 7 1, 3) := by decide +kernel
theorem dX1_ballsOn_119 : decode cX1_ballsOn 119 = .ok (.goto (-64), 3) := by decide +kernel
theorem dX1_ballsOn_122 : decode cX1_ballsOn 122 = .ok (.iload 6, 2) := by decide +kernel
theorem dX1_ballsOn_124 : decode cX1_ballsOn 124 = .ok (.ireturn, 1) := by decide +kernel
set_option maxRecDepth 20000 in
theorem ggX1_hasBrokenLayer_X2_layersBegun : GoodIn wsX1_hasBrokenLayer wsX2_layersBegun := goodIn_r _ [7, 8, 9, 18, 19, 20, 21] (by decide +kernel) (by decide +kernel)
set_option maxRecDepth 20000 in
theorem gX1_hasBrokenLayer_X2_layersBegun : GoodIn wsX1_hasBrokenLayer (wsV RX1 77 RX2 yX2_layersBegun wsX2_layersBegun) := goodIn_app (goodIn_of _ (by decide +kernel)) ggX1_hasBrokenLayer_X2_layersBegun
set_option maxRecDepth 20000 in
theorem ggX1_hasBrokenLayer_X2_layersFull : GoodIn wsX1_hasBrokenLayer wsX2_layersFull := goodIn_r _ [13, 8, 9, 18, 19, 20, 21] (by decide +kernel) (by decide +kernel)
set_option maxRecDepth 20000 in
theorem gX1_hasBrokenLayer_X2_layersFull : GoodIn wsX1_hasBrokenLayer (wsV RX1 80 RX2 yX2_layersFull wsX2_layersFull) := goodIn_app (goodIn_of _ (by decide +kernel)) ggX1_hasBrokenLayer_X2_layersFull
theorem dX1_hasBrokenLayer_0 : decode cX1_hasBrokenLayer 0 = .ok (.aload_n 0, 1) := by decide +kernel
theorem dX1_hasBrokenLayer_1 : decode cX1_hasBrokenLayer 1 = .ok (.getfield 9, 3) := by decide +kernel
theorem dX1_hasBrokenLayer_4 : decode cX1_hasBrokenLayer 4 = .ok (.aload_n 0, 1) := by decide +kernel
theorem dX1_hasBrokenLayer_5 : decode cX1_hasBrokenLayer 5 = .ok (.getfield 23, 3) := by decide +kernel
theorem dX1_hasBrokenLayer_8 : decode cX1_hasBrokenLayer 8 = .ok (.invokevirtual 77, 3) := by decide +kernel
theorem dX1_hasBrokenLayer_11 : decode cX1_hasBrokenLayer 11 = .ok (.aload_n 0, 1) := by decide +kernel
theorem dX1_hasBrokenLayer_12 : decode cX1_hasBrokenLayer 12 = .ok (.getfield 9, 3) := by decide +kernel
theorem dX1_hasBrokenLayer_15 : decode cX1_hasBrokenLayer 15 = .ok (.aload_n 0, 1) := by decide +kernel
theorem dX1_hasBrokenLayer_16 : decode cX1_hasBrokenLayer 16 = .ok (.getfield 23, 3) := by decide +kernel
theorem dX1_hasBrokenLayer_19 : decode cX1_hasBrokenLayer 19 = .ok (.invokevirtual 80, 3) := by decide +kernel
theorem dX1_hasBrokenLayer_22 : decode cX1_hasBrokenLayer 22 = .ok (.if_icmp .eq 7, 3) := by decide +kernel
theorem dX1_hasBrokenLayer_25 : decode cX1_hasBrokenLayer 25 = .ok (.iconst 1, 1) := by decide +kernel
theorem dX1_hasBrokenLayer_26 : decode cX1_hasBrokenLayer 26 = .ok (.goto 4, 3) := by decide +kernel
theorem dX1_hasBrokenLayer_29 : decode cX1_hasBrokenLayer 29 = .ok (.iconst 0, 1) := by decide +kernel
theorem dX1_hasBrokenLayer_30 : decode cX1_hasBrokenLayer 30 = .ok (.ireturn, 1) := by decide +kernel
set_option maxRecDepth 20000 in
theorem ggX1_bareBalls_X1_isCovered : GoodIn wsX1_bareBalls wsX1_isCovered := goodIn_r _ [6, 7, 1, 8, 9, 10, 11, 12, 13, 14, 15, 16, 17, 18, 19, 20, 21, 22] (by decide +kernel) (by decide +kernel)
set_option maxRecDepth 20000 in
theorem gX1_bareBalls_X1_isCovered : GoodIn wsX1_bareBalls (wsV RX1 83 RX1 yX1_isCovered wsX1_isCovered) := goodIn_app (goodIn_of _ (by decide +kernel)) ggX1_bareBalls_X1_isCovered
theorem dX1_bareBalls_0 : decode cX1_bareBalls 0 = .ok (.iconst 0, 1) := by decide +kernel
theorem dX1_bareBalls_1 : decode cX1_bareBalls 1 = .ok (.istore_n 1, 1) := by decide +kernel
theorem dX1_bareBalls_2 : decode cX1_bareBalls 2 = .ok (.iconst 0, 1) := by decide +kernel
theorem dX1_bareBalls_3 : decode cX1_bareBalls 3 = .ok (.istore_n 2, 1) := by decide +kernel
theorem dX1_bareBalls_4 : decode cX1_bareBalls 4 = .ok (.iload_n 2, 1) := by decide +kernel
theorem dX1_bareBalls_5 : decode cX1_bareBalls 5 = .ok (.aload_n 0, 1) := by decide +kernel
theorem dX1_bareBalls_6 : decode cX1_bareBalls 6 = .ok (.getfield 23, 3) := by decide +kernel
theorem dX1_bareBalls_9 : decode cX1_bareBalls 9 = .ok (.if_icmp .ge 20, 3) := by decide +kernel
theorem dX1_bareBalls_12 : decode cX1_bareBalls 12 = .ok (.aload_n 0, 1) := by decide +kernel
theorem dX1_bareBalls_13 : decode cX1_bareBalls 13 = .ok (.iload_n 2, 1) := by decide +kernel
theorem dX1_bareBalls_14 : decode cX1_bareBalls 14 = .ok (.invokevirtual 83, 3) := by decide +kernel
theorem dX1_bareBalls_17 : decode cX1_bareBalls 17 = .ok (.ifCond .ne 6, 3) := by decide +kernel
theorem dX1_bareBalls_20 : decode cX1_bareBalls 20 = .ok (.iinc 1 1, 3) := by decide +kernel
theorem dX1_bareBalls_23 : decode cX1_bareBalls 23 = .ok (.iinc 2 1, 3) := by decide +kernel
theorem dX1_bareBalls_26 : decode cX1_bareBalls 26 = .ok (.goto (-22), 3) := by decide +kernel
theorem dX1_bareBalls_29 : decode cX1_bareBalls 29 = .ok (.iload_n 1, 1) := by decide +kernel
theorem dX1_bareBalls_30 : decode cX1_bareBalls 30 = .ok (.ireturn, 1) := by decide +kernel
set_option maxRecDepth 20000 in
theorem ggX1_rustyBalls_X1_rustOf : GoodIn wsX1_rustyBalls wsX1_rustOf := goodIn_r _ [6, 7, 8, 9, 10, 11] (by decide +kernel) (by decide +kernel)
set_option maxRecDepth 20000 in
theorem gX1_rustyBalls_X1_rustOf : GoodIn wsX1_rustyBalls (wsV RX1 45 RX1 yX1_rustOf wsX1_rustOf) := goodIn_app (goodIn_of _ (by decide +kernel)) ggX1_rustyBalls_X1_rustOf
theorem dX1_rustyBalls_0 : decode cX1_rustyBalls 0 = .ok (.iconst 0, 1) := by decide +kernel
theorem dX1_rustyBalls_1 : decode cX1_rustyBalls 1 = .ok (.istore_n 2, 1) := by decide +kernel
theorem dX1_rustyBalls_2 : decode cX1_rustyBalls 2 = .ok (.iconst 0, 1) := by decide +kernel
theorem dX1_rustyBalls_3 : decode cX1_rustyBalls 3 = .ok (.istore_n 3, 1) := by decide +kernel
theorem dX1_rustyBalls_4 : decode cX1_rustyBalls 4 = .ok (.iload_n 3, 1) := by decide +kernel
theorem dX1_rustyBalls_5 : decode cX1_rustyBalls 5 = .ok (.aload_n 0, 1) := by decide +kernel
theorem dX1_rustyBalls_6 : decode cX1_rustyBalls 6 = .ok (.getfield 23, 3) := by decide +kernel
theorem dX1_rustyBalls_9 : decode cX1_rustyBalls 9 = .ok (.if_icmp .ge 21, 3) := by decide +kernel
theorem dX1_rustyBalls_12 : decode cX1_rustyBalls 12 = .ok (.aload_n 0, 1) := by decide +kernel
theorem dX1_rustyBalls_13 : decode cX1_rustyBalls 13 = .ok (.iload_n 3, 1) := by decide +kernel
theorem dX1_rustyBalls_14 : decode cX1_rustyBalls 14 = .ok (.invokevirtual 45, 3) := by decide +kernel
theorem dX1_rustyBalls_17 : decode cX1_rustyBalls 17 = .ok (.iload_n 1, 1) := by decide +kernel
theorem dX1_rustyBalls_18 : decode cX1_rustyBalls 18 = .ok (.if_icmp .lt 6, 3) := by decide +kernel
theorem dX1_rustyBalls_21 : decode cX1_rustyBalls 21 = .ok (.iinc 2 1, 3) := by decide +kernel
theorem dX1_rustyBalls_24 : decode cX1_rustyBalls 24 = .ok (.iinc 3 1, 3) := by decide +kernel
theorem dX1_rustyBalls_27 : decode cX1_rustyBalls 27 = .ok (.goto (-23), 3) := by decide +kernel
theorem dX1_rustyBalls_30 : decode cX1_rustyBalls 30 = .ok (.iload_n 2, 1) := by decide +kernel
theorem dX1_rustyBalls_31 : decode cX1_rustyBalls 31 = .ok (.ireturn, 1) := by decide +kernel
set_option maxRecDepth 20000 in
theorem ggX1_greatestRust_X1_rustOf : GoodIn wsX1_greatestRust wsX1_rustOf := goodIn_r _ [10, 11, 12, 13, 14, 15] (by decide +kernel) (by decide +kernel)
set_option maxRecDepth 20000 in
theorem gX1_greatestRust_X1_rustOf : GoodIn wsX1_greatestRust (wsV RX1 45 RX1 yX1_rustOf wsX1_rustOf) := goodIn_app (goodIn_of _ (by decide +kernel)) ggX1_greatestRust_X1_rustOf
theorem dX1_greatestRust_0 : decode cX1_greatestRust 0 = .ok (.iconst 0, 1) := by decide +kernel
theorem dX1_greatestRust_1 : decode cX1_greatestRust 1 = .ok (.istore_n 1, 1) := by decide +kernel
theorem dX1_greatestRust_2 : decode cX1_greatestRust 2 = .ok (.iconst 0, 1) := by decide +kernel
theorem dX1_greatestRust_3 : decode cX1_greatestRust 3 = .ok (.istore_n 2, 1) := by decide +kernel
theorem dX1_greatestRust_4 : decode cX1_greatestRust 4 = .ok (.iload_n 2, 1) := by decide +kernel
theorem dX1_greatestRust_5 : decode cX1_greatestRust 5 = .ok (.aload_n 0, 1) := by decide +kernel
theorem dX1_greatestRust_6 : decode cX1_greatestRust 6 = .ok (.getfield 23, 3) := by decide +kernel
theorem dX1_greatestRust_9 : decode cX1_greatestRust 9 = .ok (.if_icmp .ge 19, 3) := by decide +kernel
theorem dX1_greatestRust_12 : decode cX1_greatestRust 12 = .ok (.iload_n 1, 1) := by decide +kernel
theorem dX1_greatestRust_13 : decode cX1_greatestRust 13 = .ok (.aload_n 0, 1) := by decide +kernel
theorem dX1_greatestRust_14 : decode cX1_greatestRust 14 = .ok (.iload_n 2, 1) := by decide +kernel
theorem dX1_greatestRust_15 : decode cX1_greatestRust 15 = .ok (.invokevirtual 45, 3) := by decide +kernel
theorem dX1_greatestRust_18 : decode cX1_greatestRust 18 = .ok (.invokestatic 64, 3) := by decide +kernel
theorem dX1_greatestRust_21 : decode cX1_greatestRust 21 = .ok (.istore_n 1, 1) := by decide +kernel
theorem dX1_greatestRust_22 : decode cX1_greatestRust 22 = .ok (.iinc 2 1, 3) := by decide +kernel
theorem dX1_greatestRust_25 : decode cX1_greatestRust 25 = .ok (.goto (-21), 3) := by decide +kernel
theorem dX1_greatestRust_28 : decode cX1_greatestRust 28 = .ok (.iload_n 1, 1) := by decide +kernel
theorem dX1_greatestRust_29 : decode cX1_greatestRust 29 = .ok (.ireturn, 1) := by decide +kernel
set_option maxRecDepth 20000 in
theorem ggX1_allRust_X1_rustOf : GoodIn wsX1_allRust wsX1_rustOf := goodIn_r _ [6, 7, 8, 9, 10, 11] (by decide +kernel) (by decide +kernel)
set_option maxRecDepth 20000 in
theorem gX1_allRust_X1_rustOf : GoodIn wsX1_allRust (wsV RX1 45 RX1 yX1_rustOf wsX1_rustOf) := goodIn_app (goodIn_of _ (by decide +kernel)) ggX1_allRust_X1_rustOf
theorem dX1_allRust_0 : decode cX1_allRust 0 = .ok (.iconst 0, 1) := by decide +kernel
theorem dX1_allRust_1 : decode cX1_allRust 1 = .ok (.istore_n 1, 1) := by decide +kernel
theorem dX1_allRust_2 : decode cX1_allRust 2 = .ok (.iconst 0, 1) := by decide +kernel
theorem dX1_allRust_3 : decode cX1_allRust 3 = .ok (.istore_n 2, 1) := by decide +kernel
theorem dX1_allRust_4 : decode cX1_allRust 4 = .ok (.iload_n 2, 1) := by decide +kernel
theorem dX1_allRust_5 : decode cX1_allRust 5 = .ok (.aload_n 0, 1) := by decide +kernel
theorem dX1_allRust_6 : decode cX1_allRust 6 = .ok (.getfield 23, 3) := by decide +kernel
theorem dX1_allRust_9 : decode cX1_allRust 9 = .ok (.if_icmp .ge 17, 3) := by decide +kernel
theorem dX1_allRust_12 : decode cX1_allRust 12 = .ok (.iload_n 1, 1) := by decide +kernel
theorem dX1_allRust_13 : decode cX1_allRust 13 = .ok (.aload_n 0, 1) := by decide +kernel
theorem dX1_allRust_14 : decode cX1_allRust 14 = .ok (.iload_n 2, 1) := by decide +kernel
theorem dX1_allRust_15 : decode cX1_allRust 15 = .ok (.invokevirtual 45, 3) := by decide +kernel
theorem dX1_allRust_18 : decode cX1_allRust 18 = .ok (.iadd, 1) := by decide +kernel
theorem dX1_allRust_19 : decode cX1_allRust 19 = .ok (.istore_n 1, 1) := by decide +kernel
theorem dX1_allRust_20 : decode cX1_allRust 20 = .ok (.iinc 2 1, 3) := by decide +kernel
theorem dX1_allRust_23 : decode cX1_allRust 23 = .ok (.goto (-19), 3) := by decide +kernel
theorem dX1_allRust_26 : decode cX1_allRust 26 = .ok (.iload_n 1, 1) := by decide +kernel
theorem dX1_allRust_27 : decode cX1_allRust 27 = .ok (.ireturn, 1) := by decide +kernel
set_option maxRecDepth 20000 in
theorem ggX1_scourBare_X1_isCovered : GoodIn wsX1_scourBare wsX1_isCovered := goodIn_r _ [10, 11, 1, 12, 13, 14, 15, 16, 17, 18, 28, 29, 30, 31, 32, 33, 34, 35] (by decide +kernel) (by decide +kernel)
set_option maxRecDepth 20000 in
theorem gX1_scourBare_X1_isCovered : GoodIn wsX1_scourBare (wsV RX1 83 RX1 yX1_isCovered wsX1_isCovered) := goodIn_app (goodIn_of _ (by decide +kernel)) ggX1_scourBare_X1_isCovered
set_option maxRecDepth 20000 in
theorem ggX1_scourBare_X1_rustOf : GoodIn wsX1_scourBare wsX1_rustOf := goodIn_r _ [22, 23, 28, 29, 30, 31] (by decide +kernel) (by decide +kernel)
set_option maxRecDepth 20000 in
theorem gX1_scourBare_X1_rustOf : GoodIn wsX1_scourBare (wsV RX1 45 RX1 yX1_rustOf wsX1_rustOf) := goodIn_app (goodIn_of _ (by decide +kernel)) ggX1_scourBare_X1_rustOf
set_option maxRecDepth 20000 in
theorem ggX1_scourBare_X1_setRust : GoodIn wsX1_scourBare wsX1_setRust := goodIn_r _ [27, 23, 28, 29, 30, 31] (by decide +kernel) (by decide +kernel)
set_option maxRecDepth 20000 in
theorem gX1_scourBare_X1_setRust : GoodIn wsX1_scourBare (wsV RX1 41 RX1 yX1_setRust wsX1_setRust) := goodIn_app (goodIn_of _ (by decide +kernel)) ggX1_scourBare_X1_setRust
theorem dX1_scourBare_0 : decode cX1_scourBare 0 = .ok (.iconst 0, 1) := by decide +kernel
theorem dX1_scourBare_1 : decode cX1_scourBare 1 = .ok (.istore_n 1, 1) := by decide +kernel
theorem dX1_scourBare_2 : decode cX1_scourBare 2 = .ok (.iconst 0, 1) := by decide +kernel
theorem dX1_scourBare_3 : decode cX1_scourBare 3 = .ok (.istore_n 2, 1) := by decide +kernel
theorem dX1_scourBare_4 : decode cX1_scourBare 4 = .ok (.iload_n 2, 1) := by decide +kernel
theorem dX1_scourBare_5 : decode cX1_scourBare 5 = .ok (.aload_n 0, 1) := by decide +kernel
theorem dX1_scourBare_6 : decode cX1_scourBare 6 = .ok (.getfield 23, 3) := by decide +kernel
theorem dX1_scourBare_9 : decode cX1_scourBare 9 = .ok (.if_icmp .ge 44, 3) := by decide +kernel
theorem dX1_scourBare_12 : decode cX1_scourBare 12 = .ok (.aload_n 0, 1) := by decide +kernel
theorem dX1_scourBare_13 : decode cX1_scourBare 13 = .ok (.iload_n 2, 1) := by decide +kernel
theorem dX1_scourBare_14 : decode cX1_scourBare 14 = .ok (.invokevirtual 83, 3) := by decide +kernel
theorem dX1_scourBare_17 : decode cX1_scourBare 17 = .ok (.ifCond .ne 30, 3) := by decide +kernel
theorem dX1_scourBare_20 : decode cX1_scourBare 20 = .ok (.aload_n 0, 1) := by decide +kernel
theorem dX1_scourBare_21 : decode cX1_scourBare 21 = .ok (.iload_n 2, 1) := by decide +kernel
theorem dX1_scourBare_22 : decode cX1_scourBare 22 = .ok (.invokevirtual 45, 3) := by decide +kernel
theorem dX1_scourBare_25 : decode cX1_scourBare 25 = .ok (.istore_n 3, 1) := by decide +kernel
theorem dX1_scourBare_26 : decode cX1_scourBare 26 = .ok (.iload_n 3, 1) := by decide +kernel
theorem dX1_scourBare_27 : decode cX1_scourBare 27 = .ok (.iconst 3, 1) := by decide +kernel
theorem dX1_scourBare_28 : decode cX1_scourBare 28 = .ok (.invokestatic 70, 3) := by decide +kernel
theorem dX1_scourBare_31 : decode cX1_scourBare 31 = .ok (.istore 4, 2) := by decide +kernel
theorem dX1_scourBare_33 : decode cX1_scourBare 33 = .ok (.aload_n 0, 1) := by decide +kernel
theorem dX1_scourBare_34 : decode cX1_scourBare 34 = .ok (.iload_n 2, 1) := by decide +kernel
theorem dX1_scourBare_35 : decode cX1_scourBare 35 = .ok (.iload_n 3, 1) := by decide +kernel
theorem dX1_scourBare_36 : decode cX1_scourBare 36 = .ok (.iload 4, 2) := by decide +kernel
theorem dX1_scourBare_38 : decode cX1_scourBare 38 = .ok (.isub, 1) := by decide +kernel
theorem dX1_scourBare_39 : decode cX1_scourBare 39 = .ok (.invokevirtual 41, 3) := by decide +kernel
theorem dX1_scourBare_42 : decode cX1_scourBare 42 = .ok (.iload_n 1, 1) := by decide +kernel
theorem dX1_scourBare_43 : decode cX1_scourBare 43 = .ok (.iload 4, 2) := by decide +kernel
theorem dX1_scourBare_45 : decode cX1_scourBare 45 = .ok (.iadd, 1) := by decide +kernel
theorem dX1_scourBare_46 : decode cX1_scourBare 46 = .ok (.istore_n 1, 1) := by decide +kernel
theorem dX1_scourBare_47 : decode cX1_scourBare 47 = .ok (.iinc 2 1, 3) := by decide +kernel
theorem dX1_scourBare_50 : decode cX1_scourBare 50 = .ok (.goto (-46), 3) := by decide +kernel
theorem dX1_scourBare_53 : decode cX1_scourBare 53 = .ok (.iload_n 1, 1) := by decide +kernel
theorem dX1_scourBare_54 : decode cX1_scourBare 54 = .ok (.ireturn, 1) := by decide +kernel
set_option maxRecDepth 20000 in
theorem ggX1_throwAway_X1_rustOf : GoodIn wsX1_throwAway wsX1_rustOf := goodIn_r _ [6, 7, 12, 13, 14, 15] (by decide +kernel) (by decide +kernel)
set_option maxRecDepth 20000 in
theorem gX1_throwAway_X1_rustOf : GoodIn wsX1_throwAway (wsV RX1 45 RX1 yX1_rustOf wsX1_rustOf) := goodIn_app (goodIn_of _ (by decide +kernel)) ggX1_throwAway_X1_rustOf
set_option maxRecDepth 20000 in
theorem ggX1_throwAway_X1_setRust : GoodIn wsX1_throwAway wsX1_setRust := goodIn_r _ [11, 7, 12, 13, 14, 15] (by decide +kernel) (by decide +kernel)
set_option maxRecDepth 20000 in
theorem gX1_throwAway_X1_setRust : GoodIn wsX1_throwAway (wsV RX1 41 RX1 yX1_setRust wsX1_setRust) := goodIn_app (goodIn_of _ (by decide +kernel)) ggX1_throwAway_X1_setRust
theorem dX1_throwAway_0 : decode cX1_throwAway 0 = .ok (.iconst 0, 1) := by decide +kernel
theorem dX1_throwAway_1 : decode cX1_throwAway 1 = .ok (.istore_n 2, 1) := by decide +kernel
theorem dX1_throwAway_2 : decode cX1_throwAway 2 = .ok (.iconst 0, 1) := by decide +kernel
theorem dX1_throwAway_3 : decode cX1_throwAway 3 = .ok (.istore_n 3, 1) := by decide +kernel
theorem dX1_throwAway_4 : decode cX1_throwAway 4 = .ok (.iload_n 3, 1) := by decide +kernel
theorem dX1_throwAway_5 : decode cX1_throwAway 5 = .ok (.aload_n 0, 1) := by decide +kernel
theorem dX1_throwAway_6 : decode cX1_throwAway 6 = .ok (.getfield 23, 3) := by decide +kernel
theorem dX1_throwAway_9 : decode cX1_throwAway 9 = .ok (.if_icmp .ge 32, 3) := by decide +kernel
theorem dX1_throwAway_12 : decode cX1_throwAway 12 = .ok (.aload_n 0, 1) := by decide +kernel
theorem dX1_throwAway_13 : decode cX1_throwAway 13 = .ok (.iload_n 3, 1) := by decide +kernel
theorem dX1_throwAway_14 : decode cX1_throwAway 14 = .ok (.invokevirtual 45, 3) := by decide +kernel
theorem dX1_throwAway_17 : decode cX1_throwAway 17 = .ok (.istore 4, 2) := by decide +kernel
theorem dX1_throwAway_19 : decode cX1_throwAway 19 = .ok (.iload 4, 2) := by decide +kernel
theorem dX1_throwAway_21 : decode cX1_throwAway 21 = .ok (.iload_n 1, 1) := by decide +kernel
theorem dX1_throwAway_22 : decode cX1_throwAway 22 = .ok (.if_icmp .ge 13, 3) := by decide +kernel
theorem dX1_throwAway_25 : decode cX1_throwAway 25 = .ok (.aload_n 0, 1) := by decide +kernel
theorem dX1_throwAway_26 : decode cX1_throwAway 26 = .ok (.iload_n 2, 1) := by decide +kernel
theorem dX1_throwAway_27 : decode cX1_throwAway 27 = .ok (.iload 4, 2) := by decide +kernel
theorem dX1_throwAway_29 : decode cX1_throwAway 29 = .ok (.invokevirtual 41, 3) := by decide +kernel
theorem dX1_throwAway_32 : decode cX1_throwAway 32 = .ok (.iinc 2 1, 3) := by decide +kernel
theorem dX1_throwAway_35 : decode cX1_throwAway 35 = .ok (.iinc 3 1, 3) := by decide +kernel
theorem dX1_throwAway_38 : decode cX1_throwAway 38 = .ok (.goto (-34), 3) := by decide +kernel
theorem dX1_throwAway_41 : decode cX1_throwAway 41 = .ok (.aload_n 0, 1) := by decide +kernel
theorem dX1_throwAway_42 : decode cX1_throwAway 42 = .ok (.getfield 23, 3) := by decide +kernel
theorem dX1_throwAway_45 : decode cX1_throwAway 45 = .ok (.iload_n 2, 1) := by decide +kernel
theorem dX1_throwAway_46 : decode cX1_throwAway 46 = .ok (.isub, 1) := by decide +kernel
theorem dX1_throwAway_47 : decode cX1_throwAway 47 = .ok (.istore_n 3, 1) := by decide +kernel
theorem dX1_throwAway_48 : decode cX1_throwAway 48 = .ok (.aload_n 0, 1) := by decide +kernel
theorem dX1_throwAway_49 : decode cX1_throwAway 49 = .ok (.iload_n 2, 1) := by decide +kernel
theorem dX1_throwAway_50 : decode cX1_throwAway 50 = .ok (.putfield 23, 3) := by decide +kernel
theorem dX1_throwAway_53 : decode cX1_throwAway 53 = .ok (.iload_n 3, 1) := by decide +kernel
theorem dX1_throwAway_54 : decode cX1_throwAway 54 = .ok (.ireturn, 1) := by decide +kernel
set_option maxRecDepth 20000 in
theorem ggX1_rustForADay_X1_isCovered : GoodIn wsX1_rustForADay wsX1_isCovered := goodIn_r _ [10, 11, 1, 12, 13, 14, 15, 16, 17, 18, 28, 29, 30, 31, 32, 33, 34, 35] (by decide +kernel) (by decide +kernel)
set_option maxRecDepth 20000 in
theorem gX1_rustForADay_X1_isCovered : GoodIn wsX1_rustForADay (wsV RX1 83 RX1 yX1_isCovered wsX1_isCovered) := goodIn_app (goodIn_of _ (by decide +kernel)) ggX1_rustForADay_X1_isCovered
set_option maxRecDepth 20000 in
theorem ggX1_rustForADay_X1_rustOf : GoodIn wsX1_rustForADay wsX1_rustOf := goodIn_r _ [22, 23, 28, 29, 30, 31] (by decide +kernel) (by decide +kernel)
set_option maxRecDepth 20000 in
theorem gX1_rustForADay_X1_rustOf : GoodIn wsX1_rustForADay (wsV RX1 45 RX1 yX1_rustOf wsX1_rustOf) := goodIn_app (goodIn_of _ (by decide +kernel)) ggX1_rustForADay_X1_rustOf
set_option maxRecDepth 20000 in
theorem ggX1_rustForADay_X1_setRust : GoodIn wsX1_rustForADay wsX1_setRust := goodIn_r _ [27, 23, 28, 29, 30, 31] (by decide +kernel) (by decide +kernel)
set_option maxRecDepth 20000 in
theorem gX1_rustForADay_X1_setRust : GoodIn wsX1_rustForADay (wsV RX1 41 RX1 yX1_setRust wsX1_setRust) := goodIn_app (goodIn_of _ (by decide +kernel)) ggX1_rustForADay_X1_setRust
theorem dX1_rustForADay_0 : decode cX1_rustForADay 0 = .ok (.iconst 0, 1) := by decide +kernel
theorem dX1_rustForADay_1 : decode cX1_rustForADay 1 = .ok (.istore_n 2, 1) := by decide +kernel
theorem dX1_rustForADay_2 : decode cX1_rustForADay 2 = .ok (.iload_n 2, 1) := by decide +kernel
theorem dX1_rustForADay_3 : decode cX1_rustForADay 3 = .ok (.aload_n 0, 1) := by decide +kernel
theorem dX1_rustForADay_4 : decode cX1_rustForADay 4 = .ok (.getfield 23, 3) := by decide +kernel
theorem dX1_rustForADay_7 : decode cX1_rustForADay 7 = .ok (.if_icmp .ge 44, 3) := by decide +kernel
theorem dX1_rustForADay_10 : decode cX1_rustForADay 10 = .ok (.aload_n 0, 1) := by decide +kernel
theorem dX1_rustForADay_11 : decode cX1_rustForADay 11 = .ok (.iload_n 2, 1) := by decide +kernel
theorem dX1_rustForADay_12 : decode cX1_rustForADay 12 = .ok (.invokevirtual 83, 3) := by decide +kernel
theorem dX1_rustForADay_15 : decode cX1_rustForADay 15 = .ok (.ifCond .eq 9, 3) := by decide +kernel
theorem dX1_rustForADay_18 : decode cX1_rustForADay 18 = .ok (.iload_n 1, 1) := by decide +kernel
theorem dX1_rustForADay_19 : decode cX1_rustForADay 19 = .ok (.iconst 2, 1) := by decide +kernel
theorem dX1_rustForADay_20 : decode cX1_rustForADay 20 = .ok (.idiv, 1) := by decide +kernel
theorem dX1_rustForADay_21 : decode cX1_rustForADay 21 = .ok (.goto 6, 3) := by decide +kernel
theorem dX1_rustForADay_24 : decode cX1_rustForADay 24 = .ok (.iconst 1, 1) := by decide +kernel
theorem dX1_rustForADay_25 : decode cX1_rustForADay 25 = .ok (.iload_n 1, 1) := by decide +kernel
theorem dX1_rustForADay_26 : decode cX1_rustForADay 26 = .ok (.iadd, 1) := by decide +kernel
theorem dX1_rustForADay_27 : decode cX1_rustForADay 27 = .ok (.istore_n 3, 1) := by decide +kernel
theorem dX1_rustForADay_28 : decode cX1_rustForADay 28 = .ok (.aload_n 0, 1) := by decide +kernel
theorem dX1_rustForADay_29 : decode cX1_rustForADay 29 = .ok (.iload_n 2, 1) := by decide +kernel
theorem dX1_rustForADay_30 : decode cX1_rustForADay 30 = .ok (.aload_n 0, 1) := by decide +kernel
theorem dX1_rustForADay_31 : decode cX1_rustForADay 31 = .ok (.iload_n 2, 1) := by decide +kernel
theorem dX1_rustForADay_32 : decode cX1_rustForADay 32 = .ok (.invokevirtual 45, 3) := by decide +kernel
theorem dX1_rustForADay_35 : decode cX1_rustForADay 35 = .ok (.iload_n 3, 1) := by decide +kernel
theorem dX1_rustForADay_36 : decode cX1_rustForADay 36 = .ok (.iadd, 1) := by decide +kernel
theorem dX1_rustForADay_37 : decode cX1_rustForADay 37 = .ok (.bipush 9, 2) := by decide +kernel
theorem dX1_rustForADay_39 : decode cX1_rustForADay 39 = .ok (.invokestatic 70, 3) := by decide +kernel
theorem dX1_rustForADay_42 : decode cX1_rustForADay 42 = .ok (.invokevirtual 41, 3) := by decide +kernel
theorem dX1_rustForADay_45 : decode cX1_rustForADay 45 = .ok (.iinc 2 1, 3) := by decide +kernel
theorem dX1_rustForADay_48 : decode cX1_rustForADay 48 = .ok (.goto (-46), 3) := by decide +kernel
theorem dX1_rustForADay_51 : decode cX1_rustForADay 51 = .ok (.return_, 1) := by decide +kernel
set_option maxRecDepth 20000 in
theorem ggX2_init_X2_squares : GoodIn wsX2_init wsX2_squares := goodIn_r _ [16] (by decide +kernel) (by decide +kernel)
set_option maxRecDepth 20000 in
theorem gX2_init_X2_squares : GoodIn wsX2_init (va_wsS RX2 13 yX2_squares wsX2_squares) := goodIn_app (goodIn_of _ (by decide +kernel)) ggX2_init_X2_squares
theorem dX2_init_0 : decode cX2_init 0 = .ok (.aload_n 0, 1) := by decide +kernel
theorem dX2_init_1 : decode cX2_init 1 = .ok (.invokespecial 1, 3) := by decide +kernel
theorem dX2_init_4 : decode cX2_init 4 = .ok (.aload_n 0, 1) := by decide +kernel
theorem dX2_init_5 : decode cX2_init 5 = .ok (.iload_n 1, 1) := by decide +kernel
theorem dX2_init_6 : decode cX2_init 6 = .ok (.putfield 7, 3) := by decide +kernel
theorem dX2_init_9 : decode cX2_init 9 = .ok (.aload_n 0, 1) := by decide +kernel
theorem dX2_init_10 : decode cX2_init 10 = .ok (.iload_n 1, 1) := by decide +kernel
theorem dX2_init_11 : decode cX2_init 11 = .ok (.invokestatic 13, 3) := by decide +kernel
theorem dX2_init_14 : decode cX2_init 14 = .ok (.putfield 17, 3) := by decide +kernel
theorem dX2_init_17 : decode cX2_init 17 = .ok (.aload_n 0, 1) := by decide +kernel
theorem dX2_init_18 : decode cX2_init 18 = .ok (.iload_n 1, 1) := by decide +kernel
theorem dX2_init_19 : decode cX2_init 19 = .ok (.iconst 1, 1) := by decide +kernel
theorem dX2_init_20 : decode cX2_init 20 = .ok (.iadd, 1) := by decide +kernel
theorem dX2_init_21 : decode cX2_init 21 = .ok (.newarray .int, 2) := by decide +kernel
theorem dX2_init_23 : decode cX2_init 23 = .ok (.putfield 20, 3) := by decide +kernel
theorem dX2_init_26 : decode cX2_init 26 = .ok (.iconst 0, 1) := by decide +kernel
theorem dX2_init_27 : decode cX2_init 27 = .ok (.istore_n 2, 1) := by decide +kernel
theorem dX2_init_28 : decode cX2_init 28 = .ok (.iload_n 2, 1) := by decide +kernel
theorem dX2_init_29 : decode cX2_init 29 = .ok (.iload_n 1, 1) := by decide +kernel
theorem dX2_init_30 : decode cX2_init 30 = .ok (.if_icmp .gt 26, 3) := by decide +kernel
theorem dX2_init_33 : decode cX2_init 33 = .ok (.aload_n 0, 1) := by decide +kernel
theorem dX2_init_34 : decode cX2_init 34 = .ok (.getfield 20, 3) := by decide +kernel
theorem dX2_init_37 : decode cX2_init 37 = .ok (.iload_n 2, 1) := by decide +kernel
theorem dX2_init_38 : decode cX2_init 38 = .ok (.aload_n 0, 1) := by decide +kernel
theorem dX2_init_39 : decode cX2_init 39 = .ok (.getfield 17, 3) := by decide +kernel
theorem dX2_init_42 : decode cX2_init 42 = .ok (.iload_n 1, 1) := by decide +kernel
theorem dX2_init_43 : decode cX2_init 43 = .ok (.iload_n 2, 1) := by decide +kernel
theorem dX2_init_44 : decode cX2_init 44 = .ok (.isub, 1) := by decide +kernel
theorem dX2_init_45 : decode cX2_init 45 = .ok (.invokestatic 13, 3) := by decide +kernel
theorem dX2_init_48 : decode cX2_init 48 = .ok (.isub, 1) := by decide +kernel
theorem dX2_init_49 : decode cX2_init 49 = .ok (.iastore, 1) := by decide +kernel
theorem dX2_init_50 : decode cX2_init 50 = .ok (.iinc 2 1, 3) := by decide +kernel
theorem dX2_init_53 : decode cX2_init 53 = .ok (.goto (-25), 3) := by decide +kernel
theorem dX2_init_56 : decode cX2_init 56 = .ok (.aload_n 0, 1) := by decide +kernel
theorem dX2_init_57 : decode cX2_init 57 = .ok (.aload_n 0, 1) := by decide +kernel
theorem dX2_init_58 : decode cX2_init 58 = .ok (.getfield 17, 3) := by decide +kernel
theorem dX2_init_61 : decode cX2_init 61 = .ok (.newarray .int, 2) := by decide +kernel
theorem dX2_init_63 : decode cX2_init 63 = .ok (.putfield 24, 3) := by decide +kernel
theorem dX2_init_66 : decode cX2_init 66 = .ok (.iconst 0, 1) := by decide +kernel
theorem dX2_init_67 : decode cX2_init 67 = .ok (.istore_n 2, 1) := by decide +kernel
theorem dX2_init_68 : decode cX2_init 68 = .ok (.iload_n 2, 1) := by decide +kernel
theorem dX2_init_69 : decode cX2_init 69 = .ok (.iload_n 1, 1) := by decide +kernel
theorem dX2_init_70 : decode cX2_init 70 = .ok (.if_icmp .ge 92, 3) := by decide +kernel
theorem dX2_init_73 : decode cX2_init 73 = .ok (.iload_n 1, 1) := by decide +kernel
theorem dX2_init_74 : decode cX2_init 74 = .ok (.iload_n 2, 1) := by decide +kernel
theorem dX2_init_75 : decode cX2_init 75 = .ok (.isub, 1) := by decide +kernel
theorem dX2_init_76 : decode cX2_init 76 = .ok (.istore_n 3, 1) := by decide +kernel
theorem dX2_init_77 : decode cX2_init 77 = .ok (.iconst 0, 1) := by decide +kernel
theorem dX2_init_78 : decode cX2_init 78 = .ok (.istore 4, 2) := by decide +kernel
theorem dX2_init_80 : decode cX2_init 80 = .ok (.iload 4, 2) := by decide +kernel
theorem dX2_init_82 : decode cX2_init 82 = .ok (.iload_n 3, 1) := by decide +kernel
theorem dX2_init_83 : decode cX2_init 83 = .ok (.if_icmp .ge 73, 3) := by decide +kernel
theorem dX2_init_86 : decode cX2_init 86 = .ok (.iconst 0, 1) := by decide +kernel
theorem dX2_init_87 : decode cX2_init 87 = .ok (.istore 5, 2) := by decide +kernel
theorem dX2_init_89 : decode cX2_init 89 = .ok (.iload 5, 2) := by decide +kernel
theorem dX2_init_91 : decode cX2_init 91 = .ok (.iload_n 3, 1) := by decide +kernel
theorem dX2_init_92 : decode cX2_init 92 = .ok (.if_icmp .ge 58, 3) := by decide +kernel
theorem dX2_init_95 : decode cX2_init 95 = .ok (.aload_n 0, 1) := by decide +kernel
theorem dX2_init_96 : decode cX2_init 96 = .ok (.getfield 24, 3) := by decide +kernel
theorem dX2_init_99 : decode cX2_init 99 = .ok (.aload_n 0, 1) := by decide +kernel
theorem dX2_init_100 : decode cX2_init 100 = .ok (.getfield 20, 3) := by decide +kernel
theorem dX2_init_103 : decode cX2_init 103 = .ok (.iload_n 2, 1) := by decide +kernel
theorem dX2_init_104 : decode cX2_init 104 = .ok (.iaload, 1) := by decide +kernel
theorem dX2_init_105 : decode cX2_init 105 = .ok (.iload 4, 2) := by decide +kernel
theorem dX2_init_107 : decode cX2_init 107 = .ok (.iload_n 3, 1) := by decide +kernel
theorem dX2_init_108 : decode cX2_init 108 = .ok (.imul, 1) := by decide +kernel
theorem dX2_init_109 : decode cX2_init 109 = .ok (.iadd, 1) := by decide +kernel
theorem dX2_init_110 : decode cX2_init 110 = .ok (.iload 5, 2) := by decide +kernel
theorem dX2_init_112 : decode cX2_init 112 = .ok (.iadd, 1) := by decide +kernel
theorem dX2_init_113 : decode cX2_init 113 = .ok (.aload_n 0, 1) := by decide +kernel
theorem dX2_init_114 : decode cX2_init 114 = .ok (.getfield 20, 3) := by decide +kernel
theorem dX2_init_117 : decode cX2_init 117 = .ok (.iload_n 2, 1) := by decide +kernel
theorem dX2_init_118 : decode cX2_init 118 = .ok (.iconst 1, 1) := by decide +kernel
theorem dX2_init_119 : decode cX2_init 119 = .ok (.iadd, 1) := by decide +kernel
theorem dX2_init_120 : decode cX2_init 120 = .ok (.iaload, 1) := by decide +kernel
theorem dX2_init_121 : decode cX2_init 121 = .ok (.iload 4, 2) := by decide +kernel
theorem dX2_init_123 : decode cX2_init 123 = .ok (.iconst 1, 1) := by decide +kernel
theorem dX2_init_124 : decode cX2_init 124 = .ok (.isub, 1) := by decide +kernel
theorem dX2_init_125 : decode cX2_init 125 = .ok (.iconst 0, 1) := by decide +kernel
theorem dX2_init_126 : decode cX2_init 126 = .ok (.invokestatic 27, 3) := by decide +kernel
theorem dX2_init_129 : decode cX2_init 129 = .ok (.iload_n 3, 1) := by decide +kernel
theorem dX2_init_130 : decode cX2_init 130 = .ok (.iconst 1, 1) := by decide +kernel
theorem dX2_init_131 : decode cX2_init 131 = .ok (.isub, 1) := by decide +kernel
theorem dX2_init_132 : decode cX2_init 132 = .ok (.imul, 1) := by decide +kernel
theorem dX2_init_133 : decode cX2_init 133 = .ok (.iadd, 1) := by decide +kernel
theorem dX2_init_134 : decode cX2_init 134 = .ok (.iload 5, 2) := by decide +kernel
theorem dX2_init_136 : decode cX2_init 136 = .ok (.iconst 1, 1) := by decide +kernel
theorem dX2_init_137 : decode cX2_init 137 = .ok (.isub, 1) := by decide +kernel
theorem dX2_init_138 : decode cX2_init 138 = .ok (.iconst 0, 1) := by decide +kernel
theorem dX2_init_139 : decode cX2_init 139 = .ok (.invokestatic 27, 3) := by decide +kernel
theorem dX2_init_142 : decode cX2_init 142 = .ok (.iadd, 1) := by decide +kernel
theorem dX2_init_143 : decode cX2_init 143 = .ok (.iastore, 1) := by decide +kernel
theorem dX2_init_144 : decode cX2_init 144 = .ok (.iinc 5 1, 3) := by decide +kernel
theorem dX2_init_147 : decode cX2_init 147 = .ok (.goto (-58), 3) := by decide +kernel
theorem dX2_init_150 : decode cX2_init 150 = .ok (.iinc 4 1, 3) := by decide +kernel
theorem dX2_init_153 : decode cX2_init 153 = .ok (.goto (-73), 3) := by decide +kernel
theorem dX2_init_156 : decode cX2_init 156 = .ok (.iinc 2 1, 3) := by decide +kernel
theorem dX2_init_159 : decode cX2_init 159 = .ok (.goto (-91), 3) := by decide +kernel
theorem dX2_init_162 : decode cX2_init 162 = .ok (.return_, 1) := by decide +kernel
theorem dX2_squares_0 : decode cX2_squares 0 = .ok (.iload_n 0, 1) := by decide +kernel
theorem dX2_squares_1 : decode cX2_squares 1 = .ok (.iload_n 0, 1) := by decide +kernel
theorem dX2_squares_2 : decode cX2_squares 2 = .ok (.iconst 1, 1) := by decide +kernel
theorem dX2_squares_3 : decode cX2_squares 3 = .ok (.iadd, 1) := by decide +kernel
theorem dX2_squares_4 : decode cX2_squares 4 = .ok (.imul, 1) := by decide +kernel
theorem dX2_squares_5 : decode cX2_squares 5 = .ok (.iconst 2, 1) := by decide +kernel
theorem dX2_squares_6 : decode cX2_squares 6 = .ok (.iload_n 0, 1) := by decide +kernel
theorem dX2_squares_7 : decode cX2_squares 7 = .ok (.imul, 1) := by decide +kernel
theorem dX2_squares_8 : decode cX2_squares 8 = .ok (.iconst 1, 1) := by decide +kernel
theorem dX2_squares_9 : decode cX2_squares 9 = .ok (.iadd, 1) := by decide +kernel
theorem dX2_squares_10 : decode cX2_squares 10 = .ok (.imul, 1) := by decide +kernel
theorem dX2_squares_11 : decode cX2_squares 11 = .ok (.bipush 6, 2) := by decide +kernel
theorem dX2_squares_13 : decode cX2_squares 13 = .ok (.idiv, 1) := by decide +kernel
theorem dX2_squares_14 : decode cX2_squares 14 = .ok (.ireturn, 1) := by decide +kernel
set_option maxRecDepth 20000 in
theorem ggX2_numberOf_X2_startOf : GoodIn wsX2_numberOf wsX2_startOf := goodIn_r _ [6, 7, 8, 9, 10, 11, 12] (by decide +kernel) (by decide +kernel)
set_option maxRecDepth 20000 in
theorem gX2_numberOf_X2_startOf : GoodIn wsX2_numberOf (wsV RX2 33 RX2 yX2_startOf wsX2_startOf) := goodIn_app (goodIn_of _ (by decide +kernel)) ggX2_numberOf_X2_startOf
theorem dX2_numberOf_0 : decode cX2_numberOf 0 = .ok (.aload_n 0, 1) := by decide +kernel
theorem dX2_numberOf_1 : decode cX2_numberOf 1 = .ok (.iload_n 1, 1) := by decide +kernel
theorem dX2_numberOf_2 : decode cX2_numberOf 2 = .ok (.invokevirtual 33, 3) := by decide +kernel
theorem dX2_numberOf_5 : decode cX2_numberOf 5 = .ok (.iload_n 2, 1) := by decide +kernel
theorem dX2_numberOf_6 : decode cX2_numberOf 6 = .ok (.aload_n 0, 1) := by decide +kernel
theorem dX2_numberOf_7 : decode cX2_numberOf 7 = .ok (.getfield 7, 3) := by decide +kernel
theorem dX2_numberOf_10 : decode cX2_numberOf 10 = .ok (.iload_n 1, 1) := by decide +kernel
theorem dX2_numberOf_11 : decode cX2_numberOf 11 = .ok (.isub, 1) := by decide +kernel
theorem dX2_numberOf_12 : decode cX2_numberOf 12 = .ok (.imul, 1) := by decide +kernel
theorem dX2_numberOf_13 : decode cX2_numberOf 13 = .ok (.iadd, 1) := by decide +kernel
theorem dX2_numberOf_14 : decode cX2_numberOf 14 = .ok (.iload_n 3, 1) := by decide +kernel
theorem dX2_numberOf_15 : decode cX2_numberOf 15 = .ok (.iadd, 1) := by decide +kernel
theorem dX2_numberOf_16 : decode cX2_numberOf 16 = .ok (.ireturn, 1) := by decide +kernel
theorem dX2_startOf_0 : decode cX2_startOf 0 = .ok (.iload_n 1, 1) := by decide +kernel
theorem dX2_startOf_1 : decode cX2_startOf 1 = .ok (.ifCond .lt 21, 3) := by decide +kernel
theorem dX2_startOf_4 : decode cX2_startOf 4 = .ok (.iload_n 1, 1) := by decide +kernel
theorem dX2_startOf_5 : decode cX2_startOf 5 = .ok (.aload_n 0, 1) := by decide +kernel
theorem dX2_startOf_6 : decode cX2_startOf 6 = .ok (.getfield 20, 3) := by decide +kernel
theorem dX2_startOf_9 : decode cX2_startOf 9 = .ok (.arraylength, 1) := by decide +kernel
theorem dX2_startOf_10 : decode cX2_startOf 10 = .ok (.if_icmp .ge 12, 3) := by decide +kernel
theorem dX2_startOf_13 : decode cX2_startOf 13 = .ok (.aload_n 0, 1) := by decide +kernel
theorem dX2_startOf_14 : decode cX2_startOf 14 = .ok (.getfield 20, 3) := by decide +kernel
theorem dX2_startOf_17 : decode cX2_startOf 17 = .ok (.iload_n 1, 1) := by decide +kernel
theorem dX2_startOf_18 : decode cX2_startOf 18 = .ok (.iaload, 1) := by decide +kernel
theorem dX2_startOf_19 : decode cX2_startOf 19 = .ok (.goto 7, 3) := by decide +kernel
theorem dX2_startOf_22 : decode cX2_startOf 22 = .ok (.aload_n 0, 1) := by decide +kernel
theorem dX2_startOf_23 : decode cX2_startOf 23 = .ok (.getfield 17, 3) := by decide +kernel
theorem dX2_startOf_26 : decode cX2_startOf 26 = .ok (.ireturn, 1) := by decide +kernel
theorem dX2_firstOn_0 : decode cX2_firstOn 0 = .ok (.iload_n 1, 1) := by decide +kernel
theorem dX2_firstOn_1 : decode cX2_firstOn 1 = .ok (.ifCond .lt 21, 3) := by decide +kernel
theorem dX2_firstOn_4 : decode cX2_firstOn 4 = .ok (.iload_n 1, 1) := by decide +kernel
theorem dX2_firstOn_5 : decode cX2_firstOn 5 = .ok (.aload_n 0, 1) := by decide +kernel
theorem dX2_firstOn_6 : decode cX2_firstOn 6 = .ok (.getfield 24, 3) := by decide +kernel
theorem dX2_firstOn_9 : decode cX2_firstOn 9 = .ok (.arraylength, 1) := by decide +kernel
theorem dX2_firstOn_10 : decode cX2_firstOn 10 = .ok (.if_icmp .ge 12, 3) := by decide +kernel
theorem dX2_firstOn_13 : decode cX2_firstOn 13 = .ok (.aload_n 0, 1) := by decide +kernel
theorem dX2_firstOn_14 : decode cX2_firstOn 14 = .ok (.getfield 24, 3) := by decide +kernel
theorem dX2_firstOn_17 : decode cX2_firstOn 17 = .ok (.iload_n 1, 1) := by decide +kernel
theorem dX2_firstOn_18 : decode cX2_firstOn 18 = .ok (.iaload, 1) := by decide +kernel
theorem dX2_firstOn_19 : decode cX2_firstOn 19 = .ok (.goto 7, 3) := by decide +kernel
theorem dX2_firstOn_22 : decode cX2_firstOn 22 = .ok (.aload_n 0, 1) := by decide +kernel
theorem dX2_firstOn_23 : decode cX2_firstOn 23 = .ok (.getfield 17, 3) := by decide +kernel
theorem dX2_firstOn_26 : decode cX2_firstOn 26 = .ok (.ireturn, 1) := by decide +kernel
theorem dX2_layersBegun_0 : decode cX2_layersBegun 0 = .ok (.iconst 0, 1) := by decide +kernel
theorem dX2_layersBegun_1 : decode cX2_layersBegun 1 = .ok (.istore_n 2, 1) := by decide +kernel
theorem dX2_layersBegun_2 : decode cX2_layersBegun 2 = .ok (.iload_n 2, 1) := by decide +kernel
theorem dX2_layersBegun_3 : decode cX2_layersBegun 3 = .ok (.aload_n 0, 1) := by decide +kernel
theorem dX2_layersBegun_4 : decode cX2_layersBegun 4 = .ok (.getfield 7, 3) := by decide +kernel
theorem dX2_layersBegun_7 : decode cX2_layersBegun 7 = .ok (.if_icmp .ge 19, 3) := by decide +kernel
theorem dX2_layersBegun_10 : decode cX2_layersBegun 10 = .ok (.aload_n 0, 1) := by decide +kernel
theorem dX2_layersBegun_11 : decode cX2_layersBegun 11 = .ok (.getfield 20, 3) := by decide +kernel
theorem dX2_layersBegun_14 : decode cX2_layersBegun 14 = .ok (.iload_n 2, 1) := by decide +kernel
theorem dX2_layersBegun_15 : decode cX2_layersBegun 15 = .ok (.iaload, 1) := by decide +kernel
theorem dX2_layersBegun_16 : decode cX2_layersBegun 16 = .ok (.iload_n 1, 1) := by decide +kernel
theorem dX2_layersBegun_17 : decode cX2_layersBegun 17 = .ok (.if_icmp .ge 9, 3) := by decide +kernel
theorem dX2_layersBegun_20 : decode cX2_layersBegun 20 = .ok (.iinc 2 1, 3) := by decide +kernel
theorem dX2_layersBegun_23 : decode cX2_layersBegun 23 = .ok (.goto (-21), 3) := by decide +kernel
theorem dX2_layersBegun_26 : decode cX2_layersBegun 26 = .ok (.iload_n 2, 1) := by decide +kernel
theorem dX2_layersBegun_27 : decode cX2_layersBegun 27 = .ok (.ireturn, 1) := by decide +kernel
theorem dX2_layersFull_0 : decode cX2_layersFull 0 = .ok (.iconst 0, 1) := by decide +kernel
theorem dX2_layersFull_1 : decode cX2_layersFull 1 = .ok (.istore_n 2, 1) := by decide +kernel
theorem dX2_layersFull_2 : decode cX2_layersFull 2 = .ok (.iload_n 2, 1) := by decide +kernel
theorem dX2_layersFull_3 : decode cX2_layersFull 3 = .ok (.aload_n 0, 1) := by decide +kernel
theorem dX2_layersFull_4 : decode cX2_layersFull 4 = .ok (.getfield 7, 3) := by decide +kernel
theorem dX2_layersFull_7 : decode cX2_layersFull 7 = .ok (.if_icmp .ge 21, 3) := by decide +kernel
theorem dX2_layersFull_10 : decode cX2_layersFull 10 = .ok (.aload_n 0, 1) := by decide +kernel
theorem dX2_layersFull_11 : decode cX2_layersFull 11 = .ok (.getfield 20, 3) := by decide +kernel
theorem dX2_layersFull_14 : decode cX2_layersFull 14 = .ok (.iload_n 2, 1) := by decide +kernel
theorem dX2_layersFull_15 : decode cX2_layersFull 15 = .ok (.iconst 1, 1) := by decide +kernel
theorem dX2_layersFull_16 : decode cX2_layersFull 16 = .ok (.iadd, 1) := by decide +kernel
theorem dX2_layersFull_17 : decode cX2_layersFull 17 = .ok (.iaload, 1) := by decide +kernel
theorem dX2_layersFull_18 : decode cX2_layersFull 18 = .ok (.iload_n 1, 1) := by decide +kernel
theorem dX2_layersFull_19 : decode cX2_layersFull 19 = .ok (.if_icmp .gt 9, 3) := by decide +kernel
theorem dX2_layersFull_22 : decode cX2_layersFull 22 = .ok (.iinc 2 1, 3) := by decide +kernel
theorem dX2_layersFull_25 : decode cX2_layersFull 25 = .ok (.goto (-23), 3) := by decide +kernel
theorem dX2_layersFull_28 : decode cX2_layersFull 28 = .ok (.iload_n 2, 1) := by decide +kernel
theorem dX2_layersFull_29 : decode cX2_layersFull 29 = .ok (.ireturn, 1) := by decide +kernel
set_option maxRecDepth 20000 in
theorem ggX2_layerOf_X2_layersFull : GoodIn wsX2_layerOf wsX2_layersFull := goodIn_r _ [5, 6, 7, 8, 9, 10, 11] (by decide +kernel) (by decide +kernel)
set_option maxRecDepth 20000 in
theorem gX2_layerOf_X2_layersFull : GoodIn wsX2_layerOf (wsV RX2 36 RX2 yX2_layersFull wsX2_layersFull) := goodIn_app (goodIn_of _ (by decide +kernel)) ggX2_layerOf_X2_layersFull
theorem dX2_layerOf_0 : decode cX2_layerOf 0 = .ok (.aload_n 0, 1) := by decide +kernel
theorem dX2_layerOf_1 : decode cX2_layerOf 1 = .ok (.iload_n 1, 1) := by decide +kernel
theorem dX2_layerOf_2 : decode cX2_layerOf 2 = .ok (.invokevirtual 36, 3) := by decide +kernel
theorem dX2_layerOf_5 : decode cX2_layerOf 5 = .ok (.ireturn, 1) := by decide +kernel
set_option maxRecDepth 20000 in
theorem ggX2_rowOf_X2_layerOf : GoodIn wsX2_rowOf wsX2_layerOf := goodIn_r _ [6, 7, 8, 9, 5, 10, 1, 11, 17, 18, 19, 20] (by decide +kernel) (by decide +kernel)
set_option maxRecDepth 20000 in
theorem gX2_rowOf_X2_layerOf : GoodIn wsX2_rowOf (wsV RX2 39 RX2 yX2_layerOf wsX2_layerOf) := goodIn_app (goodIn_of _ (by decide +kernel)) ggX2_rowOf_X2_layerOf
set_option maxRecDepth 20000 in
theorem ggX2_rowOf_X2_startOf : GoodIn wsX2_rowOf wsX2_startOf := goodIn_r _ [15, 11, 16, 17, 18, 19, 20] (by decide +kernel) (by decide +kernel)
set_option maxRecDepth 20000 in
theorem gX2_rowOf_X2_startOf : GoodIn wsX2_rowOf (wsV RX2 33 RX2 yX2_startOf wsX2_startOf) := goodIn_app (goodIn_of _ (by decide +kernel)) ggX2_rowOf_X2_startOf
theorem dX2_rowOf_0 : decode cX2_rowOf 0 = .ok (.aload_n 0, 1) := by decide +kernel
theorem dX2_rowOf_1 : decode cX2_rowOf 1 = .ok (.iload_n 1, 1) := by decide +kernel
theorem dX2_rowOf_2 : decode cX2_rowOf 2 = .ok (.invokevirtual 39, 3) := by decide +kernel
theorem dX2_rowOf_5 : decode cX2_rowOf 5 = .ok (.istore_n 2, 1) := by decide +kernel
theorem dX2_rowOf_6 : decode cX2_rowOf 6 = .ok (.aload_n 0, 1) := by decide +kernel
theorem dX2_rowOf_7 : decode cX2_rowOf 7 = .ok (.getfield 7, 3) := by decide +kernel
theorem dX2_rowOf_10 : decode cX2_rowOf 10 = .ok (.iload_n 2, 1) := by decide +kernel
theorem dX2_rowOf_11 : decode cX2_rowOf 11 = .ok (.isub, 1) := by decide +kernel
theorem dX2_rowOf_12 : decode cX2_rowOf 12 = .ok (.istore_n 3, 1) := by decide +kernel
theorem dX2_rowOf_13 : decode cX2_rowOf 13 = .ok (.iload_n 3, 1) := by decide +kernel
theorem dX2_rowOf_14 : decode cX2_rowOf 14 = .ok (.ifCond .le 15, 3) := by decide +kernel
theorem dX2_rowOf_17 : decode cX2_rowOf 17 = .ok (.iload_n 1, 1) := by decide +kernel
theorem dX2_rowOf_18 : decode cX2_rowOf 18 = .ok (.aload_n 0, 1) := by decide +kernel
theorem dX2_rowOf_19 : decode cX2_rowOf 19 = .ok (.iload_n 2, 1) := by decide +kernel
theorem dX2_rowOf_20 : decode cX2_rowOf 20 = .ok (.invokevirtual 33, 3) := by decide +kernel
theorem dX2_rowOf_23 : decode cX2_rowOf 23 = .ok (.isub, 1) := by decide +kernel
theorem dX2_rowOf_24 : decode cX2_rowOf 24 = .ok (.iload_n 3, 1) := by decide +kernel
theorem dX2_rowOf_25 : decode cX2_rowOf 25 = .ok (.idiv, 1) := by decide +kernel
theorem dX2_rowOf_26 : decode cX2_rowOf 26 = .ok (.goto 4, 3) := by decide +kernel
theorem dX2_rowOf_29 : decode cX2_rowOf 29 = .ok (.iconst 0, 1) := by decide +kernel
theorem dX2_rowOf_30 : decode cX2_rowOf 30 = .ok (.ireturn, 1) := by decide +kernel
set_option maxRecDepth 20000 in
theorem ggX2_placeOf_X2_layerOf : GoodIn wsX2_placeOf wsX2_layerOf := goodIn_r _ [6, 7, 8, 9, 5, 10, 1, 11, 17, 18, 19, 20] (by decide +kernel) (by decide +kernel)
set_option maxRecDepth 20000 in
theorem gX2_placeOf_X2_layerOf : GoodIn wsX2_placeOf (wsV RX2 39 RX2 yX2_layerOf wsX2_layerOf) := goodIn_app (goodIn_of _ (by decide +kernel)) ggX2_placeOf_X2_layerOf
set_option maxRecDepth 20000 in
theorem ggX2_placeOf_X2_startOf : GoodIn wsX2_placeOf wsX2_startOf := goodIn_r _ [15, 11, 16, 17, 18, 19, 20] (by decide +kernel) (by decide +kernel)
set_option maxRecDepth 20000 in
theorem gX2_placeOf_X2_startOf : GoodIn wsX2_placeOf (wsV RX2 33 RX2 yX2_startOf wsX2_startOf) := goodIn_app (goodIn_of _ (by decide +kernel)) ggX2_placeOf_X2_startOf
theorem dX2_placeOf_0 : decode cX2_placeOf 0 = .ok (.aload_n 0, 1) := by decide +kernel
theorem dX2_placeOf_1 : decode cX2_placeOf 1 = .ok (.iload_n 1, 1) := by decide +kernel
theorem dX2_placeOf_2 : decode cX2_placeOf 2 = .ok (.invokevirtual 39, 3) := by decide +kernel
theorem dX2_placeOf_5 : decode cX2_placeOf 5 = .ok (.istore_n 2, 1) := by decide +kernel
theorem dX2_placeOf_6 : decode cX2_placeOf 6 = .ok (.aload_n 0, 1) := by decide +kernel
theorem dX2_placeOf_7 : decode cX2_placeOf 7 = .ok (.getfield 7, 3) := by decide +kernel
theorem dX2_placeOf_10 : decode cX2_placeOf 10 = .ok (.iload_n 2, 1) := by decide +kernel
theorem dX2_placeOf_11 : decode cX2_placeOf 11 = .ok (.isub, 1) := by decide +kernel
theorem dX2_placeOf_12 : decode cX2_placeOf 12 = .ok (.istore_n 3, 1) := by decide +kernel
theorem dX2_placeOf_13 : decode cX2_placeOf 13 = .ok (.iload_n 3, 1) := by decide +kernel
theorem dX2_placeOf_14 : decode cX2_placeOf 14 = .ok (.ifCond .le 15, 3) := by decide +kernel
theorem dX2_placeOf_17 : decode cX2_placeOf 17 = .ok (.iload_n 1, 1) := by decide +kernel
theorem dX2_placeOf_18 : decode cX2_placeOf 18 = .ok (.aload_n 0, 1) := by decide +kernel
theorem dX2_placeOf_19 : decode cX2_placeOf 19 = .ok (.iload_n 2, 1) := by decide +kernel
theorem dX2_placeOf_20 : decode cX2_placeOf 20 = .ok (.invokevirtual 33, 3) := by decide +kernel
theorem dX2_placeOf_23 : decode cX2_placeOf 23 = .ok (.isub, 1) := by decide +kernel
theorem dX2_placeOf_24 : decode cX2_placeOf 24 = .ok (.iload_n 3, 1) := by decide +kernel
theorem dX2_placeOf_25 : decode cX2_placeOf 25 = .ok (.irem, 1) := by decide +kernel
theorem dX2_placeOf_26 : decode cX2_placeOf 26 = .ok (.goto 4, 3) := by decide +kernel
theorem dX2_placeOf_29 : decode cX2_placeOf 29 = .ok (.iconst 0, 1) := by decide +kernel
theorem dX2_placeOf_30 : decode cX2_placeOf 30 = .ok (.ireturn, 1) := by decide +kernel
theorem dX6_init_0 : decode cX6_init 0 = .ok (.aload_n 0, 1) := by decide +kernel
theorem dX6_init_1 : decode cX6_init 1 = .ok (.invokespecial 3, 3) := by decide +kernel
theorem dX6_init_4 : decode cX6_init 4 = .ok (.aload_n 0, 1) := by decide +kernel
theorem dX6_init_5 : decode cX6_init 5 = .ok (.iconst 5, 1) := by decide +kernel
theorem dX6_init_6 : decode cX6_init 6 = .ok (.newarray .int, 2) := by decide +kernel
theorem dX6_init_8 : decode cX6_init 8 = .ok (.putfield 9, 3) := by decide +kernel
theorem dX6_init_11 : decode cX6_init 11 = .ok (.return_, 1) := by decide +kernel
theorem dX6_of_0 : decode cX6_of 0 = .ok (.iload_n 1, 1) := by decide +kernel
theorem dX6_of_1 : decode cX6_of 1 = .ok (.ifCond .lt 21, 3) := by decide +kernel
theorem dX6_of_4 : decode cX6_of 4 = .ok (.iload_n 1, 1) := by decide +kernel
theorem dX6_of_5 : decode cX6_of 5 = .ok (.aload_n 0, 1) := by decide +kernel
theorem dX6_of_6 : decode cX6_of 6 = .ok (.getfield 9, 3) := by decide +kernel
theorem dX6_of_9 : decode cX6_of 9 = .ok (.arraylength, 1) := by decide +kernel
theorem dX6_of_10 : decode cX6_of 10 = .ok (.if_icmp .ge 12, 3) := by decide +kernel
theorem dX6_of_13 : decode cX6_of 13 = .ok (.aload_n 0, 1) := by decide +kernel
theorem dX6_of_14 : decode cX6_of 14 = .ok (.getfield 9, 3) := by decide +kernel
theorem dX6_of_17 : decode cX6_of 17 = .ok (.iload_n 1, 1) := by decide +kernel
theorem dX6_of_18 : decode cX6_of 18 = .ok (.iaload, 1) := by decide +kernel
theorem dX6_of_19 : decode cX6_of 19 = .ok (.goto 4, 3) := by decide +kernel
theorem dX6_of_22 : decode cX6_of 22 = .ok (.iconst 0, 1) := by decide +kernel
theorem dX6_of_23 : decode cX6_of 23 = .ok (.ireturn, 1) := by decide +kernel
theorem dX6_add_0 : decode cX6_add 0 = .ok (.iload_n 1, 1) := by decide +kernel
theorem dX6_add_1 : decode cX6_add 1 = .ok (.ifCond .lt 22, 3) := by decide +kernel
theorem dX6_add_4 : decode cX6_add 4 = .ok (.iload_n 1, 1) := by decide +kernel
theorem dX6_add_5 : decode cX6_add 5 = .ok (.aload_n 0, 1) := by decide +kernel
theorem dX6_add_6 : decode cX6_add 6 = .ok (.getfield 9, 3) := by decide +kernel
theorem dX6_add_9 : decode cX6_add 9 = .ok (.arraylength, 1) := by decide +kernel
theorem dX6_add_10 : decode cX6_add 10 = .ok (.if_icmp .ge 13, 3) := by decide +kernel
theorem dX6_add_13 : decode cX6_add 13 = .ok (.aload_n 0, 1) := by decide +kernel
theorem dX6_add_14 : decode cX6_add 14 = .ok (.getfield 9, 3) := by decide +kernel
theorem dX6_add_17 : decode cX6_add 17 = .ok (.iload_n 1, 1) := by decide +kernel
theorem dX6_add_18 : decode cX6_add 18 = .ok (.dup2, 1) := by decide +kernel
theorem dX6_add_19 : decode cX6_add 19 = .ok (.iaload, 1) := by decide +kernel
theorem dX6_add_20 : decode cX6_add 20 = .ok (.iload_n 2, 1) := by decide +kernel
theorem dX6_add_21 : decode cX6_add 21 = .ok (.iadd, 1) := by decide +kernel
theorem dX6_add_22 : decode cX6_add 22 = .ok (.iastore, 1) := by decide +kernel
theorem dX6_add_23 : decode cX6_add 23 = .ok (.return_, 1) := by decide +kernel
theorem dX6_all_0 : decode cX6_all 0 = .ok (.iconst 0, 1) := by decide +kernel
theorem dX6_all_1 : decode cX6_all 1 = .ok (.istore_n 1, 1) := by decide +kernel
theorem dX6_all_2 : decode cX6_all 2 = .ok (.iconst 0, 1) := by decide +kernel
theorem dX6_all_3 : decode cX6_all 3 = .ok (.istore_n 2, 1) := by decide +kernel
theorem dX6_all_4 : decode cX6_all 4 = .ok (.iload_n 2, 1) := by decide +kernel
theorem dX6_all_5 : decode cX6_all 5 = .ok (.aload_n 0, 1) := by decide +kernel
theorem dX6_all_6 : decode cX6_all 6 = .ok (.getfield 9, 3) := by decide +kernel
theorem dX6_all_9 : decode cX6_all 9 = .ok (.arraylength, 1) := by decide +kernel
theorem dX6_all_10 : decode cX6_all 10 = .ok (.if_icmp .ge 18, 3) := by decide +kernel
theorem dX6_all_13 : decode cX6_all 13 = .ok (.iload_n 1, 1) := by decide +kernel
theorem dX6_all_14 : decode cX6_all 14 = .ok (.aload_n 0, 1) := by decide +kernel
theorem dX6_all_15 : decode cX6_all 15 = .ok (.getfield 9, 3) := by decide +kernel
theorem dX6_all_18 : decode cX6_all 18 = .ok (.iload_n 2, 1) := by decide +kernel
theorem dX6_all_19 : decode cX6_all 19 = .ok (.iaload, 1) := by decide +kernel
theorem dX6_all_20 : decode cX6_all 20 = .ok (.iadd, 1) := by decide +kernel
theorem dX6_all_21 : decode cX6_all 21 = .ok (.istore_n 1, 1) := by decide +kernel
theorem dX6_all_22 : decode cX6_all 22 = .ok (.iinc 2 1, 3) := by decide +kernel
theorem dX6_all_25 : decode cX6_all 25 = .ok (.goto (-21), 3) := by decide +kernel
theorem dX6_all_28 : decode cX6_all 28 = .ok (.iload_n 1, 1) := by decide +kernel
theorem dX6_all_29 : decode cX6_all 29 = .ok (.ireturn, 1) := by decide +kernel
set_option maxRecDepth 20000 in
theorem ggX3_init_X1_init : GoodIn wsX3_init wsX1_init := goodIn_r _ [19, 20, 2, 3, 21, 22, 23, 42, 43, 44, 45] (by decide +kernel) (by decide +kernel)
set_option maxRecDepth 20000 in
theorem gX3_init_X1_init : GoodIn wsX3_init (wsX1_init) := ggX3_init_X1_init
set_option maxRecDepth 20000 in
theorem ggX3_init_X0_init : GoodIn wsX3_init wsX0_init := goodIn_r _ [26, 27, 2, 3, 28, 46, 47, 48] (by decide +kernel) (by decide +kernel)
set_option maxRecDepth 20000 in
theorem gX3_init_X0_init : GoodIn wsX3_init (wsX0_init) := ggX3_init_X0_init
set_option maxRecDepth 20000 in
theorem ggX3_init_X6_init : GoodIn wsX3_init wsX6_init := goodIn_r _ [31, 32, 2, 3, 22, 33, 49] (by decide +kernel) (by decide +kernel)
set_option maxRecDepth 20000 in
theorem gX3_init_X6_init : GoodIn wsX3_init (wsX6_init) := ggX3_init_X6_init
theorem dX3_init_0 : decode cX3_init 0 = .ok (.aload_n 0, 1) := by decide +kernel
theorem dX3_init_1 : decode cX3_init 1 = .ok (.invokespecial 3, 3) := by decide +kernel
theorem dX3_init_4 : decode cX3_init 4 = .ok (.aload_n 0, 1) := by decide +kernel
theorem dX3_init_5 : decode cX3_init 5 = .ok (.bipush 6, 2) := by decide +kernel
theorem dX3_init_7 : decode cX3_init 7 = .ok (.anewarray 9, 3) := by decide +kernel
theorem dX3_init_10 : decode cX3_init 10 = .ok (.putfield 11, 3) := by decide +kernel
theorem dX3_init_13 : decode cX3_init 13 = .ok (.iconst 0, 1) := by decide +kernel
theorem dX3_init_14 : decode cX3_init 14 = .ok (.istore_n 2, 1) := by decide +kernel
theorem dX3_init_15 : decode cX3_init 15 = .ok (.iload_n 2, 1) := by decide +kernel
theorem dX3_init_16 : decode cX3_init 16 = .ok (.bipush 6, 2) := by decide +kernel
theorem dX3_init_18 : decode cX3_init 18 = .ok (.if_icmp .ge 23, 3) := by decide +kernel
theorem dX3_init_21 : decode cX3_init 21 = .ok (.aload_n 0, 1) := by decide +kernel
theorem dX3_init_22 : decode cX3_init 22 = .ok (.getfield 11, 3) := by decide +kernel
theorem dX3_init_25 : decode cX3_init 25 = .ok (.iload_n 2, 1) := by decide +kernel
theorem dX3_init_26 : decode cX3_init 26 = .ok (.new 9, 3) := by decide +kernel
theorem dX3_init_29 : decode cX3_init 29 = .ok (.dup, 1) := by decide +kernel
theorem dX3_init_30 : decode cX3_init 30 = .ok (.aload_n 1, 1) := by decide +kernel
theorem dX3_init_31 : decode cX3_init 31 = .ok (.invokespecial 17, 3) := by decide +kernel
theorem dX3_init_34 : decode cX3_init 34 = .ok (.aastore, 1) := by decide +kernel
theorem dX3_init_35 : decode cX3_init 35 = .ok (.iinc 2 1, 3) := by decide +kernel
theorem dX3_init_38 : decode cX3_init 38 = .ok (.goto (-23), 3) := by decide +kernel
theorem dX3_init_41 : decode cX3_init 41 = .ok (.aload_n 0, 1) := by decide +kernel
theorem dX3_init_42 : decode cX3_init 42 = .ok (.iconst 3, 1) := by decide +kernel
theorem dX3_init_43 : decode cX3_init 43 = .ok (.anewarray 20, 3) := by decide +kernel
theorem dX3_init_46 : decode cX3_init 46 = .ok (.putfield 22, 3) := by decide +kernel
theorem dX3_init_49 : decode cX3_init 49 = .ok (.iconst 0, 1) := by decide +kernel
theorem dX3_init_50 : decode cX3_init 50 = .ok (.istore_n 2, 1) := by decide +kernel
theorem dX3_init_51 : decode cX3_init 51 = .ok (.iload_n 2, 1) := by decide +kernel
theorem dX3_init_52 : decode cX3_init 52 = .ok (.iconst 3, 1) := by decide +kernel
theorem dX3_init_53 : decode cX3_init 53 = .ok (.if_icmp .ge 22, 3) := by decide +kernel
theorem dX3_init_56 : decode cX3_init 56 = .ok (.aload_n 0, 1) := by decide +kernel
theorem dX3_init_57 : decode cX3_init 57 = .ok (.getfield 22, 3) := by decide +kernel
theorem dX3_init_60 : decode cX3_init 60 = .ok (.iload_n 2, 1) := by decide +kernel
theorem dX3_init_61 : decode cX3_init 61 = .ok (.new 20, 3) := by decide +kernel
theorem dX3_init_64 : decode cX3_init 64 = .ok (.dup, 1) := by decide +kernel
theorem dX3_init_65 : decode cX3_init 65 = .ok (.invokespecial 26, 3) := by decide +kernel
theorem dX3_init_68 : decode cX3_init 68 = .ok (.aastore, 1) := by decide +kernel
theorem dX3_init_69 : decode cX3_init 69 = .ok (.iinc 2 1, 3) := by decide +kernel
theorem dX3_init_72 : decode cX3_init 72 = .ok (.goto (-21), 3) := by decide +kernel
theorem dX3_init_75 : decode cX3_init 75 = .ok (.aload_n 0, 1) := by decide +kernel
theorem dX3_init_76 : decode cX3_init 76 = .ok (.new 27, 3) := by decide +kernel
theorem dX3_init_79 : decode cX3_init 79 = .ok (.dup, 1) := by decide +kernel
theorem dX3_init_80 : decode cX3_init 80 = .ok (.invokespecial 29, 3) := by decide +kernel
theorem dX3_init_83 : decode cX3_init 83 = .ok (.putfield 30, 3) := by decide +kernel
theorem dX3_init_86 : decode cX3_init 86 = .ok (.aload_n 0, 1) := by decide +kernel
theorem dX3_init_87 : decode cX3_init 87 = .ok (.bipush 6, 2) := by decide +kernel
theorem dX3_init_89 : decode cX3_init 89 = .ok (.putfield 34, 3) := by decide +kernel
theorem dX3_init_92 : decode cX3_init 92 = .ok (.return_, 1) := by decide +kernel
set_option maxRecDepth 20000 in
theorem ggX3_passDays_X3_passOneDay : GoodIn wsX3_passDays wsX3_passOneDay := goodIn_r _ [5, 6, 7, 8, 9, 10, 11, 12, 13, 14, 15, 16, 17, 18, 19, 20, 21, 22, 23, 24, 25, 26, 27, 28, 29, 30, 31, 32, 33, 34, 35, 36, 37, 38, 39, 40, 41, 42, 43, 44, 45, 4, 46, 47, 48, 49, 50, 51, 52, 53, 54, 55, 56, 57, 58, 59, 60, 61, 62, 63, 64, 65, 66, 67, 68, 69, 70, 71, 72, 73, 74, 75, 76, 77, 78, 79, 80, 81, 82, 83, 84, 85, 86, 87, 88, 89, 90, 91, 92, 93, 94, 95, 96, 97, 98, 99, 100, 101, 102, 103, 104, 105] (by decide +kernel) (by decide +kernel)
set_option maxRecDepth 20000 in
theorem gX3_passDays_X3_passOneDay : GoodIn wsX3_passDays (wsV RX3 60 RX3 yX3_passOneDay wsX3_passOneDay) := goodIn_app (goodIn_of _ (by decide +kernel)) ggX3_passDays_X3_passOneDay
theorem dX3_passDays_0 : decode cX3_passDays 0 = .ok (.iconst 0, 1) := by decide +kernel
theorem dX3_passDays_1 : decode cX3_passDays 1 = .ok (.istore_n 2, 1) := by decide +kernel
theorem dX3_passDays_2 : decode cX3_passDays 2 = .ok (.iconst 0, 1) := by decide +kernel
theorem dX3_passDays_3 : decode cX3_passDays 3 = .ok (.istore_n 3, 1) := by decide +kernel
theorem dX3_passDays_4 : decode cX3_passDays 4 = .ok (.iload_n 3, 1) := by decide +kernel
theorem dX3_passDays_5 : decode cX3_passDays 5 = .ok (.iload_n 1, 1) := by decide +kernel
theorem dX3_passDays_6 : decode cX3_passDays 6 = .ok (.if_icmp .ge 16, 3) := by decide +kernel
theorem dX3_passDays_9 : decode cX3_passDays 9 = .ok (.iload_n 2, 1) := by decide +kernel
theorem dX3_passDays_10 : decode cX3_passDays 10 = .ok (.aload_n 0, 1) := by decide +kernel
theorem dX3_passDays_11 : decode cX3_passDays 11 = .ok (.invokevirtual 60, 3) := by decide +kernel
theorem dX3_passDays_14 : decode cX3_passDays 14 = .ok (.iadd, 1) := by decide +kernel
theorem dX3_passDays_15 : decode cX3_passDays 15 = .ok (.istore_n 2, 1) := by decide +kernel
theorem dX3_passDays_16 : decode cX3_passDays 16 = .ok (.iinc 3 1, 3) := by decide +kernel
theorem dX3_passDays_19 : decode cX3_passDays 19 = .ok (.goto (-15), 3) := by decide +kernel
theorem dX3_passDays_22 : decode cX3_passDays 22 = .ok (.iload_n 2, 1) := by decide +kernel
theorem dX3_passDays_23 : decode cX3_passDays 23 = .ok (.ireturn, 1) := by decide +kernel
set_option maxRecDepth 20000 in
theorem ggX3_passOneDay_X1_rustForADay : GoodIn wsX3_passOneDay wsX1_rustForADay := goodIn_r _ [11, 12, 13, 14, 15, 16, 17, 18, 19, 10, 20, 21, 22, 23, 24, 25, 26, 27, 28, 29, 30, 31, 32, 33, 34, 35, 36, 37, 90, 91, 92, 93, 94, 95, 96, 97] (by decide +kernel) (by decide +kernel)
set_option maxRecDepth 20000 in
theorem gX3_passOneDay_X1_rustForADay : GoodIn wsX3_passOneDay (wsV RX3 64 RX1 yX1_rustForADay wsX1_rustForADay) := goodIn_app (goodIn_of _ (by decide +kernel)) ggX3_passOneDay_X1_rustForADay
set_option maxRecDepth 20000 in
theorem ggX3_passOneDay_X3_letJump : GoodIn wsX3_passOneDay wsX3_letJump := goodIn_r _ [42, 1, 2, 43, 44, 45, 46, 47, 48, 49, 50, 51, 52, 53, 54, 55, 56, 57, 58, 59, 60, 10, 61, 21, 12, 62, 63, 64, 25, 65, 66, 67, 68, 69, 70, 71, 72, 73, 74, 75, 29, 30, 31, 32, 33, 76, 77, 78, 79, 80, 81, 82, 83, 84, 85, 86, 87, 88, 89, 98, 99, 100, 90, 91, 92, 93, 94, 95, 96, 97, 101] (by decide +kernel) (by decide +kernel)
set_option maxRecDepth 20000 in
theorem gX3_passOneDay_X3_letJump : GoodIn wsX3_passOneDay (wsV RX3 68 RX3 yX3_letJump wsX3_letJump) := goodIn_app (goodIn_of _ (by decide +kernel)) ggX3_passOneDay_X3_letJump
theorem dX3_passOneDay_0 : decode cX3_passOneDay 0 = .ok (.iconst 0, 1) := by decide +kernel
theorem dX3_passOneDay_1 : decode cX3_passOneDay 1 = .ok (.istore_n 1, 1) := by decide +kernel
theorem dX3_passOneDay_2 : decode cX3_passOneDay 2 = .ok (.iload_n 1, 1) := by decide +kernel
theorem dX3_passOneDay_3 : decode cX3_passOneDay 3 = .ok (.aload_n 0, 1) := by decide +kernel
theorem dX3_passOneDay_4 : decode cX3_passOneDay 4 = .ok (.getfield 38, 3) := by decide +kernel
theorem dX3_passOneDay_7 : decode cX3_passOneDay 7 = .ok (.if_icmp .ge 22, 3) := by decide +kernel
theorem dX3_passOneDay_10 : decode cX3_passOneDay 10 = .ok (.aload_n 0, 1) := by decide +kernel
theorem dX3_passOneDay_11 : decode cX3_passOneDay 11 = .ok (.getfield 11, 3) := by decide +kernel
theorem dX3_passOneDay_14 : decode cX3_passOneDay 14 = .ok (.iload_n 1, 1) := by decide +kernel
theorem dX3_passOneDay_15 : decode cX3_passOneDay 15 = .ok (.aaload, 1) := by decide +kernel
theorem dX3_passOneDay_16 : decode cX3_passOneDay 16 = .ok (.aload_n 0, 1) := by decide +kernel
theorem dX3_passOneDay_17 : decode cX3_passOneDay 17 = .ok (.getfield 57, 3) := by decide +kernel
theorem dX3_passOneDay_20 : decode cX3_passOneDay 20 = .ok (.invokevirtual 64, 3) := by decide +kernel
theorem dX3_passOneDay_23 : decode cX3_passOneDay 23 = .ok (.iinc 1 1, 3) := by decide +kernel
theorem dX3_passOneDay_26 : decode cX3_passOneDay 26 = .ok (.goto (-24), 3) := by decide +kernel
theorem dX3_passOneDay_29 : decode cX3_passOneDay 29 = .ok (.iconst 0, 1) := by decide +kernel
theorem dX3_passOneDay_30 : decode cX3_passOneDay 30 = .ok (.istore_n 1, 1) := by decide +kernel
theorem dX3_passOneDay_31 : decode cX3_passOneDay 31 = .ok (.aload_n 0, 1) := by decide +kernel
theorem dX3_passOneDay_32 : decode cX3_passOneDay 32 = .ok (.getfield 38, 3) := by decide +kernel
theorem dX3_passOneDay_35 : decode cX3_passOneDay 35 = .ok (.ifCond .le 32, 3) := by decide +kernel
theorem dX3_passOneDay_38 : decode cX3_passOneDay 38 = .ok (.iconst 0, 1) := by decide +kernel
theorem dX3_passOneDay_39 : decode cX3_passOneDay 39 = .ok (.istore_n 2, 1) := by decide +kernel
theorem dX3_passOneDay_40 : decode cX3_passOneDay 40 = .ok (.iload_n 2, 1) := by decide +kernel
theorem dX3_passOneDay_41 : decode cX3_passOneDay 41 = .ok (.aload_n 0, 1) := by decide +kernel
theorem dX3_passOneDay_42 : decode cX3_passOneDay 42 = .ok (.getfield 45, 3) := by decide +kernel
theorem dX3_passOneDay_45 : decode cX3_passOneDay 45 = .ok (.if_icmp .ge 22, 3) := by decide +kernel
theorem dX3_passOneDay_48 : decode cX3_passOneDay 48 = .ok (.iload_n 1, 1) := by decide +kernel
theorem dX3_passOneDay_49 : decode cX3_passOneDay 49 = .ok (.aload_n 0, 1) := by decide +kernel
theorem dX3_passOneDay_50 : decode cX3_passOneDay 50 = .ok (.aload_n 0, 1) := by decide +kernel
theorem dX3_passOneDay_51 : decode cX3_passOneDay 51 = .ok (.getfield 22, 3) := by decide +kernel
theorem dX3_passOneDay_54 : decode cX3_passOneDay 54 = .ok (.iload_n 2, 1) := by decide +kernel
theorem dX3_passOneDay_55 : decode cX3_passOneDay 55 = .ok (.aaload, 1) := by decide +kernel
theorem dX3_passOneDay_56 : decode cX3_passOneDay 56 = .ok (.invokevirtual 68, 3) := by decide +kernel
theorem dX3_passOneDay_59 : decode cX3_passOneDay 59 = .ok (.iadd, 1) := by decide +kernel
theorem dX3_passOneDay_60 : decode cX3_passOneDay 60 = .ok (.istore_n 1, 1) := by decide +kernel
theorem dX3_passOneDay_61 : decode cX3_passOneDay 61 = .ok (.iinc 2 1, 3) := by decide +kernel
theorem dX3_passOneDay_64 : decode cX3_passOneDay 64 = .ok (.goto (-24), 3) := by decide +kernel
theorem dX3_passOneDay_67 : decode cX3_passOneDay 67 = .ok (.aload_n 0, 1) := by decide +kernel
theorem dX3_passOneDay_68 : decode cX3_passOneDay 68 = .ok (.dup, 1) := by decide +kernel
theorem dX3_passOneDay_69 : decode cX3_passOneDay 69 = .ok (.getfield 54, 3) := by decide +kernel
theorem dX3_passOneDay_72 : decode cX3_passOneDay 72 = .ok (.iconst 1, 1) := by decide +kernel
theorem dX3_passOneDay_73 : decode cX3_passOneDay 73 = .ok (.iadd, 1) := by decide +kernel
theorem dX3_passOneDay_74 : decode cX3_passOneDay 74 = .ok (.putfield 54, 3) := by decide +kernel
theorem dX3_passOneDay_77 : decode cX3_passOneDay 77 = .ok (.iload_n 1, 1) := by decide +kernel
theorem dX3_passOneDay_78 : decode cX3_passOneDay 78 = .ok (.ireturn, 1) := by decide +kernel
set_option maxRecDepth 20000 in
theorem ggX3_letJump_X0_jump : GoodIn wsX3_letJump wsX0_jump := goodIn_r _ [11, 12, 13, 14, 15, 16, 17, 59, 60, 61] (by decide +kernel) (by decide +kernel)
set_option maxRecDepth 20000 in
theorem gX3_letJump_X0_jump : GoodIn wsX3_letJump (wsV RX3 72 RX0 yX0_jump wsX0_jump) := goodIn_app (goodIn_of _ (by decide +kernel)) ggX3_letJump_X0_jump
set_option maxRecDepth 20000 in
theorem ggX3_letJump_X1_hasBrokenLayer : GoodIn wsX3_letJump wsX1_hasBrokenLayer := goodIn_r _ [22, 23, 24, 25, 26, 27, 28, 29, 30, 31, 32, 33, 34, 35, 62, 63, 64, 65, 66, 67, 68, 69] (by decide +kernel) (by decide +kernel)
set_option maxRecDepth 20000 in
theorem gX3_letJump_X1_hasBrokenLayer : GoodIn wsX3_letJump (wsV RX3 78 RX1 yX1_hasBrokenLayer wsX1_hasBrokenLayer) := goodIn_app (goodIn_of _ (by decide +kernel)) ggX3_letJump_X1_hasBrokenLayer
set_option maxRecDepth 20000 in
theorem ggX3_letJump_X1_takeTop : GoodIn wsX3_letJump wsX1_takeTop := goodIn_r _ [39, 24, 40, 41, 42, 21, 43, 44, 62, 63, 64, 65] (by decide +kernel) (by decide +kernel)
set_option maxRecDepth 20000 in
theorem gX3_letJump_X1_takeTop : GoodIn wsX3_letJump (wsV RX3 82 RX1 yX1_takeTop wsX1_takeTop) := goodIn_app (goodIn_of _ (by decide +kernel)) ggX3_letJump_X1_takeTop
set_option maxRecDepth 20000 in
theorem ggX3_letJump_X6_add : GoodIn wsX3_letJump wsX6_add := goodIn_r _ [49, 50, 70] (by decide +kernel) (by decide +kernel)
set_option maxRecDepth 20000 in
theorem gX3_letJump_X6_add : GoodIn wsX3_letJump (wsV RX3 88 RX6 yX6_add wsX6_add) := goodIn_app (goodIn_of _ (by decide +kernel)) ggX3_letJump_X6_add
theorem dX3_letJump_0 : decode cX3_letJump 0 = .ok (.aload_n 1, 1) := by decide +kernel
theorem dX3_letJump_1 : decode cX3_letJump 1 = .ok (.aload_n 0, 1) := by decide +kernel
theorem dX3_letJump_2 : decode cX3_letJump 2 = .ok (.getfield 38, 3) := by decide +kernel
theorem dX3_letJump_5 : decode cX3_letJump 5 = .ok (.invokevirtual 72, 3) := by decide +kernel
theorem dX3_letJump_8 : decode cX3_letJump 8 = .ok (.aload_n 0, 1) := by decide +kernel
theorem dX3_letJump_9 : decode cX3_letJump 9 = .ok (.getfield 11, 3) := by decide +kernel
theorem dX3_letJump_12 : decode cX3_letJump 12 = .ok (.aload_n 1, 1) := by decide +kernel
theorem dX3_letJump_13 : decode cX3_letJump 13 = .ok (.getfield 75, 3) := by decide +kernel
theorem dX3_letJump_16 : decode cX3_letJump 16 = .ok (.aaload, 1) := by decide +kernel
theorem dX3_letJump_17 : decode cX3_letJump 17 = .ok (.astore_n 2, 1) := by decide +kernel
theorem dX3_letJump_18 : decode cX3_letJump 18 = .ok (.aload_n 2, 1) := by decide +kernel
theorem dX3_letJump_19 : decode cX3_letJump 19 = .ok (.invokevirtual 78, 3) := by decide +kernel
theorem dX3_letJump_22 : decode cX3_letJump 22 = .ok (.ifCond .ne 5, 3) := by decide +kernel
theorem dX3_letJump_25 : decode cX3_letJump 25 = .ok (.iconst 0, 1) := by decide +kernel
theorem dX3_letJump_26 : decode cX3_letJump 26 = .ok (.ireturn, 1) := by decide +kernel
theorem dX3_letJump_27 : decode cX3_letJump 27 = .ok (.aload_n 2, 1) := by decide +kernel
theorem dX3_letJump_28 : decode cX3_letJump 28 = .ok (.invokevirtual 82, 3) := by decide +kernel
theorem dX3_letJump_31 : decode cX3_letJump 31 = .ok (.pop, 1) := by decide +kernel
theorem dX3_letJump_32 : decode cX3_letJump 32 = .ok (.aload_n 0, 1) := by decide +kernel
theorem dX3_letJump_33 : decode cX3_letJump 33 = .ok (.getfield 30, 3) := by decide +kernel
theorem dX3_letJump_36 : decode cX3_letJump 36 = .ok (.aload_n 2, 1) := by decide +kernel
theorem dX3_letJump_37 : decode cX3_letJump 37 = .ok (.getfield 85, 3) := by decide +kernel
theorem dX3_letJump_40 : decode cX3_letJump 40 = .ok (.iconst 1, 1) := by decide +kernel
theorem dX3_letJump_41 : decode cX3_letJump 41 = .ok (.invokevirtual 88, 3) := by decide +kernel
theorem dX3_letJump_44 : decode cX3_letJump 44 = .ok (.aload_n 1, 1) := by decide +kernel
theorem dX3_letJump_45 : decode cX3_letJump 45 = .ok (.dup, 1) := by decide +kernel
theorem dX3_letJump_46 : decode cX3_letJump 46 = .ok (.getfield 92, 3) := by decide +kernel
theorem dX3_letJump_49 : decode cX3_letJump 49 = .ok (.iconst 1, 1) := by decide +kernel
theorem dX3_letJump_50 : decode cX3_letJump 50 = .ok (.iadd, 1) := by decide +kernel
theorem dX3_letJump_51 : decode cX3_letJump 51 = .ok (.putfield 92, 3) := by decide +kernel
theorem dX3_letJump_54 : decode cX3_letJump 54 = .ok (.iconst 1, 1) := by decide +kernel
theorem dX3_letJump_55 : decode cX3_letJump 55 = .ok (.ireturn, 1) := by decide +kernel
theorem dX3_ballsOfCalibre_0 : decode cX3_ballsOfCalibre 0 = .ok (.iconst 0, 1) := by decide +kernel
theorem dX3_ballsOfCalibre_1 : decode cX3_ballsOfCalibre 1 = .ok (.istore_n 2, 1) := by decide +kernel
theorem dX3_ballsOfCalibre_2 : decode cX3_ballsOfCalibre 2 = .ok (.iconst 0, 1) := by decide +kernel
theorem dX3_ballsOfCalibre_3 : decode cX3_ballsOfCalibre 3 = .ok (.istore_n 3, 1) := by decide +kernel
theorem dX3_ballsOfCalibre_4 : decode cX3_ballsOfCalibre 4 = .ok (.iload_n 3, 1) := by decide +kernel
theorem dX3_ballsOfCalibre_5 : decode cX3_ballsOfCalibre 5 = .ok (.aload_n 0, 1) := by decide +kernel
theorem dX3_ballsOfCalibre_6 : decode cX3_ballsOfCalibre 6 = .ok (.getfield 38, 3) := by decide +kernel
theorem dX3_ballsOfCalibre_9 : decode cX3_ballsOfCalibre 9 = .ok (.if_icmp .ge 34, 3) := by decide +kernel
theorem dX3_ballsOfCalibre_12 : decode cX3_ballsOfCalibre 12 = .ok (.aload_n 0, 1) := by decide +kernel
theorem dX3_ballsOfCalibre_13 : decode cX3_ballsOfCalibre 13 = .ok (.getfield 11, 3) := by decide +kernel
theorem dX3_ballsOfCalibre_16 : decode cX3_ballsOfCalibre 16 = .ok (.iload_n 3, 1) := by decide +kernel
theorem dX3_ballsOfCalibre_17 : decode cX3_ballsOfCalibre 17 = .ok (.aaload, 1) := by decide +kernel
theorem dX3_ballsOfCalibre_18 : decode cX3_ballsOfCalibre 18 = .ok (.getfield 85, 3) := by decide +kernel
theorem dX3_ballsOfCalibre_21 : decode cX3_ballsOfCalibre 21 = .ok (.iload_n 1, 1) := by decide +kernel
theorem dX3_ballsOfCalibre_22 : decode cX3_ballsOfCalibre 22 = .ok (.if_icmp .ne 15, 3) := by decide +kernel
theorem dX3_ballsOfCalibre_25 : decode cX3_ballsOfCalibre 25 = .ok (.iload_n 2, 1) := by decide +kernel
theorem dX3_ballsOfCalibre_26 : decode cX3_ballsOfCalibre 26 = .ok (.aload_n 0, 1) := by decide +kernel
theorem dX3_ballsOfCalibre_27 : decode cX3_ballsOfCalibre 27 = .ok (.getfield 11, 3) := by decide +kernel
theorem dX3_ballsOfCalibre_30 : decode cX3_ballsOfCalibre 30 = .ok (.iload_n 3, 1) := by decide +kernel
theorem dX3_ballsOfCalibre_31 : decode cX3_ballsOfCalibre 31 = .ok (.aaload, 1) := by decide +kernel
theorem dX3_ballsOfCalibre_32 : decode cX3_ballsOfCalibre 32 = .ok (.getfield 95, 3) := by decide +kernel
theorem dX3_ballsOfCalibre_35 : decode cX3_ballsOfCalibre 35 = .ok (.iadd, 1) := by decide +kernel
theorem dX3_ballsOfCalibre_36 : decode cX3_ballsOfCalibre 36 = .ok (.istore_n 2, 1) := by decide +kernel
theorem dX3_ballsOfCalibre_37 : decode cX3_ballsOfCalibre 37 = .ok (.iinc 3 1, 3) := by decide +kernel
theorem dX3_ballsOfCalibre_40 : decode cX3_ballsOfCalibre 40 = .ok (.goto (-36), 3) := by decide +kernel
theorem dX3_ballsOfCalibre_43 : decode cX3_ballsOfCalibre 43 = .ok (.iload_n 2, 1) := by decide +kernel
theorem dX3_ballsOfCalibre_44 : decode cX3_ballsOfCalibre 44 = .ok (.ireturn, 1) := by decide +kernel
set_option maxRecDepth 20000 in
theorem ggX3_ballCount_X6_all : GoodIn wsX3_ballCount wsX6_all := goodIn_r _ [10, 11, 35] (by decide +kernel) (by decide +kernel)
set_option maxRecDepth 20000 in
theorem gX3_ballCount_X6_all : GoodIn wsX3_ballCount (wsV RX3 98 RX6 yX6_all wsX6_all) := goodIn_app (goodIn_of _ (by decide +kernel)) ggX3_ballCount_X6_all
set_option maxRecDepth 20000 in
theorem ggX3_ballCount_X1_rustyBalls : GoodIn wsX3_ballCount wsX1_rustyBalls := goodIn_r _ [16, 17, 18, 19, 20, 15, 21, 22, 31, 32, 33, 34] (by decide +kernel) (by decide +kernel)
set_option maxRecDepth 20000 in
theorem gX3_ballCount_X1_rustyBalls : GoodIn wsX3_ballCount (wsV RX3 101 RX1 yX1_rustyBalls wsX1_rustyBalls) := goodIn_app (goodIn_of _ (by decide +kernel)) ggX3_ballCount_X1_rustyBalls
theorem dX3_ballCount_0 : decode cX3_ballCount 0 = .ok (.iload_n 1, 1) := by decide +kernel
theorem dX3_ballCount_1 : decode cX3_ballCount 1 = .ok (.iconst 4, 1) := by decide +kernel
theorem dX3_ballCount_2 : decode cX3_ballCount 2 = .ok (.if_icmp .ne 11, 3) := by decide +kernel
theorem dX3_ballCount_5 : decode cX3_ballCount 5 = .ok (.aload_n 0, 1) := by decide +kernel
theorem dX3_ballCount_6 : decode cX3_ballCount 6 = .ok (.getfield 30, 3) := by decide +kernel
theorem dX3_ballCount_9 : decode cX3_ballCount 9 = .ok (.invokevirtual 98, 3) := by decide +kernel
theorem dX3_ballCount_12 : decode cX3_ballCount 12 = .ok (.ireturn, 1) := by decide +kernel
theorem dX3_ballCount_13 : decode cX3_ballCount 13 = .ok (.iconst 0, 1) := by decide +kernel
theorem dX3_ballCount_14 : decode cX3_ballCount 14 = .ok (.istore_n 2, 1) := by decide +kernel
theorem dX3_ballCount_15 : decode cX3_ballCount 15 = .ok (.iconst 0, 1) := by decide +kernel
theorem dX3_ballCount_16 : decode cX3_ballCount 16 = .ok (.istore_n 3, 1) := by decide +kernel
theorem dX3_ballCount_17 : decode cX3_ballCount 17 = .ok (.iload_n 3, 1) := by decide +kernel
theorem dX3_ballCount_18 : decode cX3_ballCount 18 = .ok (.aload_n 0, 1) := by decide +kernel
theorem dX3_ballCount_19 : decode cX3_ballCount 19 = .ok (.getfield 38, 3) := by decide +kernel
theorem dX3_ballCount_22 : decode cX3_ballCount 22 = .ok (.if_icmp .ge 43, 3) := by decide +kernel
theorem dX3_ballCount_25 : decode cX3_ballCount 25 = .ok (.iload_n 2, 1) := by decide +kernel
theorem dX3_ballCount_26 : decode cX3_ballCount 26 = .ok (.iload_n 1, 1) := by decide +kernel
theorem dX3_ballCount_27 : decode cX3_ballCount 27 = .ok (.bipush 6, 2) := by decide +kernel
theorem dX3_ballCount_29 : decode cX3_ballCount 29 = .ok (.if_icmp .ne 19, 3) := by decide +kernel
theorem dX3_ballCount_32 : decode cX3_ballCount 32 = .ok (.aload_n 0, 1) := by decide +kernel
theorem dX3_ballCount_33 : decode cX3_ballCount 33 = .ok (.getfield 11, 3) := by decide +kernel
theorem dX3_ballCount_36 : decode cX3_ballCount 36 = .ok (.iload_n 3, 1) := by decide +kernel
theorem dX3_ballCount_37 : decode cX3_ballCount 37 = .ok (.aaload, 1) := by decide +kernel
theorem dX3_ballCount_38 : decode cX3_ballCount 38 = .ok (.aload_n 0, 1) := by decide +kernel
theorem dX3_ballCount_39 : decode cX3_ballCount 39 = .ok (.getfield 34, 3) := by decide +kernel
theorem dX3_ballCount_42 : decode cX3_ballCount 42 = .ok (.invokevirtual 101, 3) := by decide +kernel
theorem dX3_ballCount_45 : decode cX3_ballCount 45 = .ok (.goto 12, 3) := by decide +kernel
theorem dX3_ballCount_48 : decode cX3_ballCount 48 = .ok (.aload_n 0, 1) := by decide +kernel
theorem dX3_ballCount_49 : decode cX3_ballCount 49 = .ok (.getfield 11, 3) := by decide +kernel
theorem dX3_ballCount_52 : decode cX3_ballCount 52 = .ok (.iload_n 3, 1) := by decide +kernel
theorem dX3_ballCount_53 : decode cX3_ballCount 53 = .ok (.aaload, 1) := by decide +kernel
theorem dX3_ballCount_54 : decode cX3_ballCount 54 = .ok (.getfield 95, 3) := by decide +kernel
theorem dX3_ballCount_57 : decode cX3_ballCount 57 = .ok (.iadd, 1) := by decide +kernel
theorem dX3_ballCount_58 : decode cX3_ballCount 58 = .ok (.istore_n 2, 1) := by decide +kernel
theorem dX3_ballCount_59 : decode cX3_ballCount 59 = .ok (.iinc 3 1, 3) := by decide +kernel
theorem dX3_ballCount_62 : decode cX3_ballCount 62 = .ok (.goto (-45), 3) := by decide +kernel
theorem dX3_ballCount_65 : decode cX3_ballCount 65 = .ok (.iload_n 2, 1) := by decide +kernel
theorem dX3_ballCount_66 : decode cX3_ballCount 66 = .ok (.ireturn, 1) := by decide +kernel
