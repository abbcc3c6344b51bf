theorem dX5_init_0 : decode cX5_init 0 = .ok (.aload_n 0, 1) := by decide +kernel
theorem dX5_init_1 : decode cX5_init 1 = .ok (.invokespecial 1, 3) := by decide +kernel
theorem dX5_init_4 : decode cX5_init 4 = .ok (.aload_n 0, 1) := by decide +kernel
theorem dX5_init_5 : decode cX5_init 5 = .ok (.bipush 6, 2) := by decide +kernel
theorem dX5_init_7 : decode cX5_init 7 = .ok (.putfield 7, 3) := by decide +kernel
theorem dX5_init_10 : decode cX5_init 10 = .ok (.aload_n 0, 1) := by decide +kernel
theorem dX5_init_11 : decode cX5_init 11 = .ok (.bipush 6, 2) := by decide +kernel
theorem dX5_init_13 : decode cX5_init 13 = .ok (.newarray .int, 2) := by decide +kernel
theorem dX5_init_15 : decode cX5_init 15 = .ok (.putfield 13, 3) := by decide +kernel
theorem dX5_init_18 : decode cX5_init 18 = .ok (.aload_n 0, 1) := by decide +kernel
theorem dX5_init_19 : decode cX5_init 19 = .ok (.bipush 6, 2) := by decide +kernel
theorem dX5_init_21 : decode cX5_init 21 = .ok (.newarray .int, 2) := by decide +kernel
theorem dX5_init_23 : decode cX5_init 23 = .ok (.putfield 17, 3) := by decide +kernel
theorem dX5_init_26 : decode cX5_init 26 = .ok (.aload_n 0, 1) := by decide +kernel
theorem dX5_init_27 : decode cX5_init 27 = .ok (.iconst 3, 1) := by decide +kernel
theorem dX5_init_28 : decode cX5_init 28 = .ok (.newarray .int, 2) := by decide +kernel
theorem dX5_init_30 : decode cX5_init 30 = .ok (.putfield 20, 3) := by decide +kernel
theorem dX5_init_33 : decode cX5_init 33 = .ok (.aload_n 0, 1) := by decide +kernel
theorem dX5_init_34 : decode cX5_init 34 = .ok (.bipush 6, 2) := by decide +kernel
theorem dX5_init_36 : decode cX5_init 36 = .ok (.newarray .int, 2) := by decide +kernel
theorem dX5_init_38 : decode cX5_init 38 = .ok (.putfield 23, 3) := by decide +kernel
theorem dX5_init_41 : decode cX5_init 41 = .ok (.aload_n 0, 1) := by decide +kernel
theorem dX5_init_42 : decode cX5_init 42 = .ok (.sipush 546, 3) := by decide +kernel
theorem dX5_init_45 : decode cX5_init 45 = .ok (.newarray .int, 2) := by decide +kernel
theorem dX5_init_47 : decode cX5_init 47 = .ok (.putfield 26, 3) := by decide +kernel
theorem dX5_init_50 : decode cX5_init 50 = .ok (.aload_n 0, 1) := by decide +kernel
theorem dX5_init_51 : decode cX5_init 51 = .ok (.bipush 20, 2) := by decide +kernel
theorem dX5_init_53 : decode cX5_init 53 = .ok (.newarray .int, 2) := by decide +kernel
theorem dX5_init_55 : decode cX5_init 55 = .ok (.putfield 29, 3) := by decide +kernel
theorem dX5_init_58 : decode cX5_init 58 = .ok (.aload_n 0, 1) := by decide +kernel
theorem dX5_init_59 : decode cX5_init 59 = .ok (.iconst 3, 1) := by decide +kernel
theorem dX5_init_60 : decode cX5_init 60 = .ok (.newarray .int, 2) := by decide +kernel
theorem dX5_init_62 : decode cX5_init 62 = .ok (.putfield 32, 3) := by decide +kernel
theorem dX5_init_65 : decode cX5_init 65 = .ok (.aload_n 0, 1) := by decide +kernel
theorem dX5_init_66 : decode cX5_init 66 = .ok (.iconst 3, 1) := by decide +kernel
theorem dX5_init_67 : decode cX5_init 67 = .ok (.newarray .int, 2) := by decide +kernel
theorem dX5_init_69 : decode cX5_init 69 = .ok (.putfield 35, 3) := by decide +kernel
theorem dX5_init_72 : decode cX5_init 72 = .ok (.aload_n 0, 1) := by decide +kernel
theorem dX5_init_73 : decode cX5_init 73 = .ok (.bipush 6, 2) := by decide +kernel
theorem dX5_init_75 : decode cX5_init 75 = .ok (.newarray .int, 2) := by decide +kernel
theorem dX5_init_77 : decode cX5_init 77 = .ok (.putfield 38, 3) := by decide +kernel
theorem dX5_init_80 : decode cX5_init 80 = .ok (.aload_n 0, 1) := by decide +kernel
theorem dX5_init_81 : decode cX5_init 81 = .ok (.sipush 546, 3) := by decide +kernel
theorem dX5_init_84 : decode cX5_init 84 = .ok (.newarray .int, 2) := by decide +kernel
theorem dX5_init_86 : decode cX5_init 86 = .ok (.putfield 41, 3) := by decide +kernel
theorem dX5_init_89 : decode cX5_init 89 = .ok (.aload_n 0, 1) := by decide +kernel
theorem dX5_init_90 : decode cX5_init 90 = .ok (.bipush 20, 2) := by decide +kernel
theorem dX5_init_92 : decode cX5_init 92 = .ok (.newarray .int, 2) := by decide +kernel
theorem dX5_init_94 : decode cX5_init 94 = .ok (.putfield 44, 3) := by decide +kernel
theorem dX5_init_97 : decode cX5_init 97 = .ok (.aload_n 0, 1) := by decide +kernel
theorem dX5_init_98 : decode cX5_init 98 = .ok (.iconst 3, 1) := by decide +kernel
theorem dX5_init_99 : decode cX5_init 99 = .ok (.newarray .int, 2) := by decide +kernel
theorem dX5_init_101 : decode cX5_init 101 = .ok (.putfield 47, 3) := by decide +kernel
theorem dX5_init_104 : decode cX5_init 104 = .ok (.aload_n 0, 1) := by decide +kernel
theorem dX5_init_105 : decode cX5_init 105 = .ok (.iconst 3, 1) := by decide +kernel
theorem dX5_init_106 : decode cX5_init 106 = .ok (.newarray .int, 2) := by decide +kernel
theorem dX5_init_108 : decode cX5_init 108 = .ok (.putfield 50, 3) := by decide +kernel
theorem dX5_init_111 : decode cX5_init 111 = .ok (.return_, 1) := by decide +kernel
theorem dX5_thrown_0 : decode cX5_thrown 0 = .ok (.aload_n 0, 1) := by decide +kernel
theorem dX5_thrown_1 : decode cX5_thrown 1 = .ok (.getfield 53, 3) := by decide +kernel
theorem dX5_thrown_4 : decode cX5_thrown 4 = .ok (.ireturn, 1) := by decide +kernel
theorem dX5_fail_0 : decode cX5_fail 0 = .ok (.aload_n 0, 1) := by decide +kernel
theorem dX5_fail_1 : decode cX5_fail 1 = .ok (.iload_n 1, 1) := by decide +kernel
theorem dX5_fail_2 : decode cX5_fail 2 = .ok (.putfield 53, 3) := by decide +kernel
theorem dX5_fail_5 : decode cX5_fail 5 = .ok (.iconst 0, 1) := by decide +kernel
theorem dX5_fail_6 : decode cX5_fail 6 = .ok (.ireturn, 1) := by decide +kernel
theorem dX5_isIn_0 : decode cX5_isIn 0 = .ok (.iload_n 0, 1) := by decide +kernel
theorem dX5_isIn_1 : decode cX5_isIn 1 = .ok (.iload_n 1, 1) := by decide +kernel
theorem dX5_isIn_2 : decode cX5_isIn 2 = .ok (.if_icmp .lt 12, 3) := by decide +kernel
theorem dX5_isIn_5 : decode cX5_isIn 5 = .ok (.iload_n 0, 1) := by decide +kernel
theorem dX5_isIn_6 : decode cX5_isIn 6 = .ok (.iload_n 2, 1) := by decide +kernel
theorem dX5_isIn_7 : decode cX5_isIn 7 = .ok (.if_icmp .gt 7, 3) := by decide +kernel
theorem dX5_isIn_10 : decode cX5_isIn 10 = .ok (.iconst 1, 1) := by decide +kernel
theorem dX5_isIn_11 : decode cX5_isIn 11 = .ok (.goto 4, 3) := by decide +kernel
theorem dX5_isIn_14 : decode cX5_isIn 14 = .ok (.iconst 0, 1) := by decide +kernel
theorem dX5_isIn_15 : decode cX5_isIn 15 = .ok (.ireturn, 1) := by decide +kernel
set_option maxRecDepth 20000 in
theorem ggX5_isPile_X5_isIn : GoodIn wsX5_isPile wsX5_isIn := goodIn_r _ [5] (by decide +kernel) (by decide +kernel)
set_option maxRecDepth 20000 in
theorem gX5_isPile_X5_isIn : GoodIn wsX5_isPile (va_wsS RX5 59 yX5_isIn wsX5_isIn) := goodIn_app (goodIn_of _ (by decide +kernel)) ggX5_isPile_X5_isIn
theorem dX5_isPile_0 : decode cX5_isPile 0 = .ok (.iload_n 1, 1) := by decide +kernel
theorem dX5_isPile_1 : decode cX5_isPile 1 = .ok (.iconst 0, 1) := by decide +kernel
theorem dX5_isPile_2 : decode cX5_isPile 2 = .ok (.aload_n 0, 1) := by decide +kernel
theorem dX5_isPile_3 : decode cX5_isPile 3 = .ok (.getfield 56, 3) := by decide +kernel
theorem dX5_isPile_6 : decode cX5_isPile 6 = .ok (.iconst 1, 1) := by decide +kernel
theorem dX5_isPile_7 : decode cX5_isPile 7 = .ok (.isub, 1) := by decide +kernel
theorem dX5_isPile_8 : decode cX5_isPile 8 = .ok (.invokestatic 59, 3) := by decide +kernel
theorem dX5_isPile_11 : decode cX5_isPile 11 = .ok (.ireturn, 1) := by decide +kernel
set_option maxRecDepth 20000 in
theorem ggX5_isCalibre_X5_isIn : GoodIn wsX5_isCalibre wsX5_isIn := goodIn_r _ [4] (by decide +kernel) (by decide +kernel)
set_option maxRecDepth 20000 in
theorem gX5_isCalibre_X5_isIn : GoodIn wsX5_isCalibre (va_wsS RX5 59 yX5_isIn wsX5_isIn) := goodIn_app (goodIn_of _ (by decide +kernel)) ggX5_isCalibre_X5_isIn
theorem dX5_isCalibre_0 : decode cX5_isCalibre 0 = .ok (.iload_n 0, 1) := by decide +kernel
theorem dX5_isCalibre_1 : decode cX5_isCalibre 1 = .ok (.iconst 0, 1) := by decide +kernel
theorem dX5_isCalibre_2 : decode cX5_isCalibre 2 = .ok (.iconst 4, 1) := by decide +kernel
theorem dX5_isCalibre_3 : decode cX5_isCalibre 3 = .ok (.invokestatic 59, 3) := by decide +kernel
theorem dX5_isCalibre_6 : decode cX5_isCalibre 6 = .ok (.ireturn, 1) := by decide +kernel
theorem dX5_of_0 : decode cX5_of 0 = .ok (.aload_n 0, 1) := by decide +kernel
theorem dX5_of_1 : decode cX5_of 1 = .ok (.getfield 29, 3) := by decide +kernel
theorem dX5_of_4 : decode cX5_of 4 = .ok (.iconst 4, 1) := by decide +kernel
theorem dX5_of_5 : decode cX5_of 5 = .ok (.aload_n 0, 1) := by decide +kernel
theorem dX5_of_6 : decode cX5_of 6 = .ok (.getfield 13, 3) := by decide +kernel
theorem dX5_of_9 : decode cX5_of 9 = .ok (.iload_n 1, 1) := by decide +kernel
theorem dX5_of_10 : decode cX5_of 10 = .ok (.iaload, 1) := by decide +kernel
theorem dX5_of_11 : decode cX5_of 11 = .ok (.imul, 1) := by decide +kernel
theorem dX5_of_12 : decode cX5_of 12 = .ok (.iload_n 2, 1) := by decide +kernel
theorem dX5_of_13 : decode cX5_of 13 = .ok (.iadd, 1) := by decide +kernel
theorem dX5_of_14 : decode cX5_of 14 = .ok (.iaload, 1) := by decide +kernel
theorem dX5_of_15 : decode cX5_of 15 = .ok (.ireturn, 1) := by decide +kernel
theorem dX5_more_0 : decode cX5_more 0 = .ok (.aload_n 0, 1) := by decide +kernel
theorem dX5_more_1 : decode cX5_more 1 = .ok (.getfield 29, 3) := by decide +kernel
theorem dX5_more_4 : decode cX5_more 4 = .ok (.iconst 4, 1) := by decide +kernel
theorem dX5_more_5 : decode cX5_more 5 = .ok (.iload_n 1, 1) := by decide +kernel
theorem dX5_more_6 : decode cX5_more 6 = .ok (.imul, 1) := by decide +kernel
theorem dX5_more_7 : decode cX5_more 7 = .ok (.iload_n 2, 1) := by decide +kernel
theorem dX5_more_8 : decode cX5_more 8 = .ok (.iadd, 1) := by decide +kernel
theorem dX5_more_9 : decode cX5_more 9 = .ok (.dup2, 1) := by decide +kernel
theorem dX5_more_10 : decode cX5_more 10 = .ok (.iaload, 1) := by decide +kernel
theorem dX5_more_11 : decode cX5_more 11 = .ok (.iload_n 3, 1) := by decide +kernel
theorem dX5_more_12 : decode cX5_more 12 = .ok (.iadd, 1) := by decide +kernel
theorem dX5_more_13 : decode cX5_more 13 = .ok (.iastore, 1) := by decide +kernel
theorem dX5_more_14 : decode cX5_more 14 = .ok (.return_, 1) := by decide +kernel
theorem dX5_keep_0 : decode cX5_keep 0 = .ok (.aload_n 0, 1) := by decide +kernel
theorem dX5_keep_1 : decode cX5_keep 1 = .ok (.getfield 23, 3) := by decide +kernel
theorem dX5_keep_4 : decode cX5_keep 4 = .ok (.iconst 0, 1) := by decide +kernel
theorem dX5_keep_5 : decode cX5_keep 5 = .ok (.aload_n 0, 1) := by decide +kernel
theorem dX5_keep_6 : decode cX5_keep 6 = .ok (.getfield 38, 3) := by decide +kernel
theorem dX5_keep_9 : decode cX5_keep 9 = .ok (.iconst 0, 1) := by decide +kernel
theorem dX5_keep_10 : decode cX5_keep 10 = .ok (.bipush 6, 2) := by decide +kernel
theorem dX5_keep_12 : decode cX5_keep 12 = .ok (.invokestatic 63, 3) := by decide +kernel
theorem dX5_keep_15 : decode cX5_keep 15 = .ok (.aload_n 0, 1) := by decide +kernel
theorem dX5_keep_16 : decode cX5_keep 16 = .ok (.getfield 26, 3) := by decide +kernel
theorem dX5_keep_19 : decode cX5_keep 19 = .ok (.iconst 0, 1) := by decide +kernel
theorem dX5_keep_20 : decode cX5_keep 20 = .ok (.aload_n 0, 1) := by decide +kernel
theorem dX5_keep_21 : decode cX5_keep 21 = .ok (.getfield 41, 3) := by decide +kernel
theorem dX5_keep_24 : decode cX5_keep 24 = .ok (.iconst 0, 1) := by decide +kernel
theorem dX5_keep_25 : decode cX5_keep 25 = .ok (.aload_n 0, 1) := by decide +kernel
theorem dX5_keep_26 : decode cX5_keep 26 = .ok (.getfield 26, 3) := by decide +kernel
theorem dX5_keep_29 : decode cX5_keep 29 = .ok (.arraylength, 1) := by decide +kernel
theorem dX5_keep_30 : decode cX5_keep 30 = .ok (.invokestatic 63, 3) := by decide +kernel
theorem dX5_keep_33 : decode cX5_keep 33 = .ok (.aload_n 0, 1) := by decide +kernel
theorem dX5_keep_34 : decode cX5_keep 34 = .ok (.getfield 29, 3) := by decide +kernel
theorem dX5_keep_37 : decode cX5_keep 37 = .ok (.iconst 0, 1) := by decide +kernel
theorem dX5_keep_38 : decode cX5_keep 38 = .ok (.aload_n 0, 1) := by decide +kernel
theorem dX5_keep_39 : decode cX5_keep 39 = .ok (.getfield 44, 3) := by decide +kernel
theorem dX5_keep_42 : decode cX5_keep 42 = .ok (.iconst 0, 1) := by decide +kernel
theorem dX5_keep_43 : decode cX5_keep 43 = .ok (.aload_n 0, 1) := by decide +kernel
theorem dX5_keep_44 : decode cX5_keep 44 = .ok (.getfield 29, 3) := by decide +kernel
theorem dX5_keep_47 : decode cX5_keep 47 = .ok (.arraylength, 1) := by decide +kernel
theorem dX5_keep_48 : decode cX5_keep 48 = .ok (.invokestatic 63, 3) := by decide +kernel
theorem dX5_keep_51 : decode cX5_keep 51 = .ok (.aload_n 0, 1) := by decide +kernel
theorem dX5_keep_52 : decode cX5_keep 52 = .ok (.getfield 32, 3) := by decide +kernel
theorem dX5_keep_55 : decode cX5_keep 55 = .ok (.iconst 0, 1) := by decide +kernel
theorem dX5_keep_56 : decode cX5_keep 56 = .ok (.aload_n 0, 1) := by decide +kernel
theorem dX5_keep_57 : decode cX5_keep 57 = .ok (.getfield 47, 3) := by decide +kernel
theorem dX5_keep_60 : decode cX5_keep 60 = .ok (.iconst 0, 1) := by decide +kernel
theorem dX5_keep_61 : decode cX5_keep 61 = .ok (.iconst 3, 1) := by decide +kernel
theorem dX5_keep_62 : decode cX5_keep 62 = .ok (.invokestatic 63, 3) := by decide +kernel
theorem dX5_keep_65 : decode cX5_keep 65 = .ok (.aload_n 0, 1) := by decide +kernel
theorem dX5_keep_66 : decode cX5_keep 66 = .ok (.getfield 35, 3) := by decide +kernel
theorem dX5_keep_69 : decode cX5_keep 69 = .ok (.iconst 0, 1) := by decide +kernel
theorem dX5_keep_70 : decode cX5_keep 70 = .ok (.aload_n 0, 1) := by decide +kernel
theorem dX5_keep_71 : decode cX5_keep 71 = .ok (.getfield 50, 3) := by decide +kernel
theorem dX5_keep_74 : decode cX5_keep 74 = .ok (.iconst 0, 1) := by decide +kernel
theorem dX5_keep_75 : decode cX5_keep 75 = .ok (.iconst 3, 1) := by decide +kernel
theorem dX5_keep_76 : decode cX5_keep 76 = .ok (.invokestatic 63, 3) := by decide +kernel
theorem dX5_keep_79 : decode cX5_keep 79 = .ok (.return_, 1) := by decide +kernel
theorem dX5_bringBack_0 : decode cX5_bringBack 0 = .ok (.aload_n 0, 1) := by decide +kernel
theorem dX5_bringBack_1 : decode cX5_bringBack 1 = .ok (.getfield 38, 3) := by decide +kernel
theorem dX5_bringBack_4 : decode cX5_bringBack 4 = .ok (.iconst 0, 1) := by decide +kernel
theorem dX5_bringBack_5 : decode cX5_bringBack 5 = .ok (.aload_n 0, 1) := by decide +kernel
theorem dX5_bringBack_6 : decode cX5_bringBack 6 = .ok (.getfield 23, 3) := by decide +kernel
theorem dX5_bringBack_9 : decode cX5_bringBack 9 = .ok (.iconst 0, 1) := by decide +kernel
theorem dX5_bringBack_10 : decode cX5_bringBack 10 = .ok (.bipush 6, 2) := by decide +kernel
theorem dX5_bringBack_12 : decode cX5_bringBack 12 = .ok (.invokestatic 63, 3) := by decide +kernel
theorem dX5_bringBack_15 : decode cX5_bringBack 15 = .ok (.aload_n 0, 1) := by decide +kernel
theorem dX5_bringBack_16 : decode cX5_bringBack 16 = .ok (.getfield 41, 3) := by decide +kernel
theorem dX5_bringBack_19 : decode cX5_bringBack 19 = .ok (.iconst 0, 1) := by decide +kernel
theorem dX5_bringBack_20 : decode cX5_bringBack 20 = .ok (.aload_n 0, 1) := by decide +kernel
theorem dX5_bringBack_21 : decode cX5_bringBack 21 = .ok (.getfield 26, 3) := by decide +kernel
theorem dX5_bringBack_24 : decode cX5_bringBack 24 = .ok (.iconst 0, 1) := by decide +kernel
theorem dX5_bringBack_25 : decode cX5_bringBack 25 = .ok (.aload_n 0, 1) := by decide +kernel
theorem dX5_bringBack_26 : decode cX5_bringBack 26 = .ok (.getfield 26, 3) := by decide +kernel
theorem dX5_bringBack_29 : decode cX5_bringBack 29 = .ok (.arraylength, 1) := by decide +kernel
theorem dX5_bringBack_30 : decode cX5_bringBack 30 = .ok (.invokestatic 63, 3) := by decide +kernel
theorem dX5_bringBack_33 : decode cX5_bringBack 33 = .ok (.aload_n 0, 1) := by decide +kernel
theorem dX5_bringBack_34 : decode cX5_bringBack 34 = .ok (.getfield 44, 3) := by decide +kernel
theorem dX5_bringBack_37 : decode cX5_bringBack 37 = .ok (.iconst 0, 1) := by decide +kernel
theorem dX5_bringBack_38 : decode cX5_bringBack 38 = .ok (.aload_n 0, 1) := by decide +kernel
theorem dX5_bringBack_39 : decode cX5_bringBack 39 = .ok (.getfield 29, 3) := by decide +kernel
theorem dX5_bringBack_42 : decode cX5_bringBack 42 = .ok (.iconst 0, 1) := by decide +kernel
theorem dX5_bringBack_43 : decode cX5_bringBack 43 = .ok (.aload_n 0, 1) := by decide +kernel
theorem dX5_bringBack_44 : decode cX5_bringBack 44 = .ok (.getfield 29, 3) := by decide +kernel
theorem dX5_bringBack_47 : decode cX5_bringBack 47 = .ok (.arraylength, 1) := by decide +kernel
theorem dX5_bringBack_48 : decode cX5_bringBack 48 = .ok (.invokestatic 63, 3) := by decide +kernel
theorem dX5_bringBack_51 : decode cX5_bringBack 51 = .ok (.aload_n 0, 1) := by decide +kernel
theorem dX5_bringBack_52 : decode cX5_bringBack 52 = .ok (.getfield 47, 3) := by decide +kernel
theorem dX5_bringBack_55 : decode cX5_bringBack 55 = .ok (.iconst 0, 1) := by decide +kernel
theorem dX5_bringBack_56 : decode cX5_bringBack 56 = .ok (.aload_n 0, 1) := by decide +kernel
theorem dX5_bringBack_57 : decode cX5_bringBack 57 = .ok (.getfield 32, 3) := by decide +kernel
theorem dX5_bringBack_60 : decode cX5_bringBack 60 = .ok (.iconst 0, 1) := by decide +kernel
theorem dX5_bringBack_61 : decode cX5_bringBack 61 = .ok (.iconst 3, 1) := by decide +kernel
theorem dX5_bringBack_62 : decode cX5_bringBack 62 = .ok (.invokestatic 63, 3) := by decide +kernel
theorem dX5_bringBack_65 : decode cX5_bringBack 65 = .ok (.aload_n 0, 1) := by decide +kernel
theorem dX5_bringBack_66 : decode cX5_bringBack 66 = .ok (.getfield 50, 3) := by decide +kernel
theorem dX5_bringBack_69 : decode cX5_bringBack 69 = .ok (.iconst 0, 1) := by decide +kernel
theorem dX5_bringBack_70 : decode cX5_bringBack 70 = .ok (.aload_n 0, 1) := by decide +kernel
theorem dX5_bringBack_71 : decode cX5_bringBack 71 = .ok (.getfield 35, 3) := by decide +kernel
theorem dX5_bringBack_74 : decode cX5_bringBack 74 = .ok (.iconst 0, 1) := by decide +kernel
theorem dX5_bringBack_75 : decode cX5_bringBack 75 = .ok (.iconst 3, 1) := by decide +kernel
theorem dX5_bringBack_76 : decode cX5_bringBack 76 = .ok (.invokestatic 63, 3) := by decide +kernel
theorem dX5_bringBack_79 : decode cX5_bringBack 79 = .ok (.return_, 1) := by decide +kernel
theorem dX5_roomOf_0 : decode cX5_roomOf 0 = .ok (.iload_n 0, 1) := by decide +kernel
theorem dX5_roomOf_1 : decode cX5_roomOf 1 = .ok (.iload_n 0, 1) := by decide +kernel
theorem dX5_roomOf_2 : decode cX5_roomOf 2 = .ok (.iconst 1, 1) := by decide +kernel
theorem dX5_roomOf_3 : decode cX5_roomOf 3 = .ok (.iadd, 1) := by decide +kernel
theorem dX5_roomOf_4 : decode cX5_roomOf 4 = .ok (.imul, 1) := by decide +kernel
theorem dX5_roomOf_5 : decode cX5_roomOf 5 = .ok (.iconst 2, 1) := by decide +kernel
theorem dX5_roomOf_6 : decode cX5_roomOf 6 = .ok (.iload_n 0, 1) := by decide +kernel
theorem dX5_roomOf_7 : decode cX5_roomOf 7 = .ok (.imul, 1) := by decide +kernel
theorem dX5_roomOf_8 : decode cX5_roomOf 8 = .ok (.iconst 1, 1) := by decide +kernel
theorem dX5_roomOf_9 : decode cX5_roomOf 9 = .ok (.iadd, 1) := by decide +kernel
theorem dX5_roomOf_10 : decode cX5_roomOf 10 = .ok (.imul, 1) := by decide +kernel
theorem dX5_roomOf_11 : decode cX5_roomOf 11 = .ok (.bipush 6, 2) := by decide +kernel
theorem dX5_roomOf_13 : decode cX5_roomOf 13 = .ok (.idiv, 1) := by decide +kernel
theorem dX5_roomOf_14 : decode cX5_roomOf 14 = .ok (.ireturn, 1) := by decide +kernel
set_option maxRecDepth 20000 in
theorem ggX5_room_X5_roomOf : GoodIn wsX5_room wsX5_roomOf := goodIn_r _ [5] (by decide +kernel) (by decide +kernel)
set_option maxRecDepth 20000 in
theorem gX5_room_X5_roomOf : GoodIn wsX5_room (va_wsS RX5 69 yX5_roomOf wsX5_roomOf) := goodIn_app (goodIn_of _ (by decide +kernel)) ggX5_room_X5_roomOf
theorem dX5_room_0 : decode cX5_room 0 = .ok (.aload_n 0, 1) := by decide +kernel
theorem dX5_room_1 : decode cX5_room 1 = .ok (.getfield 17, 3) := by decide +kernel
theorem dX5_room_4 : decode cX5_room 4 = .ok (.iload_n 1, 1) := by decide +kernel
theorem dX5_room_5 : decode cX5_room 5 = .ok (.iaload, 1) := by decide +kernel
theorem dX5_room_6 : decode cX5_room 6 = .ok (.invokestatic 69, 3) := by decide +kernel
theorem dX5_room_9 : decode cX5_room 9 = .ok (.aload_n 0, 1) := by decide +kernel
theorem dX5_room_10 : decode cX5_room 10 = .ok (.getfield 17, 3) := by decide +kernel
theorem dX5_room_13 : decode cX5_room 13 = .ok (.iload_n 1, 1) := by decide +kernel
theorem dX5_room_14 : decode cX5_room 14 = .ok (.iaload, 1) := by decide +kernel
theorem dX5_room_15 : decode cX5_room 15 = .ok (.iload_n 2, 1) := by decide +kernel
theorem dX5_room_16 : decode cX5_room 16 = .ok (.isub, 1) := by decide +kernel
theorem dX5_room_17 : decode cX5_room 17 = .ok (.invokestatic 69, 3) := by decide +kernel
theorem dX5_room_20 : decode cX5_room 20 = .ok (.isub, 1) := by decide +kernel
theorem dX5_room_21 : decode cX5_room 21 = .ok (.ireturn, 1) := by decide +kernel
set_option maxRecDepth 20000 in
theorem ggX5_layers_X5_room : GoodIn wsX5_layers wsX5_room := goodIn_r _ [5, 6, 7, 8, 4, 9, 10, 11, 12, 13, 14, 15, 16, 17, 18, 19, 20, 21, 22, 23, 24, 25, 26, 27, 28] (by decide +kernel) (by decide +kernel)
set_option maxRecDepth 20000 in
theorem gX5_layers_X5_room : GoodIn wsX5_layers (wsV RX5 73 RX5 yX5_room wsX5_room) := goodIn_app (goodIn_of _ (by decide +kernel)) ggX5_layers_X5_room
theorem dX5_layers_0 : decode cX5_layers 0 = .ok (.iconst 0, 1) := by decide +kernel
theorem dX5_layers_1 : decode cX5_layers 1 = .ok (.istore_n 3, 1) := by decide +kernel
theorem dX5_layers_2 : decode cX5_layers 2 = .ok (.aload_n 0, 1) := by decide +kernel
theorem dX5_layers_3 : decode cX5_layers 3 = .ok (.iload_n 1, 1) := by decide +kernel
theorem dX5_layers_4 : decode cX5_layers 4 = .ok (.iload_n 3, 1) := by decide +kernel
theorem dX5_layers_5 : decode cX5_layers 5 = .ok (.invokevirtual 73, 3) := by decide +kernel
theorem dX5_layers_8 : decode cX5_layers 8 = .ok (.iload_n 2, 1) := by decide +kernel
theorem dX5_layers_9 : decode cX5_layers 9 = .ok (.if_icmp .ge 9, 3) := by decide +kernel
theorem dX5_layers_12 : decode cX5_layers 12 = .ok (.iinc 3 1, 3) := by decide +kernel
theorem dX5_layers_15 : decode cX5_layers 15 = .ok (.goto (-13), 3) := by decide +kernel
theorem dX5_layers_18 : decode cX5_layers 18 = .ok (.iload_n 3, 1) := by decide +kernel
theorem dX5_layers_19 : decode cX5_layers 19 = .ok (.ireturn, 1) := by decide +kernel
set_option maxRecDepth 20000 in
theorem ggX5_full_X5_room : GoodIn wsX5_full wsX5_room := goodIn_r _ [7, 1, 8, 9, 6, 10, 11, 12, 13, 14, 15, 16, 17, 18, 19, 20, 21, 22, 23, 24, 25, 26, 27, 28, 29] (by decide +kernel) (by decide +kernel)
set_option maxRecDepth 20000 in
theorem gX5_full_X5_room : GoodIn wsX5_full (wsV RX5 73 RX5 yX5_room wsX5_room) := goodIn_app (goodIn_of _ (by decide +kernel)) ggX5_full_X5_room
theorem dX5_full_0 : decode cX5_full 0 = .ok (.iconst 0, 1) := by decide +kernel
theorem dX5_full_1 : decode cX5_full 1 = .ok (.istore_n 2, 1) := by decide +kernel
theorem dX5_full_2 : decode cX5_full 2 = .ok (.iload_n 2, 1) := by decide +kernel
theorem dX5_full_3 : decode cX5_full 3 = .ok (.aload_n 0, 1) := by decide +kernel
theorem dX5_full_4 : decode cX5_full 4 = .ok (.getfield 17, 3) := by decide +kernel
theorem dX5_full_7 : decode cX5_full 7 = .ok (.iload_n 1, 1) := by decide +kernel
theorem dX5_full_8 : decode cX5_full 8 = .ok (.iaload, 1) := by decide +kernel
theorem dX5_full_9 : decode cX5_full 9 = .ok (.if_icmp .ge 26, 3) := by decide +kernel
theorem dX5_full_12 : decode cX5_full 12 = .ok (.aload_n 0, 1) := by decide +kernel
theorem dX5_full_13 : decode cX5_full 13 = .ok (.iload_n 1, 1) := by decide +kernel
theorem dX5_full_14 : decode cX5_full 14 = .ok (.iload_n 2, 1) := by decide +kernel
theorem dX5_full_15 : decode cX5_full 15 = .ok (.iconst 1, 1) := by decide +kernel
theorem dX5_full_16 : decode cX5_full 16 = .ok (.iadd, 1) := by decide +kernel
theorem dX5_full_17 : decode cX5_full 17 = .ok (.invokevirtual 73, 3) := by decide +kernel
theorem dX5_full_20 : decode cX5_full 20 = .ok (.aload_n 0, 1) := by decide +kernel
theorem dX5_full_21 : decode cX5_full 21 = .ok (.getfield 23, 3) := by decide +kernel
theorem dX5_full_24 : decode cX5_full 24 = .ok (.iload_n 1, 1) := by decide +kernel
theorem dX5_full_25 : decode cX5_full 25 = .ok (.iaload, 1) := by decide +kernel
theorem dX5_full_26 : decode cX5_full 26 = .ok (.if_icmp .gt 9, 3) := by decide +kernel
theorem dX5_full_29 : decode cX5_full 29 = .ok (.iinc 2 1, 3) := by decide +kernel
theorem dX5_full_32 : decode cX5_full 32 = .ok (.goto (-30), 3) := by decide +kernel
theorem dX5_full_35 : decode cX5_full 35 = .ok (.iload_n 2, 1) := by decide +kernel
theorem dX5_full_36 : decode cX5_full 36 = .ok (.ireturn, 1) := by decide +kernel
set_option maxRecDepth 20000 in
theorem ggX5_lies_X5_full_ : GoodIn wsX5_lies wsX5_full_ := goodIn_r _ [6, 7, 8, 9, 5, 10, 1, 11, 12, 13, 14, 15, 16, 17, 18, 19, 20, 21, 22, 23, 24, 25, 26, 27, 28, 29, 30, 31, 32] (by decide +kernel) (by decide +kernel)
set_option maxRecDepth 20000 in
theorem gX5_lies_X5_full_ : GoodIn wsX5_lies (wsV RX5 77 RX5 yX5_full_ wsX5_full_) := goodIn_app (goodIn_of _ (by decide +kernel)) ggX5_lies_X5_full_
set_option maxRecDepth 20000 in
theorem ggX5_lies_X5_room : GoodIn wsX5_lies wsX5_room := goodIn_r _ [10, 1, 11, 12, 5, 13, 14, 15, 16, 17, 18, 19, 20, 21, 22, 23, 24, 25, 26, 27, 28, 29, 30, 31, 32] (by decide +kernel) (by decide +kernel)
set_option maxRecDepth 20000 in
theorem gX5_lies_X5_room : GoodIn wsX5_lies (wsV RX5 73 RX5 yX5_room wsX5_room) := goodIn_app (goodIn_of _ (by decide +kernel)) ggX5_lies_X5_room
theorem dX5_lies_0 : decode cX5_lies 0 = .ok (.aload_n 0, 1) := by decide +kernel
theorem dX5_lies_1 : decode cX5_lies 1 = .ok (.iload_n 1, 1) := by decide +kernel
theorem dX5_lies_2 : decode cX5_lies 2 = .ok (.iload_n 2, 1) := by decide +kernel
theorem dX5_lies_3 : decode cX5_lies 3 = .ok (.invokevirtual 77, 3) := by decide +kernel
theorem dX5_lies_6 : decode cX5_lies 6 = .ok (.istore 4, 2) := by decide +kernel
theorem dX5_lies_8 : decode cX5_lies 8 = .ok (.aload_n 0, 1) := by decide +kernel
theorem dX5_lies_9 : decode cX5_lies 9 = .ok (.getfield 17, 3) := by decide +kernel
theorem dX5_lies_12 : decode cX5_lies 12 = .ok (.iload_n 1, 1) := by decide +kernel
theorem dX5_lies_13 : decode cX5_lies 13 = .ok (.iaload, 1) := by decide +kernel
theorem dX5_lies_14 : decode cX5_lies 14 = .ok (.iload 4, 2) := by decide +kernel
theorem dX5_lies_16 : decode cX5_lies 16 = .ok (.isub, 1) := by decide +kernel
theorem dX5_lies_17 : decode cX5_lies 17 = .ok (.istore 5, 2) := by decide +kernel
theorem dX5_lies_19 : decode cX5_lies 19 = .ok (.iload_n 2, 1) := by decide +kernel
theorem dX5_lies_20 : decode cX5_lies 20 = .ok (.aload_n 0, 1) := by decide +kernel
theorem dX5_lies_21 : decode cX5_lies 21 = .ok (.iload_n 1, 1) := by decide +kernel
theorem dX5_lies_22 : decode cX5_lies 22 = .ok (.iload 4, 2) := by decide +kernel
theorem dX5_lies_24 : decode cX5_lies 24 = .ok (.invokevirtual 73, 3) := by decide +kernel
theorem dX5_lies_27 : decode cX5_lies 27 = .ok (.isub, 1) := by decide +kernel
theorem dX5_lies_28 : decode cX5_lies 28 = .ok (.istore 6, 2) := by decide +kernel
theorem dX5_lies_30 : decode cX5_lies 30 = .ok (.iload_n 3, 1) := by decide +kernel
theorem dX5_lies_31 : decode cX5_lies 31 = .ok (.ifCond .ne 8, 3) := by decide +kernel
theorem dX5_lies_34 : decode cX5_lies 34 = .ok (.iload 4, 2) := by decide +kernel
theorem dX5_lies_36 : decode cX5_lies 36 = .ok (.goto 21, 3) := by decide +kernel
theorem dX5_lies_39 : decode cX5_lies 39 = .ok (.iload_n 3, 1) := by decide +kernel
theorem dX5_lies_40 : decode cX5_lies 40 = .ok (.iconst 1, 1) := by decide +kernel
theorem dX5_lies_41 : decode cX5_lies 41 = .ok (.if_icmp .ne 11, 3) := by decide +kernel
theorem dX5_lies_44 : decode cX5_lies 44 = .ok (.iload 6, 2) := by decide +kernel
theorem dX5_lies_46 : decode cX5_lies 46 = .ok (.iload 5, 2) := by decide +kernel
theorem dX5_lies_48 : decode cX5_lies 48 = .ok (.idiv, 1) := by decide +kernel
theorem dX5_lies_49 : decode cX5_lies 49 = .ok (.goto 8, 3) := by decide +kernel
theorem dX5_lies_52 : decode cX5_lies 52 = .ok (.iload 6, 2) := by decide +kernel
theorem dX5_lies_54 : decode cX5_lies 54 = .ok (.iload 5, 2) := by decide +kernel
theorem dX5_lies_56 : decode cX5_lies 56 = .ok (.irem, 1) := by decide +kernel
theorem dX5_lies_57 : decode cX5_lies 57 = .ok (.ireturn, 1) := by decide +kernel
set_option maxRecDepth 20000 in
theorem ggX5_full__X5_room : GoodIn wsX5_full_ wsX5_room := goodIn_r _ [5, 6, 7, 8, 4, 9, 10, 11, 12, 13, 14, 15, 16, 17, 18, 19, 20, 21, 22, 23, 24, 25, 26, 27, 28] (by decide +kernel) (by decide +kernel)
set_option maxRecDepth 20000 in
theorem gX5_full__X5_room : GoodIn wsX5_full_ (wsV RX5 73 RX5 yX5_room wsX5_room) := goodIn_app (goodIn_of _ (by decide +kernel)) ggX5_full__X5_room
theorem dX5_full__0 : decode cX5_full_ 0 = .ok (.iconst 0, 1) := by decide +kernel
theorem dX5_full__1 : decode cX5_full_ 1 = .ok (.istore_n 3, 1) := by decide +kernel
theorem dX5_full__2 : decode cX5_full_ 2 = .ok (.aload_n 0, 1) := by decide +kernel
theorem dX5_full__3 : decode cX5_full_ 3 = .ok (.iload_n 1, 1) := by decide +kernel
theorem dX5_full__4 : decode cX5_full_ 4 = .ok (.iload_n 3, 1) := by decide +kernel
theorem dX5_full__5 : decode cX5_full_ 5 = .ok (.iconst 1, 1) := by decide +kernel
theorem dX5_full__6 : decode cX5_full_ 6 = .ok (.iadd, 1) := by decide +kernel
theorem dX5_full__7 : decode cX5_full_ 7 = .ok (.invokevirtual 73, 3) := by decide +kernel
theorem dX5_full__10 : decode cX5_full_ 10 = .ok (.iload_n 2, 1) := by decide +kernel
theorem dX5_full__11 : decode cX5_full_ 11 = .ok (.if_icmp .gt 9, 3) := by decide +kernel
theorem dX5_full__14 : decode cX5_full_ 14 = .ok (.iinc 3 1, 3) := by decide +kernel
theorem dX5_full__17 : decode cX5_full_ 17 = .ok (.goto (-15), 3) := by decide +kernel
theorem dX5_full__20 : decode cX5_full_ 20 = .ok (.iload_n 3, 1) := by decide +kernel
theorem dX5_full__21 : decode cX5_full_ 21 = .ok (.ireturn, 1) := by decide +kernel
set_option maxRecDepth 20000 in
theorem ggX5_ballAt_X5_isIn : GoodIn wsX5_ballAt wsX5_isIn := goodIn_r _ [6] (by decide +kernel) (by decide +kernel)
set_option maxRecDepth 20000 in
theorem gX5_ballAt_X5_isIn : GoodIn wsX5_ballAt (va_wsS RX5 59 yX5_isIn wsX5_isIn) := goodIn_app (goodIn_of _ (by decide +kernel)) ggX5_ballAt_X5_isIn
set_option maxRecDepth 20000 in
theorem ggX5_ballAt_X5_room : GoodIn wsX5_ballAt wsX5_room := goodIn_r _ [10, 1, 11, 12, 5, 13, 14, 15, 16, 17, 18, 19, 20, 21, 22, 23, 24, 25, 26, 27, 28, 29, 30, 31, 32] (by decide +kernel) (by decide +kernel)
set_option maxRecDepth 20000 in
theorem gX5_ballAt_X5_room : GoodIn wsX5_ballAt (wsV RX5 73 RX5 yX5_room wsX5_room) := goodIn_app (goodIn_of _ (by decide +kernel)) ggX5_ballAt_X5_room
theorem dX5_ballAt_0 : decode cX5_ballAt 0 = .ok (.aload_n 0, 1) := by decide +kernel
theorem dX5_ballAt_1 : decode cX5_ballAt 1 = .ok (.getfield 17, 3) := by decide +kernel
theorem dX5_ballAt_4 : decode cX5_ballAt 4 = .ok (.iload_n 1, 1) := by decide +kernel
theorem dX5_ballAt_5 : decode cX5_ballAt 5 = .ok (.iaload, 1) := by decide +kernel
theorem dX5_ballAt_6 : decode cX5_ballAt 6 = .ok (.iload_n 2, 1) := by decide +kernel
theorem dX5_ballAt_7 : decode cX5_ballAt 7 = .ok (.isub, 1) := by decide +kernel
theorem dX5_ballAt_8 : decode cX5_ballAt 8 = .ok (.istore 5, 2) := by decide +kernel
theorem dX5_ballAt_10 : decode cX5_ballAt 10 = .ok (.iload 5, 2) := by decide +kernel
theorem dX5_ballAt_12 : decode cX5_ballAt 12 = .ok (.ifCond .le 28, 3) := by decide +kernel
theorem dX5_ballAt_15 : decode cX5_ballAt 15 = .ok (.iload_n 3, 1) := by decide +kernel
theorem dX5_ballAt_16 : decode cX5_ballAt 16 = .ok (.iconst 0, 1) := by decide +kernel
theorem dX5_ballAt_17 : decode cX5_ballAt 17 = .ok (.iload 5, 2) := by decide +kernel
theorem dX5_ballAt_19 : decode cX5_ballAt 19 = .ok (.iconst 1, 1) := by decide +kernel
theorem dX5_ballAt_20 : decode cX5_ballAt 20 = .ok (.isub, 1) := by decide +kernel
theorem dX5_ballAt_21 : decode cX5_ballAt 21 = .ok (.invokestatic 59, 3) := by decide +kernel
theorem dX5_ballAt_24 : decode cX5_ballAt 24 = .ok (.ifCond .eq 16, 3) := by decide +kernel
theorem dX5_ballAt_27 : decode cX5_ballAt 27 = .ok (.iload 4, 2) := by decide +kernel
theorem dX5_ballAt_29 : decode cX5_ballAt 29 = .ok (.iconst 0, 1) := by decide +kernel
theorem dX5_ballAt_30 : decode cX5_ballAt 30 = .ok (.iload 5, 2) := by decide +kernel
theorem dX5_ballAt_32 : decode cX5_ballAt 32 = .ok (.iconst 1, 1) := by decide +kernel
theorem dX5_ballAt_33 : decode cX5_ballAt 33 = .ok (.isub, 1) := by decide +kernel
theorem dX5_ballAt_34 : decode cX5_ballAt 34 = .ok (.invokestatic 59, 3) := by decide +kernel
theorem dX5_ballAt_37 : decode cX5_ballAt 37 = .ok (.ifCond .ne 5, 3) := by decide +kernel
theorem dX5_ballAt_40 : decode cX5_ballAt 40 = .ok (.iconst (-1), 1) := by decide +kernel
theorem dX5_ballAt_41 : decode cX5_ballAt 41 = .ok (.ireturn, 1) := by decide +kernel
theorem dX5_ballAt_42 : decode cX5_ballAt 42 = .ok (.aload_n 0, 1) := by decide +kernel
theorem dX5_ballAt_43 : decode cX5_ballAt 43 = .ok (.iload_n 1, 1) := by decide +kernel
theorem dX5_ballAt_44 : decode cX5_ballAt 44 = .ok (.iload_n 2, 1) := by decide +kernel
theorem dX5_ballAt_45 : decode cX5_ballAt 45 = .ok (.invokevirtual 73, 3) := by decide +kernel
theorem dX5_ballAt_48 : decode cX5_ballAt 48 = .ok (.iload 5, 2) := by decide +kernel
theorem dX5_ballAt_50 : decode cX5_ballAt 50 = .ok (.iload_n 3, 1) := by decide +kernel
theorem dX5_ballAt_51 : decode cX5_ballAt 51 = .ok (.imul, 1) := by decide +kernel
theorem dX5_ballAt_52 : decode cX5_ballAt 52 = .ok (.iadd, 1) := by decide +kernel
theorem dX5_ballAt_53 : decode cX5_ballAt 53 = .ok (.iload 4, 2) := by decide +kernel
theorem dX5_ballAt_55 : decode cX5_ballAt 55 = .ok (.iadd, 1) := by decide +kernel
theorem dX5_ballAt_56 : decode cX5_ballAt 56 = .ok (.istore 6, 2) := by decide +kernel
theorem dX5_ballAt_58 : decode cX5_ballAt 58 = .ok (.iload 6, 2) := by decide +kernel
theorem dX5_ballAt_60 : decode cX5_ballAt 60 = .ok (.aload_n 0, 1) := by decide +kernel
theorem dX5_ballAt_61 : decode cX5_ballAt 61 = .ok (.getfield 23, 3) := by decide +kernel
theorem dX5_ballAt_64 : decode cX5_ballAt 64 = .ok (.iload_n 1, 1) := by decide +kernel
theorem dX5_ballAt_65 : decode cX5_ballAt 65 = .ok (.iaload, 1) := by decide +kernel
theorem dX5_ballAt_66 : decode cX5_ballAt 66 = .ok (.if_icmp .ge 8, 3) := by decide +kernel
theorem dX5_ballAt_69 : decode cX5_ballAt 69 = .ok (.iload 6, 2) := by decide +kernel
theorem dX5_ballAt_71 : decode cX5_ballAt 71 = .ok (.goto 4, 3) := by decide +kernel
theorem dX5_ballAt_74 : decode cX5_ballAt 74 = .ok (.iconst (-1), 1) := by decide +kernel
theorem dX5_ballAt_75 : decode cX5_ballAt 75 = .ok (.ireturn, 1) := by decide +kernel
set_option maxRecDepth 20000 in
theorem ggX5_on_X5_lies : GoodIn wsX5_on wsX5_lies := goodIn_r _ [5, 6, 7, 8, 9, 4, 10, 11, 12, 13, 14, 15, 16, 17, 26, 27, 28, 29, 30, 31, 32, 33, 34, 35, 36, 37, 38, 39, 40, 41, 42, 43, 44] (by decide +kernel) (by decide +kernel)
set_option maxRecDepth 20000 in
theorem gX5_on_X5_lies : GoodIn wsX5_on (wsV RX5 80 RX5 yX5_lies wsX5_lies) := goodIn_app (goodIn_of _ (by decide +kernel)) ggX5_on_X5_lies
set_option maxRecDepth 20000 in
theorem ggX5_on_X5_ballAt : GoodIn wsX5_on wsX5_ballAt := goodIn_r _ [21, 6, 22, 23, 24, 4, 25, 11, 12, 13, 14, 15, 16, 17, 26, 27, 28, 29, 30, 31, 32, 33, 34, 35, 36, 37, 38, 39, 40, 41, 42, 43, 44] (by decide +kernel) (by decide +kernel)
set_option maxRecDepth 20000 in
theorem gX5_on_X5_ballAt : GoodIn wsX5_on (wsV RX5 84 RX5 yX5_ballAt wsX5_ballAt) := goodIn_app (goodIn_of _ (by decide +kernel)) ggX5_on_X5_ballAt
theorem dX5_on_0 : decode cX5_on 0 = .ok (.aload_n 0, 1) := by decide +kernel
theorem dX5_on_1 : decode cX5_on 1 = .ok (.iload_n 1, 1) := by decide +kernel
theorem dX5_on_2 : decode cX5_on 2 = .ok (.iload_n 2, 1) := by decide +kernel
theorem dX5_on_3 : decode cX5_on 3 = .ok (.iconst 0, 1) := by decide +kernel
theorem dX5_on_4 : decode cX5_on 4 = .ok (.invokevirtual 80, 3) := by decide +kernel
theorem dX5_on_7 : decode cX5_on 7 = .ok (.iconst 1, 1) := by decide +kernel
theorem dX5_on_8 : decode cX5_on 8 = .ok (.iadd, 1) := by decide +kernel
theorem dX5_on_9 : decode cX5_on 9 = .ok (.istore_n 3, 1) := by decide +kernel
theorem dX5_on_10 : decode cX5_on 10 = .ok (.aload_n 0, 1) := by decide +kernel
theorem dX5_on_11 : decode cX5_on 11 = .ok (.iload_n 1, 1) := by decide +kernel
theorem dX5_on_12 : decode cX5_on 12 = .ok (.iload_n 2, 1) := by decide +kernel
theorem dX5_on_13 : decode cX5_on 13 = .ok (.iconst 1, 1) := by decide +kernel
theorem dX5_on_14 : decode cX5_on 14 = .ok (.invokevirtual 80, 3) := by decide +kernel
theorem dX5_on_17 : decode cX5_on 17 = .ok (.istore 4, 2) := by decide +kernel
theorem dX5_on_19 : decode cX5_on 19 = .ok (.aload_n 0, 1) := by decide +kernel
theorem dX5_on_20 : decode cX5_on 20 = .ok (.iload_n 1, 1) := by decide +kernel
theorem dX5_on_21 : decode cX5_on 21 = .ok (.iload_n 2, 1) := by decide +kernel
theorem dX5_on_22 : decode cX5_on 22 = .ok (.iconst 2, 1) := by decide +kernel
theorem dX5_on_23 : decode cX5_on 23 = .ok (.invokevirtual 80, 3) := by decide +kernel
theorem dX5_on_26 : decode cX5_on 26 = .ok (.istore 5, 2) := by decide +kernel
theorem dX5_on_28 : decode cX5_on 28 = .ok (.iconst 0, 1) := by decide +kernel
theorem dX5_on_29 : decode cX5_on 29 = .ok (.istore 6, 2) := by decide +kernel
theorem dX5_on_31 : decode cX5_on 31 = .ok (.iconst 0, 1) := by decide +kernel
theorem dX5_on_32 : decode cX5_on 32 = .ok (.istore 7, 2) := by decide +kernel
theorem dX5_on_34 : decode cX5_on 34 = .ok (.iload 7, 2) := by decide +kernel
theorem dX5_on_36 : decode cX5_on 36 = .ok (.iconst 4, 1) := by decide +kernel
theorem dX5_on_37 : decode cX5_on 37 = .ok (.if_icmp .ge 43, 3) := by decide +kernel
theorem dX5_on_40 : decode cX5_on 40 = .ok (.iload 6, 2) := by decide +kernel
theorem dX5_on_42 : decode cX5_on 42 = .ok (.aload_n 0, 1) := by decide +kernel
theorem dX5_on_43 : decode cX5_on 43 = .ok (.iload_n 1, 1) := by decide +kernel
theorem dX5_on_44 : decode cX5_on 44 = .ok (.iload_n 3, 1) := by decide +kernel
theorem dX5_on_45 : decode cX5_on 45 = .ok (.iload 4, 2) := by decide +kernel
theorem dX5_on_47 : decode cX5_on 47 = .ok (.iload 7, 2) := by decide +kernel
theorem dX5_on_49 : decode cX5_on 49 = .ok (.iconst 2, 1) := by decide +kernel
theorem dX5_on_50 : decode cX5_on 50 = .ok (.idiv, 1) := by decide +kernel
theorem dX5_on_51 : decode cX5_on 51 = .ok (.isub, 1) := by decide +kernel
theorem dX5_on_52 : decode cX5_on 52 = .ok (.iload 5, 2) := by decide +kernel
theorem dX5_on_54 : decode cX5_on 54 = .ok (.iload 7, 2) := by decide +kernel
theorem dX5_on_56 : decode cX5_on 56 = .ok (.iconst 2, 1) := by decide +kernel
theorem dX5_on_57 : decode cX5_on 57 = .ok (.irem, 1) := by decide +kernel
theorem dX5_on_58 : decode cX5_on 58 = .ok (.isub, 1) := by decide +kernel
theorem dX5_on_59 : decode cX5_on 59 = .ok (.invokevirtual 84, 3) := by decide +kernel
theorem dX5_on_62 : decode cX5_on 62 = .ok (.iconst (-1), 1) := by decide +kernel
theorem dX5_on_63 : decode cX5_on 63 = .ok (.if_icmp .ne 7, 3) := by decide +kernel
theorem dX5_on_66 : decode cX5_on 66 = .ok (.iconst 0, 1) := by decide +kernel
theorem dX5_on_67 : decode cX5_on 67 = .ok (.goto 4, 3) := by decide +kernel
theorem dX5_on_70 : decode cX5_on 70 = .ok (.iconst 1, 1) := by decide +kernel
theorem dX5_on_71 : decode cX5_on 71 = .ok (.iadd, 1) := by decide +kernel
theorem dX5_on_72 : decode cX5_on 72 = .ok (.istore 6, 2) := by decide +kernel
theorem dX5_on_74 : decode cX5_on 74 = .ok (.iinc 7 1, 3) := by decide +kernel
theorem dX5_on_77 : decode cX5_on 77 = .ok (.goto (-43), 3) := by decide +kernel
theorem dX5_on_80 : decode cX5_on 80 = .ok (.iload 6, 2) := by decide +kernel
theorem dX5_on_82 : decode cX5_on 82 = .ok (.ireturn, 1) := by decide +kernel
theorem dX5_rustOf_0 : decode cX5_rustOf 0 = .ok (.aload_n 0, 1) := by decide +kernel
theorem dX5_rustOf_1 : decode cX5_rustOf 1 = .ok (.getfield 26, 3) := by decide +kernel
theorem dX5_rustOf_4 : decode cX5_rustOf 4 = .ok (.bipush 91, 2) := by decide +kernel
theorem dX5_rustOf_6 : decode cX5_rustOf 6 = .ok (.iload_n 1, 1) := by decide +kernel
theorem dX5_rustOf_7 : decode cX5_rustOf 7 = .ok (.imul, 1) := by decide +kernel
theorem dX5_rustOf_8 : decode cX5_rustOf 8 = .ok (.iload_n 2, 1) := by decide +kernel
theorem dX5_rustOf_9 : decode cX5_rustOf 9 = .ok (.iadd, 1) := by decide +kernel
theorem dX5_rustOf_10 : decode cX5_rustOf 10 = .ok (.iaload, 1) := by decide +kernel
theorem dX5_rustOf_11 : decode cX5_rustOf 11 = .ok (.ireturn, 1) := by decide +kernel
set_option maxRecDepth 20000 in
theorem ggX5_pile_X5_isCalibre : GoodIn wsX5_pile wsX5_isCalibre := goodIn_r _ [8, 9, 10, 7, 11] (by decide +kernel) (by decide +kernel)
set_option maxRecDepth 20000 in
theorem gX5_pile_X5_isCalibre : GoodIn wsX5_pile (va_wsS RX5 88 yX5_isCalibre wsX5_isCalibre) := goodIn_app (goodIn_of _ (by decide +kernel)) ggX5_pile_X5_isCalibre
set_option maxRecDepth 20000 in
theorem ggX5_pile_X5_fail : GoodIn wsX5_pile wsX5_fail := goodIn_r _ [15, 1, 16, 17, 18, 19, 20, 21, 22, 23, 24, 25, 26, 27, 28, 29, 30, 31, 32, 33, 34] (by decide +kernel) (by decide +kernel)
set_option maxRecDepth 20000 in
theorem gX5_pile_X5_fail : GoodIn wsX5_pile (wsV RX5 92 RX5 yX5_fail wsX5_fail) := goodIn_app (goodIn_of _ (by decide +kernel)) ggX5_pile_X5_fail
set_option maxRecDepth 20000 in
theorem ggX5_pile_X5_isIn : GoodIn wsX5_pile wsX5_isIn := goodIn_r _ [11] (by decide +kernel) (by decide +kernel)
set_option maxRecDepth 20000 in
theorem gX5_pile_X5_isIn : GoodIn wsX5_pile (va_wsS RX5 59 yX5_isIn wsX5_isIn) := goodIn_app (goodIn_of _ (by decide +kernel)) ggX5_pile_X5_isIn
theorem dX5_pile_0 : decode cX5_pile 0 = .ok (.aload_n 0, 1) := by decide +kernel
theorem dX5_pile_1 : decode cX5_pile 1 = .ok (.iconst 0, 1) := by decide +kernel
theorem dX5_pile_2 : decode cX5_pile 2 = .ok (.putfield 53, 3) := by decide +kernel
theorem dX5_pile_5 : decode cX5_pile 5 = .ok (.iload_n 1, 1) := by decide +kernel
theorem dX5_pile_6 : decode cX5_pile 6 = .ok (.invokestatic 88, 3) := by decide +kernel
theorem dX5_pile_9 : decode cX5_pile 9 = .ok (.ifCond .ne 9, 3) := by decide +kernel
theorem dX5_pile_12 : decode cX5_pile 12 = .ok (.aload_n 0, 1) := by decide +kernel
theorem dX5_pile_13 : decode cX5_pile 13 = .ok (.iconst 1, 1) := by decide +kernel
theorem dX5_pile_14 : decode cX5_pile 14 = .ok (.invokevirtual 92, 3) := by decide +kernel
theorem dX5_pile_17 : decode cX5_pile 17 = .ok (.ireturn, 1) := by decide +kernel
theorem dX5_pile_18 : decode cX5_pile 18 = .ok (.iload_n 2, 1) := by decide +kernel
theorem dX5_pile_19 : decode cX5_pile 19 = .ok (.iconst 1, 1) := by decide +kernel
theorem dX5_pile_20 : decode cX5_pile 20 = .ok (.bipush 6, 2) := by decide +kernel
theorem dX5_pile_22 : decode cX5_pile 22 = .ok (.invokestatic 59, 3) := by decide +kernel
theorem dX5_pile_25 : decode cX5_pile 25 = .ok (.ifCond .ne 9, 3) := by decide +kernel
theorem dX5_pile_28 : decode cX5_pile 28 = .ok (.aload_n 0, 1) := by decide +kernel
theorem dX5_pile_29 : decode cX5_pile 29 = .ok (.iconst 2, 1) := by decide +kernel
theorem dX5_pile_30 : decode cX5_pile 30 = .ok (.invokevirtual 92, 3) := by decide +kernel
theorem dX5_pile_33 : decode cX5_pile 33 = .ok (.ireturn, 1) := by decide +kernel
theorem dX5_pile_34 : decode cX5_pile 34 = .ok (.aload_n 0, 1) := by decide +kernel
theorem dX5_pile_35 : decode cX5_pile 35 = .ok (.getfield 56, 3) := by decide +kernel
theorem dX5_pile_38 : decode cX5_pile 38 = .ok (.bipush 6, 2) := by decide +kernel
theorem dX5_pile_40 : decode cX5_pile 40 = .ok (.if_icmp .ne 9, 3) := by decide +kernel
theorem dX5_pile_43 : decode cX5_pile 43 = .ok (.aload_n 0, 1) := by decide +kernel
theorem dX5_pile_44 : decode cX5_pile 44 = .ok (.iconst 3, 1) := by decide +kernel
theorem dX5_pile_45 : decode cX5_pile 45 = .ok (.invokevirtual 92, 3) := by decide +kernel
theorem dX5_pile_48 : decode cX5_pile 48 = .ok (.ireturn, 1) := by decide +kernel
theorem dX5_pile_49 : decode cX5_pile 49 = .ok (.aload_n 0, 1) := by decide +kernel
theorem dX5_pile_50 : decode cX5_pile 50 = .ok (.getfield 13, 3) := by decide +kernel
theorem dX5_pile_53 : decode cX5_pile 53 = .ok (.aload_n 0, 1) := by decide +kernel
theorem dX5_pile_54 : decode cX5_pile 54 = .ok (.getfield 56, 3) := by decide +kernel
theorem dX5_pile_57 : decode cX5_pile 57 = .ok (.iload_n 1, 1) := by decide +kernel
theorem dX5_pile_58 : decode cX5_pile 58 = .ok (.iastore, 1) := by decide +kernel
theorem dX5_pile_59 : decode cX5_pile 59 = .ok (.aload_n 0, 1) := by decide +kernel
theorem dX5_pile_60 : decode cX5_pile 60 = .ok (.getfield 17, 3) := by decide +kernel
theorem dX5_pile_63 : decode cX5_pile 63 = .ok (.aload_n 0, 1) := by decide +kernel
theorem dX5_pile_64 : decode cX5_pile 64 = .ok (.getfield 56, 3) := by decide +kernel
theorem dX5_pile_67 : decode cX5_pile 67 = .ok (.iload_n 2, 1) := by decide +kernel
theorem dX5_pile_68 : decode cX5_pile 68 = .ok (.iastore, 1) := by decide +kernel
theorem dX5_pile_69 : decode cX5_pile 69 = .ok (.aload_n 0, 1) := by decide +kernel
theorem dX5_pile_70 : decode cX5_pile 70 = .ok (.dup, 1) := by decide +kernel
theorem dX5_pile_71 : decode cX5_pile 71 = .ok (.getfield 56, 3) := by decide +kernel
theorem dX5_pile_74 : decode cX5_pile 74 = .ok (.iconst 1, 1) := by decide +kernel
theorem dX5_pile_75 : decode cX5_pile 75 = .ok (.iadd, 1) := by decide +kernel
theorem dX5_pile_76 : decode cX5_pile 76 = .ok (.putfield 56, 3) := by decide +kernel
theorem dX5_pile_79 : decode cX5_pile 79 = .ok (.aload_n 0, 1) := by decide +kernel
theorem dX5_pile_80 : decode cX5_pile 80 = .ok (.getfield 56, 3) := by decide +kernel
theorem dX5_pile_83 : decode cX5_pile 83 = .ok (.iconst 1, 1) := by decide +kernel
theorem dX5_pile_84 : decode cX5_pile 84 = .ok (.isub, 1) := by decide +kernel
theorem dX5_pile_85 : decode cX5_pile 85 = .ok (.ireturn, 1) := by decide +kernel
set_option maxRecDepth 20000 in
theorem ggX5_cat_X5_isIn : GoodIn wsX5_cat wsX5_isIn := goodIn_r _ [8] (by decide +kernel) (by decide +kernel)
set_option maxRecDepth 20000 in
theorem gX5_cat_X5_isIn : GoodIn wsX5_cat (va_wsS RX5 59 yX5_isIn wsX5_isIn) := goodIn_app (goodIn_of _ (by decide +kernel)) ggX5_cat_X5_isIn
set_option maxRecDepth 20000 in
theorem ggX5_cat_X5_fail : GoodIn wsX5_cat wsX5_fail := goodIn_r _ [12, 1, 13, 14, 15, 16, 17, 18, 19, 20, 21, 22, 23, 24, 25, 26, 27, 28, 29, 30, 31] (by decide +kernel) (by decide +kernel)
set_option maxRecDepth 20000 in
theorem gX5_cat_X5_fail : GoodIn wsX5_cat (wsV RX5 92 RX5 yX5_fail wsX5_fail) := goodIn_app (goodIn_of _ (by decide +kernel)) ggX5_cat_X5_fail
theorem dX5_cat_0 : decode cX5_cat 0 = .ok (.aload_n 0, 1) := by decide +kernel
theorem dX5_cat_1 : decode cX5_cat 1 = .ok (.iconst 0, 1) := by decide +kernel
theorem dX5_cat_2 : decode cX5_cat 2 = .ok (.putfield 53, 3) := by decide +kernel
theorem dX5_cat_5 : decode cX5_cat 5 = .ok (.iload_n 1, 1) := by decide +kernel
theorem dX5_cat_6 : decode cX5_cat 6 = .ok (.iconst 1, 1) := by decide +kernel
theorem dX5_cat_7 : decode cX5_cat 7 = .ok (.iconst 5, 1) := by decide +kernel
theorem dX5_cat_8 : decode cX5_cat 8 = .ok (.invokestatic 59, 3) := by decide +kernel
theorem dX5_cat_11 : decode cX5_cat 11 = .ok (.ifCond .ne 9, 3) := by decide +kernel
theorem dX5_cat_14 : decode cX5_cat 14 = .ok (.aload_n 0, 1) := by decide +kernel
theorem dX5_cat_15 : decode cX5_cat 15 = .ok (.iconst 1, 1) := by decide +kernel
theorem dX5_cat_16 : decode cX5_cat 16 = .ok (.invokevirtual 92, 3) := by decide +kernel
theorem dX5_cat_19 : decode cX5_cat 19 = .ok (.ireturn, 1) := by decide +kernel
theorem dX5_cat_20 : decode cX5_cat 20 = .ok (.aload_n 0, 1) := by decide +kernel
theorem dX5_cat_21 : decode cX5_cat 21 = .ok (.getfield 95, 3) := by decide +kernel
theorem dX5_cat_24 : decode cX5_cat 24 = .ok (.iconst 3, 1) := by decide +kernel
theorem dX5_cat_25 : decode cX5_cat 25 = .ok (.if_icmp .ne 9, 3) := by decide +kernel
theorem dX5_cat_28 : decode cX5_cat 28 = .ok (.aload_n 0, 1) := by decide +kernel
theorem dX5_cat_29 : decode cX5_cat 29 = .ok (.iconst 2, 1) := by decide +kernel
theorem dX5_cat_30 : decode cX5_cat 30 = .ok (.invokevirtual 92, 3) := by decide +kernel
theorem dX5_cat_33 : decode cX5_cat 33 = .ok (.ireturn, 1) := by decide +kernel
theorem dX5_cat_34 : decode cX5_cat 34 = .ok (.aload_n 0, 1) := by decide +kernel
theorem dX5_cat_35 : decode cX5_cat 35 = .ok (.getfield 20, 3) := by decide +kernel
theorem dX5_cat_38 : decode cX5_cat 38 = .ok (.aload_n 0, 1) := by decide +kernel
theorem dX5_cat_39 : decode cX5_cat 39 = .ok (.getfield 95, 3) := by decide +kernel
theorem dX5_cat_42 : decode cX5_cat 42 = .ok (.iload_n 1, 1) := by decide +kernel
theorem dX5_cat_43 : decode cX5_cat 43 = .ok (.iastore, 1) := by decide +kernel
theorem dX5_cat_44 : decode cX5_cat 44 = .ok (.aload_n 0, 1) := by decide +kernel
theorem dX5_cat_45 : decode cX5_cat 45 = .ok (.getfield 32, 3) := by decide +kernel
theorem dX5_cat_48 : decode cX5_cat 48 = .ok (.aload_n 0, 1) := by decide +kernel
theorem dX5_cat_49 : decode cX5_cat 49 = .ok (.getfield 95, 3) := by decide +kernel
theorem dX5_cat_52 : decode cX5_cat 52 = .ok (.iconst (-1), 1) := by decide +kernel
theorem dX5_cat_53 : decode cX5_cat 53 = .ok (.iastore, 1) := by decide +kernel
theorem dX5_cat_54 : decode cX5_cat 54 = .ok (.aload_n 0, 1) := by decide +kernel
theorem dX5_cat_55 : decode cX5_cat 55 = .ok (.dup, 1) := by decide +kernel
theorem dX5_cat_56 : decode cX5_cat 56 = .ok (.getfield 95, 3) := by decide +kernel
theorem dX5_cat_59 : decode cX5_cat 59 = .ok (.iconst 1, 1) := by decide +kernel
theorem dX5_cat_60 : decode cX5_cat 60 = .ok (.iadd, 1) := by decide +kernel
theorem dX5_cat_61 : decode cX5_cat 61 = .ok (.putfield 95, 3) := by decide +kernel
theorem dX5_cat_64 : decode cX5_cat 64 = .ok (.aload_n 0, 1) := by decide +kernel
theorem dX5_cat_65 : decode cX5_cat 65 = .ok (.getfield 95, 3) := by decide +kernel
theorem dX5_cat_68 : decode cX5_cat 68 = .ok (.iconst 1, 1) := by decide +kernel
theorem dX5_cat_69 : decode cX5_cat 69 = .ok (.isub, 1) := by decide +kernel
theorem dX5_cat_70 : decode cX5_cat 70 = .ok (.ireturn, 1) := by decide +kernel
set_option maxRecDepth 20000 in
theorem ggX5_give_X5_isCalibre : GoodIn wsX5_give wsX5_isCalibre := goodIn_r _ [6, 7, 8, 5, 9] (by decide +kernel) (by decide +kernel)
set_option maxRecDepth 20000 in
theorem gX5_give_X5_isCalibre : GoodIn wsX5_give (va_wsS RX5 88 yX5_isCalibre wsX5_isCalibre) := goodIn_app (goodIn_of _ (by decide +kernel)) ggX5_give_X5_isCalibre
set_option maxRecDepth 20000 in
theorem ggX5_give_X5_fail : GoodIn wsX5_give wsX5_fail := goodIn_r _ [13, 1, 18, 19, 20, 21, 22, 23, 24, 25, 26, 27, 28, 29, 30, 31, 32, 33, 34, 35, 36] (by decide +kernel) (by decide +kernel)
set_option maxRecDepth 20000 in
theorem gX5_give_X5_fail : GoodIn wsX5_give (wsV RX5 92 RX5 yX5_fail wsX5_fail) := goodIn_app (goodIn_of _ (by decide +kernel)) ggX5_give_X5_fail
set_option maxRecDepth 20000 in
theorem ggX5_give_X5_isIn : GoodIn wsX5_give wsX5_isIn := goodIn_r _ [9] (by decide +kernel) (by decide +kernel)
set_option maxRecDepth 20000 in
theorem gX5_give_X5_isIn : GoodIn wsX5_give (va_wsS RX5 59 yX5_isIn wsX5_isIn) := goodIn_app (goodIn_of _ (by decide +kernel)) ggX5_give_X5_isIn
set_option maxRecDepth 20000 in
theorem ggX5_give_X5_more : GoodIn wsX5_give wsX5_more := goodIn_r _ [17, 2, 18, 19, 20, 21, 22, 23, 24, 25, 26, 27, 28, 29, 30, 31, 32, 33, 34, 35, 36] (by decide +kernel) (by decide +kernel)
set_option maxRecDepth 20000 in
theorem gX5_give_X5_more : GoodIn wsX5_give (wsV RX5 98 RX5 yX5_more wsX5_more) := goodIn_app (goodIn_of _ (by decide +kernel)) ggX5_give_X5_more
theorem dX5_give_0 : decode cX5_give 0 = .ok (.aload_n 0, 1) := by decide +kernel
theorem dX5_give_1 : decode cX5_give 1 = .ok (.iconst 0, 1) := by decide +kernel
theorem dX5_give_2 : decode cX5_give 2 = .ok (.putfield 53, 3) := by decide +kernel
theorem dX5_give_5 : decode cX5_give 5 = .ok (.iload_n 1, 1) := by decide +kernel
theorem dX5_give_6 : decode cX5_give 6 = .ok (.invokestatic 88, 3) := by decide +kernel
theorem dX5_give_9 : decode cX5_give 9 = .ok (.ifCond .ne 9, 3) := by decide +kernel
theorem dX5_give_12 : decode cX5_give 12 = .ok (.aload_n 0, 1) := by decide +kernel
theorem dX5_give_13 : decode cX5_give 13 = .ok (.iconst 1, 1) := by decide +kernel
theorem dX5_give_14 : decode cX5_give 14 = .ok (.invokevirtual 92, 3) := by decide +kernel
theorem dX5_give_17 : decode cX5_give 17 = .ok (.ireturn, 1) := by decide +kernel
theorem dX5_give_18 : decode cX5_give 18 = .ok (.iload_n 2, 1) := by decide +kernel
theorem dX5_give_19 : decode cX5_give 19 = .ok (.iconst 1, 1) := by decide +kernel
theorem dX5_give_20 : decode cX5_give 20 = .ok (.bipush 99, 2) := by decide +kernel
theorem dX5_give_22 : decode cX5_give 22 = .ok (.invokestatic 59, 3) := by decide +kernel
theorem dX5_give_25 : decode cX5_give 25 = .ok (.ifCond .ne 9, 3) := by decide +kernel
theorem dX5_give_28 : decode cX5_give 28 = .ok (.aload_n 0, 1) := by decide +kernel
theorem dX5_give_29 : decode cX5_give 29 = .ok (.iconst 2, 1) := by decide +kernel
theorem dX5_give_30 : decode cX5_give 30 = .ok (.invokevirtual 92, 3) := by decide +kernel
theorem dX5_give_33 : decode cX5_give 33 = .ok (.ireturn, 1) := by decide +kernel
theorem dX5_give_34 : decode cX5_give 34 = .ok (.aload_n 0, 1) := by decide +kernel
theorem dX5_give_35 : decode cX5_give 35 = .ok (.iload_n 1, 1) := by decide +kernel
theorem dX5_give_36 : decode cX5_give 36 = .ok (.iconst 0, 1) := by decide +kernel
theorem dX5_give_37 : decode cX5_give 37 = .ok (.iload_n 2, 1) := by decide +kernel
theorem dX5_give_38 : decode cX5_give 38 = .ok (.invokevirtual 98, 3) := by decide +kernel
theorem dX5_give_41 : decode cX5_give 41 = .ok (.aload_n 0, 1) := by decide +kernel
theorem dX5_give_42 : decode cX5_give 42 = .ok (.getfield 29, 3) := by decide +kernel
theorem dX5_give_45 : decode cX5_give 45 = .ok (.iconst 4, 1) := by decide +kernel
theorem dX5_give_46 : decode cX5_give 46 = .ok (.iload_n 1, 1) := by decide +kernel
theorem dX5_give_47 : decode cX5_give 47 = .ok (.imul, 1) := by decide +kernel
theorem dX5_give_48 : decode cX5_give 48 = .ok (.iconst 0, 1) := by decide +kernel
theorem dX5_give_49 : decode cX5_give 49 = .ok (.iadd, 1) := by decide +kernel
theorem dX5_give_50 : decode cX5_give 50 = .ok (.iaload, 1) := by decide +kernel
theorem dX5_give_51 : decode cX5_give 51 = .ok (.ireturn, 1) := by decide +kernel
set_option maxRecDepth 20000 in
theorem ggX5_setRain_X5_isIn : GoodIn wsX5_setRain wsX5_isIn := goodIn_r _ [6] (by decide +kernel) (by decide +kernel)
set_option maxRecDepth 20000 in
theorem gX5_setRain_X5_isIn : GoodIn wsX5_setRain (va_wsS RX5 59 yX5_isIn wsX5_isIn) := goodIn_app (goodIn_of _ (by decide +kernel)) ggX5_setRain_X5_isIn
set_option maxRecDepth 20000 in
theorem ggX5_setRain_X5_fail : GoodIn wsX5_setRain wsX5_fail := goodIn_r _ [10, 1, 11, 12, 13, 14, 15, 16, 17, 18, 19, 20, 21, 22, 23, 24, 25, 26, 27, 28, 29] (by decide +kernel) (by decide +kernel)
set_option maxRecDepth 20000 in
theorem gX5_setRain_X5_fail : GoodIn wsX5_setRain (wsV RX5 92 RX5 yX5_fail wsX5_fail) := goodIn_app (goodIn_of _ (by decide +kernel)) ggX5_setRain_X5_fail
theorem dX5_setRain_0 : decode cX5_setRain 0 = .ok (.aload_n 0, 1) := by decide +kernel
theorem dX5_setRain_1 : decode cX5_setRain 1 = .ok (.iconst 0, 1) := by decide +kernel
theorem dX5_setRain_2 : decode cX5_setRain 2 = .ok (.putfield 53, 3) := by decide +kernel
theorem dX5_setRain_5 : decode cX5_setRain 5 = .ok (.iload_n 1, 1) := by decide +kernel
theorem dX5_setRain_6 : decode cX5_setRain 6 = .ok (.iconst 0, 1) := by decide +kernel
theorem dX5_setRain_7 : decode cX5_setRain 7 = .ok (.iconst 3, 1) := by decide +kernel
theorem dX5_setRain_8 : decode cX5_setRain 8 = .ok (.invokestatic 59, 3) := by decide +kernel
theorem dX5_setRain_11 : decode cX5_setRain 11 = .ok (.ifCond .ne 9, 3) := by decide +kernel
theorem dX5_setRain_14 : decode cX5_setRain 14 = .ok (.aload_n 0, 1) := by decide +kernel
theorem dX5_setRain_15 : decode cX5_setRain 15 = .ok (.iconst 1, 1) := by decide +kernel
theorem dX5_setRain_16 : decode cX5_setRain 16 = .ok (.invokevirtual 92, 3) := by decide +kernel
theorem dX5_setRain_19 : decode cX5_setRain 19 = .ok (.ireturn, 1) := by decide +kernel
theorem dX5_setRain_20 : decode cX5_setRain 20 = .ok (.aload_n 0, 1) := by decide +kernel
theorem dX5_setRain_21 : decode cX5_setRain 21 = .ok (.getfield 102, 3) := by decide +kernel
theorem dX5_setRain_24 : decode cX5_setRain 24 = .ok (.istore_n 2, 1) := by decide +kernel
theorem dX5_setRain_25 : decode cX5_setRain 25 = .ok (.aload_n 0, 1) := by decide +kernel
theorem dX5_setRain_26 : decode cX5_setRain 26 = .ok (.iload_n 1, 1) := by decide +kernel
theorem dX5_setRain_27 : decode cX5_setRain 27 = .ok (.putfield 102, 3) := by decide +kernel
theorem dX5_setRain_30 : decode cX5_setRain 30 = .ok (.iload_n 2, 1) := by decide +kernel
theorem dX5_setRain_31 : decode cX5_setRain 31 = .ok (.ireturn, 1) := by decide +kernel
set_option maxRecDepth 20000 in
theorem ggX5_setLimit_X5_isIn : GoodIn wsX5_setLimit wsX5_isIn := goodIn_r _ [6] (by decide +kernel) (by decide +kernel)
set_option maxRecDepth 20000 in
theorem gX5_setLimit_X5_isIn : GoodIn wsX5_setLimit (va_wsS RX5 59 yX5_isIn wsX5_isIn) := goodIn_app (goodIn_of _ (by decide +kernel)) ggX5_setLimit_X5_isIn
set_option maxRecDepth 20000 in
theorem ggX5_setLimit_X5_fail : GoodIn wsX5_setLimit wsX5_fail := goodIn_r _ [10, 1, 11, 12, 13, 14, 15, 16, 17, 18, 19, 20, 21, 22, 23, 24, 25, 26, 27, 28, 29] (by decide +kernel) (by decide +kernel)
set_option maxRecDepth 20000 in
theorem gX5_setLimit_X5_fail : GoodIn wsX5_setLimit (wsV RX5 92 RX5 yX5_fail wsX5_fail) := goodIn_app (goodIn_of _ (by decide +kernel)) ggX5_setLimit_X5_fail
theorem dX5_setLimit_0 : decode cX5_setLimit 0 = .ok (.aload_n 0, 1) := by decide +kernel
theorem dX5_setLimit_1 : decode cX5_setLimit 1 = .ok (.iconst 0, 1) := by decide +kernel
theorem dX5_setLimit_2 : decode cX5_setLimit 2 = .ok (.putfield 53, 3) := by decide +kernel
theorem dX5_setLimit_5 : decode cX5_setLimit 5 = .ok (.iload_n 1, 1) := by decide +kernel
theorem dX5_setLimit_6 : decode cX5_setLimit 6 = .ok (.iconst 1, 1) := by decide +kernel
theorem dX5_setLimit_7 : decode cX5_setLimit 7 = .ok (.bipush 9, 2) := by decide +kernel
theorem dX5_setLimit_9 : decode cX5_setLimit 9 = .ok (.invokestatic 59, 3) := by decide +kernel
theorem dX5_setLimit_12 : decode cX5_setLimit 12 = .ok (.ifCond .ne 9, 3) := by decide +kernel
theorem dX5_setLimit_15 : decode cX5_setLimit 15 = .ok (.aload_n 0, 1) := by decide +kernel
theorem dX5_setLimit_16 : decode cX5_setLimit 16 = .ok (.iconst 1, 1) := by decide +kernel
theorem dX5_setLimit_17 : decode cX5_setLimit 17 = .ok (.invokevirtual 92, 3) := by decide +kernel
theorem dX5_setLimit_20 : decode cX5_setLimit 20 = .ok (.ireturn, 1) := by decide +kernel
theorem dX5_setLimit_21 : decode cX5_setLimit 21 = .ok (.aload_n 0, 1) := by decide +kernel
theorem dX5_setLimit_22 : decode cX5_setLimit 22 = .ok (.getfield 7, 3) := by decide +kernel
theorem dX5_setLimit_25 : decode cX5_setLimit 25 = .ok (.istore_n 2, 1) := by decide +kernel
theorem dX5_setLimit_26 : decode cX5_setLimit 26 = .ok (.aload_n 0, 1) := by decide +kernel
theorem dX5_setLimit_27 : decode cX5_setLimit 27 = .ok (.iload_n 1, 1) := by decide +kernel
theorem dX5_setLimit_28 : decode cX5_setLimit 28 = .ok (.putfield 7, 3) := by decide +kernel
theorem dX5_setLimit_31 : decode cX5_setLimit 31 = .ok (.iload_n 2, 1) := by decide +kernel
theorem dX5_setLimit_32 : decode cX5_setLimit 32 = .ok (.ireturn, 1) := by decide +kernel
set_option maxRecDepth 20000 in
theorem ggX5_left_X5_roomOf : GoodIn wsX5_left wsX5_roomOf := goodIn_r _ [6] (by decide +kernel) (by decide +kernel)
set_option maxRecDepth 20000 in
theorem gX5_left_X5_roomOf : GoodIn wsX5_left (va_wsS RX5 69 yX5_roomOf wsX5_roomOf) := goodIn_app (goodIn_of _ (by decide +kernel)) ggX5_left_X5_roomOf
theorem dX5_left_0 : decode cX5_left 0 = .ok (.aload_n 0, 1) := by decide +kernel
theorem dX5_left_1 : decode cX5_left 1 = .ok (.getfield 17, 3) := by decide +kernel
theorem dX5_left_4 : decode cX5_left 4 = .ok (.iload_n 1, 1) := by decide +kernel
theorem dX5_left_5 : decode cX5_left 5 = .ok (.iaload, 1) := by decide +kernel
theorem dX5_left_6 : decode cX5_left 6 = .ok (.invokestatic 69, 3) := by decide +kernel
theorem dX5_left_9 : decode cX5_left 9 = .ok (.aload_n 0, 1) := by decide +kernel
theorem dX5_left_10 : decode cX5_left 10 = .ok (.getfield 23, 3) := by decide +kernel
theorem dX5_left_13 : decode cX5_left 13 = .ok (.iload_n 1, 1) := by decide +kernel
theorem dX5_left_14 : decode cX5_left 14 = .ok (.iaload, 1) := by decide +kernel
theorem dX5_left_15 : decode cX5_left 15 = .ok (.isub, 1) := by decide +kernel
theorem dX5_left_16 : decode cX5_left 16 = .ok (.ireturn, 1) := by decide +kernel
theorem dX5_put_0 : decode cX5_put 0 = .ok (.aload_n 0, 1) := by decide +kernel
theorem dX5_put_1 : decode cX5_put 1 = .ok (.getfield 26, 3) := by decide +kernel
theorem dX5_put_4 : decode cX5_put 4 = .ok (.bipush 91, 2) := by decide +kernel
theorem dX5_put_6 : decode cX5_put 6 = .ok (.iload_n 1, 1) := by decide +kernel
theorem dX5_put_7 : decode cX5_put 7 = .ok (.imul, 1) := by decide +kernel
theorem dX5_put_8 : decode cX5_put 8 = .ok (.aload_n 0, 1) := by decide +kernel
theorem dX5_put_9 : decode cX5_put 9 = .ok (.getfield 23, 3) := by decide +kernel
theorem dX5_put_12 : decode cX5_put 12 = .ok (.iload_n 1, 1) := by decide +kernel
theorem dX5_put_13 : decode cX5_put 13 = .ok (.iaload, 1) := by decide +kernel
theorem dX5_put_14 : decode cX5_put 14 = .ok (.iadd, 1) := by decide +kernel
theorem dX5_put_15 : decode cX5_put 15 = .ok (.iload_n 2, 1) := by decide +kernel
theorem dX5_put_16 : decode cX5_put 16 = .ok (.iastore, 1) := by decide +kernel
theorem dX5_put_17 : decode cX5_put 17 = .ok (.aload_n 0, 1) := by decide +kernel
theorem dX5_put_18 : decode cX5_put 18 = .ok (.getfield 23, 3) := by decide +kernel
theorem dX5_put_21 : decode cX5_put 21 = .ok (.iload_n 1, 1) := by decide +kernel
theorem dX5_put_22 : decode cX5_put 22 = .ok (.dup2, 1) := by decide +kernel
theorem dX5_put_23 : decode cX5_put 23 = .ok (.iaload, 1) := by decide +kernel
theorem dX5_put_24 : decode cX5_put 24 = .ok (.iconst 1, 1) := by decide +kernel
theorem dX5_put_25 : decode cX5_put 25 = .ok (.iadd, 1) := by decide +kernel
theorem dX5_put_26 : decode cX5_put 26 = .ok (.iastore, 1) := by decide +kernel
theorem dX5_put_27 : decode cX5_put 27 = .ok (.return_, 1) := by decide +kernel
set_option maxRecDepth 20000 in
theorem ggX5_stack_X5_isPile : GoodIn wsX5_stack wsX5_isPile := goodIn_r _ [8, 9, 10, 11, 7, 12, 39, 40, 41, 42, 43, 44, 45, 46, 47, 48, 49, 50, 51, 52, 53, 54, 55, 56, 57] (by decide +kernel) (by decide +kernel)
set_option maxRecDepth 20000 in
theorem gX5_stack_X5_isPile : GoodIn wsX5_stack (wsV RX5 105 RX5 yX5_isPile wsX5_isPile) := goodIn_app (goodIn_of _ (by decide +kernel)) ggX5_stack_X5_isPile
set_option maxRecDepth 20000 in
theorem ggX5_stack_X5_fail : GoodIn wsX5_stack wsX5_fail := goodIn_r _ [16, 1, 39, 40, 41, 42, 43, 44, 45, 46, 47, 48, 49, 50, 51, 52, 53, 54, 55, 56, 57] (by decide +kernel) (by decide +kernel)
set_option maxRecDepth 20000 in
theorem gX5_stack_X5_fail : GoodIn wsX5_stack (wsV RX5 92 RX5 yX5_fail wsX5_fail) := goodIn_app (goodIn_of _ (by decide +kernel)) ggX5_stack_X5_fail
set_option maxRecDepth 20000 in
theorem ggX5_stack_X5_isIn : GoodIn wsX5_stack wsX5_isIn := goodIn_r _ [12] (by decide +kernel) (by decide +kernel)
set_option maxRecDepth 20000 in
theorem gX5_stack_X5_isIn : GoodIn wsX5_stack (va_wsS RX5 59 yX5_isIn wsX5_isIn) := goodIn_app (goodIn_of _ (by decide +kernel)) ggX5_stack_X5_isIn
set_option maxRecDepth 20000 in
theorem ggX5_stack_X5_of : GoodIn wsX5_stack wsX5_of := goodIn_r _ [20, 21, 2, 39, 40, 41, 42, 43, 44, 45, 46, 47, 48, 49, 50, 51, 52, 53, 54, 55, 56, 57] (by decide +kernel) (by decide +kernel)
set_option maxRecDepth 20000 in
theorem gX5_stack_X5_of : GoodIn wsX5_stack (wsV RX5 108 RX5 yX5_of wsX5_of) := goodIn_app (goodIn_of _ (by decide +kernel)) ggX5_stack_X5_of
set_option maxRecDepth 20000 in
theorem ggX5_stack_X5_left : GoodIn wsX5_stack wsX5_left := goodIn_r _ [25, 26, 3, 27, 28, 7, 29, 39, 40, 41, 42, 43, 44, 45, 46, 47, 48, 49, 50, 51, 52, 53, 54, 55, 56, 57] (by decide +kernel) (by decide +kernel)
set_option maxRecDepth 20000 in
theorem gX5_stack_X5_left : GoodIn wsX5_stack (wsV RX5 111 RX5 yX5_left wsX5_left) := goodIn_app (goodIn_of _ (by decide +kernel)) ggX5_stack_X5_left
set_option maxRecDepth 20000 in
theorem ggX5_stack_X5_more : GoodIn wsX5_stack wsX5_more := goodIn_r _ [33, 21, 39, 40, 41, 42, 43, 44, 45, 46, 47, 48, 49, 50, 51, 52, 53, 54, 55, 56, 57] (by decide +kernel) (by decide +kernel)
set_option maxRecDepth 20000 in
theorem gX5_stack_X5_more : GoodIn wsX5_stack (wsV RX5 98 RX5 yX5_more wsX5_more) := goodIn_app (goodIn_of _ (by decide +kernel)) ggX5_stack_X5_more
set_option maxRecDepth 20000 in
theorem ggX5_stack_X5_put : GoodIn wsX5_stack wsX5_put := goodIn_r _ [37, 38, 3, 39, 40, 41, 42, 43, 44, 45, 46, 47, 48, 49, 50, 51, 52, 53, 54, 55, 56, 57] (by decide +kernel) (by decide +kernel)
set_option maxRecDepth 20000 in
theorem gX5_stack_X5_put : GoodIn wsX5_stack (wsV RX5 114 RX5 yX5_put wsX5_put) := goodIn_app (goodIn_of _ (by decide +kernel)) ggX5_stack_X5_put
theorem dX5_stack_0 : decode cX5_stack 0 = .ok (.aload_n 0, 1) := by decide +kernel
theorem dX5_stack_1 : decode cX5_stack 1 = .ok (.iconst 0, 1) := by decide +kernel
theorem dX5_stack_2 : decode cX5_stack 2 = .ok (.putfield 53, 3) := by decide +kernel
theorem dX5_stack_5 : decode cX5_stack 5 = .ok (.aload_n 0, 1) := by decide +kernel
theorem dX5_stack_6 : decode cX5_stack 6 = .ok (.iload_n 1, 1) := by decide +kernel
theorem dX5_stack_7 : decode cX5_stack 7 = .ok (.invokevirtual 105, 3) := by decide +kernel
theorem dX5_stack_10 : decode cX5_stack 10 = .ok (.ifCond .ne 9, 3) := by decide +kernel
theorem dX5_stack_13 : decode cX5_stack 13 = .ok (.aload_n 0, 1) := by decide +kernel
theorem dX5_stack_14 : decode cX5_stack 14 = .ok (.iconst 1, 1) := by decide +kernel
theorem dX5_stack_15 : decode cX5_stack 15 = .ok (.invokevirtual 92, 3) := by decide +kernel
theorem dX5_stack_18 : decode cX5_stack 18 = .ok (.ireturn, 1) := by decide +kernel
theorem dX5_stack_19 : decode cX5_stack 19 = .ok (.iload_n 2, 1) := by decide +kernel
theorem dX5_stack_20 : decode cX5_stack 20 = .ok (.iconst 1, 1) := by decide +kernel
theorem dX5_stack_21 : decode cX5_stack 21 = .ok (.bipush 91, 2) := by decide +kernel
theorem dX5_stack_23 : decode cX5_stack 23 = .ok (.invokestatic 59, 3) := by decide +kernel
theorem dX5_stack_26 : decode cX5_stack 26 = .ok (.ifCond .ne 9, 3) := by decide +kernel
theorem dX5_stack_29 : decode cX5_stack 29 = .ok (.aload_n 0, 1) := by decide +kernel
theorem dX5_stack_30 : decode cX5_stack 30 = .ok (.iconst 2, 1) := by decide +kernel
theorem dX5_stack_31 : decode cX5_stack 31 = .ok (.invokevirtual 92, 3) := by decide +kernel
theorem dX5_stack_34 : decode cX5_stack 34 = .ok (.ireturn, 1) := by decide +kernel
theorem dX5_stack_35 : decode cX5_stack 35 = .ok (.aload_n 0, 1) := by decide +kernel
theorem dX5_stack_36 : decode cX5_stack 36 = .ok (.iload_n 1, 1) := by decide +kernel
theorem dX5_stack_37 : decode cX5_stack 37 = .ok (.iconst 0, 1) := by decide +kernel
theorem dX5_stack_38 : decode cX5_stack 38 = .ok (.invokevirtual 108, 3) := by decide +kernel
theorem dX5_stack_41 : decode cX5_stack 41 = .ok (.iload_n 2, 1) := by decide +kernel
theorem dX5_stack_42 : decode cX5_stack 42 = .ok (.if_icmp .lt 12, 3) := by decide +kernel
theorem dX5_stack_45 : decode cX5_stack 45 = .ok (.aload_n 0, 1) := by decide +kernel
theorem dX5_stack_46 : decode cX5_stack 46 = .ok (.iload_n 1, 1) := by decide +kernel
theorem dX5_stack_47 : decode cX5_stack 47 = .ok (.invokevirtual 111, 3) := by decide +kernel
theorem dX5_stack_50 : decode cX5_stack 50 = .ok (.iload_n 2, 1) := by decide +kernel
theorem dX5_stack_51 : decode cX5_stack 51 = .ok (.if_icmp .ge 9, 3) := by decide +kernel
theorem dX5_stack_54 : decode cX5_stack 54 = .ok (.aload_n 0, 1) := by decide +kernel
theorem dX5_stack_55 : decode cX5_stack 55 = .ok (.iconst 3, 1) := by decide +kernel
theorem dX5_stack_56 : decode cX5_stack 56 = .ok (.invokevirtual 92, 3) := by decide +kernel
theorem dX5_stack_59 : decode cX5_stack 59 = .ok (.ireturn, 1) := by decide +kernel
theorem dX5_stack_60 : decode cX5_stack 60 = .ok (.aload_n 0, 1) := by decide +kernel
theorem dX5_stack_61 : decode cX5_stack 61 = .ok (.aload_n 0, 1) := by decide +kernel
theorem dX5_stack_62 : decode cX5_stack 62 = .ok (.getfield 13, 3) := by decide +kernel
theorem dX5_stack_65 : decode cX5_stack 65 = .ok (.iload_n 1, 1) := by decide +kernel
theorem dX5_stack_66 : decode cX5_stack 66 = .ok (.iaload, 1) := by decide +kernel
theorem dX5_stack_67 : decode cX5_stack 67 = .ok (.iconst 0, 1) := by decide +kernel
theorem dX5_stack_68 : decode cX5_stack 68 = .ok (.iload_n 2, 1) := by decide +kernel
theorem dX5_stack_69 : decode cX5_stack 69 = .ok (.ineg, 1) := by decide +kernel
theorem dX5_stack_70 : decode cX5_stack 70 = .ok (.invokevirtual 98, 3) := by decide +kernel
theorem dX5_stack_73 : decode cX5_stack 73 = .ok (.iconst 0, 1) := by decide +kernel
theorem dX5_stack_74 : decode cX5_stack 74 = .ok (.istore_n 3, 1) := by decide +kernel
theorem dX5_stack_75 : decode cX5_stack 75 = .ok (.iload_n 3, 1) := by decide +kernel
theorem dX5_stack_76 : decode cX5_stack 76 = .ok (.iload_n 2, 1) := by decide +kernel
theorem dX5_stack_77 : decode cX5_stack 77 = .ok (.if_icmp .ge 15, 3) := by decide +kernel
theorem dX5_stack_80 : decode cX5_stack 80 = .ok (.aload_n 0, 1) := by decide +kernel
theorem dX5_stack_81 : decode cX5_stack 81 = .ok (.iload_n 1, 1) := by decide +kernel
theorem dX5_stack_82 : decode cX5_stack 82 = .ok (.iconst 0, 1) := by decide +kernel
theorem dX5_stack_83 : decode cX5_stack 83 = .ok (.invokevirtual 114, 3) := by decide +kernel
theorem dX5_stack_86 : decode cX5_stack 86 = .ok (.iinc 3 1, 3) := by decide +kernel
theorem dX5_stack_89 : decode cX5_stack 89 = .ok (.goto (-14), 3) := by decide +kernel
theorem dX5_stack_92 : decode cX5_stack 92 = .ok (.aload_n 0, 1) := by decide +kernel
theorem dX5_stack_93 : decode cX5_stack 93 = .ok (.getfield 23, 3) := by decide +kernel
theorem dX5_stack_96 : decode cX5_stack 96 = .ok (.iload_n 1, 1) := by decide +kernel
theorem dX5_stack_97 : decode cX5_stack 97 = .ok (.iaload, 1) := by decide +kernel
theorem dX5_stack_98 : decode cX5_stack 98 = .ok (.ireturn, 1) := by decide +kernel
set_option maxRecDepth 20000 in
theorem ggX5_fire_X5_isPile : GoodIn wsX5_fire wsX5_isPile := goodIn_r _ [8, 9, 10, 11, 7, 12, 27, 28, 29, 30, 31, 32, 33, 34, 35, 36, 37, 38, 39, 40, 41, 42, 43, 44, 45] (by decide +kernel) (by decide +kernel)
set_option maxRecDepth 20000 in
theorem gX5_fire_X5_isPile : GoodIn wsX5_fire (wsV RX5 105 RX5 yX5_isPile wsX5_isPile) := goodIn_app (goodIn_of _ (by decide +kernel)) ggX5_fire_X5_isPile
set_option maxRecDepth 20000 in
theorem ggX5_fire_X5_fail : GoodIn wsX5_fire wsX5_fail := goodIn_r _ [16, 1, 27, 28, 29, 30, 31, 32, 33, 34, 35, 36, 37, 38, 39, 40, 41, 42, 43, 44, 45] (by decide +kernel) (by decide +kernel)
set_option maxRecDepth 20000 in
theorem gX5_fire_X5_fail : GoodIn wsX5_fire (wsV RX5 92 RX5 yX5_fail wsX5_fail) := goodIn_app (goodIn_of _ (by decide +kernel)) ggX5_fire_X5_fail
set_option maxRecDepth 20000 in
theorem ggX5_fire_X5_isIn : GoodIn wsX5_fire wsX5_isIn := goodIn_r _ [12] (by decide +kernel) (by decide +kernel)
set_option maxRecDepth 20000 in
theorem gX5_fire_X5_isIn : GoodIn wsX5_fire (va_wsS RX5 59 yX5_isIn wsX5_isIn) := goodIn_app (goodIn_of _ (by decide +kernel)) ggX5_fire_X5_isIn
set_option maxRecDepth 20000 in
theorem ggX5_fire_X5_rustOf : GoodIn wsX5_fire wsX5_rustOf := goodIn_r _ [20, 21, 27, 28, 29, 30, 31, 32, 33, 34, 35, 36, 37, 38, 39, 40, 41, 42, 43, 44, 45] (by decide +kernel) (by decide +kernel)
set_option maxRecDepth 20000 in
theorem gX5_fire_X5_rustOf : GoodIn wsX5_fire (wsV RX5 118 RX5 yX5_rustOf wsX5_rustOf) := goodIn_app (goodIn_of _ (by decide +kernel)) ggX5_fire_X5_rustOf
set_option maxRecDepth 20000 in
theorem ggX5_fire_X5_more : GoodIn wsX5_fire wsX5_more := goodIn_r _ [25, 26, 27, 28, 29, 30, 31, 32, 33, 34, 35, 36, 37, 38, 39, 40, 41, 42, 43, 44, 45] (by decide +kernel) (by decide +kernel)
set_option maxRecDepth 20000 in
theorem gX5_fire_X5_more : GoodIn wsX5_fire (wsV RX5 98 RX5 yX5_more wsX5_more) := goodIn_app (goodIn_of _ (by decide +kernel)) ggX5_fire_X5_more
theorem dX5_fire_0 : decode cX5_fire 0 = .ok (.aload_n 0, 1) := by decide +kernel
theorem dX5_fire_1 : decode cX5_fire 1 = .ok (.iconst 0, 1) := by decide +kernel
theorem dX5_fire_2 : decode cX5_fire 2 = .ok (.putfield 53, 3) := by decide +kernel
theorem dX5_fire_5 : decode cX5_fire 5 = .ok (.aload_n 0, 1) := by decide +kernel
theorem dX5_fire_6 : decode cX5_fire 6 = .ok (.iload_n 1, 1) := by decide +kernel
theorem dX5_fire_7 : decode cX5_fire 7 = .ok (.invokevirtual 105, 3) := by decide +kernel
theorem dX5_fire_10 : decode cX5_fire 10 = .ok (.ifCond .ne 9, 3) := by decide +kernel
theorem dX5_fire_13 : decode cX5_fire 13 = .ok (.aload_n 0, 1) := by decide +kernel
theorem dX5_fire_14 : decode cX5_fire 14 = .ok (.iconst 1, 1) := by decide +kernel
theorem dX5_fire_15 : decode cX5_fire 15 = .ok (.invokevirtual 92, 3) := by decide +kernel
theorem dX5_fire_18 : decode cX5_fire 18 = .ok (.ireturn, 1) := by decide +kernel
theorem dX5_fire_19 : decode cX5_fire 19 = .ok (.iload_n 2, 1) := by decide +kernel
theorem dX5_fire_20 : decode cX5_fire 20 = .ok (.iconst 1, 1) := by decide +kernel
theorem dX5_fire_21 : decode cX5_fire 21 = .ok (.bipush 91, 2) := by decide +kernel
theorem dX5_fire_23 : decode cX5_fire 23 = .ok (.invokestatic 59, 3) := by decide +kernel
theorem dX5_fire_26 : decode cX5_fire 26 = .ok (.ifCond .ne 9, 3) := by decide +kernel
theorem dX5_fire_29 : decode cX5_fire 29 = .ok (.aload_n 0, 1) := by decide +kernel
theorem dX5_fire_30 : decode cX5_fire 30 = .ok (.iconst 2, 1) := by decide +kernel
theorem dX5_fire_31 : decode cX5_fire 31 = .ok (.invokevirtual 92, 3) := by decide +kernel
theorem dX5_fire_34 : decode cX5_fire 34 = .ok (.ireturn, 1) := by decide +kernel
theorem dX5_fire_35 : decode cX5_fire 35 = .ok (.aload_n 0, 1) := by decide +kernel
theorem dX5_fire_36 : decode cX5_fire 36 = .ok (.getfield 23, 3) := by decide +kernel
theorem dX5_fire_39 : decode cX5_fire 39 = .ok (.iload_n 1, 1) := by decide +kernel
theorem dX5_fire_40 : decode cX5_fire 40 = .ok (.iaload, 1) := by decide +kernel
theorem dX5_fire_41 : decode cX5_fire 41 = .ok (.iload_n 2, 1) := by decide +kernel
theorem dX5_fire_42 : decode cX5_fire 42 = .ok (.if_icmp .ge 9, 3) := by decide +kernel
theorem dX5_fire_45 : decode cX5_fire 45 = .ok (.aload_n 0, 1) := by decide +kernel
theorem dX5_fire_46 : decode cX5_fire 46 = .ok (.iconst 3, 1) := by decide +kernel
theorem dX5_fire_47 : decode cX5_fire 47 = .ok (.invokevirtual 92, 3) := by decide +kernel
theorem dX5_fire_50 : decode cX5_fire 50 = .ok (.ireturn, 1) := by decide +kernel
theorem dX5_fire_51 : decode cX5_fire 51 = .ok (.iconst 0, 1) := by decide +kernel
theorem dX5_fire_52 : decode cX5_fire 52 = .ok (.istore_n 3, 1) := by decide +kernel
theorem dX5_fire_53 : decode cX5_fire 53 = .ok (.iconst 0, 1) := by decide +kernel
theorem dX5_fire_54 : decode cX5_fire 54 = .ok (.istore 4, 2) := by decide +kernel
theorem dX5_fire_56 : decode cX5_fire 56 = .ok (.iload 4, 2) := by decide +kernel
theorem dX5_fire_58 : decode cX5_fire 58 = .ok (.iload_n 2, 1) := by decide +kernel
theorem dX5_fire_59 : decode cX5_fire 59 = .ok (.if_icmp .ge 33, 3) := by decide +kernel
theorem dX5_fire_62 : decode cX5_fire 62 = .ok (.aload_n 0, 1) := by decide +kernel
theorem dX5_fire_63 : decode cX5_fire 63 = .ok (.getfield 23, 3) := by decide +kernel
theorem dX5_fire_66 : decode cX5_fire 66 = .ok (.iload_n 1, 1) := by decide +kernel
theorem dX5_fire_67 : decode cX5_fire 67 = .ok (.dup2, 1) := by decide +kernel
theorem dX5_fire_68 : decode cX5_fire 68 = .ok (.iaload, 1) := by decide +kernel
theorem dX5_fire_69 : decode cX5_fire 69 = .ok (.iconst 1, 1) := by decide +kernel
theorem dX5_fire_70 : decode cX5_fire 70 = .ok (.isub, 1) := by decide +kernel
theorem dX5_fire_71 : decode cX5_fire 71 = .ok (.iastore, 1) := by decide +kernel
theorem dX5_fire_72 : decode cX5_fire 72 = .ok (.iload_n 3, 1) := by decide +kernel
theorem dX5_fire_73 : decode cX5_fire 73 = .ok (.aload_n 0, 1) := by decide +kernel
theorem dX5_fire_74 : decode cX5_fire 74 = .ok (.iload_n 1, 1) := by decide +kernel
theorem dX5_fire_75 : decode cX5_fire 75 = .ok (.aload_n 0, 1) := by decide +kernel
theorem dX5_fire_76 : decode cX5_fire 76 = .ok (.getfield 23, 3) := by decide +kernel
theorem dX5_fire_79 : decode cX5_fire 79 = .ok (.iload_n 1, 1) := by decide +kernel
theorem dX5_fire_80 : decode cX5_fire 80 = .ok (.iaload, 1) := by decide +kernel
theorem dX5_fire_81 : decode cX5_fire 81 = .ok (.invokevirtual 118, 3) := by decide +kernel
theorem dX5_fire_84 : decode cX5_fire 84 = .ok (.iadd, 1) := by decide +kernel
theorem dX5_fire_85 : decode cX5_fire 85 = .ok (.istore_n 3, 1) := by decide +kernel
theorem dX5_fire_86 : decode cX5_fire 86 = .ok (.iinc 4 1, 3) := by decide +kernel
theorem dX5_fire_89 : decode cX5_fire 89 = .ok (.goto (-33), 3) := by decide +kernel
theorem dX5_fire_92 : decode cX5_fire 92 = .ok (.aload_n 0, 1) := by decide +kernel
theorem dX5_fire_93 : decode cX5_fire 93 = .ok (.aload_n 0, 1) := by decide +kernel
theorem dX5_fire_94 : decode cX5_fire 94 = .ok (.getfield 13, 3) := by decide +kernel
theorem dX5_fire_97 : decode cX5_fire 97 = .ok (.iload_n 1, 1) := by decide +kernel
theorem dX5_fire_98 : decode cX5_fire 98 = .ok (.iaload, 1) := by decide +kernel
theorem dX5_fire_99 : decode cX5_fire 99 = .ok (.iconst 2, 1) := by decide +kernel
theorem dX5_fire_100 : decode cX5_fire 100 = .ok (.iload_n 2, 1) := by decide +kernel
theorem dX5_fire_101 : decode cX5_fire 101 = .ok (.invokevirtual 98, 3) := by decide +kernel
theorem dX5_fire_104 : decode cX5_fire 104 = .ok (.iload_n 3, 1) := by decide +kernel
theorem dX5_fire_105 : decode cX5_fire 105 = .ok (.ireturn, 1) := by decide +kernel
set_option maxRecDepth 20000 in
theorem ggX5_scour_X5_isPile : GoodIn wsX5_scour wsX5_isPile := goodIn_r _ [12, 13, 14, 15, 11, 16, 49, 50, 51, 52, 53, 54, 55, 56, 57, 58, 59, 60, 61, 62, 63, 64, 65, 66, 67] (by decide +kernel) (by decide +kernel)
set_option maxRecDepth 20000 in
theorem gX5_scour_X5_isPile : GoodIn wsX5_scour (wsV RX5 105 RX5 yX5_isPile wsX5_isPile) := goodIn_app (goodIn_of _ (by decide +kernel)) ggX5_scour_X5_isPile
set_option maxRecDepth 20000 in
theorem ggX5_scour_X5_fail : GoodIn wsX5_scour wsX5_fail := goodIn_r _ [20, 1, 49, 50, 51, 52, 53, 54, 55, 56, 57, 58, 59, 60, 61, 62, 63, 64, 65, 66, 67] (by decide +kernel) (by decide +kernel)
set_option maxRecDepth 20000 in
theorem gX5_scour_X5_fail : GoodIn wsX5_scour (wsV RX5 92 RX5 yX5_fail wsX5_fail) := goodIn_app (goodIn_of _ (by decide +kernel)) ggX5_scour_X5_fail
set_option maxRecDepth 20000 in
theorem ggX5_scour_X5_on : GoodIn wsX5_scour wsX5_on := goodIn_r _ [24, 25, 26, 27, 11, 28, 29, 30, 31, 32, 33, 34, 35, 36, 37, 38, 39, 40, 41, 42, 43, 44, 2, 14, 15, 16, 49, 50, 51, 52, 53, 54, 55, 56, 57, 58, 59, 60, 61, 62, 63, 64, 65, 66, 67] (by decide +kernel) (by decide +kernel)
set_option maxRecDepth 20000 in
theorem gX5_scour_X5_on : GoodIn wsX5_scour (wsV RX5 121 RX5 yX5_on wsX5_on) := goodIn_app (goodIn_of _ (by decide +kernel)) ggX5_scour_X5_on
set_option maxRecDepth 20000 in
theorem ggX5_scour_X5_rustOf : GoodIn wsX5_scour wsX5_rustOf := goodIn_r _ [48, 7, 49, 50, 51, 52, 53, 54, 55, 56, 57, 58, 59, 60, 61, 62, 63, 64, 65, 66, 67] (by decide +kernel) (by decide +kernel)
set_option maxRecDepth 20000 in
theorem gX5_scour_X5_rustOf : GoodIn wsX5_scour (wsV RX5 118 RX5 yX5_rustOf wsX5_rustOf) := goodIn_app (goodIn_of _ (by decide +kernel)) ggX5_scour_X5_rustOf
theorem dX5_scour_0 : decode cX5_scour 0 = .ok (.aload_n 0, 1) := by decide +kernel
theorem dX5_scour_1 : decode cX5_scour 1 = .ok (.iconst 0, 1) := by decide +kernel
theorem dX5_scour_2 : decode cX5_scour 2 = .ok (.putfield 53, 3) := by decide +kernel
theorem dX5_scour_5 : decode cX5_scour 5 = .ok (.aload_n 0, 1) := by decide +kernel
theorem dX5_scour_6 : decode cX5_scour 6 = .ok (.iload_n 1, 1) := by decide +kernel
theorem dX5_scour_7 : decode cX5_scour 7 = .ok (.invokevirtual 105, 3) := by decide +kernel
theorem dX5_scour_10 : decode cX5_scour 10 = .ok (.ifCond .ne 9, 3) := by decide +kernel
theorem dX5_scour_13 : decode cX5_scour 13 = .ok (.aload_n 0, 1) := by decide +kernel
theorem dX5_scour_14 : decode cX5_scour 14 = .ok (.iconst 1, 1) := by decide +kernel
theorem dX5_scour_15 : decode cX5_scour 15 = .ok (.invokevirtual 92, 3) := by decide +kernel
theorem dX5_scour_18 : decode cX5_scour 18 = .ok (.ireturn, 1) := by decide +kernel
theorem dX5_scour_19 : decode cX5_scour 19 = .ok (.iconst 0, 1) := by decide +kernel
theorem dX5_scour_20 : decode cX5_scour 20 = .ok (.istore_n 2, 1) := by decide +kernel
theorem dX5_scour_21 : decode cX5_scour 21 = .ok (.iconst 0, 1) := by decide +kernel
theorem dX5_scour_22 : decode cX5_scour 22 = .ok (.istore_n 3, 1) := by decide +kernel
theorem dX5_scour_23 : decode cX5_scour 23 = .ok (.iload_n 3, 1) := by decide +kernel
theorem dX5_scour_24 : decode cX5_scour 24 = .ok (.aload_n 0, 1) := by decide +kernel
theorem dX5_scour_25 : decode cX5_scour 25 = .ok (.getfield 23, 3) := by decide +kernel
theorem dX5_scour_28 : decode cX5_scour 28 = .ok (.iload_n 1, 1) := by decide +kernel
theorem dX5_scour_29 : decode cX5_scour 29 = .ok (.iaload, 1) := by decide +kernel
theorem dX5_scour_30 : decode cX5_scour 30 = .ok (.if_icmp .ge 54, 3) := by decide +kernel
theorem dX5_scour_33 : decode cX5_scour 33 = .ok (.aload_n 0, 1) := by decide +kernel
theorem dX5_scour_34 : decode cX5_scour 34 = .ok (.iload_n 1, 1) := by decide +kernel
theorem dX5_scour_35 : decode cX5_scour 35 = .ok (.iload_n 3, 1) := by decide +kernel
theorem dX5_scour_36 : decode cX5_scour 36 = .ok (.invokevirtual 121, 3) := by decide +kernel
theorem dX5_scour_39 : decode cX5_scour 39 = .ok (.ifCond .le 6, 3) := by decide +kernel
theorem dX5_scour_42 : decode cX5_scour 42 = .ok (.goto 36, 3) := by decide +kernel
theorem dX5_scour_45 : decode cX5_scour 45 = .ok (.iconst 3, 1) := by decide +kernel
theorem dX5_scour_46 : decode cX5_scour 46 = .ok (.aload_n 0, 1) := by decide +kernel
theorem dX5_scour_47 : decode cX5_scour 47 = .ok (.iload_n 1, 1) := by decide +kernel
theorem dX5_scour_48 : decode cX5_scour 48 = .ok (.iload_n 3, 1) := by decide +kernel
theorem dX5_scour_49 : decode cX5_scour 49 = .ok (.invokevirtual 118, 3) := by decide +kernel
theorem dX5_scour_52 : decode cX5_scour 52 = .ok (.invokestatic 124, 3) := by decide +kernel
theorem dX5_scour_55 : decode cX5_scour 55 = .ok (.istore 4, 2) := by decide +kernel
theorem dX5_scour_57 : decode cX5_scour 57 = .ok (.aload_n 0, 1) := by decide +kernel
theorem dX5_scour_58 : decode cX5_scour 58 = .ok (.getfield 26, 3) := by decide +kernel
theorem dX5_scour_61 : decode cX5_scour 61 = .ok (.bipush 91, 2) := by decide +kernel
theorem dX5_scour_63 : decode cX5_scour 63 = .ok (.iload_n 1, 1) := by decide +kernel
theorem dX5_scour_64 : decode cX5_scour 64 = .ok (.imul, 1) := by decide +kernel
theorem dX5_scour_65 : decode cX5_scour 65 = .ok (.iload_n 3, 1) := by decide +kernel
theorem dX5_scour_66 : decode cX5_scour 66 = .ok (.iadd, 1) := by decide +kernel
theorem dX5_scour_67 : decode cX5_scour 67 = .ok (.dup2, 1) := by decide +kernel
theorem dX5_scour_68 : decode cX5_scour 68 = .ok (.iaload, 1) := by decide +kernel
theorem dX5_scour_69 : decode cX5_scour 69 = .ok (.iload 4, 2) := by decide +kernel
theorem dX5_scour_71 : decode cX5_scour 71 = .ok (.isub, 1) := by decide +kernel
theorem dX5_scour_72 : decode cX5_scour 72 = .ok (.iastore, 1) := by decide +kernel
theorem dX5_scour_73 : decode cX5_scour 73 = .ok (.iload_n 2, 1) := by decide +kernel
theorem dX5_scour_74 : decode cX5_scour 74 = .ok (.iload 4, 2) := by decide +kernel
theorem dX5_scour_76 : decode cX5_scour 76 = .ok (.iadd, 1) := by decide +kernel
theorem dX5_scour_77 : decode cX5_scour 77 = .ok (.istore_n 2, 1) := by decide +kernel
theorem dX5_scour_78 : decode cX5_scour 78 = .ok (.iinc 3 1, 3) := by decide +kernel
theorem dX5_scour_81 : decode cX5_scour 81 = .ok (.goto (-58), 3) := by decide +kernel
theorem dX5_scour_84 : decode cX5_scour 84 = .ok (.iload_n 2, 1) := by decide +kernel
theorem dX5_scour_85 : decode cX5_scour 85 = .ok (.ireturn, 1) := by decide +kernel
set_option maxRecDepth 20000 in
theorem ggX5_rusty_X5_rustOf : GoodIn wsX5_rusty wsX5_rustOf := goodIn_r _ [7, 8, 9, 10, 11, 12, 13, 14, 15, 16, 17, 18, 19, 20, 21, 22, 23, 24, 25, 26, 27] (by decide +kernel) (by decide +kernel)
set_option maxRecDepth 20000 in
theorem gX5_rusty_X5_rustOf : GoodIn wsX5_rusty (wsV RX5 118 RX5 yX5_rustOf wsX5_rustOf) := goodIn_app (goodIn_of _ (by decide +kernel)) ggX5_rusty_X5_rustOf
theorem dX5_rusty_0 : decode cX5_rusty 0 = .ok (.iconst 0, 1) := by decide +kernel
theorem dX5_rusty_1 : decode cX5_rusty 1 = .ok (.istore_n 2, 1) := by decide +kernel
theorem dX5_rusty_2 : decode cX5_rusty 2 = .ok (.iconst 0, 1) := by decide +kernel
theorem dX5_rusty_3 : decode cX5_rusty 3 = .ok (.istore_n 3, 1) := by decide +kernel
theorem dX5_rusty_4 : decode cX5_rusty 4 = .ok (.iload_n 3, 1) := by decide +kernel
theorem dX5_rusty_5 : decode cX5_rusty 5 = .ok (.aload_n 0, 1) := by decide +kernel
theorem dX5_rusty_6 : decode cX5_rusty 6 = .ok (.getfield 23, 3) := by decide +kernel
theorem dX5_rusty_9 : decode cX5_rusty 9 = .ok (.iload_n 1, 1) := by decide +kernel
theorem dX5_rusty_10 : decode cX5_rusty 10 = .ok (.iaload, 1) := by decide +kernel
theorem dX5_rusty_11 : decode cX5_rusty 11 = .ok (.if_icmp .ge 30, 3) := by decide +kernel
theorem dX5_rusty_14 : decode cX5_rusty 14 = .ok (.iload_n 2, 1) := by decide +kernel
theorem dX5_rusty_15 : decode cX5_rusty 15 = .ok (.aload_n 0, 1) := by decide +kernel
theorem dX5_rusty_16 : decode cX5_rusty 16 = .ok (.iload_n 1, 1) := by decide +kernel
theorem dX5_rusty_17 : decode cX5_rusty 17 = .ok (.iload_n 3, 1) := by decide +kernel
theorem dX5_rusty_18 : decode cX5_rusty 18 = .ok (.invokevirtual 118, 3) := by decide +kernel
theorem dX5_rusty_21 : decode cX5_rusty 21 = .ok (.aload_n 0, 1) := by decide +kernel
theorem dX5_rusty_22 : decode cX5_rusty 22 = .ok (.getfield 7, 3) := by decide +kernel
theorem dX5_rusty_25 : decode cX5_rusty 25 = .ok (.if_icmp .lt 7, 3) := by decide +kernel
theorem dX5_rusty_28 : decode cX5_rusty 28 = .ok (.iconst 1, 1) := by decide +kernel
theorem dX5_rusty_29 : decode cX5_rusty 29 = .ok (.goto 4, 3) := by decide +kernel
theorem dX5_rusty_32 : decode cX5_rusty 32 = .ok (.iconst 0, 1) := by decide +kernel
theorem dX5_rusty_33 : decode cX5_rusty 33 = .ok (.iadd, 1) := by decide +kernel
theorem dX5_rusty_34 : decode cX5_rusty 34 = .ok (.istore_n 2, 1) := by decide +kernel
theorem dX5_rusty_35 : decode cX5_rusty 35 = .ok (.iinc 3 1, 3) := by decide +kernel
theorem dX5_rusty_38 : decode cX5_rusty 38 = .ok (.goto (-34), 3) := by decide +kernel
theorem dX5_rusty_41 : decode cX5_rusty 41 = .ok (.iload_n 2, 1) := by decide +kernel
theorem dX5_rusty_42 : decode cX5_rusty 42 = .ok (.ireturn, 1) := by decide +kernel
set_option maxRecDepth 20000 in
theorem ggX5_inspect_X5_isPile : GoodIn wsX5_inspect wsX5_isPile := goodIn_r _ [9, 10, 11, 12, 8, 13, 32, 33, 34, 35, 36, 37, 38, 39, 40, 41, 42, 43, 44, 45, 46, 47, 48, 49, 50] (by decide +kernel) (by decide +kernel)
set_option maxRecDepth 20000 in
theorem gX5_inspect_X5_isPile : GoodIn wsX5_inspect (wsV RX5 105 RX5 yX5_isPile wsX5_isPile) := goodIn_app (goodIn_of _ (by decide +kernel)) ggX5_inspect_X5_isPile
set_option maxRecDepth 20000 in
theorem ggX5_inspect_X5_fail : GoodIn wsX5_inspect wsX5_fail := goodIn_r _ [17, 1, 32, 33, 34, 35, 36, 37, 38, 39, 40, 41, 42, 43, 44, 45, 46, 47, 48, 49, 50] (by decide +kernel) (by decide +kernel)
set_option maxRecDepth 20000 in
theorem gX5_inspect_X5_fail : GoodIn wsX5_inspect (wsV RX5 92 RX5 yX5_fail wsX5_fail) := goodIn_app (goodIn_of _ (by decide +kernel)) ggX5_inspect_X5_fail
set_option maxRecDepth 20000 in
theorem ggX5_inspect_X5_rustOf : GoodIn wsX5_inspect wsX5_rustOf := goodIn_r _ [21, 22, 32, 33, 34, 35, 36, 37, 38, 39, 40, 41, 42, 43, 44, 45, 46, 47, 48, 49, 50] (by decide +kernel) (by decide +kernel)
set_option maxRecDepth 20000 in
theorem gX5_inspect_X5_rustOf : GoodIn wsX5_inspect (wsV RX5 118 RX5 yX5_rustOf wsX5_rustOf) := goodIn_app (goodIn_of _ (by decide +kernel)) ggX5_inspect_X5_rustOf
set_option maxRecDepth 20000 in
theorem ggX5_inspect_X5_put : GoodIn wsX5_inspect wsX5_put := goodIn_r _ [26, 22, 2, 32, 33, 34, 35, 36, 37, 38, 39, 40, 41, 42, 43, 44, 45, 46, 47, 48, 49, 50] (by decide +kernel) (by decide +kernel)
set_option maxRecDepth 20000 in
theorem gX5_inspect_X5_put : GoodIn wsX5_inspect (wsV RX5 114 RX5 yX5_put wsX5_put) := goodIn_app (goodIn_of _ (by decide +kernel)) ggX5_inspect_X5_put
set_option maxRecDepth 20000 in
theorem ggX5_inspect_X5_more : GoodIn wsX5_inspect wsX5_more := goodIn_r _ [30, 31, 32, 33, 34, 35, 36, 37, 38, 39, 40, 41, 42, 43, 44, 45, 46, 47, 48, 49, 50] (by decide +kernel) (by decide +kernel)
set_option maxRecDepth 20000 in
theorem gX5_inspect_X5_more : GoodIn wsX5_inspect (wsV RX5 98 RX5 yX5_more wsX5_more) := goodIn_app (goodIn_of _ (by decide +kernel)) ggX5_inspect_X5_more
theorem dX5_inspect_0 : decode cX5_inspect 0 = .ok (.aload_n 0, 1) := by decide +kernel
theorem dX5_inspect_1 : decode cX5_inspect 1 = .ok (.iconst 0, 1) := by decide +kernel
theorem dX5_inspect_2 : decode cX5_inspect 2 = .ok (.putfield 53, 3) := by decide +kernel
theorem dX5_inspect_5 : decode cX5_inspect 5 = .ok (.aload_n 0, 1) := by decide +kernel
theorem dX5_inspect_6 : decode cX5_inspect 6 = .ok (.iload_n 1, 1) := by decide +kernel
theorem dX5_inspect_7 : decode cX5_inspect 7 = .ok (.invokevirtual 105, 3) := by decide +kernel
theorem dX5_inspect_10 : decode cX5_inspect 10 = .ok (.ifCond .ne 9, 3) := by decide +kernel
theorem dX5_inspect_13 : decode cX5_inspect 13 = .ok (.aload_n 0, 1) := by decide +kernel
theorem dX5_inspect_14 : decode cX5_inspect 14 = .ok (.iconst 1, 1) := by decide +kernel
theorem dX5_inspect_15 : decode cX5_inspect 15 = .ok (.invokevirtual 92, 3) := by decide +kernel
theorem dX5_inspect_18 : decode cX5_inspect 18 = .ok (.ireturn, 1) := by decide +kernel
theorem dX5_inspect_19 : decode cX5_inspect 19 = .ok (.aload_n 0, 1) := by decide +kernel
theorem dX5_inspect_20 : decode cX5_inspect 20 = .ok (.getfield 23, 3) := by decide +kernel
theorem dX5_inspect_23 : decode cX5_inspect 23 = .ok (.iload_n 1, 1) := by decide +kernel
theorem dX5_inspect_24 : decode cX5_inspect 24 = .ok (.iaload, 1) := by decide +kernel
theorem dX5_inspect_25 : decode cX5_inspect 25 = .ok (.istore_n 2, 1) := by decide +kernel
theorem dX5_inspect_26 : decode cX5_inspect 26 = .ok (.aload_n 0, 1) := by decide +kernel
theorem dX5_inspect_27 : decode cX5_inspect 27 = .ok (.getfield 23, 3) := by decide +kernel
theorem dX5_inspect_30 : decode cX5_inspect 30 = .ok (.iload_n 1, 1) := by decide +kernel
theorem dX5_inspect_31 : decode cX5_inspect 31 = .ok (.iconst 0, 1) := by decide +kernel
theorem dX5_inspect_32 : decode cX5_inspect 32 = .ok (.iastore, 1) := by decide +kernel
theorem dX5_inspect_33 : decode cX5_inspect 33 = .ok (.iconst 0, 1) := by decide +kernel
theorem dX5_inspect_34 : decode cX5_inspect 34 = .ok (.istore_n 3, 1) := by decide +kernel
theorem dX5_inspect_35 : decode cX5_inspect 35 = .ok (.iload_n 3, 1) := by decide +kernel
theorem dX5_inspect_36 : decode cX5_inspect 36 = .ok (.iload_n 2, 1) := by decide +kernel
theorem dX5_inspect_37 : decode cX5_inspect 37 = .ok (.if_icmp .ge 33, 3) := by decide +kernel
theorem dX5_inspect_40 : decode cX5_inspect 40 = .ok (.aload_n 0, 1) := by decide +kernel
theorem dX5_inspect_41 : decode cX5_inspect 41 = .ok (.iload_n 1, 1) := by decide +kernel
theorem dX5_inspect_42 : decode cX5_inspect 42 = .ok (.iload_n 3, 1) := by decide +kernel
theorem dX5_inspect_43 : decode cX5_inspect 43 = .ok (.invokevirtual 118, 3) := by decide +kernel
theorem dX5_inspect_46 : decode cX5_inspect 46 = .ok (.aload_n 0, 1) := by decide +kernel
theorem dX5_inspect_47 : decode cX5_inspect 47 = .ok (.getfield 7, 3) := by decide +kernel
theorem dX5_inspect_50 : decode cX5_inspect 50 = .ok (.if_icmp .ge 14, 3) := by decide +kernel
theorem dX5_inspect_53 : decode cX5_inspect 53 = .ok (.aload_n 0, 1) := by decide +kernel
theorem dX5_inspect_54 : decode cX5_inspect 54 = .ok (.iload_n 1, 1) := by decide +kernel
theorem dX5_inspect_55 : decode cX5_inspect 55 = .ok (.aload_n 0, 1) := by decide +kernel
theorem dX5_inspect_56 : decode cX5_inspect 56 = .ok (.iload_n 1, 1) := by decide +kernel
theorem dX5_inspect_57 : decode cX5_inspect 57 = .ok (.iload_n 3, 1) := by decide +kernel
theorem dX5_inspect_58 : decode cX5_inspect 58 = .ok (.invokevirtual 118, 3) := by decide +kernel
theorem dX5_inspect_61 : decode cX5_inspect 61 = .ok (.invokevirtual 114, 3) := by decide +kernel
theorem dX5_inspect_64 : decode cX5_inspect 64 = .ok (.iinc 3 1, 3) := by decide +kernel
theorem dX5_inspect_67 : decode cX5_inspect 67 = .ok (.goto (-32), 3) := by decide +kernel
theorem dX5_inspect_70 : decode cX5_inspect 70 = .ok (.aload_n 0, 1) := by decide +kernel
theorem dX5_inspect_71 : decode cX5_inspect 71 = .ok (.aload_n 0, 1) := by decide +kernel
theorem dX5_inspect_72 : decode cX5_inspect 72 = .ok (.getfield 13, 3) := by decide +kernel
theorem dX5_inspect_75 : decode cX5_inspect 75 = .ok (.iload_n 1, 1) := by decide +kernel
theorem dX5_inspect_76 : decode cX5_inspect 76 = .ok (.iaload, 1) := by decide +kernel
theorem dX5_inspect_77 : decode cX5_inspect 77 = .ok (.iconst 3, 1) := by decide +kernel
theorem dX5_inspect_78 : decode cX5_inspect 78 = .ok (.iload_n 2, 1) := by decide +kernel
theorem dX5_inspect_79 : decode cX5_inspect 79 = .ok (.aload_n 0, 1) := by decide +kernel
theorem dX5_inspect_80 : decode cX5_inspect 80 = .ok (.getfield 23, 3) := by decide +kernel
theorem dX5_inspect_83 : decode cX5_inspect 83 = .ok (.iload_n 1, 1) := by decide +kernel
theorem dX5_inspect_84 : decode cX5_inspect 84 = .ok (.iaload, 1) := by decide +kernel
theorem dX5_inspect_85 : decode cX5_inspect 85 = .ok (.isub, 1) := by decide +kernel
theorem dX5_inspect_86 : decode cX5_inspect 86 = .ok (.invokevirtual 98, 3) := by decide +kernel
theorem dX5_inspect_89 : decode cX5_inspect 89 = .ok (.iload_n 2, 1) := by decide +kernel
theorem dX5_inspect_90 : decode cX5_inspect 90 = .ok (.aload_n 0, 1) := by decide +kernel
theorem dX5_inspect_91 : decode cX5_inspect 91 = .ok (.getfield 23, 3) := by decide +kernel
theorem dX5_inspect_94 : decode cX5_inspect 94 = .ok (.iload_n 1, 1) := by decide +kernel
theorem dX5_inspect_95 : decode cX5_inspect 95 = .ok (.iaload, 1) := by decide +kernel
theorem dX5_inspect_96 : decode cX5_inspect 96 = .ok (.isub, 1) := by decide +kernel
theorem dX5_inspect_97 : decode cX5_inspect 97 = .ok (.ireturn, 1) := by decide +kernel
set_option maxRecDepth 20000 in
theorem ggX5_shift_X5_isPile : GoodIn wsX5_shift wsX5_isPile := goodIn_r _ [8, 9, 10, 11, 7, 12, 34, 35, 36, 37, 38, 39, 40, 41, 42, 43, 44, 45, 46, 47, 48, 49, 50, 51, 52] (by decide +kernel) (by decide +kernel)
set_option maxRecDepth 20000 in
theorem gX5_shift_X5_isPile : GoodIn wsX5_shift (wsV RX5 105 RX5 yX5_isPile wsX5_isPile) := goodIn_app (goodIn_of _ (by decide +kernel)) ggX5_shift_X5_isPile
set_option maxRecDepth 20000 in
theorem ggX5_shift_X5_fail : GoodIn wsX5_shift wsX5_fail := goodIn_r _ [16, 1, 34, 35, 36, 37, 38, 39, 40, 41, 42, 43, 44, 45, 46, 47, 48, 49, 50, 51, 52] (by decide +kernel) (by decide +kernel)
set_option maxRecDepth 20000 in
theorem gX5_shift_X5_fail : GoodIn wsX5_shift (wsV RX5 92 RX5 yX5_fail wsX5_fail) := goodIn_app (goodIn_of _ (by decide +kernel)) ggX5_shift_X5_fail
set_option maxRecDepth 20000 in
theorem ggX5_shift_X5_left : GoodIn wsX5_shift wsX5_left := goodIn_r _ [20, 21, 3, 22, 23, 7, 24, 34, 35, 36, 37, 38, 39, 40, 41, 42, 43, 44, 45, 46, 47, 48, 49, 50, 51, 52] (by decide +kernel) (by decide +kernel)
set_option maxRecDepth 20000 in
theorem gX5_shift_X5_left : GoodIn wsX5_shift (wsV RX5 111 RX5 yX5_left wsX5_left) := goodIn_app (goodIn_of _ (by decide +kernel)) ggX5_shift_X5_left
set_option maxRecDepth 20000 in
theorem ggX5_shift_X5_rustOf : GoodIn wsX5_shift wsX5_rustOf := goodIn_r _ [28, 29, 34, 35, 36, 37, 38, 39, 40, 41, 42, 43, 44, 45, 46, 47, 48, 49, 50, 51, 52] (by decide +kernel) (by decide +kernel)
set_option maxRecDepth 20000 in
theorem gX5_shift_X5_rustOf : GoodIn wsX5_shift (wsV RX5 118 RX5 yX5_rustOf wsX5_rustOf) := goodIn_app (goodIn_of _ (by decide +kernel)) ggX5_shift_X5_rustOf
set_option maxRecDepth 20000 in
theorem ggX5_shift_X5_put : GoodIn wsX5_shift wsX5_put := goodIn_r _ [33, 29, 3, 34, 35, 36, 37, 38, 39, 40, 41, 42, 43, 44, 45, 46, 47, 48, 49, 50, 51, 52] (by decide +kernel) (by decide +kernel)
set_option maxRecDepth 20000 in
theorem gX5_shift_X5_put : GoodIn wsX5_shift (wsV RX5 114 RX5 yX5_put wsX5_put) := goodIn_app (goodIn_of _ (by decide +kernel)) ggX5_shift_X5_put
theorem dX5_shift_0 : decode cX5_shift 0 = .ok (.aload_n 0, 1) := by decide +kernel
theorem dX5_shift_1 : decode cX5_shift 1 = .ok (.iconst 0, 1) := by decide +kernel
theorem dX5_shift_2 : decode cX5_shift 2 = .ok (.putfield 53, 3) := by decide +kernel
theorem dX5_shift_5 : decode cX5_shift 5 = .ok (.aload_n 0, 1) := by decide +kernel
theorem dX5_shift_6 : decode cX5_shift 6 = .ok (.iload_n 1, 1) := by decide +kernel
theorem dX5_shift_7 : decode cX5_shift 7 = .ok (.invokevirtual 105, 3) := by decide +kernel
theorem dX5_shift_10 : decode cX5_shift 10 = .ok (.ifCond .eq 11, 3) := by decide +kernel
theorem dX5_shift_13 : decode cX5_shift 13 = .ok (.aload_n 0, 1) := by decide +kernel
theorem dX5_shift_14 : decode cX5_shift 14 = .ok (.iload_n 2, 1) := by decide +kernel
theorem dX5_shift_15 : decode cX5_shift 15 = .ok (.invokevirtual 105, 3) := by decide +kernel
theorem dX5_shift_18 : decode cX5_shift 18 = .ok (.ifCond .ne 9, 3) := by decide +kernel
theorem dX5_shift_21 : decode cX5_shift 21 = .ok (.aload_n 0, 1) := by decide +kernel
theorem dX5_shift_22 : decode cX5_shift 22 = .ok (.iconst 1, 1) := by decide +kernel
theorem dX5_shift_23 : decode cX5_shift 23 = .ok (.invokevirtual 92, 3) := by decide +kernel
theorem dX5_shift_26 : decode cX5_shift 26 = .ok (.ireturn, 1) := by decide +kernel
theorem dX5_shift_27 : decode cX5_shift 27 = .ok (.iload_n 1, 1) := by decide +kernel
theorem dX5_shift_28 : decode cX5_shift 28 = .ok (.iload_n 2, 1) := by decide +kernel
theorem dX5_shift_29 : decode cX5_shift 29 = .ok (.if_icmp .eq 18, 3) := by decide +kernel
theorem dX5_shift_32 : decode cX5_shift 32 = .ok (.aload_n 0, 1) := by decide +kernel
theorem dX5_shift_33 : decode cX5_shift 33 = .ok (.getfield 13, 3) := by decide +kernel
theorem dX5_shift_36 : decode cX5_shift 36 = .ok (.iload_n 1, 1) := by decide +kernel
theorem dX5_shift_37 : decode cX5_shift 37 = .ok (.iaload, 1) := by decide +kernel
theorem dX5_shift_38 : decode cX5_shift 38 = .ok (.aload_n 0, 1) := by decide +kernel
theorem dX5_shift_39 : decode cX5_shift 39 = .ok (.getfield 13, 3) := by decide +kernel
theorem dX5_shift_42 : decode cX5_shift 42 = .ok (.iload_n 2, 1) := by decide +kernel
theorem dX5_shift_43 : decode cX5_shift 43 = .ok (.iaload, 1) := by decide +kernel
theorem dX5_shift_44 : decode cX5_shift 44 = .ok (.if_icmp .eq 9, 3) := by decide +kernel
theorem dX5_shift_47 : decode cX5_shift 47 = .ok (.aload_n 0, 1) := by decide +kernel
theorem dX5_shift_48 : decode cX5_shift 48 = .ok (.iconst 2, 1) := by decide +kernel
theorem dX5_shift_49 : decode cX5_shift 49 = .ok (.invokevirtual 92, 3) := by decide +kernel
theorem dX5_shift_52 : decode cX5_shift 52 = .ok (.ireturn, 1) := by decide +kernel
theorem dX5_shift_53 : decode cX5_shift 53 = .ok (.iconst 0, 1) := by decide +kernel
theorem dX5_shift_54 : decode cX5_shift 54 = .ok (.istore_n 3, 1) := by decide +kernel
theorem dX5_shift_55 : decode cX5_shift 55 = .ok (.aload_n 0, 1) := by decide +kernel
theorem dX5_shift_56 : decode cX5_shift 56 = .ok (.getfield 23, 3) := by decide +kernel
theorem dX5_shift_59 : decode cX5_shift 59 = .ok (.iload_n 1, 1) := by decide +kernel
theorem dX5_shift_60 : decode cX5_shift 60 = .ok (.iaload, 1) := by decide +kernel
theorem dX5_shift_61 : decode cX5_shift 61 = .ok (.ifCond .le 43, 3) := by decide +kernel
theorem dX5_shift_64 : decode cX5_shift 64 = .ok (.aload_n 0, 1) := by decide +kernel
theorem dX5_shift_65 : decode cX5_shift 65 = .ok (.iload_n 2, 1) := by decide +kernel
theorem dX5_shift_66 : decode cX5_shift 66 = .ok (.invokevirtual 111, 3) := by decide +kernel
theorem dX5_shift_69 : decode cX5_shift 69 = .ok (.ifCond .le 35, 3) := by decide +kernel
theorem dX5_shift_72 : decode cX5_shift 72 = .ok (.aload_n 0, 1) := by decide +kernel
theorem dX5_shift_73 : decode cX5_shift 73 = .ok (.getfield 23, 3) := by decide +kernel
theorem dX5_shift_76 : decode cX5_shift 76 = .ok (.iload_n 1, 1) := by decide +kernel
theorem dX5_shift_77 : decode cX5_shift 77 = .ok (.dup2, 1) := by decide +kernel
theorem dX5_shift_78 : decode cX5_shift 78 = .ok (.iaload, 1) := by decide +kernel
theorem dX5_shift_79 : decode cX5_shift 79 = .ok (.iconst 1, 1) := by decide +kernel
theorem dX5_shift_80 : decode cX5_shift 80 = .ok (.isub, 1) := by decide +kernel
theorem dX5_shift_81 : decode cX5_shift 81 = .ok (.iastore, 1) := by decide +kernel
theorem dX5_shift_82 : decode cX5_shift 82 = .ok (.aload_n 0, 1) := by decide +kernel
theorem dX5_shift_83 : decode cX5_shift 83 = .ok (.iload_n 2, 1) := by decide +kernel
theorem dX5_shift_84 : decode cX5_shift 84 = .ok (.aload_n 0, 1) := by decide +kernel
theorem dX5_shift_85 : decode cX5_shift 85 = .ok (.iload_n 1, 1) := by decide +kernel
theorem dX5_shift_86 : decode cX5_shift 86 = .ok (.aload_n 0, 1) := by decide +kernel
theorem dX5_shift_87 : decode cX5_shift 87 = .ok (.getfield 23, 3) := by decide +kernel
theorem dX5_shift_90 : decode cX5_shift 90 = .ok (.iload_n 1, 1) := by decide +kernel
theorem dX5_shift_91 : decode cX5_shift 91 = .ok (.iaload, 1) := by decide +kernel
theorem dX5_shift_92 : decode cX5_shift 92 = .ok (.invokevirtual 118, 3) := by decide +kernel
theorem dX5_shift_95 : decode cX5_shift 95 = .ok (.invokevirtual 114, 3) := by decide +kernel
theorem dX5_shift_98 : decode cX5_shift 98 = .ok (.iinc 3 1, 3) := by decide +kernel
theorem dX5_shift_101 : decode cX5_shift 101 = .ok (.goto (-46), 3) := by decide +kernel
theorem dX5_shift_104 : decode cX5_shift 104 = .ok (.iload_n 3, 1) := by decide +kernel
theorem dX5_shift_105 : decode cX5_shift 105 = .ok (.ireturn, 1) := by decide +kernel
set_option maxRecDepth 20000 in
theorem ggX5_gather_X5_more : GoodIn wsX5_gather wsX5_more := goodIn_r _ [7, 2, 8, 9, 10, 11, 12, 13, 14, 15, 16, 17, 18, 19, 20, 21, 22, 23, 24, 25, 26] (by decide +kernel) (by decide +kernel)
set_option maxRecDepth 20000 in
theorem gX5_gather_X5_more : GoodIn wsX5_gather (wsV RX5 98 RX5 yX5_more wsX5_more) := goodIn_app (goodIn_of _ (by decide +kernel)) ggX5_gather_X5_more
theorem dX5_gather_0 : decode cX5_gather 0 = .ok (.aload_n 0, 1) := by decide +kernel
theorem dX5_gather_1 : decode cX5_gather 1 = .ok (.iconst 0, 1) := by decide +kernel
theorem dX5_gather_2 : decode cX5_gather 2 = .ok (.putfield 53, 3) := by decide +kernel
theorem dX5_gather_5 : decode cX5_gather 5 = .ok (.iconst 0, 1) := by decide +kernel
theorem dX5_gather_6 : decode cX5_gather 6 = .ok (.istore_n 1, 1) := by decide +kernel
theorem dX5_gather_7 : decode cX5_gather 7 = .ok (.iconst 0, 1) := by decide +kernel
theorem dX5_gather_8 : decode cX5_gather 8 = .ok (.istore_n 2, 1) := by decide +kernel
theorem dX5_gather_9 : decode cX5_gather 9 = .ok (.iload_n 2, 1) := by decide +kernel
theorem dX5_gather_10 : decode cX5_gather 10 = .ok (.iconst 5, 1) := by decide +kernel
theorem dX5_gather_11 : decode cX5_gather 11 = .ok (.if_icmp .ge 39, 3) := by decide +kernel
theorem dX5_gather_14 : decode cX5_gather 14 = .ok (.aload_n 0, 1) := by decide +kernel
theorem dX5_gather_15 : decode cX5_gather 15 = .ok (.getfield 29, 3) := by decide +kernel
theorem dX5_gather_18 : decode cX5_gather 18 = .ok (.iconst 4, 1) := by decide +kernel
theorem dX5_gather_19 : decode cX5_gather 19 = .ok (.iload_n 2, 1) := by decide +kernel
theorem dX5_gather_20 : decode cX5_gather 20 = .ok (.imul, 1) := by decide +kernel
theorem dX5_gather_21 : decode cX5_gather 21 = .ok (.iconst 1, 1) := by decide +kernel
theorem dX5_gather_22 : decode cX5_gather 22 = .ok (.iadd, 1) := by decide +kernel
theorem dX5_gather_23 : decode cX5_gather 23 = .ok (.iaload, 1) := by decide +kernel
theorem dX5_gather_24 : decode cX5_gather 24 = .ok (.istore_n 3, 1) := by decide +kernel
theorem dX5_gather_25 : decode cX5_gather 25 = .ok (.aload_n 0, 1) := by decide +kernel
theorem dX5_gather_26 : decode cX5_gather 26 = .ok (.iload_n 2, 1) := by decide +kernel
theorem dX5_gather_27 : decode cX5_gather 27 = .ok (.iconst 0, 1) := by decide +kernel
theorem dX5_gather_28 : decode cX5_gather 28 = .ok (.iload_n 3, 1) := by decide +kernel
theorem dX5_gather_29 : decode cX5_gather 29 = .ok (.invokevirtual 98, 3) := by decide +kernel
theorem dX5_gather_32 : decode cX5_gather 32 = .ok (.aload_n 0, 1) := by decide +kernel
theorem dX5_gather_33 : decode cX5_gather 33 = .ok (.iload_n 2, 1) := by decide +kernel
theorem dX5_gather_34 : decode cX5_gather 34 = .ok (.iconst 1, 1) := by decide +kernel
theorem dX5_gather_35 : decode cX5_gather 35 = .ok (.iload_n 3, 1) := by decide +kernel
theorem dX5_gather_36 : decode cX5_gather 36 = .ok (.ineg, 1) := by decide +kernel
theorem dX5_gather_37 : decode cX5_gather 37 = .ok (.invokevirtual 98, 3) := by decide +kernel
theorem dX5_gather_40 : decode cX5_gather 40 = .ok (.iload_n 1, 1) := by decide +kernel
theorem dX5_gather_41 : decode cX5_gather 41 = .ok (.iload_n 3, 1) := by decide +kernel
theorem dX5_gather_42 : decode cX5_gather 42 = .ok (.iadd, 1) := by decide +kernel
theorem dX5_gather_43 : decode cX5_gather 43 = .ok (.istore_n 1, 1) := by decide +kernel
theorem dX5_gather_44 : decode cX5_gather 44 = .ok (.iinc 2 1, 3) := by decide +kernel
theorem dX5_gather_47 : decode cX5_gather 47 = .ok (.goto (-38), 3) := by decide +kernel
theorem dX5_gather_50 : decode cX5_gather 50 = .ok (.iload_n 1, 1) := by decide +kernel
theorem dX5_gather_51 : decode cX5_gather 51 = .ok (.ireturn, 1) := by decide +kernel
set_option maxRecDepth 20000 in
theorem ggX5_chase_X5_isIn : GoodIn wsX5_chase wsX5_isIn := goodIn_r _ [7] (by decide +kernel) (by decide +kernel)
set_option maxRecDepth 20000 in
theorem gX5_chase_X5_isIn : GoodIn wsX5_chase (va_wsS RX5 59 yX5_isIn wsX5_isIn) := goodIn_app (goodIn_of _ (by decide +kernel)) ggX5_chase_X5_isIn
set_option maxRecDepth 20000 in
theorem ggX5_chase_X5_fail : GoodIn wsX5_chase wsX5_fail := goodIn_r _ [11, 1, 12, 13, 14, 15, 16, 17, 18, 19, 20, 21, 22, 23, 24, 25, 26, 27, 28, 29, 30] (by decide +kernel) (by decide +kernel)
set_option maxRecDepth 20000 in
theorem gX5_chase_X5_fail : GoodIn wsX5_chase (wsV RX5 92 RX5 yX5_fail wsX5_fail) := goodIn_app (goodIn_of _ (by decide +kernel)) ggX5_chase_X5_fail
theorem dX5_chase_0 : decode cX5_chase 0 = .ok (.aload_n 0, 1) := by decide +kernel
theorem dX5_chase_1 : decode cX5_chase 1 = .ok (.iconst 0, 1) := by decide +kernel
theorem dX5_chase_2 : decode cX5_chase 2 = .ok (.putfield 53, 3) := by decide +kernel
theorem dX5_chase_5 : decode cX5_chase 5 = .ok (.iload_n 1, 1) := by decide +kernel
theorem dX5_chase_6 : decode cX5_chase 6 = .ok (.iconst 0, 1) := by decide +kernel
theorem dX5_chase_7 : decode cX5_chase 7 = .ok (.aload_n 0, 1) := by decide +kernel
theorem dX5_chase_8 : decode cX5_chase 8 = .ok (.getfield 95, 3) := by decide +kernel
theorem dX5_chase_11 : decode cX5_chase 11 = .ok (.iconst 1, 1) := by decide +kernel
theorem dX5_chase_12 : decode cX5_chase 12 = .ok (.isub, 1) := by decide +kernel
theorem dX5_chase_13 : decode cX5_chase 13 = .ok (.invokestatic 59, 3) := by decide +kernel
theorem dX5_chase_16 : decode cX5_chase 16 = .ok (.ifCond .ne 9, 3) := by decide +kernel
theorem dX5_chase_19 : decode cX5_chase 19 = .ok (.aload_n 0, 1) := by decide +kernel
theorem dX5_chase_20 : decode cX5_chase 20 = .ok (.iconst 1, 1) := by decide +kernel
theorem dX5_chase_21 : decode cX5_chase 21 = .ok (.invokevirtual 92, 3) := by decide +kernel
theorem dX5_chase_24 : decode cX5_chase 24 = .ok (.ireturn, 1) := by decide +kernel
theorem dX5_chase_25 : decode cX5_chase 25 = .ok (.aload_n 0, 1) := by decide +kernel
theorem dX5_chase_26 : decode cX5_chase 26 = .ok (.getfield 32, 3) := by decide +kernel
theorem dX5_chase_29 : decode cX5_chase 29 = .ok (.iload_n 1, 1) := by decide +kernel
theorem dX5_chase_30 : decode cX5_chase 30 = .ok (.iaload, 1) := by decide +kernel
theorem dX5_chase_31 : decode cX5_chase 31 = .ok (.istore_n 2, 1) := by decide +kernel
theorem dX5_chase_32 : decode cX5_chase 32 = .ok (.aload_n 0, 1) := by decide +kernel
theorem dX5_chase_33 : decode cX5_chase 33 = .ok (.getfield 32, 3) := by decide +kernel
theorem dX5_chase_36 : decode cX5_chase 36 = .ok (.iload_n 1, 1) := by decide +kernel
theorem dX5_chase_37 : decode cX5_chase 37 = .ok (.iconst (-1), 1) := by decide +kernel
theorem dX5_chase_38 : decode cX5_chase 38 = .ok (.iastore, 1) := by decide +kernel
theorem dX5_chase_39 : decode cX5_chase 39 = .ok (.iload_n 2, 1) := by decide +kernel
theorem dX5_chase_40 : decode cX5_chase 40 = .ok (.ireturn, 1) := by decide +kernel
set_option maxRecDepth 20000 in
theorem ggX5_pileTold_X5_roomOf : GoodIn wsX5_pileTold wsX5_roomOf := goodIn_r _ [11] (by decide +kernel) (by decide +kernel)
set_option maxRecDepth 20000 in
theorem gX5_pileTold_X5_roomOf : GoodIn wsX5_pileTold (va_wsS RX5 69 yX5_roomOf wsX5_roomOf) := goodIn_app (goodIn_of _ (by decide +kernel)) ggX5_pileTold_X5_roomOf
set_option maxRecDepth 20000 in
theorem ggX5_pileTold_X5_layers : GoodIn wsX5_pileTold wsX5_layers := goodIn_r _ [15, 16, 17, 18, 10, 19, 2, 8, 9, 11, 53, 54, 55, 56, 57, 58, 59, 60, 61, 62, 63, 64, 65, 66, 67, 68, 69, 70, 71] (by decide +kernel) (by decide +kernel)
set_option maxRecDepth 20000 in
theorem gX5_pileTold_X5_layers : GoodIn wsX5_pileTold (wsV RX5 129 RX5 yX5_layers wsX5_layers) := goodIn_app (goodIn_of _ (by decide +kernel)) ggX5_pileTold_X5_layers
set_option maxRecDepth 20000 in
theorem ggX5_pileTold_X5_full : GoodIn wsX5_pileTold wsX5_full := goodIn_r _ [23, 2, 3, 16, 17, 18, 10, 19, 8, 9, 11, 53, 54, 55, 56, 57, 58, 59, 60, 61, 62, 63, 64, 65, 66, 67, 68, 69, 70, 71] (by decide +kernel) (by decide +kernel)
set_option maxRecDepth 20000 in
theorem gX5_pileTold_X5_full : GoodIn wsX5_pileTold (wsV RX5 132 RX5 yX5_full wsX5_full) := goodIn_app (goodIn_of _ (by decide +kernel)) ggX5_pileTold_X5_full
set_option maxRecDepth 20000 in
theorem ggX5_pileTold_X5_on : GoodIn wsX5_pileTold wsX5_on := goodIn_r _ [27, 28, 29, 30, 10, 31, 2, 32, 33, 34, 35, 16, 17, 18, 19, 8, 9, 11, 36, 37, 38, 39, 3, 40, 41, 42, 53, 54, 55, 56, 57, 58, 59, 60, 61, 62, 63, 64, 65, 66, 67, 68, 69, 70, 71] (by decide +kernel) (by decide +kernel)
set_option maxRecDepth 20000 in
theorem gX5_pileTold_X5_on : GoodIn wsX5_pileTold (wsV RX5 121 RX5 yX5_on wsX5_on) := goodIn_app (goodIn_of _ (by decide +kernel)) ggX5_pileTold_X5_on
set_option maxRecDepth 20000 in
theorem ggX5_pileTold_X5_rusty : GoodIn wsX5_pileTold wsX5_rusty := goodIn_r _ [46, 3, 47, 48, 49, 50, 10, 51, 52, 53, 54, 55, 56, 57, 58, 59, 60, 61, 62, 63, 64, 65, 66, 67, 68, 69, 70, 71] (by decide +kernel) (by decide +kernel)
set_option maxRecDepth 20000 in
theorem gX5_pileTold_X5_rusty : GoodIn wsX5_pileTold (wsV RX5 134 RX5 yX5_rusty wsX5_rusty) := goodIn_app (goodIn_of _ (by decide +kernel)) ggX5_pileTold_X5_rusty
set_option maxRecDepth 20000 in
theorem ggX5_pileTold_X5_rustOf : GoodIn wsX5_pileTold wsX5_rustOf := goodIn_r _ [51, 52, 53, 54, 55, 56, 57, 58, 59, 60, 61, 62, 63, 64, 65, 66, 67, 68, 69, 70, 71] (by decide +kernel) (by decide +kernel)
set_option maxRecDepth 20000 in
theorem gX5_pileTold_X5_rustOf : GoodIn wsX5_pileTold (wsV RX5 118 RX5 yX5_rustOf wsX5_rustOf) := goodIn_app (goodIn_of _ (by decide +kernel)) ggX5_pileTold_X5_rustOf
theorem dX5_pileTold_0 : decode cX5_pileTold 0 = .ok (.iconst 0, 1) := by decide +kernel
theorem dX5_pileTold_1 : decode cX5_pileTold 1 = .ok (.istore_n 3, 1) := by decide +kernel
theorem dX5_pileTold_2 : decode cX5_pileTold 2 = .ok (.iload_n 2, 1) := by decide +kernel
theorem dX5_pileTold_3 : decode cX5_pileTold 3 = .ok (.tableswitch 178 0 8 #[49, 56, 63, 70, 80, 92, 98, 138, 144], 49) := by decide +kernel
theorem dX5_pileTold_52 : decode cX5_pileTold 52 = .ok (.aload_n 0, 1) := by decide +kernel
theorem dX5_pileTold_53 : decode cX5_pileTold 53 = .ok (.getfield 13, 3) := by decide +kernel
theorem dX5_pileTold_56 : decode cX5_pileTold 56 = .ok (.iload_n 1, 1) := by decide +kernel
theorem dX5_pileTold_57 : decode cX5_pileTold 57 = .ok (.iaload, 1) := by decide +kernel
theorem dX5_pileTold_58 : decode cX5_pileTold 58 = .ok (.ireturn, 1) := by decide +kernel
theorem dX5_pileTold_59 : decode cX5_pileTold 59 = .ok (.aload_n 0, 1) := by decide +kernel
theorem dX5_pileTold_60 : decode cX5_pileTold 60 = .ok (.getfield 17, 3) := by decide +kernel
theorem dX5_pileTold_63 : decode cX5_pileTold 63 = .ok (.iload_n 1, 1) := by decide +kernel
theorem dX5_pileTold_64 : decode cX5_pileTold 64 = .ok (.iaload, 1) := by decide +kernel
theorem dX5_pileTold_65 : decode cX5_pileTold 65 = .ok (.ireturn, 1) := by decide +kernel
theorem dX5_pileTold_66 : decode cX5_pileTold 66 = .ok (.aload_n 0, 1) := by decide +kernel
theorem dX5_pileTold_67 : decode cX5_pileTold 67 = .ok (.getfield 23, 3) := by decide +kernel
theorem dX5_pileTold_70 : decode cX5_pileTold 70 = .ok (.iload_n 1, 1) := by decide +kernel
theorem dX5_pileTold_71 : decode cX5_pileTold 71 = .ok (.iaload, 1) := by decide +kernel
theorem dX5_pileTold_72 : decode cX5_pileTold 72 = .ok (.ireturn, 1) := by decide +kernel
theorem dX5_pileTold_73 : decode cX5_pileTold 73 = .ok (.aload_n 0, 1) := by decide +kernel
theorem dX5_pileTold_74 : decode cX5_pileTold 74 = .ok (.getfield 17, 3) := by decide +kernel
theorem dX5_pileTold_77 : decode cX5_pileTold 77 = .ok (.iload_n 1, 1) := by decide +kernel
theorem dX5_pileTold_78 : decode cX5_pileTold 78 = .ok (.iaload, 1) := by decide +kernel
theorem dX5_pileTold_79 : decode cX5_pileTold 79 = .ok (.invokestatic 69, 3) := by decide +kernel
theorem dX5_pileTold_82 : decode cX5_pileTold 82 = .ok (.ireturn, 1) := by decide +kernel
theorem dX5_pileTold_83 : decode cX5_pileTold 83 = .ok (.aload_n 0, 1) := by decide +kernel
theorem dX5_pileTold_84 : decode cX5_pileTold 84 = .ok (.iload_n 1, 1) := by decide +kernel
theorem dX5_pileTold_85 : decode cX5_pileTold 85 = .ok (.aload_n 0, 1) := by decide +kernel
theorem dX5_pileTold_86 : decode cX5_pileTold 86 = .ok (.getfield 23, 3) := by decide +kernel
theorem dX5_pileTold_89 : decode cX5_pileTold 89 = .ok (.iload_n 1, 1) := by decide +kernel
theorem dX5_pileTold_90 : decode cX5_pileTold 90 = .ok (.iaload, 1) := by decide +kernel
theorem dX5_pileTold_91 : decode cX5_pileTold 91 = .ok (.invokevirtual 129, 3) := by decide +kernel
theorem dX5_pileTold_94 : decode cX5_pileTold 94 = .ok (.ireturn, 1) := by decide +kernel
theorem dX5_pileTold_95 : decode cX5_pileTold 95 = .ok (.aload_n 0, 1) := by decide +kernel
theorem dX5_pileTold_96 : decode cX5_pileTold 96 = .ok (.iload_n 1, 1) := by decide +kernel
theorem dX5_pileTold_97 : decode cX5_pileTold 97 = .ok (.invokevirtual 132, 3) := by decide +kernel
theorem dX5_pileTold_100 : decode cX5_pileTold 100 = .ok (.ireturn, 1) := by decide +kernel
theorem dX5_pileTold_101 : decode cX5_pileTold 101 = .ok (.iconst 0, 1) := by decide +kernel
theorem dX5_pileTold_102 : decode cX5_pileTold 102 = .ok (.istore 4, 2) := by decide +kernel
theorem dX5_pileTold_104 : decode cX5_pileTold 104 = .ok (.iload 4, 2) := by decide +kernel
theorem dX5_pileTold_106 : decode cX5_pileTold 106 = .ok (.aload_n 0, 1) := by decide +kernel
theorem dX5_pileTold_107 : decode cX5_pileTold 107 = .ok (.getfield 23, 3) := by decide +kernel
theorem dX5_pileTold_110 : decode cX5_pileTold 110 = .ok (.iload_n 1, 1) := by decide +kernel
theorem dX5_pileTold_111 : decode cX5_pileTold 111 = .ok (.iaload, 1) := by decide +kernel
theorem dX5_pileTold_112 : decode cX5_pileTold 112 = .ok (.if_icmp .ge 27, 3) := by decide +kernel
theorem dX5_pileTold_115 : decode cX5_pileTold 115 = .ok (.iload_n 3, 1) := by decide +kernel
theorem dX5_pileTold_116 : decode cX5_pileTold 116 = .ok (.aload_n 0, 1) := by decide +kernel
theorem dX5_pileTold_117 : decode cX5_pileTold 117 = .ok (.iload_n 1, 1) := by decide +kernel
theorem dX5_pileTold_118 : decode cX5_pileTold 118 = .ok (.iload 4, 2) := by decide +kernel
theorem dX5_pileTold_120 : decode cX5_pileTold 120 = .ok (.invokevirtual 121, 3) := by decide +kernel
theorem dX5_pileTold_123 : decode cX5_pileTold 123 = .ok (.ifCond .ne 7, 3) := by decide +kernel
theorem dX5_pileTold_126 : decode cX5_pileTold 126 = .ok (.iconst 1, 1) := by decide +kernel
theorem dX5_pileTold_127 : decode cX5_pileTold 127 = .ok (.goto 4, 3) := by decide +kernel
theorem dX5_pileTold_130 : decode cX5_pileTold 130 = .ok (.iconst 0, 1) := by decide +kernel
theorem dX5_pileTold_131 : decode cX5_pileTold 131 = .ok (.iadd, 1) := by decide +kernel
theorem dX5_pileTold_132 : decode cX5_pileTold 132 = .ok (.istore_n 3, 1) := by decide +kernel
theorem dX5_pileTold_133 : decode cX5_pileTold 133 = .ok (.iinc 4 1, 3) := by decide +kernel
theorem dX5_pileTold_136 : decode cX5_pileTold 136 = .ok (.goto (-32), 3) := by decide +kernel
theorem dX5_pileTold_139 : decode cX5_pileTold 139 = .ok (.iload_n 3, 1) := by decide +kernel
theorem dX5_pileTold_140 : decode cX5_pileTold 140 = .ok (.ireturn, 1) := by decide +kernel
theorem dX5_pileTold_141 : decode cX5_pileTold 141 = .ok (.aload_n 0, 1) := by decide +kernel
theorem dX5_pileTold_142 : decode cX5_pileTold 142 = .ok (.iload_n 1, 1) := by decide +kernel
theorem dX5_pileTold_143 : decode cX5_pileTold 143 = .ok (.invokevirtual 134, 3) := by decide +kernel
theorem dX5_pileTold_146 : decode cX5_pileTold 146 = .ok (.ireturn, 1) := by decide +kernel
theorem dX5_pileTold_147 : decode cX5_pileTold 147 = .ok (.iconst 0, 1) := by decide +kernel
theorem dX5_pileTold_148 : decode cX5_pileTold 148 = .ok (.istore 4, 2) := by decide +kernel
theorem dX5_pileTold_150 : decode cX5_pileTold 150 = .ok (.iload 4, 2) := by decide +kernel
theorem dX5_pileTold_152 : decode cX5_pileTold 152 = .ok (.aload_n 0, 1) := by decide +kernel
theorem dX5_pileTold_153 : decode cX5_pileTold 153 = .ok (.getfield 23, 3) := by decide +kernel
theorem dX5_pileTold_156 : decode cX5_pileTold 156 = .ok (.iload_n 1, 1) := by decide +kernel
theorem dX5_pileTold_157 : decode cX5_pileTold 157 = .ok (.iaload, 1) := by decide +kernel
theorem dX5_pileTold_158 : decode cX5_pileTold 158 = .ok (.if_icmp .ge 21, 3) := by decide +kernel
theorem dX5_pileTold_161 : decode cX5_pileTold 161 = .ok (.iload_n 3, 1) := by decide +kernel
theorem dX5_pileTold_162 : decode cX5_pileTold 162 = .ok (.aload_n 0, 1) := by decide +kernel
theorem dX5_pileTold_163 : decode cX5_pileTold 163 = .ok (.iload_n 1, 1) := by decide +kernel
theorem dX5_pileTold_164 : decode cX5_pileTold 164 = .ok (.iload 4, 2) := by decide +kernel
theorem dX5_pileTold_166 : decode cX5_pileTold 166 = .ok (.invokevirtual 118, 3) := by decide +kernel
theorem dX5_pileTold_169 : decode cX5_pileTold 169 = .ok (.invokestatic 137, 3) := by decide +kernel
theorem dX5_pileTold_172 : decode cX5_pileTold 172 = .ok (.istore_n 3, 1) := by decide +kernel
theorem dX5_pileTold_173 : decode cX5_pileTold 173 = .ok (.iinc 4 1, 3) := by decide +kernel
theorem dX5_pileTold_176 : decode cX5_pileTold 176 = .ok (.goto (-26), 3) := by decide +kernel
theorem dX5_pileTold_179 : decode cX5_pileTold 179 = .ok (.iload_n 3, 1) := by decide +kernel
theorem dX5_pileTold_180 : decode cX5_pileTold 180 = .ok (.ireturn, 1) := by decide +kernel
theorem dX5_pileTold_181 : decode cX5_pileTold 181 = .ok (.iconst 0, 1) := by decide +kernel
theorem dX5_pileTold_182 : decode cX5_pileTold 182 = .ok (.istore 4, 2) := by decide +kernel
theorem dX5_pileTold_184 : decode cX5_pileTold 184 = .ok (.iload 4, 2) := by decide +kernel
theorem dX5_pileTold_186 : decode cX5_pileTold 186 = .ok (.aload_n 0, 1) := by decide +kernel
theorem dX5_pileTold_187 : decode cX5_pileTold 187 = .ok (.getfield 23, 3) := by decide +kernel
theorem dX5_pileTold_190 : decode cX5_pileTold 190 = .ok (.iload_n 1, 1) := by decide +kernel
theorem dX5_pileTold_191 : decode cX5_pileTold 191 = .ok (.iaload, 1) := by decide +kernel
theorem dX5_pileTold_192 : decode cX5_pileTold 192 = .ok (.if_icmp .ge 19, 3) := by decide +kernel
theorem dX5_pileTold_195 : decode cX5_pileTold 195 = .ok (.iload_n 3, 1) := by decide +kernel
theorem dX5_pileTold_196 : decode cX5_pileTold 196 = .ok (.aload_n 0, 1) := by decide +kernel
theorem dX5_pileTold_197 : decode cX5_pileTold 197 = .ok (.iload_n 1, 1) := by decide +kernel
theorem dX5_pileTold_198 : decode cX5_pileTold 198 = .ok (.iload 4, 2) := by decide +kernel
theorem dX5_pileTold_200 : decode cX5_pileTold 200 = .ok (.invokevirtual 118, 3) := by decide +kernel
theorem dX5_pileTold_203 : decode cX5_pileTold 203 = .ok (.iadd, 1) := by decide +kernel
theorem dX5_pileTold_204 : decode cX5_pileTold 204 = .ok (.istore_n 3, 1) := by decide +kernel
theorem dX5_pileTold_205 : decode cX5_pileTold 205 = .ok (.iinc 4 1, 3) := by decide +kernel
theorem dX5_pileTold_208 : decode cX5_pileTold 208 = .ok (.goto (-24), 3) := by decide +kernel
theorem dX5_pileTold_211 : decode cX5_pileTold 211 = .ok (.iload_n 3, 1) := by decide +kernel
theorem dX5_pileTold_212 : decode cX5_pileTold 212 = .ok (.ireturn, 1) := by decide +kernel
set_option maxRecDepth 20000 in
theorem ggX5_about_X5_isPile : GoodIn wsX5_about wsX5_isPile := goodIn_r _ [6, 7, 8, 9, 5, 10, 67, 68, 69, 70, 71, 72, 73, 74, 75, 76, 77, 78, 79, 80, 81, 82, 83, 84, 85] (by decide +kernel) (by decide +kernel)
set_option maxRecDepth 20000 in
theorem gX5_about_X5_isPile : GoodIn wsX5_about (wsV RX5 105 RX5 yX5_isPile wsX5_isPile) := goodIn_app (goodIn_of _ (by decide +kernel)) ggX5_about_X5_isPile
set_option maxRecDepth 20000 in
theorem ggX5_about_X5_isIn : GoodIn wsX5_about wsX5_isIn := goodIn_r _ [10] (by decide +kernel) (by decide +kernel)
set_option maxRecDepth 20000 in
theorem gX5_about_X5_isIn : GoodIn wsX5_about (va_wsS RX5 59 yX5_isIn wsX5_isIn) := goodIn_app (goodIn_of _ (by decide +kernel)) ggX5_about_X5_isIn
set_option maxRecDepth 20000 in
theorem ggX5_about_X5_pileTold : GoodIn wsX5_about wsX5_pileTold := goodIn_r _ [14, 15, 16, 17, 18, 19, 20, 21, 22, 23, 5, 24, 25, 26, 27, 28, 29, 30, 31, 32, 33, 34, 35, 36, 37, 38, 39, 40, 41, 42, 43, 44, 45, 46, 47, 48, 49, 50, 51, 52, 8, 9, 10, 53, 54, 55, 56, 57, 58, 59, 60, 61, 62, 67, 68, 69, 70, 71, 72, 73, 74, 75, 76, 77, 78, 79, 80, 81, 82, 83, 84, 85] (by decide +kernel) (by decide +kernel)
set_option maxRecDepth 20000 in
theorem gX5_about_X5_pileTold : GoodIn wsX5_about (wsV RX5 140 RX5 yX5_pileTold wsX5_pileTold) := goodIn_app (goodIn_of _ (by decide +kernel)) ggX5_about_X5_pileTold
set_option maxRecDepth 20000 in
theorem ggX5_about_X5_fail : GoodIn wsX5_about wsX5_fail := goodIn_r _ [66, 1, 67, 68, 69, 70, 71, 72, 73, 74, 75, 76, 77, 78, 79, 80, 81, 82, 83, 84, 85] (by decide +kernel) (by decide +kernel)
set_option maxRecDepth 20000 in
theorem gX5_about_X5_fail : GoodIn wsX5_about (wsV RX5 92 RX5 yX5_fail wsX5_fail) := goodIn_app (goodIn_of _ (by decide +kernel)) ggX5_about_X5_fail
theorem dX5_about_0 : decode cX5_about 0 = .ok (.aload_n 0, 1) := by decide +kernel
theorem dX5_about_1 : decode cX5_about 1 = .ok (.iconst 0, 1) := by decide +kernel
theorem dX5_about_2 : decode cX5_about 2 = .ok (.putfield 53, 3) := by decide +kernel
theorem dX5_about_5 : decode cX5_about 5 = .ok (.aload_n 0, 1) := by decide +kernel
theorem dX5_about_6 : decode cX5_about 6 = .ok (.iload_n 1, 1) := by decide +kernel
theorem dX5_about_7 : decode cX5_about 7 = .ok (.invokevirtual 105, 3) := by decide +kernel
theorem dX5_about_10 : decode cX5_about 10 = .ok (.ifCond .eq 22, 3) := by decide +kernel
theorem dX5_about_13 : decode cX5_about 13 = .ok (.iload_n 2, 1) := by decide +kernel
theorem dX5_about_14 : decode cX5_about 14 = .ok (.iconst 0, 1) := by decide +kernel
theorem dX5_about_15 : decode cX5_about 15 = .ok (.bipush 9, 2) := by decide +kernel
theorem dX5_about_17 : decode cX5_about 17 = .ok (.invokestatic 59, 3) := by decide +kernel
theorem dX5_about_20 : decode cX5_about 20 = .ok (.ifCond .eq 12, 3) := by decide +kernel
theorem dX5_about_23 : decode cX5_about 23 = .ok (.aload_n 0, 1) := by decide +kernel
theorem dX5_about_24 : decode cX5_about 24 = .ok (.iload_n 1, 1) := by decide +kernel
theorem dX5_about_25 : decode cX5_about 25 = .ok (.iload_n 2, 1) := by decide +kernel
theorem dX5_about_26 : decode cX5_about 26 = .ok (.invokevirtual 140, 3) := by decide +kernel
theorem dX5_about_29 : decode cX5_about 29 = .ok (.goto 8, 3) := by decide +kernel
theorem dX5_about_32 : decode cX5_about 32 = .ok (.aload_n 0, 1) := by decide +kernel
theorem dX5_about_33 : decode cX5_about 33 = .ok (.iconst 1, 1) := by decide +kernel
theorem dX5_about_34 : decode cX5_about 34 = .ok (.invokevirtual 92, 3) := by decide +kernel
theorem dX5_about_37 : decode cX5_about 37 = .ok (.ireturn, 1) := by decide +kernel
set_option maxRecDepth 20000 in
theorem ggX5_ball_X5_isPile : GoodIn wsX5_ball wsX5_isPile := goodIn_r _ [11, 12, 13, 14, 10, 15, 49, 50, 51, 52, 53, 54, 55, 56, 57, 58, 59, 60, 61, 62, 63, 64, 65, 66, 67] (by decide +kernel) (by decide +kernel)
set_option maxRecDepth 20000 in
theorem gX5_ball_X5_isPile : GoodIn wsX5_ball (wsV RX5 105 RX5 yX5_isPile wsX5_isPile) := goodIn_app (goodIn_of _ (by decide +kernel)) ggX5_ball_X5_isPile
set_option maxRecDepth 20000 in
theorem ggX5_ball_X5_isIn : GoodIn wsX5_ball wsX5_isIn := goodIn_r _ [15] (by decide +kernel) (by decide +kernel)
set_option maxRecDepth 20000 in
theorem gX5_ball_X5_isIn : GoodIn wsX5_ball (va_wsS RX5 59 yX5_isIn wsX5_isIn) := goodIn_app (goodIn_of _ (by decide +kernel)) ggX5_ball_X5_isIn
set_option maxRecDepth 20000 in
theorem ggX5_ball_X5_fail : GoodIn wsX5_ball wsX5_fail := goodIn_r _ [19, 1, 49, 50, 51, 52, 53, 54, 55, 56, 57, 58, 59, 60, 61, 62, 63, 64, 65, 66, 67] (by decide +kernel) (by decide +kernel)
set_option maxRecDepth 20000 in
theorem gX5_ball_X5_fail : GoodIn wsX5_ball (wsV RX5 92 RX5 yX5_fail wsX5_fail) := goodIn_app (goodIn_of _ (by decide +kernel)) ggX5_ball_X5_fail
set_option maxRecDepth 20000 in
theorem ggX5_ball_X5_rustOf : GoodIn wsX5_ball wsX5_rustOf := goodIn_r _ [23, 24, 49, 50, 51, 52, 53, 54, 55, 56, 57, 58, 59, 60, 61, 62, 63, 64, 65, 66, 67] (by decide +kernel) (by decide +kernel)
set_option maxRecDepth 20000 in
theorem gX5_ball_X5_rustOf : GoodIn wsX5_ball (wsV RX5 118 RX5 yX5_rustOf wsX5_rustOf) := goodIn_app (goodIn_of _ (by decide +kernel)) ggX5_ball_X5_rustOf
set_option maxRecDepth 20000 in
theorem ggX5_ball_X5_lies : GoodIn wsX5_ball wsX5_lies := goodIn_r _ [28, 29, 30, 31, 32, 10, 33, 34, 35, 36, 37, 38, 39, 40, 49, 50, 51, 52, 53, 54, 55, 56, 57, 58, 59, 60, 61, 62, 63, 64, 65, 66, 67] (by decide +kernel) (by decide +kernel)
set_option maxRecDepth 20000 in
theorem gX5_ball_X5_lies : GoodIn wsX5_ball (wsV RX5 80 RX5 yX5_lies wsX5_lies) := goodIn_app (goodIn_of _ (by decide +kernel)) ggX5_ball_X5_lies
set_option maxRecDepth 20000 in
theorem ggX5_ball_X5_on : GoodIn wsX5_ball wsX5_on := goodIn_r _ [44, 25, 26, 27, 10, 28, 29, 30, 31, 32, 33, 34, 35, 36, 37, 38, 39, 40, 45, 46, 47, 48, 2, 13, 14, 15, 49, 50, 51, 52, 53, 54, 55, 56, 57, 58, 59, 60, 61, 62, 63, 64, 65, 66, 67] (by decide +kernel) (by decide +kernel)
set_option maxRecDepth 20000 in
theorem gX5_ball_X5_on : GoodIn wsX5_ball (wsV RX5 121 RX5 yX5_on wsX5_on) := goodIn_app (goodIn_of _ (by decide +kernel)) ggX5_ball_X5_on
theorem dX5_ball_0 : decode cX5_ball 0 = .ok (.aload_n 0, 1) := by decide +kernel
theorem dX5_ball_1 : decode cX5_ball 1 = .ok (.iconst 0, 1) := by decide +kernel
theorem dX5_ball_2 : decode cX5_ball 2 = .ok (.putfield 53, 3) := by decide +kernel
theorem dX5_ball_5 : decode cX5_ball 5 = .ok (.aload_n 0, 1) := by decide +kernel
theorem dX5_ball_6 : decode cX5_ball 6 = .ok (.iload_n 1, 1) := by decide +kernel
theorem dX5_ball_7 : decode cX5_ball 7 = .ok (.invokevirtual 105, 3) := by decide +kernel
theorem dX5_ball_10 : decode cX5_ball 10 = .ok (.ifCond .eq 28, 3) := by decide +kernel
theorem dX5_ball_13 : decode cX5_ball 13 = .ok (.iload_n 2, 1) := by decide +kernel
theorem dX5_ball_14 : decode cX5_ball 14 = .ok (.iconst 0, 1) := by decide +kernel
theorem dX5_ball_15 : decode cX5_ball 15 = .ok (.aload_n 0, 1) := by decide +kernel
theorem dX5_ball_16 : decode cX5_ball 16 = .ok (.getfield 23, 3) := by decide +kernel
theorem dX5_ball_19 : decode cX5_ball 19 = .ok (.iload_n 1, 1) := by decide +kernel
theorem dX5_ball_20 : decode cX5_ball 20 = .ok (.iaload, 1) := by decide +kernel
theorem dX5_ball_21 : decode cX5_ball 21 = .ok (.iconst 1, 1) := by decide +kernel
theorem dX5_ball_22 : decode cX5_ball 22 = .ok (.isub, 1) := by decide +kernel
theorem dX5_ball_23 : decode cX5_ball 23 = .ok (.invokestatic 59, 3) := by decide +kernel
theorem dX5_ball_26 : decode cX5_ball 26 = .ok (.ifCond .eq 12, 3) := by decide +kernel
theorem dX5_ball_29 : decode cX5_ball 29 = .ok (.iload_n 3, 1) := by decide +kernel
theorem dX5_ball_30 : decode cX5_ball 30 = .ok (.iconst 0, 1) := by decide +kernel
theorem dX5_ball_31 : decode cX5_ball 31 = .ok (.iconst 5, 1) := by decide +kernel
theorem dX5_ball_32 : decode cX5_ball 32 = .ok (.invokestatic 59, 3) := by decide +kernel
theorem dX5_ball_35 : decode cX5_ball 35 = .ok (.ifCond .ne 9, 3) := by decide +kernel
theorem dX5_ball_38 : decode cX5_ball 38 = .ok (.aload_n 0, 1) := by decide +kernel
theorem dX5_ball_39 : decode cX5_ball 39 = .ok (.iconst 1, 1) := by decide +kernel
theorem dX5_ball_40 : decode cX5_ball 40 = .ok (.invokevirtual 92, 3) := by decide +kernel
theorem dX5_ball_43 : decode cX5_ball 43 = .ok (.ireturn, 1) := by decide +kernel
theorem dX5_ball_44 : decode cX5_ball 44 = .ok (.iload_n 3, 1) := by decide +kernel
theorem dX5_ball_45 : decode cX5_ball 45 = .ok (.ifCond .ne 12, 3) := by decide +kernel
theorem dX5_ball_48 : decode cX5_ball 48 = .ok (.aload_n 0, 1) := by decide +kernel
theorem dX5_ball_49 : decode cX5_ball 49 = .ok (.iload_n 1, 1) := by decide +kernel
theorem dX5_ball_50 : decode cX5_ball 50 = .ok (.iload_n 2, 1) := by decide +kernel
theorem dX5_ball_51 : decode cX5_ball 51 = .ok (.invokevirtual 118, 3) := by decide +kernel
theorem dX5_ball_54 : decode cX5_ball 54 = .ok (.goto 44, 3) := by decide +kernel
theorem dX5_ball_57 : decode cX5_ball 57 = .ok (.iload_n 3, 1) := by decide +kernel
theorem dX5_ball_58 : decode cX5_ball 58 = .ok (.iconst 4, 1) := by decide +kernel
theorem dX5_ball_59 : decode cX5_ball 59 = .ok (.if_icmp .ge 15, 3) := by decide +kernel
theorem dX5_ball_62 : decode cX5_ball 62 = .ok (.aload_n 0, 1) := by decide +kernel
theorem dX5_ball_63 : decode cX5_ball 63 = .ok (.iload_n 1, 1) := by decide +kernel
theorem dX5_ball_64 : decode cX5_ball 64 = .ok (.iload_n 2, 1) := by decide +kernel
theorem dX5_ball_65 : decode cX5_ball 65 = .ok (.iload_n 3, 1) := by decide +kernel
theorem dX5_ball_66 : decode cX5_ball 66 = .ok (.iconst 1, 1) := by decide +kernel
theorem dX5_ball_67 : decode cX5_ball 67 = .ok (.isub, 1) := by decide +kernel
theorem dX5_ball_68 : decode cX5_ball 68 = .ok (.invokevirtual 80, 3) := by decide +kernel
theorem dX5_ball_71 : decode cX5_ball 71 = .ok (.goto 27, 3) := by decide +kernel
theorem dX5_ball_74 : decode cX5_ball 74 = .ok (.iload_n 3, 1) := by decide +kernel
theorem dX5_ball_75 : decode cX5_ball 75 = .ok (.iconst 4, 1) := by decide +kernel
theorem dX5_ball_76 : decode cX5_ball 76 = .ok (.if_icmp .ne 16, 3) := by decide +kernel
theorem dX5_ball_79 : decode cX5_ball 79 = .ok (.iconst 1, 1) := by decide +kernel
theorem dX5_ball_80 : decode cX5_ball 80 = .ok (.aload_n 0, 1) := by decide +kernel
theorem dX5_ball_81 : decode cX5_ball 81 = .ok (.iload_n 1, 1) := by decide +kernel
theorem dX5_ball_82 : decode cX5_ball 82 = .ok (.iload_n 2, 1) := by decide +kernel
theorem dX5_ball_83 : decode cX5_ball 83 = .ok (.invokevirtual 121, 3) := by decide +kernel
theorem dX5_ball_86 : decode cX5_ball 86 = .ok (.invokestatic 124, 3) := by decide +kernel
theorem dX5_ball_89 : decode cX5_ball 89 = .ok (.goto 9, 3) := by decide +kernel
theorem dX5_ball_92 : decode cX5_ball 92 = .ok (.aload_n 0, 1) := by decide +kernel
theorem dX5_ball_93 : decode cX5_ball 93 = .ok (.iload_n 1, 1) := by decide +kernel
theorem dX5_ball_94 : decode cX5_ball 94 = .ok (.iload_n 2, 1) := by decide +kernel
theorem dX5_ball_95 : decode cX5_ball 95 = .ok (.invokevirtual 121, 3) := by decide +kernel
theorem dX5_ball_98 : decode cX5_ball 98 = .ok (.ireturn, 1) := by decide +kernel
set_option maxRecDepth 20000 in
theorem ggX5_at_X5_isPile : GoodIn wsX5_at wsX5_isPile := goodIn_r _ [7, 8, 9, 10, 6, 11, 28, 29, 30, 31, 32, 33, 34, 35, 36, 37, 38, 39, 40, 41, 42, 43, 44, 45, 46] (by decide +kernel) (by decide +kernel)
set_option maxRecDepth 20000 in
theorem gX5_at_X5_isPile : GoodIn wsX5_at (wsV RX5 105 RX5 yX5_isPile wsX5_isPile) := goodIn_app (goodIn_of _ (by decide +kernel)) ggX5_at_X5_isPile
set_option maxRecDepth 20000 in
theorem ggX5_at_X5_isIn : GoodIn wsX5_at wsX5_isIn := goodIn_r _ [11] (by decide +kernel) (by decide +kernel)
set_option maxRecDepth 20000 in
theorem gX5_at_X5_isIn : GoodIn wsX5_at (va_wsS RX5 59 yX5_isIn wsX5_isIn) := goodIn_app (goodIn_of _ (by decide +kernel)) ggX5_at_X5_isIn
set_option maxRecDepth 20000 in
theorem ggX5_at_X5_fail : GoodIn wsX5_at wsX5_fail := goodIn_r _ [15, 1, 28, 29, 30, 31, 32, 33, 34, 35, 36, 37, 38, 39, 40, 41, 42, 43, 44, 45, 46] (by decide +kernel) (by decide +kernel)
set_option maxRecDepth 20000 in
theorem gX5_at_X5_fail : GoodIn wsX5_at (wsV RX5 92 RX5 yX5_fail wsX5_fail) := goodIn_app (goodIn_of _ (by decide +kernel)) ggX5_at_X5_fail
set_option maxRecDepth 20000 in
theorem ggX5_at_X5_ballAt : GoodIn wsX5_at wsX5_ballAt := goodIn_r _ [19, 2, 20, 9, 10, 6, 11, 21, 22, 23, 24, 25, 26, 27, 28, 29, 30, 31, 32, 33, 34, 35, 36, 37, 38, 39, 40, 41, 42, 43, 44, 45, 46] (by decide +kernel) (by decide +kernel)
set_option maxRecDepth 20000 in
theorem gX5_at_X5_ballAt : GoodIn wsX5_at (wsV RX5 84 RX5 yX5_ballAt wsX5_ballAt) := goodIn_app (goodIn_of _ (by decide +kernel)) ggX5_at_X5_ballAt
theorem dX5_at_0 : decode cX5_at 0 = .ok (.aload_n 0, 1) := by decide +kernel
theorem dX5_at_1 : decode cX5_at 1 = .ok (.iconst 0, 1) := by decide +kernel
theorem dX5_at_2 : decode cX5_at 2 = .ok (.putfield 53, 3) := by decide +kernel
theorem dX5_at_5 : decode cX5_at 5 = .ok (.aload_n 0, 1) := by decide +kernel
theorem dX5_at_6 : decode cX5_at 6 = .ok (.iload_n 1, 1) := by decide +kernel
theorem dX5_at_7 : decode cX5_at 7 = .ok (.invokevirtual 105, 3) := by decide +kernel
theorem dX5_at_10 : decode cX5_at 10 = .ok (.ifCond .eq 19, 3) := by decide +kernel
theorem dX5_at_13 : decode cX5_at 13 = .ok (.iload_n 2, 1) := by decide +kernel
theorem dX5_at_14 : decode cX5_at 14 = .ok (.iconst 0, 1) := by decide +kernel
theorem dX5_at_15 : decode cX5_at 15 = .ok (.aload_n 0, 1) := by decide +kernel
theorem dX5_at_16 : decode cX5_at 16 = .ok (.getfield 17, 3) := by decide +kernel
theorem dX5_at_19 : decode cX5_at 19 = .ok (.iload_n 1, 1) := by decide +kernel
theorem dX5_at_20 : decode cX5_at 20 = .ok (.iaload, 1) := by decide +kernel
theorem dX5_at_21 : decode cX5_at 21 = .ok (.iconst 1, 1) := by decide +kernel
theorem dX5_at_22 : decode cX5_at 22 = .ok (.isub, 1) := by decide +kernel
theorem dX5_at_23 : decode cX5_at 23 = .ok (.invokestatic 59, 3) := by decide +kernel
theorem dX5_at_26 : decode cX5_at 26 = .ok (.ifCond .ne 9, 3) := by decide +kernel
theorem dX5_at_29 : decode cX5_at 29 = .ok (.aload_n 0, 1) := by decide +kernel
theorem dX5_at_30 : decode cX5_at 30 = .ok (.iconst 1, 1) := by decide +kernel
theorem dX5_at_31 : decode cX5_at 31 = .ok (.invokevirtual 92, 3) := by decide +kernel
theorem dX5_at_34 : decode cX5_at 34 = .ok (.ireturn, 1) := by decide +kernel
theorem dX5_at_35 : decode cX5_at 35 = .ok (.aload_n 0, 1) := by decide +kernel
theorem dX5_at_36 : decode cX5_at 36 = .ok (.getfield 17, 3) := by decide +kernel
theorem dX5_at_39 : decode cX5_at 39 = .ok (.iload_n 1, 1) := by decide +kernel
theorem dX5_at_40 : decode cX5_at 40 = .ok (.iaload, 1) := by decide +kernel
theorem dX5_at_41 : decode cX5_at 41 = .ok (.iload_n 2, 1) := by decide +kernel
theorem dX5_at_42 : decode cX5_at 42 = .ok (.isub, 1) := by decide +kernel
theorem dX5_at_43 : decode cX5_at 43 = .ok (.istore 5, 2) := by decide +kernel
theorem dX5_at_45 : decode cX5_at 45 = .ok (.iload_n 3, 1) := by decide +kernel
theorem dX5_at_46 : decode cX5_at 46 = .ok (.iconst 0, 1) := by decide +kernel
theorem dX5_at_47 : decode cX5_at 47 = .ok (.iload 5, 2) := by decide +kernel
theorem dX5_at_49 : decode cX5_at 49 = .ok (.iconst 1, 1) := by decide +kernel
theorem dX5_at_50 : decode cX5_at 50 = .ok (.isub, 1) := by decide +kernel
theorem dX5_at_51 : decode cX5_at 51 = .ok (.invokestatic 59, 3) := by decide +kernel
theorem dX5_at_54 : decode cX5_at 54 = .ok (.ifCond .eq 28, 3) := by decide +kernel
theorem dX5_at_57 : decode cX5_at 57 = .ok (.iload 4, 2) := by decide +kernel
theorem dX5_at_59 : decode cX5_at 59 = .ok (.iconst 0, 1) := by decide +kernel
theorem dX5_at_60 : decode cX5_at 60 = .ok (.iload 5, 2) := by decide +kernel
theorem dX5_at_62 : decode cX5_at 62 = .ok (.iconst 1, 1) := by decide +kernel
theorem dX5_at_63 : decode cX5_at 63 = .ok (.isub, 1) := by decide +kernel
theorem dX5_at_64 : decode cX5_at 64 = .ok (.invokestatic 59, 3) := by decide +kernel
theorem dX5_at_67 : decode cX5_at 67 = .ok (.ifCond .eq 15, 3) := by decide +kernel
theorem dX5_at_70 : decode cX5_at 70 = .ok (.aload_n 0, 1) := by decide +kernel
theorem dX5_at_71 : decode cX5_at 71 = .ok (.iload_n 1, 1) := by decide +kernel
theorem dX5_at_72 : decode cX5_at 72 = .ok (.iload_n 2, 1) := by decide +kernel
theorem dX5_at_73 : decode cX5_at 73 = .ok (.iload_n 3, 1) := by decide +kernel
theorem dX5_at_74 : decode cX5_at 74 = .ok (.iload 4, 2) := by decide +kernel
theorem dX5_at_76 : decode cX5_at 76 = .ok (.invokevirtual 84, 3) := by decide +kernel
theorem dX5_at_79 : decode cX5_at 79 = .ok (.goto 8, 3) := by decide +kernel
theorem dX5_at_82 : decode cX5_at 82 = .ok (.aload_n 0, 1) := by decide +kernel
theorem dX5_at_83 : decode cX5_at 83 = .ok (.iconst 1, 1) := by decide +kernel
theorem dX5_at_84 : decode cX5_at 84 = .ok (.invokevirtual 92, 3) := by decide +kernel
theorem dX5_at_87 : decode cX5_at 87 = .ok (.ireturn, 1) := by decide +kernel
theorem dX5_inPiles_0 : decode cX5_inPiles 0 = .ok (.iconst 0, 1) := by decide +kernel
theorem dX5_inPiles_1 : decode cX5_inPiles 1 = .ok (.istore_n 2, 1) := by decide +kernel
theorem dX5_inPiles_2 : decode cX5_inPiles 2 = .ok (.iconst 0, 1) := by decide +kernel
theorem dX5_inPiles_3 : decode cX5_inPiles 3 = .ok (.istore_n 3, 1) := by decide +kernel
theorem dX5_inPiles_4 : decode cX5_inPiles 4 = .ok (.iload_n 3, 1) := by decide +kernel
theorem dX5_inPiles_5 : decode cX5_inPiles 5 = .ok (.aload_n 0, 1) := by decide +kernel
theorem dX5_inPiles_6 : decode cX5_inPiles 6 = .ok (.getfield 56, 3) := by decide +kernel
theorem dX5_inPiles_9 : decode cX5_inPiles 9 = .ok (.if_icmp .ge 32, 3) := by decide +kernel
theorem dX5_inPiles_12 : decode cX5_inPiles 12 = .ok (.iload_n 2, 1) := by decide +kernel
theorem dX5_inPiles_13 : decode cX5_inPiles 13 = .ok (.aload_n 0, 1) := by decide +kernel
theorem dX5_inPiles_14 : decode cX5_inPiles 14 = .ok (.getfield 13, 3) := by decide +kernel
theorem dX5_inPiles_17 : decode cX5_inPiles 17 = .ok (.iload_n 3, 1) := by decide +kernel
theorem dX5_inPiles_18 : decode cX5_inPiles 18 = .ok (.iaload, 1) := by decide +kernel
theorem dX5_inPiles_19 : decode cX5_inPiles 19 = .ok (.iload_n 1, 1) := by decide +kernel
theorem dX5_inPiles_20 : decode cX5_inPiles 20 = .ok (.if_icmp .ne 12, 3) := by decide +kernel
theorem dX5_inPiles_23 : decode cX5_inPiles 23 = .ok (.aload_n 0, 1) := by decide +kernel
theorem dX5_inPiles_24 : decode cX5_inPiles 24 = .ok (.getfield 23, 3) := by decide +kernel
theorem dX5_inPiles_27 : decode cX5_inPiles 27 = .ok (.iload_n 3, 1) := by decide +kernel
theorem dX5_inPiles_28 : decode cX5_inPiles 28 = .ok (.iaload, 1) := by decide +kernel
theorem dX5_inPiles_29 : decode cX5_inPiles 29 = .ok (.goto 4, 3) := by decide +kernel
theorem dX5_inPiles_32 : decode cX5_inPiles 32 = .ok (.iconst 0, 1) := by decide +kernel
theorem dX5_inPiles_33 : decode cX5_inPiles 33 = .ok (.iadd, 1) := by decide +kernel
theorem dX5_inPiles_34 : decode cX5_inPiles 34 = .ok (.istore_n 2, 1) := by decide +kernel
theorem dX5_inPiles_35 : decode cX5_inPiles 35 = .ok (.iinc 3 1, 3) := by decide +kernel
theorem dX5_inPiles_38 : decode cX5_inPiles 38 = .ok (.goto (-34), 3) := by decide +kernel
theorem dX5_inPiles_41 : decode cX5_inPiles 41 = .ok (.iload_n 2, 1) := by decide +kernel
theorem dX5_inPiles_42 : decode cX5_inPiles 42 = .ok (.ireturn, 1) := by decide +kernel
set_option maxRecDepth 20000 in
theorem ggX5_calibreTold_X5_inPiles : GoodIn wsX5_calibreTold wsX5_inPiles := goodIn_r _ [6, 7, 8, 9, 10, 11, 12, 13, 14, 15, 16, 17, 18, 19, 20, 21, 22, 23, 24, 25, 26, 27, 28] (by decide +kernel) (by decide +kernel)
set_option maxRecDepth 20000 in
theorem gX5_calibreTold_X5_inPiles : GoodIn wsX5_calibreTold (wsV RX5 143 RX5 yX5_inPiles wsX5_inPiles) := goodIn_app (goodIn_of _ (by decide +kernel)) ggX5_calibreTold_X5_inPiles
theorem dX5_calibreTold_0 : decode cX5_calibreTold 0 = .ok (.iload_n 2, 1) := by decide +kernel
theorem dX5_calibreTold_1 : decode cX5_calibreTold 1 = .ok (.iconst 2, 1) := by decide +kernel
theorem dX5_calibreTold_2 : decode cX5_calibreTold 2 = .ok (.if_icmp .ne 11, 3) := by decide +kernel
theorem dX5_calibreTold_5 : decode cX5_calibreTold 5 = .ok (.aload_n 0, 1) := by decide +kernel
theorem dX5_calibreTold_6 : decode cX5_calibreTold 6 = .ok (.iload_n 1, 1) := by decide +kernel
theorem dX5_calibreTold_7 : decode cX5_calibreTold 7 = .ok (.invokevirtual 143, 3) := by decide +kernel
theorem dX5_calibreTold_10 : decode cX5_calibreTold 10 = .ok (.goto 24, 3) := by decide +kernel
theorem dX5_calibreTold_13 : decode cX5_calibreTold 13 = .ok (.aload_n 0, 1) := by decide +kernel
theorem dX5_calibreTold_14 : decode cX5_calibreTold 14 = .ok (.getfield 29, 3) := by decide +kernel
theorem dX5_calibreTold_17 : decode cX5_calibreTold 17 = .ok (.iconst 4, 1) := by decide +kernel
theorem dX5_calibreTold_18 : decode cX5_calibreTold 18 = .ok (.iload_n 1, 1) := by decide +kernel
theorem dX5_calibreTold_19 : decode cX5_calibreTold 19 = .ok (.imul, 1) := by decide +kernel
theorem dX5_calibreTold_20 : decode cX5_calibreTold 20 = .ok (.iload_n 2, 1) := by decide +kernel
theorem dX5_calibreTold_21 : decode cX5_calibreTold 21 = .ok (.iconst 2, 1) := by decide +kernel
theorem dX5_calibreTold_22 : decode cX5_calibreTold 22 = .ok (.if_icmp .ge 7, 3) := by decide +kernel
theorem dX5_calibreTold_25 : decode cX5_calibreTold 25 = .ok (.iload_n 2, 1) := by decide +kernel
theorem dX5_calibreTold_26 : decode cX5_calibreTold 26 = .ok (.goto 6, 3) := by decide +kernel
theorem dX5_calibreTold_29 : decode cX5_calibreTold 29 = .ok (.iload_n 2, 1) := by decide +kernel
theorem dX5_calibreTold_30 : decode cX5_calibreTold 30 = .ok (.iconst 1, 1) := by decide +kernel
theorem dX5_calibreTold_31 : decode cX5_calibreTold 31 = .ok (.isub, 1) := by decide +kernel
theorem dX5_calibreTold_32 : decode cX5_calibreTold 32 = .ok (.iadd, 1) := by decide +kernel
theorem dX5_calibreTold_33 : decode cX5_calibreTold 33 = .ok (.iaload, 1) := by decide +kernel
theorem dX5_calibreTold_34 : decode cX5_calibreTold 34 = .ok (.ireturn, 1) := by decide +kernel
set_option maxRecDepth 20000 in
theorem ggX5_told_X5_isCalibre : GoodIn wsX5_told wsX5_isCalibre := goodIn_r _ [5, 6, 7, 4, 8] (by decide +kernel) (by decide +kernel)
set_option maxRecDepth 20000 in
theorem gX5_told_X5_isCalibre : GoodIn wsX5_told (va_wsS RX5 88 yX5_isCalibre wsX5_isCalibre) := goodIn_app (goodIn_of _ (by decide +kernel)) ggX5_told_X5_isCalibre
set_option maxRecDepth 20000 in
theorem ggX5_told_X5_isIn : GoodIn wsX5_told wsX5_isIn := goodIn_r _ [8] (by decide +kernel) (by decide +kernel)
set_option maxRecDepth 20000 in
theorem gX5_told_X5_isIn : GoodIn wsX5_told (va_wsS RX5 59 yX5_isIn wsX5_isIn) := goodIn_app (goodIn_of _ (by decide +kernel)) ggX5_told_X5_isIn
set_option maxRecDepth 20000 in
theorem ggX5_told_X5_calibreTold : GoodIn wsX5_told wsX5_calibreTold := goodIn_r _ [12, 13, 14, 15, 16, 4, 17, 18, 19, 20, 25, 26, 27, 28, 29, 30, 31, 32, 33, 34, 35, 36, 37, 38, 39, 40, 41, 42, 43] (by decide +kernel) (by decide +kernel)
set_option maxRecDepth 20000 in
theorem gX5_told_X5_calibreTold : GoodIn wsX5_told (wsV RX5 146 RX5 yX5_calibreTold wsX5_calibreTold) := goodIn_app (goodIn_of _ (by decide +kernel)) ggX5_told_X5_calibreTold
set_option maxRecDepth 20000 in
theorem ggX5_told_X5_fail : GoodIn wsX5_told wsX5_fail := goodIn_r _ [24, 1, 25, 26, 27, 28, 29, 30, 31, 32, 33, 34, 35, 36, 37, 38, 39, 40, 41, 42, 43] (by decide +kernel) (by decide +kernel)
set_option maxRecDepth 20000 in
theorem gX5_told_X5_fail : GoodIn wsX5_told (wsV RX5 92 RX5 yX5_fail wsX5_fail) := goodIn_app (goodIn_of _ (by decide +kernel)) ggX5_told_X5_fail
theorem dX5_told_0 : decode cX5_told 0 = .ok (.aload_n 0, 1) := by decide +kernel
theorem dX5_told_1 : decode cX5_told 1 = .ok (.iconst 0, 1) := by decide +kernel
theorem dX5_told_2 : decode cX5_told 2 = .ok (.putfield 53, 3) := by decide +kernel
theorem dX5_told_5 : decode cX5_told 5 = .ok (.iload_n 1, 1) := by decide +kernel
theorem dX5_told_6 : decode cX5_told 6 = .ok (.invokestatic 88, 3) := by decide +kernel
theorem dX5_told_9 : decode cX5_told 9 = .ok (.ifCond .eq 21, 3) := by decide +kernel
theorem dX5_told_12 : decode cX5_told 12 = .ok (.iload_n 2, 1) := by decide +kernel
theorem dX5_told_13 : decode cX5_told 13 = .ok (.iconst 0, 1) := by decide +kernel
theorem dX5_told_14 : decode cX5_told 14 = .ok (.iconst 4, 1) := by decide +kernel
theorem dX5_told_15 : decode cX5_told 15 = .ok (.invokestatic 59, 3) := by decide +kernel
theorem dX5_told_18 : decode cX5_told 18 = .ok (.ifCond .eq 12, 3) := by decide +kernel
theorem dX5_told_21 : decode cX5_told 21 = .ok (.aload_n 0, 1) := by decide +kernel
theorem dX5_told_22 : decode cX5_told 22 = .ok (.iload_n 1, 1) := by decide +kernel
theorem dX5_told_23 : decode cX5_told 23 = .ok (.iload_n 2, 1) := by decide +kernel
theorem dX5_told_24 : decode cX5_told 24 = .ok (.invokevirtual 146, 3) := by decide +kernel
theorem dX5_told_27 : decode cX5_told 27 = .ok (.goto 8, 3) := by decide +kernel
theorem dX5_told_30 : decode cX5_told 30 = .ok (.aload_n 0, 1) := by decide +kernel
theorem dX5_told_31 : decode cX5_told 31 = .ok (.iconst 1, 1) := by decide +kernel
theorem dX5_told_32 : decode cX5_told 32 = .ok (.invokevirtual 92, 3) := by decide +kernel
theorem dX5_told_35 : decode cX5_told 35 = .ok (.ireturn, 1) := by decide +kernel
theorem dX5_catTold_0 : decode cX5_catTold 0 = .ok (.iload_n 2, 1) := by decide +kernel
theorem dX5_catTold_1 : decode cX5_catTold 1 = .ok (.ifCond .ne 12, 3) := by decide +kernel
theorem dX5_catTold_4 : decode cX5_catTold 4 = .ok (.aload_n 0, 1) := by decide +kernel
theorem dX5_catTold_5 : decode cX5_catTold 5 = .ok (.getfield 20, 3) := by decide +kernel
theorem dX5_catTold_8 : decode cX5_catTold 8 = .ok (.iload_n 1, 1) := by decide +kernel
theorem dX5_catTold_9 : decode cX5_catTold 9 = .ok (.iaload, 1) := by decide +kernel
theorem dX5_catTold_10 : decode cX5_catTold 10 = .ok (.goto 23, 3) := by decide +kernel
theorem dX5_catTold_13 : decode cX5_catTold 13 = .ok (.iload_n 2, 1) := by decide +kernel
theorem dX5_catTold_14 : decode cX5_catTold 14 = .ok (.iconst 1, 1) := by decide +kernel
theorem dX5_catTold_15 : decode cX5_catTold 15 = .ok (.if_icmp .ne 12, 3) := by decide +kernel
theorem dX5_catTold_18 : decode cX5_catTold 18 = .ok (.aload_n 0, 1) := by decide +kernel
theorem dX5_catTold_19 : decode cX5_catTold 19 = .ok (.getfield 32, 3) := by decide +kernel
theorem dX5_catTold_22 : decode cX5_catTold 22 = .ok (.iload_n 1, 1) := by decide +kernel
theorem dX5_catTold_23 : decode cX5_catTold 23 = .ok (.iaload, 1) := by decide +kernel
theorem dX5_catTold_24 : decode cX5_catTold 24 = .ok (.goto 9, 3) := by decide +kernel
theorem dX5_catTold_27 : decode cX5_catTold 27 = .ok (.aload_n 0, 1) := by decide +kernel
theorem dX5_catTold_28 : decode cX5_catTold 28 = .ok (.getfield 35, 3) := by decide +kernel
theorem dX5_catTold_31 : decode cX5_catTold 31 = .ok (.iload_n 1, 1) := by decide +kernel
theorem dX5_catTold_32 : decode cX5_catTold 32 = .ok (.iaload, 1) := by decide +kernel
theorem dX5_catTold_33 : decode cX5_catTold 33 = .ok (.ireturn, 1) := by decide +kernel
set_option maxRecDepth 20000 in
theorem ggX5_mouser_X5_isIn : GoodIn wsX5_mouser wsX5_isIn := goodIn_r _ [6] (by decide +kernel) (by decide +kernel)
set_option maxRecDepth 20000 in
theorem gX5_mouser_X5_isIn : GoodIn wsX5_mouser (va_wsS RX5 59 yX5_isIn wsX5_isIn) := goodIn_app (goodIn_of _ (by decide +kernel)) ggX5_mouser_X5_isIn
set_option maxRecDepth 20000 in
theorem ggX5_mouser_X5_catTold : GoodIn wsX5_mouser wsX5_catTold := goodIn_r _ [10, 11, 12, 13, 18, 19, 20, 21, 22, 23, 24, 25, 26, 27, 28, 29, 30, 31, 32, 33, 34, 35, 36] (by decide +kernel) (by decide +kernel)
set_option maxRecDepth 20000 in
theorem gX5_mouser_X5_catTold : GoodIn wsX5_mouser (wsV RX5 149 RX5 yX5_catTold wsX5_catTold) := goodIn_app (goodIn_of _ (by decide +kernel)) ggX5_mouser_X5_catTold
set_option maxRecDepth 20000 in
theorem ggX5_mouser_X5_fail : GoodIn wsX5_mouser wsX5_fail := goodIn_r _ [17, 1, 18, 19, 20, 21, 22, 23, 24, 25, 26, 27, 28, 29, 30, 31, 32, 33, 34, 35, 36] (by decide +kernel) (by decide +kernel)
set_option maxRecDepth 20000 in
theorem gX5_mouser_X5_fail : GoodIn wsX5_mouser (wsV RX5 92 RX5 yX5_fail wsX5_fail) := goodIn_app (goodIn_of _ (by decide +kernel)) ggX5_mouser_X5_fail
theorem dX5_mouser_0 : decode cX5_mouser 0 = .ok (.aload_n 0, 1) := by decide +kernel
theorem dX5_mouser_1 : decode cX5_mouser 1 = .ok (.iconst 0, 1) := by decide +kernel
theorem dX5_mouser_2 : decode cX5_mouser 2 = .ok (.putfield 53, 3) := by decide +kernel
theorem dX5_mouser_5 : decode cX5_mouser 5 = .ok (.iload_n 1, 1) := by decide +kernel
theorem dX5_mouser_6 : decode cX5_mouser 6 = .ok (.iconst 0, 1) := by decide +kernel
theorem dX5_mouser_7 : decode cX5_mouser 7 = .ok (.aload_n 0, 1) := by decide +kernel
theorem dX5_mouser_8 : decode cX5_mouser 8 = .ok (.getfield 95, 3) := by decide +kernel
theorem dX5_mouser_11 : decode cX5_mouser 11 = .ok (.iconst 1, 1) := by decide +kernel
theorem dX5_mouser_12 : decode cX5_mouser 12 = .ok (.isub, 1) := by decide +kernel
theorem dX5_mouser_13 : decode cX5_mouser 13 = .ok (.invokestatic 59, 3) := by decide +kernel
theorem dX5_mouser_16 : decode cX5_mouser 16 = .ok (.ifCond .eq 21, 3) := by decide +kernel
theorem dX5_mouser_19 : decode cX5_mouser 19 = .ok (.iload_n 2, 1) := by decide +kernel
theorem dX5_mouser_20 : decode cX5_mouser 20 = .ok (.iconst 0, 1) := by decide +kernel
theorem dX5_mouser_21 : decode cX5_mouser 21 = .ok (.iconst 2, 1) := by decide +kernel
theorem dX5_mouser_22 : decode cX5_mouser 22 = .ok (.invokestatic 59, 3) := by decide +kernel
theorem dX5_mouser_25 : decode cX5_mouser 25 = .ok (.ifCond .eq 12, 3) := by decide +kernel
theorem dX5_mouser_28 : decode cX5_mouser 28 = .ok (.aload_n 0, 1) := by decide +kernel
theorem dX5_mouser_29 : decode cX5_mouser 29 = .ok (.iload_n 1, 1) := by decide +kernel
theorem dX5_mouser_30 : decode cX5_mouser 30 = .ok (.iload_n 2, 1) := by decide +kernel
theorem dX5_mouser_31 : decode cX5_mouser 31 = .ok (.invokevirtual 149, 3) := by decide +kernel
theorem dX5_mouser_34 : decode cX5_mouser 34 = .ok (.goto 8, 3) := by decide +kernel
theorem dX5_mouser_37 : decode cX5_mouser 37 = .ok (.aload_n 0, 1) := by decide +kernel
theorem dX5_mouser_38 : decode cX5_mouser 38 = .ok (.iconst 1, 1) := by decide +kernel
theorem dX5_mouser_39 : decode cX5_mouser 39 = .ok (.invokevirtual 92, 3) := by decide +kernel
theorem dX5_mouser_42 : decode cX5_mouser 42 = .ok (.ireturn, 1) := by decide +kernel
set_option maxRecDepth 20000 in
theorem ggX5_all_X5_calibreTold : GoodIn wsX5_all wsX5_calibreTold := goodIn_r _ [5, 6, 7, 8, 9, 4, 10, 11, 12, 13, 14, 15, 16, 17, 18, 19, 20, 21, 22, 23, 24, 25, 26, 27, 28, 29, 30, 31, 32] (by decide +kernel) (by decide +kernel)
set_option maxRecDepth 20000 in
theorem gX5_all_X5_calibreTold : GoodIn wsX5_all (wsV RX5 146 RX5 yX5_calibreTold wsX5_calibreTold) := goodIn_app (goodIn_of _ (by decide +kernel)) ggX5_all_X5_calibreTold
theorem dX5_all_0 : decode cX5_all 0 = .ok (.iconst 0, 1) := by decide +kernel
theorem dX5_all_1 : decode cX5_all 1 = .ok (.istore_n 2, 1) := by decide +kernel
theorem dX5_all_2 : decode cX5_all 2 = .ok (.iconst 0, 1) := by decide +kernel
theorem dX5_all_3 : decode cX5_all 3 = .ok (.istore_n 3, 1) := by decide +kernel
theorem dX5_all_4 : decode cX5_all 4 = .ok (.iload_n 3, 1) := by decide +kernel
theorem dX5_all_5 : decode cX5_all 5 = .ok (.iconst 5, 1) := by decide +kernel
theorem dX5_all_6 : decode cX5_all 6 = .ok (.if_icmp .ge 18, 3) := by decide +kernel
theorem dX5_all_9 : decode cX5_all 9 = .ok (.iload_n 2, 1) := by decide +kernel
theorem dX5_all_10 : decode cX5_all 10 = .ok (.aload_n 0, 1) := by decide +kernel
theorem dX5_all_11 : decode cX5_all 11 = .ok (.iload_n 3, 1) := by decide +kernel
theorem dX5_all_12 : decode cX5_all 12 = .ok (.iload_n 1, 1) := by decide +kernel
theorem dX5_all_13 : decode cX5_all 13 = .ok (.invokevirtual 146, 3) := by decide +kernel
theorem dX5_all_16 : decode cX5_all 16 = .ok (.iadd, 1) := by decide +kernel
theorem dX5_all_17 : decode cX5_all 17 = .ok (.istore_n 2, 1) := by decide +kernel
theorem dX5_all_18 : decode cX5_all 18 = .ok (.iinc 3 1, 3) := by decide +kernel
theorem dX5_all_21 : decode cX5_all 21 = .ok (.goto (-17), 3) := by decide +kernel
theorem dX5_all_24 : decode cX5_all 24 = .ok (.iload_n 2, 1) := by decide +kernel
theorem dX5_all_25 : decode cX5_all 25 = .ok (.ireturn, 1) := by decide +kernel
set_option maxRecDepth 20000 in
theorem ggX5_counted_X5_all : GoodIn wsX5_counted wsX5_all := goodIn_r _ [10, 11, 12, 13, 9, 14, 15, 16, 17, 18, 19, 2, 20, 21, 31, 32, 33, 34, 35, 36, 37, 38, 39, 40, 41, 42, 43, 44, 45, 46, 47, 48, 49] (by decide +kernel) (by decide +kernel)
set_option maxRecDepth 20000 in
theorem gX5_counted_X5_all : GoodIn wsX5_counted (wsV RX5 155 RX5 yX5_all wsX5_all) := goodIn_app (goodIn_of _ (by decide +kernel)) ggX5_counted_X5_all
set_option maxRecDepth 20000 in
theorem ggX5_counted_X5_rusty : GoodIn wsX5_counted wsX5_rusty := goodIn_r _ [25, 21, 5, 26, 27, 28, 9, 29, 30, 31, 32, 33, 34, 35, 36, 37, 38, 39, 40, 41, 42, 43, 44, 45, 46, 47, 48, 49] (by decide +kernel) (by decide +kernel)
set_option maxRecDepth 20000 in
theorem gX5_counted_X5_rusty : GoodIn wsX5_counted (wsV RX5 134 RX5 yX5_rusty wsX5_rusty) := goodIn_app (goodIn_of _ (by decide +kernel)) ggX5_counted_X5_rusty
theorem dX5_counted_0 : decode cX5_counted 0 = .ok (.iconst 0, 1) := by decide +kernel
theorem dX5_counted_1 : decode cX5_counted 1 = .ok (.istore_n 2, 1) := by decide +kernel
theorem dX5_counted_2 : decode cX5_counted 2 = .ok (.iload_n 1, 1) := by decide +kernel
theorem dX5_counted_3 : decode cX5_counted 3 = .ok (.tableswitch 129 0 9 #[53, 58, 63, 68, 74, 80, 86, 112, 118, 124], 53) := by decide +kernel
theorem dX5_counted_56 : decode cX5_counted 56 = .ok (.aload_n 0, 1) := by decide +kernel
theorem dX5_counted_57 : decode cX5_counted 57 = .ok (.getfield 152, 3) := by decide +kernel
theorem dX5_counted_60 : decode cX5_counted 60 = .ok (.ireturn, 1) := by decide +kernel
theorem dX5_counted_61 : decode cX5_counted 61 = .ok (.aload_n 0, 1) := by decide +kernel
theorem dX5_counted_62 : decode cX5_counted 62 = .ok (.getfield 56, 3) := by decide +kernel
theorem dX5_counted_65 : decode cX5_counted 65 = .ok (.ireturn, 1) := by decide +kernel
theorem dX5_counted_66 : decode cX5_counted 66 = .ok (.aload_n 0, 1) := by decide +kernel
theorem dX5_counted_67 : decode cX5_counted 67 = .ok (.getfield 95, 3) := by decide +kernel
theorem dX5_counted_70 : decode cX5_counted 70 = .ok (.ireturn, 1) := by decide +kernel
theorem dX5_counted_71 : decode cX5_counted 71 = .ok (.aload_n 0, 1) := by decide +kernel
theorem dX5_counted_72 : decode cX5_counted 72 = .ok (.iconst 0, 1) := by decide +kernel
theorem dX5_counted_73 : decode cX5_counted 73 = .ok (.invokevirtual 155, 3) := by decide +kernel
theorem dX5_counted_76 : decode cX5_counted 76 = .ok (.ireturn, 1) := by decide +kernel
theorem dX5_counted_77 : decode cX5_counted 77 = .ok (.aload_n 0, 1) := by decide +kernel
theorem dX5_counted_78 : decode cX5_counted 78 = .ok (.iconst 1, 1) := by decide +kernel
theorem dX5_counted_79 : decode cX5_counted 79 = .ok (.invokevirtual 155, 3) := by decide +kernel
theorem dX5_counted_82 : decode cX5_counted 82 = .ok (.ireturn, 1) := by decide +kernel
theorem dX5_counted_83 : decode cX5_counted 83 = .ok (.aload_n 0, 1) := by decide +kernel
theorem dX5_counted_84 : decode cX5_counted 84 = .ok (.iconst 2, 1) := by decide +kernel
theorem dX5_counted_85 : decode cX5_counted 85 = .ok (.invokevirtual 155, 3) := by decide +kernel
theorem dX5_counted_88 : decode cX5_counted 88 = .ok (.ireturn, 1) := by decide +kernel
theorem dX5_counted_89 : decode cX5_counted 89 = .ok (.iconst 0, 1) := by decide +kernel
theorem dX5_counted_90 : decode cX5_counted 90 = .ok (.istore_n 3, 1) := by decide +kernel
theorem dX5_counted_91 : decode cX5_counted 91 = .ok (.iload_n 3, 1) := by decide +kernel
theorem dX5_counted_92 : decode cX5_counted 92 = .ok (.aload_n 0, 1) := by decide +kernel
theorem dX5_counted_93 : decode cX5_counted 93 = .ok (.getfield 56, 3) := by decide +kernel
theorem dX5_counted_96 : decode cX5_counted 96 = .ok (.if_icmp .ge 17, 3) := by decide +kernel
theorem dX5_counted_99 : decode cX5_counted 99 = .ok (.iload_n 2, 1) := by decide +kernel
theorem dX5_counted_100 : decode cX5_counted 100 = .ok (.aload_n 0, 1) := by decide +kernel
theorem dX5_counted_101 : decode cX5_counted 101 = .ok (.iload_n 3, 1) := by decide +kernel
theorem dX5_counted_102 : decode cX5_counted 102 = .ok (.invokevirtual 134, 3) := by decide +kernel
theorem dX5_counted_105 : decode cX5_counted 105 = .ok (.iadd, 1) := by decide +kernel
theorem dX5_counted_106 : decode cX5_counted 106 = .ok (.istore_n 2, 1) := by decide +kernel
theorem dX5_counted_107 : decode cX5_counted 107 = .ok (.iinc 3 1, 3) := by decide +kernel
theorem dX5_counted_110 : decode cX5_counted 110 = .ok (.goto (-19), 3) := by decide +kernel
theorem dX5_counted_113 : decode cX5_counted 113 = .ok (.iload_n 2, 1) := by decide +kernel
theorem dX5_counted_114 : decode cX5_counted 114 = .ok (.ireturn, 1) := by decide +kernel
theorem dX5_counted_115 : decode cX5_counted 115 = .ok (.aload_n 0, 1) := by decide +kernel
theorem dX5_counted_116 : decode cX5_counted 116 = .ok (.iconst 3, 1) := by decide +kernel
theorem dX5_counted_117 : decode cX5_counted 117 = .ok (.invokevirtual 155, 3) := by decide +kernel
theorem dX5_counted_120 : decode cX5_counted 120 = .ok (.ireturn, 1) := by decide +kernel
theorem dX5_counted_121 : decode cX5_counted 121 = .ok (.aload_n 0, 1) := by decide +kernel
theorem dX5_counted_122 : decode cX5_counted 122 = .ok (.iconst 4, 1) := by decide +kernel
theorem dX5_counted_123 : decode cX5_counted 123 = .ok (.invokevirtual 155, 3) := by decide +kernel
theorem dX5_counted_126 : decode cX5_counted 126 = .ok (.ireturn, 1) := by decide +kernel
theorem dX5_counted_127 : decode cX5_counted 127 = .ok (.aload_n 0, 1) := by decide +kernel
theorem dX5_counted_128 : decode cX5_counted 128 = .ok (.getfield 102, 3) := by decide +kernel
theorem dX5_counted_131 : decode cX5_counted 131 = .ok (.ireturn, 1) := by decide +kernel
theorem dX5_counted_132 : decode cX5_counted 132 = .ok (.aload_n 0, 1) := by decide +kernel
theorem dX5_counted_133 : decode cX5_counted 133 = .ok (.getfield 7, 3) := by decide +kernel
theorem dX5_counted_136 : decode cX5_counted 136 = .ok (.ireturn, 1) := by decide +kernel
set_option maxRecDepth 20000 in
theorem ggX5_count_X5_isIn : GoodIn wsX5_count wsX5_isIn := goodIn_r _ [5] (by decide +kernel) (by decide +kernel)
set_option maxRecDepth 20000 in
theorem gX5_count_X5_isIn : GoodIn wsX5_count (va_wsS RX5 59 yX5_isIn wsX5_isIn) := goodIn_app (goodIn_of _ (by decide +kernel)) ggX5_count_X5_isIn
set_option maxRecDepth 20000 in
theorem ggX5_count_X5_counted : GoodIn wsX5_count wsX5_counted := goodIn_r _ [9, 10, 11, 12, 13, 14, 15, 16, 17, 4, 18, 19, 20, 21, 22, 23, 24, 25, 26, 27, 28, 29, 30, 31, 32, 33, 34, 35, 36, 37, 38, 43, 44, 45, 46, 47, 48, 49, 50, 51, 52, 53, 54, 55, 56, 57, 58, 59, 60, 61] (by decide +kernel) (by decide +kernel)
set_option maxRecDepth 20000 in
theorem gX5_count_X5_counted : GoodIn wsX5_count (wsV RX5 158 RX5 yX5_counted wsX5_counted) := goodIn_app (goodIn_of _ (by decide +kernel)) ggX5_count_X5_counted
set_option maxRecDepth 20000 in
theorem ggX5_count_X5_fail : GoodIn wsX5_count wsX5_fail := goodIn_r _ [42, 1, 43, 44, 45, 46, 47, 48, 49, 50, 51, 52, 53, 54, 55, 56, 57, 58, 59, 60, 61] (by decide +kernel) (by decide +kernel)
set_option maxRecDepth 20000 in
theorem gX5_count_X5_fail : GoodIn wsX5_count (wsV RX5 92 RX5 yX5_fail wsX5_fail) := goodIn_app (goodIn_of _ (by decide +kernel)) ggX5_count_X5_fail
theorem dX5_count_0 : decode cX5_count 0 = .ok (.aload_n 0, 1) := by decide +kernel
theorem dX5_count_1 : decode cX5_count 1 = .ok (.iconst 0, 1) := by decide +kernel
theorem dX5_count_2 : decode cX5_count 2 = .ok (.putfield 53, 3) := by decide +kernel
theorem dX5_count_5 : decode cX5_count 5 = .ok (.iload_n 1, 1) := by decide +kernel
theorem dX5_count_6 : decode cX5_count 6 = .ok (.iconst 0, 1) := by decide +kernel
theorem dX5_count_7 : decode cX5_count 7 = .ok (.bipush 10, 2) := by decide +kernel
theorem dX5_count_9 : decode cX5_count 9 = .ok (.invokestatic 59, 3) := by decide +kernel
theorem dX5_count_12 : decode cX5_count 12 = .ok (.ifCond .eq 11, 3) := by decide +kernel
theorem dX5_count_15 : decode cX5_count 15 = .ok (.aload_n 0, 1) := by decide +kernel
theorem dX5_count_16 : decode cX5_count 16 = .ok (.iload_n 1, 1) := by decide +kernel
theorem dX5_count_17 : decode cX5_count 17 = .ok (.invokevirtual 158, 3) := by decide +kernel
theorem dX5_count_20 : decode cX5_count 20 = .ok (.goto 8, 3) := by decide +kernel
theorem dX5_count_23 : decode cX5_count 23 = .ok (.aload_n 0, 1) := by decide +kernel
theorem dX5_count_24 : decode cX5_count 24 = .ok (.iconst 1, 1) := by decide +kernel
theorem dX5_count_25 : decode cX5_count 25 = .ok (.invokevirtual 92, 3) := by decide +kernel
theorem dX5_count_28 : decode cX5_count 28 = .ok (.ireturn, 1) := by decide +kernel
set_option maxRecDepth 20000 in
theorem ggX5_room__X5_isIn : GoodIn wsX5_room_ wsX5_isIn := goodIn_r _ [5] (by decide +kernel) (by decide +kernel)
set_option maxRecDepth 20000 in
theorem gX5_room__X5_isIn : GoodIn wsX5_room_ (va_wsS RX5 59 yX5_isIn wsX5_isIn) := goodIn_app (goodIn_of _ (by decide +kernel)) ggX5_room__X5_isIn
set_option maxRecDepth 20000 in
theorem ggX5_room__X5_roomOf : GoodIn wsX5_room_ wsX5_roomOf := goodIn_r _ [8] (by decide +kernel) (by decide +kernel)
set_option maxRecDepth 20000 in
theorem gX5_room__X5_roomOf : GoodIn wsX5_room_ (va_wsS RX5 69 yX5_roomOf wsX5_roomOf) := goodIn_app (goodIn_of _ (by decide +kernel)) ggX5_room__X5_roomOf
set_option maxRecDepth 20000 in
theorem ggX5_room__X5_fail : GoodIn wsX5_room_ wsX5_fail := goodIn_r _ [12, 1, 13, 14, 15, 16, 17, 18, 19, 20, 21, 22, 23, 24, 25, 26, 27, 28, 29, 30, 31] (by decide +kernel) (by decide +kernel)
set_option maxRecDepth 20000 in
theorem gX5_room__X5_fail : GoodIn wsX5_room_ (wsV RX5 92 RX5 yX5_fail wsX5_fail) := goodIn_app (goodIn_of _ (by decide +kernel)) ggX5_room__X5_fail
theorem dX5_room__0 : decode cX5_room_ 0 = .ok (.aload_n 0, 1) := by decide +kernel
theorem dX5_room__1 : decode cX5_room_ 1 = .ok (.iconst 0, 1) := by decide +kernel
theorem dX5_room__2 : decode cX5_room_ 2 = .ok (.putfield 53, 3) := by decide +kernel
theorem dX5_room__5 : decode cX5_room_ 5 = .ok (.iload_n 1, 1) := by decide +kernel
theorem dX5_room__6 : decode cX5_room_ 6 = .ok (.iconst 1, 1) := by decide +kernel
theorem dX5_room__7 : decode cX5_room_ 7 = .ok (.bipush 20, 2) := by decide +kernel
theorem dX5_room__9 : decode cX5_room_ 9 = .ok (.invokestatic 59, 3) := by decide +kernel
theorem dX5_room__12 : decode cX5_room_ 12 = .ok (.ifCond .eq 10, 3) := by decide +kernel
theorem dX5_room__15 : decode cX5_room_ 15 = .ok (.iload_n 1, 1) := by decide +kernel
theorem dX5_room__16 : decode cX5_room_ 16 = .ok (.invokestatic 69, 3) := by decide +kernel
theorem dX5_room__19 : decode cX5_room_ 19 = .ok (.goto 8, 3) := by decide +kernel
theorem dX5_room__22 : decode cX5_room_ 22 = .ok (.aload_n 0, 1) := by decide +kernel
theorem dX5_room__23 : decode cX5_room_ 23 = .ok (.iconst 1, 1) := by decide +kernel
theorem dX5_room__24 : decode cX5_room_ 24 = .ok (.invokevirtual 92, 3) := by decide +kernel
theorem dX5_room__27 : decode cX5_room_ 27 = .ok (.ireturn, 1) := by decide +kernel
set_option maxRecDepth 20000 in
theorem ggX5_side_X5_roomOf : GoodIn wsX5_side wsX5_roomOf := goodIn_r _ [5] (by decide +kernel) (by decide +kernel)
set_option maxRecDepth 20000 in
theorem gX5_side_X5_roomOf : GoodIn wsX5_side (va_wsS RX5 69 yX5_roomOf wsX5_roomOf) := goodIn_app (goodIn_of _ (by decide +kernel)) ggX5_side_X5_roomOf
set_option maxRecDepth 20000 in
theorem ggX5_side_X5_isIn : GoodIn wsX5_side wsX5_isIn := goodIn_r _ [8] (by decide +kernel) (by decide +kernel)
set_option maxRecDepth 20000 in
theorem gX5_side_X5_isIn : GoodIn wsX5_side (va_wsS RX5 59 yX5_isIn wsX5_isIn) := goodIn_app (goodIn_of _ (by decide +kernel)) ggX5_side_X5_isIn
set_option maxRecDepth 20000 in
theorem ggX5_side_X5_fail : GoodIn wsX5_side wsX5_fail := goodIn_r _ [12, 1, 13, 14, 15, 16, 17, 18, 19, 20, 21, 22, 23, 24, 25, 26, 27, 28, 29, 30, 31] (by decide +kernel) (by decide +kernel)
set_option maxRecDepth 20000 in
theorem gX5_side_X5_fail : GoodIn wsX5_side (wsV RX5 92 RX5 yX5_fail wsX5_fail) := goodIn_app (goodIn_of _ (by decide +kernel)) ggX5_side_X5_fail
theorem dX5_side_0 : decode cX5_side 0 = .ok (.aload_n 0, 1) := by decide +kernel
theorem dX5_side_1 : decode cX5_side 1 = .ok (.iconst 0, 1) := by decide +kernel
theorem dX5_side_2 : decode cX5_side 2 = .ok (.putfield 53, 3) := by decide +kernel
theorem dX5_side_5 : decode cX5_side 5 = .ok (.iload_n 1, 1) := by decide +kernel
theorem dX5_side_6 : decode cX5_side 6 = .ok (.iconst 1, 1) := by decide +kernel
theorem dX5_side_7 : decode cX5_side 7 = .ok (.bipush 20, 2) := by decide +kernel
theorem dX5_side_9 : decode cX5_side 9 = .ok (.invokestatic 69, 3) := by decide +kernel
theorem dX5_side_12 : decode cX5_side 12 = .ok (.invokestatic 59, 3) := by decide +kernel
theorem dX5_side_15 : decode cX5_side 15 = .ok (.ifCond .ne 9, 3) := by decide +kernel
theorem dX5_side_18 : decode cX5_side 18 = .ok (.aload_n 0, 1) := by decide +kernel
theorem dX5_side_19 : decode cX5_side 19 = .ok (.iconst 1, 1) := by decide +kernel
theorem dX5_side_20 : decode cX5_side 20 = .ok (.invokevirtual 92, 3) := by decide +kernel
theorem dX5_side_23 : decode cX5_side 23 = .ok (.ireturn, 1) := by decide +kernel
theorem dX5_side_24 : decode cX5_side 24 = .ok (.iconst 1, 1) := by decide +kernel
theorem dX5_side_25 : decode cX5_side 25 = .ok (.istore_n 2, 1) := by decide +kernel
theorem dX5_side_26 : decode cX5_side 26 = .ok (.iload_n 2, 1) := by decide +kernel
theorem dX5_side_27 : decode cX5_side 27 = .ok (.invokestatic 69, 3) := by decide +kernel
theorem dX5_side_30 : decode cX5_side 30 = .ok (.iload_n 1, 1) := by decide +kernel
theorem dX5_side_31 : decode cX5_side 31 = .ok (.if_icmp .ge 9, 3) := by decide +kernel
theorem dX5_side_34 : decode cX5_side 34 = .ok (.iinc 2 1, 3) := by decide +kernel
theorem dX5_side_37 : decode cX5_side 37 = .ok (.goto (-11), 3) := by decide +kernel
theorem dX5_side_40 : decode cX5_side 40 = .ok (.iload_n 2, 1) := by decide +kernel
theorem dX5_side_41 : decode cX5_side 41 = .ok (.ireturn, 1) := by decide +kernel
set_option maxRecDepth 20000 in
theorem ggX5_leap_X5_layers : GoodIn wsX5_leap wsX5_layers := goodIn_r _ [11, 12, 13, 14, 10, 15, 16, 17, 18, 19, 29, 30, 31, 32, 33, 34, 35, 36, 37, 38, 39, 40, 41, 42, 43, 44, 45, 46, 47] (by decide +kernel) (by decide +kernel)
set_option maxRecDepth 20000 in
theorem gX5_leap_X5_layers : GoodIn wsX5_leap (wsV RX5 129 RX5 yX5_layers wsX5_layers) := goodIn_app (goodIn_of _ (by decide +kernel)) ggX5_leap_X5_layers
set_option maxRecDepth 20000 in
theorem ggX5_leap_X5_full : GoodIn wsX5_leap wsX5_full := goodIn_r _ [23, 16, 4, 12, 13, 14, 10, 15, 17, 18, 19, 29, 30, 31, 32, 33, 34, 35, 36, 37, 38, 39, 40, 41, 42, 43, 44, 45, 46, 47] (by decide +kernel) (by decide +kernel)
set_option maxRecDepth 20000 in
theorem gX5_leap_X5_full : GoodIn wsX5_leap (wsV RX5 132 RX5 yX5_full wsX5_full) := goodIn_app (goodIn_of _ (by decide +kernel)) ggX5_leap_X5_full
set_option maxRecDepth 20000 in
theorem ggX5_leap_X5_more : GoodIn wsX5_leap wsX5_more := goodIn_r _ [27, 28, 29, 30, 31, 32, 33, 34, 35, 36, 37, 38, 39, 40, 41, 42, 43, 44, 45, 46, 47] (by decide +kernel) (by decide +kernel)
set_option maxRecDepth 20000 in
theorem gX5_leap_X5_more : GoodIn wsX5_leap (wsV RX5 98 RX5 yX5_more wsX5_more) := goodIn_app (goodIn_of _ (by decide +kernel)) ggX5_leap_X5_more
theorem dX5_leap_0 : decode cX5_leap 0 = .ok (.aload_n 0, 1) := by decide +kernel
theorem dX5_leap_1 : decode cX5_leap 1 = .ok (.getfield 32, 3) := by decide +kernel
theorem dX5_leap_4 : decode cX5_leap 4 = .ok (.iload_n 1, 1) := by decide +kernel
theorem dX5_leap_5 : decode cX5_leap 5 = .ok (.aload_n 0, 1) := by decide +kernel
theorem dX5_leap_6 : decode cX5_leap 6 = .ok (.getfield 32, 3) := by decide +kernel
theorem dX5_leap_9 : decode cX5_leap 9 = .ok (.iload_n 1, 1) := by decide +kernel
theorem dX5_leap_10 : decode cX5_leap 10 = .ok (.iaload, 1) := by decide +kernel
theorem dX5_leap_11 : decode cX5_leap 11 = .ok (.iconst (-1), 1) := by decide +kernel
theorem dX5_leap_12 : decode cX5_leap 12 = .ok (.if_icmp .ne 7, 3) := by decide +kernel
theorem dX5_leap_15 : decode cX5_leap 15 = .ok (.iconst 0, 1) := by decide +kernel
theorem dX5_leap_16 : decode cX5_leap 16 = .ok (.goto 21, 3) := by decide +kernel
theorem dX5_leap_19 : decode cX5_leap 19 = .ok (.aload_n 0, 1) := by decide +kernel
theorem dX5_leap_20 : decode cX5_leap 20 = .ok (.getfield 32, 3) := by decide +kernel
theorem dX5_leap_23 : decode cX5_leap 23 = .ok (.iload_n 1, 1) := by decide +kernel
theorem dX5_leap_24 : decode cX5_leap 24 = .ok (.iaload, 1) := by decide +kernel
theorem dX5_leap_25 : decode cX5_leap 25 = .ok (.aload_n 0, 1) := by decide +kernel
theorem dX5_leap_26 : decode cX5_leap 26 = .ok (.getfield 20, 3) := by decide +kernel
theorem dX5_leap_29 : decode cX5_leap 29 = .ok (.iload_n 1, 1) := by decide +kernel
theorem dX5_leap_30 : decode cX5_leap 30 = .ok (.iaload, 1) := by decide +kernel
theorem dX5_leap_31 : decode cX5_leap 31 = .ok (.iadd, 1) := by decide +kernel
theorem dX5_leap_32 : decode cX5_leap 32 = .ok (.aload_n 0, 1) := by decide +kernel
theorem dX5_leap_33 : decode cX5_leap 33 = .ok (.getfield 56, 3) := by decide +kernel
theorem dX5_leap_36 : decode cX5_leap 36 = .ok (.irem, 1) := by decide +kernel
theorem dX5_leap_37 : decode cX5_leap 37 = .ok (.iastore, 1) := by decide +kernel
theorem dX5_leap_38 : decode cX5_leap 38 = .ok (.aload_n 0, 1) := by decide +kernel
theorem dX5_leap_39 : decode cX5_leap 39 = .ok (.getfield 32, 3) := by decide +kernel
theorem dX5_leap_42 : decode cX5_leap 42 = .ok (.iload_n 1, 1) := by decide +kernel
theorem dX5_leap_43 : decode cX5_leap 43 = .ok (.iaload, 1) := by decide +kernel
theorem dX5_leap_44 : decode cX5_leap 44 = .ok (.istore_n 2, 1) := by decide +kernel
theorem dX5_leap_45 : decode cX5_leap 45 = .ok (.aload_n 0, 1) := by decide +kernel
theorem dX5_leap_46 : decode cX5_leap 46 = .ok (.getfield 23, 3) := by decide +kernel
theorem dX5_leap_49 : decode cX5_leap 49 = .ok (.iload_n 2, 1) := by decide +kernel
theorem dX5_leap_50 : decode cX5_leap 50 = .ok (.iaload, 1) := by decide +kernel
theorem dX5_leap_51 : decode cX5_leap 51 = .ok (.ifCond .eq 22, 3) := by decide +kernel
theorem dX5_leap_54 : decode cX5_leap 54 = .ok (.aload_n 0, 1) := by decide +kernel
theorem dX5_leap_55 : decode cX5_leap 55 = .ok (.iload_n 2, 1) := by decide +kernel
theorem dX5_leap_56 : decode cX5_leap 56 = .ok (.aload_n 0, 1) := by decide +kernel
theorem dX5_leap_57 : decode cX5_leap 57 = .ok (.getfield 23, 3) := by decide +kernel
theorem dX5_leap_60 : decode cX5_leap 60 = .ok (.iload_n 2, 1) := by decide +kernel
theorem dX5_leap_61 : decode cX5_leap 61 = .ok (.iaload, 1) := by decide +kernel
theorem dX5_leap_62 : decode cX5_leap 62 = .ok (.invokevirtual 129, 3) := by decide +kernel
theorem dX5_leap_65 : decode cX5_leap 65 = .ok (.aload_n 0, 1) := by decide +kernel
theorem dX5_leap_66 : decode cX5_leap 66 = .ok (.iload_n 2, 1) := by decide +kernel
theorem dX5_leap_67 : decode cX5_leap 67 = .ok (.invokevirtual 132, 3) := by decide +kernel
theorem dX5_leap_70 : decode cX5_leap 70 = .ok (.if_icmp .ne 4, 3) := by decide +kernel
theorem dX5_leap_73 : decode cX5_leap 73 = .ok (.return_, 1) := by decide +kernel
theorem dX5_leap_74 : decode cX5_leap 74 = .ok (.aload_n 0, 1) := by decide +kernel
theorem dX5_leap_75 : decode cX5_leap 75 = .ok (.getfield 23, 3) := by decide +kernel
theorem dX5_leap_78 : decode cX5_leap 78 = .ok (.iload_n 2, 1) := by decide +kernel
theorem dX5_leap_79 : decode cX5_leap 79 = .ok (.dup2, 1) := by decide +kernel
theorem dX5_leap_80 : decode cX5_leap 80 = .ok (.iaload, 1) := by decide +kernel
theorem dX5_leap_81 : decode cX5_leap 81 = .ok (.iconst 1, 1) := by decide +kernel
theorem dX5_leap_82 : decode cX5_leap 82 = .ok (.isub, 1) := by decide +kernel
theorem dX5_leap_83 : decode cX5_leap 83 = .ok (.iastore, 1) := by decide +kernel
theorem dX5_leap_84 : decode cX5_leap 84 = .ok (.aload_n 0, 1) := by decide +kernel
theorem dX5_leap_85 : decode cX5_leap 85 = .ok (.aload_n 0, 1) := by decide +kernel
theorem dX5_leap_86 : decode cX5_leap 86 = .ok (.getfield 13, 3) := by decide +kernel
theorem dX5_leap_89 : decode cX5_leap 89 = .ok (.iload_n 2, 1) := by decide +kernel
theorem dX5_leap_90 : decode cX5_leap 90 = .ok (.iaload, 1) := by decide +kernel
theorem dX5_leap_91 : decode cX5_leap 91 = .ok (.iconst 1, 1) := by decide +kernel
theorem dX5_leap_92 : decode cX5_leap 92 = .ok (.iconst 1, 1) := by decide +kernel
theorem dX5_leap_93 : decode cX5_leap 93 = .ok (.invokevirtual 98, 3) := by decide +kernel
theorem dX5_leap_96 : decode cX5_leap 96 = .ok (.aload_n 0, 1) := by decide +kernel
theorem dX5_leap_97 : decode cX5_leap 97 = .ok (.getfield 35, 3) := by decide +kernel
theorem dX5_leap_100 : decode cX5_leap 100 = .ok (.iload_n 1, 1) := by decide +kernel
theorem dX5_leap_101 : decode cX5_leap 101 = .ok (.dup2, 1) := by decide +kernel
theorem dX5_leap_102 : decode cX5_leap 102 = .ok (.iaload, 1) := by decide +kernel
theorem dX5_leap_103 : decode cX5_leap 103 = .ok (.iconst 1, 1) := by decide +kernel
theorem dX5_leap_104 : decode cX5_leap 104 = .ok (.iadd, 1) := by decide +kernel
theorem dX5_leap_105 : decode cX5_leap 105 = .ok (.iastore, 1) := by decide +kernel
theorem dX5_leap_106 : decode cX5_leap 106 = .ok (.return_, 1) := by decide +kernel
set_option maxRecDepth 20000 in
theorem ggX5_dayOn_X5_on : GoodIn wsX5_dayOn wsX5_on := goodIn_r _ [14, 15, 16, 17, 13, 18, 19, 20, 21, 22, 23, 24, 25, 26, 27, 28, 29, 30, 31, 32, 33, 34, 2, 35, 36, 37, 63, 64, 65, 66, 67, 68, 69, 70, 71, 72, 73, 74, 75, 76, 77, 78, 79, 80, 81] (by decide +kernel) (by decide +kernel)
set_option maxRecDepth 20000 in
theorem gX5_dayOn_X5_on : GoodIn wsX5_dayOn (wsV RX5 121 RX5 yX5_on wsX5_on) := goodIn_app (goodIn_of _ (by decide +kernel)) ggX5_dayOn_X5_on
set_option maxRecDepth 20000 in
theorem ggX5_dayOn_X5_rustOf : GoodIn wsX5_dayOn wsX5_rustOf := goodIn_r _ [41, 4, 63, 64, 65, 66, 67, 68, 69, 70, 71, 72, 73, 74, 75, 76, 77, 78, 79, 80, 81] (by decide +kernel) (by decide +kernel)
set_option maxRecDepth 20000 in
theorem gX5_dayOn_X5_rustOf : GoodIn wsX5_dayOn (wsV RX5 118 RX5 yX5_rustOf wsX5_rustOf) := goodIn_app (goodIn_of _ (by decide +kernel)) ggX5_dayOn_X5_rustOf
set_option maxRecDepth 20000 in
theorem ggX5_dayOn_X5_leap : GoodIn wsX5_dayOn wsX5_leap := goodIn_r _ [45, 46, 47, 1, 2, 48, 49, 50, 51, 52, 13, 53, 24, 25, 26, 27, 19, 28, 29, 30, 54, 55, 56, 57, 58, 59, 60, 61, 62, 63, 64, 65, 66, 67, 68, 69, 70, 71, 72, 73, 74, 75, 76, 77, 78, 79, 80, 81] (by decide +kernel) (by decide +kernel)
set_option maxRecDepth 20000 in
theorem gX5_dayOn_X5_leap : GoodIn wsX5_dayOn (wsV RX5 161 RX5 yX5_leap wsX5_leap) := goodIn_app (goodIn_of _ (by decide +kernel)) ggX5_dayOn_X5_leap
theorem dX5_dayOn_0 : decode cX5_dayOn 0 = .ok (.iconst 0, 1) := by decide +kernel
theorem dX5_dayOn_1 : decode cX5_dayOn 1 = .ok (.istore_n 1, 1) := by decide +kernel
theorem dX5_dayOn_2 : decode cX5_dayOn 2 = .ok (.iload_n 1, 1) := by decide +kernel
theorem dX5_dayOn_3 : decode cX5_dayOn 3 = .ok (.aload_n 0, 1) := by decide +kernel
theorem dX5_dayOn_4 : decode cX5_dayOn 4 = .ok (.getfield 56, 3) := by decide +kernel
theorem dX5_dayOn_7 : decode cX5_dayOn 7 = .ok (.if_icmp .ge 76, 3) := by decide +kernel
theorem dX5_dayOn_10 : decode cX5_dayOn 10 = .ok (.iconst 0, 1) := by decide +kernel
theorem dX5_dayOn_11 : decode cX5_dayOn 11 = .ok (.istore_n 2, 1) := by decide +kernel
theorem dX5_dayOn_12 : decode cX5_dayOn 12 = .ok (.iload_n 2, 1) := by decide +kernel
theorem dX5_dayOn_13 : decode cX5_dayOn 13 = .ok (.aload_n 0, 1) := by decide +kernel
theorem dX5_dayOn_14 : decode cX5_dayOn 14 = .ok (.getfield 23, 3) := by decide +kernel
theorem dX5_dayOn_17 : decode cX5_dayOn 17 = .ok (.iload_n 1, 1) := by decide +kernel
theorem dX5_dayOn_18 : decode cX5_dayOn 18 = .ok (.iaload, 1) := by decide +kernel
theorem dX5_dayOn_19 : decode cX5_dayOn 19 = .ok (.if_icmp .ge 58, 3) := by decide +kernel
theorem dX5_dayOn_22 : decode cX5_dayOn 22 = .ok (.aload_n 0, 1) := by decide +kernel
theorem dX5_dayOn_23 : decode cX5_dayOn 23 = .ok (.iload_n 1, 1) := by decide +kernel
theorem dX5_dayOn_24 : decode cX5_dayOn 24 = .ok (.iload_n 2, 1) := by decide +kernel
theorem dX5_dayOn_25 : decode cX5_dayOn 25 = .ok (.invokevirtual 121, 3) := by decide +kernel
theorem dX5_dayOn_28 : decode cX5_dayOn 28 = .ok (.ifCond .ne 12, 3) := by decide +kernel
theorem dX5_dayOn_31 : decode cX5_dayOn 31 = .ok (.iconst 1, 1) := by decide +kernel
theorem dX5_dayOn_32 : decode cX5_dayOn 32 = .ok (.aload_n 0, 1) := by decide +kernel
theorem dX5_dayOn_33 : decode cX5_dayOn 33 = .ok (.getfield 102, 3) := by decide +kernel
theorem dX5_dayOn_36 : decode cX5_dayOn 36 = .ok (.iadd, 1) := by decide +kernel
theorem dX5_dayOn_37 : decode cX5_dayOn 37 = .ok (.goto 9, 3) := by decide +kernel
theorem dX5_dayOn_40 : decode cX5_dayOn 40 = .ok (.aload_n 0, 1) := by decide +kernel
theorem dX5_dayOn_41 : decode cX5_dayOn 41 = .ok (.getfield 102, 3) := by decide +kernel
theorem dX5_dayOn_44 : decode cX5_dayOn 44 = .ok (.iconst 2, 1) := by decide +kernel
theorem dX5_dayOn_45 : decode cX5_dayOn 45 = .ok (.idiv, 1) := by decide +kernel
theorem dX5_dayOn_46 : decode cX5_dayOn 46 = .ok (.istore_n 3, 1) := by decide +kernel
theorem dX5_dayOn_47 : decode cX5_dayOn 47 = .ok (.aload_n 0, 1) := by decide +kernel
theorem dX5_dayOn_48 : decode cX5_dayOn 48 = .ok (.getfield 26, 3) := by decide +kernel
theorem dX5_dayOn_51 : decode cX5_dayOn 51 = .ok (.bipush 91, 2) := by decide +kernel
theorem dX5_dayOn_53 : decode cX5_dayOn 53 = .ok (.iload_n 1, 1) := by decide +kernel
theorem dX5_dayOn_54 : decode cX5_dayOn 54 = .ok (.imul, 1) := by decide +kernel
theorem dX5_dayOn_55 : decode cX5_dayOn 55 = .ok (.iload_n 2, 1) := by decide +kernel
theorem dX5_dayOn_56 : decode cX5_dayOn 56 = .ok (.iadd, 1) := by decide +kernel
theorem dX5_dayOn_57 : decode cX5_dayOn 57 = .ok (.bipush 9, 2) := by decide +kernel
theorem dX5_dayOn_59 : decode cX5_dayOn 59 = .ok (.aload_n 0, 1) := by decide +kernel
theorem dX5_dayOn_60 : decode cX5_dayOn 60 = .ok (.iload_n 1, 1) := by decide +kernel
theorem dX5_dayOn_61 : decode cX5_dayOn 61 = .ok (.iload_n 2, 1) := by decide +kernel
theorem dX5_dayOn_62 : decode cX5_dayOn 62 = .ok (.invokevirtual 118, 3) := by decide +kernel
theorem dX5_dayOn_65 : decode cX5_dayOn 65 = .ok (.iload_n 3, 1) := by decide +kernel
theorem dX5_dayOn_66 : decode cX5_dayOn 66 = .ok (.iadd, 1) := by decide +kernel
theorem dX5_dayOn_67 : decode cX5_dayOn 67 = .ok (.invokestatic 124, 3) := by decide +kernel
theorem dX5_dayOn_70 : decode cX5_dayOn 70 = .ok (.iastore, 1) := by decide +kernel
theorem dX5_dayOn_71 : decode cX5_dayOn 71 = .ok (.iinc 2 1, 3) := by decide +kernel
theorem dX5_dayOn_74 : decode cX5_dayOn 74 = .ok (.goto (-62), 3) := by decide +kernel
theorem dX5_dayOn_77 : decode cX5_dayOn 77 = .ok (.iinc 1 1, 3) := by decide +kernel
theorem dX5_dayOn_80 : decode cX5_dayOn 80 = .ok (.goto (-78), 3) := by decide +kernel
theorem dX5_dayOn_83 : decode cX5_dayOn 83 = .ok (.iconst 0, 1) := by decide +kernel
theorem dX5_dayOn_84 : decode cX5_dayOn 84 = .ok (.istore_n 1, 1) := by decide +kernel
theorem dX5_dayOn_85 : decode cX5_dayOn 85 = .ok (.iload_n 1, 1) := by decide +kernel
theorem dX5_dayOn_86 : decode cX5_dayOn 86 = .ok (.aload_n 0, 1) := by decide +kernel
theorem dX5_dayOn_87 : decode cX5_dayOn 87 = .ok (.getfield 95, 3) := by decide +kernel
theorem dX5_dayOn_90 : decode cX5_dayOn 90 = .ok (.if_icmp .ge 21, 3) := by decide +kernel
theorem dX5_dayOn_93 : decode cX5_dayOn 93 = .ok (.aload_n 0, 1) := by decide +kernel
theorem dX5_dayOn_94 : decode cX5_dayOn 94 = .ok (.getfield 56, 3) := by decide +kernel
theorem dX5_dayOn_97 : decode cX5_dayOn 97 = .ok (.ifCond .le 14, 3) := by decide +kernel
theorem dX5_dayOn_100 : decode cX5_dayOn 100 = .ok (.aload_n 0, 1) := by decide +kernel
theorem dX5_dayOn_101 : decode cX5_dayOn 101 = .ok (.iload_n 1, 1) := by decide +kernel
theorem dX5_dayOn_102 : decode cX5_dayOn 102 = .ok (.invokevirtual 161, 3) := by decide +kernel
theorem dX5_dayOn_105 : decode cX5_dayOn 105 = .ok (.iinc 1 1, 3) := by decide +kernel
theorem dX5_dayOn_108 : decode cX5_dayOn 108 = .ok (.goto (-23), 3) := by decide +kernel
theorem dX5_dayOn_111 : decode cX5_dayOn 111 = .ok (.return_, 1) := by decide +kernel
set_option maxRecDepth 20000 in
theorem ggX5_pass_X5_isIn : GoodIn wsX5_pass wsX5_isIn := goodIn_r _ [6] (by decide +kernel) (by decide +kernel)
set_option maxRecDepth 20000 in
theorem gX5_pass_X5_isIn : GoodIn wsX5_pass (va_wsS RX5 59 yX5_isIn wsX5_isIn) := goodIn_app (goodIn_of _ (by decide +kernel)) ggX5_pass_X5_isIn
set_option maxRecDepth 20000 in
theorem ggX5_pass_X5_fail : GoodIn wsX5_pass wsX5_fail := goodIn_r _ [10, 1, 85, 86, 87, 88, 89, 90, 91, 92, 93, 94, 95, 96, 97, 98, 99, 100, 101, 102, 103] (by decide +kernel) (by decide +kernel)
set_option maxRecDepth 20000 in
theorem gX5_pass_X5_fail : GoodIn wsX5_pass (wsV RX5 92 RX5 yX5_fail wsX5_fail) := goodIn_app (goodIn_of _ (by decide +kernel)) ggX5_pass_X5_fail
set_option maxRecDepth 20000 in
theorem ggX5_pass_X5_all : GoodIn wsX5_pass wsX5_all := goodIn_r _ [14, 15, 16, 17, 5, 18, 19, 20, 21, 22, 23, 24, 25, 26, 85, 86, 87, 88, 89, 90, 91, 92, 93, 94, 95, 96, 97, 98, 99, 100, 101, 102, 103] (by decide +kernel) (by decide +kernel)
set_option maxRecDepth 20000 in
theorem gX5_pass_X5_all : GoodIn wsX5_pass (wsV RX5 155 RX5 yX5_all wsX5_all) := goodIn_app (goodIn_of _ (by decide +kernel)) ggX5_pass_X5_all
set_option maxRecDepth 20000 in
theorem ggX5_pass_X5_dayOn : GoodIn wsX5_pass wsX5_dayOn := goodIn_r _ [30, 24, 26, 31, 32, 33, 34, 35, 36, 37, 38, 39, 40, 5, 41, 42, 43, 44, 45, 46, 47, 48, 49, 50, 51, 52, 53, 54, 55, 56, 57, 58, 59, 60, 61, 3, 4, 6, 62, 63, 64, 65, 66, 67, 68, 69, 70, 71, 25, 72, 73, 74, 75, 76, 77, 78, 79, 80, 81, 82, 83, 84, 19, 85, 86, 87, 88, 89, 90, 91, 92, 93, 94, 95, 96, 97, 98, 99, 100, 101, 102, 103] (by decide +kernel) (by decide +kernel)
set_option maxRecDepth 20000 in
theorem gX5_pass_X5_dayOn : GoodIn wsX5_pass (wsV RX5 165 RX5 yX5_dayOn wsX5_dayOn) := goodIn_app (goodIn_of _ (by decide +kernel)) ggX5_pass_X5_dayOn
theorem dX5_pass_0 : decode cX5_pass 0 = .ok (.aload_n 0, 1) := by decide +kernel
theorem dX5_pass_1 : decode cX5_pass 1 = .ok (.iconst 0, 1) := by decide +kernel
theorem dX5_pass_2 : decode cX5_pass 2 = .ok (.putfield 53, 3) := by decide +kernel
theorem dX5_pass_5 : decode cX5_pass 5 = .ok (.iload_n 1, 1) := by decide +kernel
theorem dX5_pass_6 : decode cX5_pass 6 = .ok (.iconst 1, 1) := by decide +kernel
theorem dX5_pass_7 : decode cX5_pass 7 = .ok (.bipush 60, 2) := by decide +kernel
theorem dX5_pass_9 : decode cX5_pass 9 = .ok (.invokestatic 59, 3) := by decide +kernel
theorem dX5_pass_12 : decode cX5_pass 12 = .ok (.ifCond .ne 9, 3) := by decide +kernel
theorem dX5_pass_15 : decode cX5_pass 15 = .ok (.aload_n 0, 1) := by decide +kernel
theorem dX5_pass_16 : decode cX5_pass 16 = .ok (.iconst 1, 1) := by decide +kernel
theorem dX5_pass_17 : decode cX5_pass 17 = .ok (.invokevirtual 92, 3) := by decide +kernel
theorem dX5_pass_20 : decode cX5_pass 20 = .ok (.ireturn, 1) := by decide +kernel
theorem dX5_pass_21 : decode cX5_pass 21 = .ok (.aload_n 0, 1) := by decide +kernel
theorem dX5_pass_22 : decode cX5_pass 22 = .ok (.iconst 1, 1) := by decide +kernel
theorem dX5_pass_23 : decode cX5_pass 23 = .ok (.invokevirtual 155, 3) := by decide +kernel
theorem dX5_pass_26 : decode cX5_pass 26 = .ok (.istore_n 2, 1) := by decide +kernel
theorem dX5_pass_27 : decode cX5_pass 27 = .ok (.iconst 0, 1) := by decide +kernel
theorem dX5_pass_28 : decode cX5_pass 28 = .ok (.istore_n 3, 1) := by decide +kernel
theorem dX5_pass_29 : decode cX5_pass 29 = .ok (.iload_n 3, 1) := by decide +kernel
theorem dX5_pass_30 : decode cX5_pass 30 = .ok (.iload_n 1, 1) := by decide +kernel
theorem dX5_pass_31 : decode cX5_pass 31 = .ok (.if_icmp .ge 13, 3) := by decide +kernel
theorem dX5_pass_34 : decode cX5_pass 34 = .ok (.aload_n 0, 1) := by decide +kernel
theorem dX5_pass_35 : decode cX5_pass 35 = .ok (.invokevirtual 165, 3) := by decide +kernel
theorem dX5_pass_38 : decode cX5_pass 38 = .ok (.iinc 3 1, 3) := by decide +kernel
theorem dX5_pass_41 : decode cX5_pass 41 = .ok (.goto (-12), 3) := by decide +kernel
theorem dX5_pass_44 : decode cX5_pass 44 = .ok (.aload_n 0, 1) := by decide +kernel
theorem dX5_pass_45 : decode cX5_pass 45 = .ok (.dup, 1) := by decide +kernel
theorem dX5_pass_46 : decode cX5_pass 46 = .ok (.getfield 152, 3) := by decide +kernel
theorem dX5_pass_49 : decode cX5_pass 49 = .ok (.iload_n 1, 1) := by decide +kernel
theorem dX5_pass_50 : decode cX5_pass 50 = .ok (.iadd, 1) := by decide +kernel
theorem dX5_pass_51 : decode cX5_pass 51 = .ok (.putfield 152, 3) := by decide +kernel
theorem dX5_pass_54 : decode cX5_pass 54 = .ok (.aload_n 0, 1) := by decide +kernel
theorem dX5_pass_55 : decode cX5_pass 55 = .ok (.iconst 1, 1) := by decide +kernel
theorem dX5_pass_56 : decode cX5_pass 56 = .ok (.invokevirtual 155, 3) := by decide +kernel
theorem dX5_pass_59 : decode cX5_pass 59 = .ok (.iload_n 2, 1) := by decide +kernel
theorem dX5_pass_60 : decode cX5_pass 60 = .ok (.isub, 1) := by decide +kernel
theorem dX5_pass_61 : decode cX5_pass 61 = .ok (.ireturn, 1) := by decide +kernel
set_option maxRecDepth 20000 in
theorem ggX5_until_X5_isPile : GoodIn wsX5_until wsX5_isPile := goodIn_r _ [6, 7, 8, 9, 5, 10, 98, 99, 100, 101, 102, 103, 104, 105, 106, 107, 108, 109, 110, 111, 112, 113, 114, 115, 116] (by decide +kernel) (by decide +kernel)
set_option maxRecDepth 20000 in
theorem gX5_until_X5_isPile : GoodIn wsX5_until (wsV RX5 105 RX5 yX5_isPile wsX5_isPile) := goodIn_app (goodIn_of _ (by decide +kernel)) ggX5_until_X5_isPile
set_option maxRecDepth 20000 in
theorem ggX5_until_X5_fail : GoodIn wsX5_until wsX5_fail := goodIn_r _ [14, 1, 98, 99, 100, 101, 102, 103, 104, 105, 106, 107, 108, 109, 110, 111, 112, 113, 114, 115, 116] (by decide +kernel) (by decide +kernel)
set_option maxRecDepth 20000 in
theorem gX5_until_X5_fail : GoodIn wsX5_until (wsV RX5 92 RX5 yX5_fail wsX5_fail) := goodIn_app (goodIn_of _ (by decide +kernel)) ggX5_until_X5_fail
set_option maxRecDepth 20000 in
theorem ggX5_until_X5_keep : GoodIn wsX5_until wsX5_keep := goodIn_r _ [18, 19, 20, 21, 22, 23, 24, 25, 26, 27, 28, 29, 30, 31, 32, 98, 99, 100, 101, 102, 103, 104, 105, 106, 107, 108, 109, 110, 111, 112, 113, 114, 115, 116] (by decide +kernel) (by decide +kernel)
set_option maxRecDepth 20000 in
theorem gX5_until_X5_keep : GoodIn wsX5_until (wsV RX5 168 RX5 yX5_keep wsX5_keep) := goodIn_app (goodIn_of _ (by decide +kernel)) ggX5_until_X5_keep
set_option maxRecDepth 20000 in
theorem ggX5_until_X5_rusty : GoodIn wsX5_until wsX5_rusty := goodIn_r _ [36, 19, 37, 38, 39, 40, 5, 41, 25, 98, 99, 100, 101, 102, 103, 104, 105, 106, 107, 108, 109, 110, 111, 112, 113, 114, 115, 116] (by decide +kernel) (by decide +kernel)
set_option maxRecDepth 20000 in
theorem gX5_until_X5_rusty : GoodIn wsX5_until (wsV RX5 134 RX5 yX5_rusty wsX5_rusty) := goodIn_app (goodIn_of _ (by decide +kernel)) ggX5_until_X5_rusty
set_option maxRecDepth 20000 in
theorem ggX5_until_X5_dayOn : GoodIn wsX5_until wsX5_dayOn := goodIn_r _ [45, 7, 19, 46, 25, 47, 48, 49, 50, 51, 52, 53, 54, 5, 55, 56, 57, 58, 59, 60, 61, 62, 63, 64, 65, 66, 67, 68, 69, 70, 71, 72, 73, 74, 75, 8, 9, 10, 38, 39, 40, 41, 76, 77, 78, 79, 29, 80, 81, 31, 82, 83, 84, 85, 86, 87, 88, 89, 90, 91, 92, 93, 27, 98, 99, 100, 101, 102, 103, 104, 105, 106, 107, 108, 109, 110, 111, 112, 113, 114, 115, 116] (by decide +kernel) (by decide +kernel)
set_option maxRecDepth 20000 in
theorem gX5_until_X5_dayOn : GoodIn wsX5_until (wsV RX5 165 RX5 yX5_dayOn wsX5_dayOn) := goodIn_app (goodIn_of _ (by decide +kernel)) ggX5_until_X5_dayOn
set_option maxRecDepth 20000 in
theorem ggX5_until_X5_bringBack : GoodIn wsX5_until wsX5_bringBack := goodIn_r _ [97, 20, 19, 21, 22, 23, 24, 26, 25, 28, 27, 30, 29, 32, 31, 98, 99, 100, 101, 102, 103, 104, 105, 106, 107, 108, 109, 110, 111, 112, 113, 114, 115, 116] (by decide +kernel) (by decide +kernel)
set_option maxRecDepth 20000 in
theorem gX5_until_X5_bringBack : GoodIn wsX5_until (wsV RX5 171 RX5 yX5_bringBack wsX5_bringBack) := goodIn_app (goodIn_of _ (by decide +kernel)) ggX5_until_X5_bringBack
theorem dX5_until_0 : decode cX5_until 0 = .ok (.aload_n 0, 1) := by decide +kernel
theorem dX5_until_1 : decode cX5_until 1 = .ok (.iconst 0, 1) := by decide +kernel
theorem dX5_until_2 : decode cX5_until 2 = .ok (.putfield 53, 3) := by decide +kernel
theorem dX5_until_5 : decode cX5_until 5 = .ok (.aload_n 0, 1) := by decide +kernel
theorem dX5_until_6 : decode cX5_until 6 = .ok (.iload_n 1, 1) := by decide +kernel
theorem dX5_until_7 : decode cX5_until 7 = .ok (.invokevirtual 105, 3) := by decide +kernel
theorem dX5_until_10 : decode cX5_until 10 = .ok (.ifCond .ne 9, 3) := by decide +kernel
theorem dX5_until_13 : decode cX5_until 13 = .ok (.aload_n 0, 1) := by decide +kernel
theorem dX5_until_14 : decode cX5_until 14 = .ok (.iconst 1, 1) := by decide +kernel
theorem dX5_until_15 : decode cX5_until 15 = .ok (.invokevirtual 92, 3) := by decide +kernel
theorem dX5_until_18 : decode cX5_until 18 = .ok (.ireturn, 1) := by decide +kernel
theorem dX5_until_19 : decode cX5_until 19 = .ok (.aload_n 0, 1) := by decide +kernel
theorem dX5_until_20 : decode cX5_until 20 = .ok (.invokevirtual 168, 3) := by decide +kernel
theorem dX5_until_23 : decode cX5_until 23 = .ok (.iconst 0, 1) := by decide +kernel
theorem dX5_until_24 : decode cX5_until 24 = .ok (.istore_n 2, 1) := by decide +kernel
theorem dX5_until_25 : decode cX5_until 25 = .ok (.iload_n 2, 1) := by decide +kernel
theorem dX5_until_26 : decode cX5_until 26 = .ok (.bipush 40, 2) := by decide +kernel
theorem dX5_until_28 : decode cX5_until 28 = .ok (.if_icmp .gt 21, 3) := by decide +kernel
theorem dX5_until_31 : decode cX5_until 31 = .ok (.aload_n 0, 1) := by decide +kernel
theorem dX5_until_32 : decode cX5_until 32 = .ok (.iload_n 1, 1) := by decide +kernel
theorem dX5_until_33 : decode cX5_until 33 = .ok (.invokevirtual 134, 3) := by decide +kernel
theorem dX5_until_36 : decode cX5_until 36 = .ok (.ifCond .ne 13, 3) := by decide +kernel
theorem dX5_until_39 : decode cX5_until 39 = .ok (.aload_n 0, 1) := by decide +kernel
theorem dX5_until_40 : decode cX5_until 40 = .ok (.invokevirtual 165, 3) := by decide +kernel
theorem dX5_until_43 : decode cX5_until 43 = .ok (.iinc 2 1, 3) := by decide +kernel
theorem dX5_until_46 : decode cX5_until 46 = .ok (.goto (-21), 3) := by decide +kernel
theorem dX5_until_49 : decode cX5_until 49 = .ok (.aload_n 0, 1) := by decide +kernel
theorem dX5_until_50 : decode cX5_until 50 = .ok (.invokevirtual 171, 3) := by decide +kernel
theorem dX5_until_53 : decode cX5_until 53 = .ok (.iload_n 2, 1) := by decide +kernel
theorem dX5_until_54 : decode cX5_until 54 = .ok (.bipush 40, 2) := by decide +kernel
theorem dX5_until_56 : decode cX5_until 56 = .ok (.if_icmp .le 7, 3) := by decide +kernel
theorem dX5_until_59 : decode cX5_until 59 = .ok (.iconst (-1), 1) := by decide +kernel
theorem dX5_until_60 : decode cX5_until 60 = .ok (.goto 4, 3) := by decide +kernel
theorem dX5_until_63 : decode cX5_until 63 = .ok (.iload_n 2, 1) := by decide +kernel
theorem dX5_until_64 : decode cX5_until 64 = .ok (.ireturn, 1) := by decide +kernel
set_option maxRecDepth 20000 in
theorem ggX5_foresee_X5_isIn : GoodIn wsX5_foresee wsX5_isIn := goodIn_r _ [5] (by decide +kernel) (by decide +kernel)
set_option maxRecDepth 20000 in
theorem gX5_foresee_X5_isIn : GoodIn wsX5_foresee (va_wsS RX5 59 yX5_isIn wsX5_isIn) := goodIn_app (goodIn_of _ (by decide +kernel)) ggX5_foresee_X5_isIn
set_option maxRecDepth 20000 in
theorem ggX5_foresee_X5_fail : GoodIn wsX5_foresee wsX5_fail := goodIn_r _ [9, 1, 111, 112, 113, 114, 115, 116, 117, 118, 119, 120, 121, 122, 123, 124, 125, 126, 127, 128, 129] (by decide +kernel) (by decide +kernel)
set_option maxRecDepth 20000 in
theorem gX5_foresee_X5_fail : GoodIn wsX5_foresee (wsV RX5 92 RX5 yX5_fail wsX5_fail) := goodIn_app (goodIn_of _ (by decide +kernel)) ggX5_foresee_X5_fail
set_option maxRecDepth 20000 in
theorem ggX5_foresee_X5_keep : GoodIn wsX5_foresee wsX5_keep := goodIn_r _ [13, 14, 15, 16, 17, 18, 19, 20, 21, 22, 23, 24, 25, 26, 27, 111, 112, 113, 114, 115, 116, 117, 118, 119, 120, 121, 122, 123, 124, 125, 126, 127, 128, 129] (by decide +kernel) (by decide +kernel)
set_option maxRecDepth 20000 in
theorem gX5_foresee_X5_keep : GoodIn wsX5_foresee (wsV RX5 168 RX5 yX5_keep wsX5_keep) := goodIn_app (goodIn_of _ (by decide +kernel)) ggX5_foresee_X5_keep
set_option maxRecDepth 20000 in
theorem ggX5_foresee_X5_dayOn : GoodIn wsX5_foresee wsX5_dayOn := goodIn_r _ [31, 32, 14, 33, 20, 34, 35, 36, 37, 38, 39, 40, 41, 4, 42, 43, 44, 45, 46, 47, 48, 49, 50, 51, 52, 53, 54, 55, 56, 57, 58, 59, 60, 61, 62, 2, 3, 5, 63, 64, 65, 66, 67, 68, 69, 70, 24, 71, 72, 26, 73, 74, 75, 76, 77, 78, 79, 80, 81, 82, 83, 84, 22, 111, 112, 113, 114, 115, 116, 117, 118, 119, 120, 121, 122, 123, 124, 125, 126, 127, 128, 129] (by decide +kernel) (by decide +kernel)
set_option maxRecDepth 20000 in
theorem gX5_foresee_X5_dayOn : GoodIn wsX5_foresee (wsV RX5 165 RX5 yX5_dayOn wsX5_dayOn) := goodIn_app (goodIn_of _ (by decide +kernel)) ggX5_foresee_X5_dayOn
set_option maxRecDepth 20000 in
theorem ggX5_foresee_X5_counted : GoodIn wsX5_foresee wsX5_counted := goodIn_r _ [88, 89, 32, 38, 33, 90, 91, 92, 93, 4, 94, 95, 96, 97, 98, 22, 99, 100, 101, 102, 72, 14, 103, 104, 105, 106, 63, 64, 65, 66, 20, 111, 112, 113, 114, 115, 116, 117, 118, 119, 120, 121, 122, 123, 124, 125, 126, 127, 128, 129] (by decide +kernel) (by decide +kernel)
set_option maxRecDepth 20000 in
theorem gX5_foresee_X5_counted : GoodIn wsX5_foresee (wsV RX5 158 RX5 yX5_counted wsX5_counted) := goodIn_app (goodIn_of _ (by decide +kernel)) ggX5_foresee_X5_counted
set_option maxRecDepth 20000 in
theorem ggX5_foresee_X5_bringBack : GoodIn wsX5_foresee wsX5_bringBack := goodIn_r _ [110, 15, 14, 16, 17, 18, 19, 21, 20, 23, 22, 25, 24, 27, 26, 111, 112, 113, 114, 115, 116, 117, 118, 119, 120, 121, 122, 123, 124, 125, 126, 127, 128, 129] (by decide +kernel) (by decide +kernel)
set_option maxRecDepth 20000 in
theorem gX5_foresee_X5_bringBack : GoodIn wsX5_foresee (wsV RX5 171 RX5 yX5_bringBack wsX5_bringBack) := goodIn_app (goodIn_of _ (by decide +kernel)) ggX5_foresee_X5_bringBack
theorem dX5_foresee_0 : decode cX5_foresee 0 = .ok (.aload_n 0, 1) := by decide +kernel
theorem dX5_foresee_1 : decode cX5_foresee 1 = .ok (.iconst 0, 1) := by decide +kernel
theorem dX5_foresee_2 : decode cX5_foresee 2 = .ok (.putfield 53, 3) := by decide +kernel
theorem dX5_foresee_5 : decode cX5_foresee 5 = .ok (.iload_n 1, 1) := by decide +kernel
theorem dX5_foresee_6 : decode cX5_foresee 6 = .ok (.iconst 1, 1) := by decide +kernel
theorem dX5_foresee_7 : decode cX5_foresee 7 = .ok (.bipush 30, 2) := by decide +kernel
theorem dX5_foresee_9 : decode cX5_foresee 9 = .ok (.invokestatic 59, 3) := by decide +kernel
theorem dX5_foresee_12 : decode cX5_foresee 12 = .ok (.ifCond .ne 9, 3) := by decide +kernel
theorem dX5_foresee_15 : decode cX5_foresee 15 = .ok (.aload_n 0, 1) := by decide +kernel
theorem dX5_foresee_16 : decode cX5_foresee 16 = .ok (.iconst 1, 1) := by decide +kernel
theorem dX5_foresee_17 : decode cX5_foresee 17 = .ok (.invokevirtual 92, 3) := by decide +kernel
theorem dX5_foresee_20 : decode cX5_foresee 20 = .ok (.ireturn, 1) := by decide +kernel
theorem dX5_foresee_21 : decode cX5_foresee 21 = .ok (.iload_n 2, 1) := by decide +kernel
theorem dX5_foresee_22 : decode cX5_foresee 22 = .ok (.iconst 4, 1) := by decide +kernel
theorem dX5_foresee_23 : decode cX5_foresee 23 = .ok (.bipush 6, 2) := by decide +kernel
theorem dX5_foresee_25 : decode cX5_foresee 25 = .ok (.invokestatic 59, 3) := by decide +kernel
theorem dX5_foresee_28 : decode cX5_foresee 28 = .ok (.ifCond .ne 9, 3) := by decide +kernel
theorem dX5_foresee_31 : decode cX5_foresee 31 = .ok (.aload_n 0, 1) := by decide +kernel
theorem dX5_foresee_32 : decode cX5_foresee 32 = .ok (.iconst 2, 1) := by decide +kernel
theorem dX5_foresee_33 : decode cX5_foresee 33 = .ok (.invokevirtual 92, 3) := by decide +kernel
theorem dX5_foresee_36 : decode cX5_foresee 36 = .ok (.ireturn, 1) := by decide +kernel
theorem dX5_foresee_37 : decode cX5_foresee 37 = .ok (.aload_n 0, 1) := by decide +kernel
theorem dX5_foresee_38 : decode cX5_foresee 38 = .ok (.invokevirtual 168, 3) := by decide +kernel
theorem dX5_foresee_41 : decode cX5_foresee 41 = .ok (.iconst 0, 1) := by decide +kernel
theorem dX5_foresee_42 : decode cX5_foresee 42 = .ok (.istore_n 3, 1) := by decide +kernel
theorem dX5_foresee_43 : decode cX5_foresee 43 = .ok (.iload_n 3, 1) := by decide +kernel
theorem dX5_foresee_44 : decode cX5_foresee 44 = .ok (.iload_n 1, 1) := by decide +kernel
theorem dX5_foresee_45 : decode cX5_foresee 45 = .ok (.if_icmp .ge 13, 3) := by decide +kernel
theorem dX5_foresee_48 : decode cX5_foresee 48 = .ok (.aload_n 0, 1) := by decide +kernel
theorem dX5_foresee_49 : decode cX5_foresee 49 = .ok (.invokevirtual 165, 3) := by decide +kernel
theorem dX5_foresee_52 : decode cX5_foresee 52 = .ok (.iinc 3 1, 3) := by decide +kernel
theorem dX5_foresee_55 : decode cX5_foresee 55 = .ok (.goto (-12), 3) := by decide +kernel
theorem dX5_foresee_58 : decode cX5_foresee 58 = .ok (.aload_n 0, 1) := by decide +kernel
theorem dX5_foresee_59 : decode cX5_foresee 59 = .ok (.iload_n 2, 1) := by decide +kernel
theorem dX5_foresee_60 : decode cX5_foresee 60 = .ok (.invokevirtual 158, 3) := by decide +kernel
theorem dX5_foresee_63 : decode cX5_foresee 63 = .ok (.istore_n 3, 1) := by decide +kernel
theorem dX5_foresee_64 : decode cX5_foresee 64 = .ok (.aload_n 0, 1) := by decide +kernel
theorem dX5_foresee_65 : decode cX5_foresee 65 = .ok (.invokevirtual 171, 3) := by decide +kernel
theorem dX5_foresee_68 : decode cX5_foresee 68 = .ok (.iload_n 3, 1) := by decide +kernel
theorem dX5_foresee_69 : decode cX5_foresee 69 = .ok (.ireturn, 1) := by decide +kernel
set_option maxRecDepth 20000 in
theorem ggX5_would_X5_isPile : GoodIn wsX5_would wsX5_isPile := goodIn_r _ [7, 8, 9, 10, 6, 11, 38, 39, 40, 41, 42, 43, 44, 45, 46, 47, 48, 49, 50, 51, 52, 53, 54, 55, 56] (by decide +kernel) (by decide +kernel)
set_option maxRecDepth 20000 in
theorem gX5_would_X5_isPile : GoodIn wsX5_would (wsV RX5 105 RX5 yX5_isPile wsX5_isPile) := goodIn_app (goodIn_of _ (by decide +kernel)) ggX5_would_X5_isPile
set_option maxRecDepth 20000 in
theorem ggX5_would_X5_rusty : GoodIn wsX5_would wsX5_rusty := goodIn_r _ [15, 2, 16, 17, 18, 19, 6, 20, 21, 38, 39, 40, 41, 42, 43, 44, 45, 46, 47, 48, 49, 50, 51, 52, 53, 54, 55, 56] (by decide +kernel) (by decide +kernel)
set_option maxRecDepth 20000 in
theorem gX5_would_X5_rusty : GoodIn wsX5_would (wsV RX5 134 RX5 yX5_rusty wsX5_rusty) := goodIn_app (goodIn_of _ (by decide +kernel)) ggX5_would_X5_rusty
set_option maxRecDepth 20000 in
theorem ggX5_would_X5_layers : GoodIn wsX5_would wsX5_layers := goodIn_r _ [25, 26, 27, 28, 6, 29, 30, 31, 32, 33, 38, 39, 40, 41, 42, 43, 44, 45, 46, 47, 48, 49, 50, 51, 52, 53, 54, 55, 56] (by decide +kernel) (by decide +kernel)
set_option maxRecDepth 20000 in
theorem gX5_would_X5_layers : GoodIn wsX5_would (wsV RX5 129 RX5 yX5_layers wsX5_layers) := goodIn_app (goodIn_of _ (by decide +kernel)) ggX5_would_X5_layers
set_option maxRecDepth 20000 in
theorem ggX5_would_X5_fail : GoodIn wsX5_would wsX5_fail := goodIn_r _ [37, 1, 38, 39, 40, 41, 42, 43, 44, 45, 46, 47, 48, 49, 50, 51, 52, 53, 54, 55, 56] (by decide +kernel) (by decide +kernel)
set_option maxRecDepth 20000 in
theorem gX5_would_X5_fail : GoodIn wsX5_would (wsV RX5 92 RX5 yX5_fail wsX5_fail) := goodIn_app (goodIn_of _ (by decide +kernel)) ggX5_would_X5_fail
theorem dX5_would_0 : decode cX5_would 0 = .ok (.aload_n 0, 1) := by decide +kernel
theorem dX5_would_1 : decode cX5_would 1 = .ok (.iconst 0, 1) := by decide +kernel
theorem dX5_would_2 : decode cX5_would 2 = .ok (.putfield 53, 3) := by decide +kernel
theorem dX5_would_5 : decode cX5_would 5 = .ok (.aload_n 0, 1) := by decide +kernel
theorem dX5_would_6 : decode cX5_would 6 = .ok (.iload_n 1, 1) := by decide +kernel
theorem dX5_would_7 : decode cX5_would 7 = .ok (.invokevirtual 105, 3) := by decide +kernel
theorem dX5_would_10 : decode cX5_would 10 = .ok (.ifCond .eq 23, 3) := by decide +kernel
theorem dX5_would_13 : decode cX5_would 13 = .ok (.aload_n 0, 1) := by decide +kernel
theorem dX5_would_14 : decode cX5_would 14 = .ok (.iload_n 1, 1) := by decide +kernel
theorem dX5_would_15 : decode cX5_would 15 = .ok (.aload_n 0, 1) := by decide +kernel
theorem dX5_would_16 : decode cX5_would 16 = .ok (.getfield 23, 3) := by decide +kernel
theorem dX5_would_19 : decode cX5_would 19 = .ok (.iload_n 1, 1) := by decide +kernel
theorem dX5_would_20 : decode cX5_would 20 = .ok (.iaload, 1) := by decide +kernel
theorem dX5_would_21 : decode cX5_would 21 = .ok (.aload_n 0, 1) := by decide +kernel
theorem dX5_would_22 : decode cX5_would 22 = .ok (.iload_n 1, 1) := by decide +kernel
theorem dX5_would_23 : decode cX5_would 23 = .ok (.invokevirtual 134, 3) := by decide +kernel
theorem dX5_would_26 : decode cX5_would 26 = .ok (.isub, 1) := by decide +kernel
theorem dX5_would_27 : decode cX5_would 27 = .ok (.invokevirtual 129, 3) := by decide +kernel
theorem dX5_would_30 : decode cX5_would 30 = .ok (.goto 8, 3) := by decide +kernel
theorem dX5_would_33 : decode cX5_would 33 = .ok (.aload_n 0, 1) := by decide +kernel
theorem dX5_would_34 : decode cX5_would 34 = .ok (.iconst 1, 1) := by decide +kernel
theorem dX5_would_35 : decode cX5_would 35 = .ok (.invokevirtual 92, 3) := by decide +kernel
theorem dX5_would_38 : decode cX5_would 38 = .ok (.ireturn, 1) := by decide +kernel
set_option maxRecDepth 20000 in
theorem ggX5_advise_X5_rusty : GoodIn wsX5_advise wsX5_rusty := goodIn_r _ [8, 3, 9, 10, 11, 12, 7, 13, 14, 15, 16, 17, 18, 19, 20, 21, 22, 23, 24, 25, 26, 27, 28, 29, 30, 31, 32, 33] (by decide +kernel) (by decide +kernel)
set_option maxRecDepth 20000 in
theorem gX5_advise_X5_rusty : GoodIn wsX5_advise (wsV RX5 134 RX5 yX5_rusty wsX5_rusty) := goodIn_app (goodIn_of _ (by decide +kernel)) ggX5_advise_X5_rusty
theorem dX5_advise_0 : decode cX5_advise 0 = .ok (.aload_n 0, 1) := by decide +kernel
theorem dX5_advise_1 : decode cX5_advise 1 = .ok (.iconst 0, 1) := by decide +kernel
theorem dX5_advise_2 : decode cX5_advise 2 = .ok (.putfield 53, 3) := by decide +kernel
theorem dX5_advise_5 : decode cX5_advise 5 = .ok (.iconst (-1), 1) := by decide +kernel
theorem dX5_advise_6 : decode cX5_advise 6 = .ok (.istore_n 1, 1) := by decide +kernel
theorem dX5_advise_7 : decode cX5_advise 7 = .ok (.iconst 0, 1) := by decide +kernel
theorem dX5_advise_8 : decode cX5_advise 8 = .ok (.istore_n 2, 1) := by decide +kernel
theorem dX5_advise_9 : decode cX5_advise 9 = .ok (.iconst 0, 1) := by decide +kernel
theorem dX5_advise_10 : decode cX5_advise 10 = .ok (.istore_n 3, 1) := by decide +kernel
theorem dX5_advise_11 : decode cX5_advise 11 = .ok (.iload_n 3, 1) := by decide +kernel
theorem dX5_advise_12 : decode cX5_advise 12 = .ok (.aload_n 0, 1) := by decide +kernel
theorem dX5_advise_13 : decode cX5_advise 13 = .ok (.getfield 56, 3) := by decide +kernel
theorem dX5_advise_16 : decode cX5_advise 16 = .ok (.if_icmp .ge 56, 3) := by decide +kernel
theorem dX5_advise_19 : decode cX5_advise 19 = .ok (.aload_n 0, 1) := by decide +kernel
theorem dX5_advise_20 : decode cX5_advise 20 = .ok (.iload_n 3, 1) := by decide +kernel
theorem dX5_advise_21 : decode cX5_advise 21 = .ok (.invokevirtual 134, 3) := by decide +kernel
theorem dX5_advise_24 : decode cX5_advise 24 = .ok (.istore 4, 2) := by decide +kernel
theorem dX5_advise_26 : decode cX5_advise 26 = .ok (.iload 4, 2) := by decide +kernel
theorem dX5_advise_28 : decode cX5_advise 28 = .ok (.ifCond .eq 38, 3) := by decide +kernel
theorem dX5_advise_31 : decode cX5_advise 31 = .ok (.iload 4, 2) := by decide +kernel
theorem dX5_advise_33 : decode cX5_advise 33 = .ok (.iload_n 2, 1) := by decide +kernel
theorem dX5_advise_34 : decode cX5_advise 34 = .ok (.if_icmp .lt 32, 3) := by decide +kernel
theorem dX5_advise_37 : decode cX5_advise 37 = .ok (.iload 4, 2) := by decide +kernel
theorem dX5_advise_39 : decode cX5_advise 39 = .ok (.iload_n 2, 1) := by decide +kernel
theorem dX5_advise_40 : decode cX5_advise 40 = .ok (.if_icmp .ne 21, 3) := by decide +kernel
theorem dX5_advise_43 : decode cX5_advise 43 = .ok (.aload_n 0, 1) := by decide +kernel
theorem dX5_advise_44 : decode cX5_advise 44 = .ok (.getfield 23, 3) := by decide +kernel
theorem dX5_advise_47 : decode cX5_advise 47 = .ok (.iload_n 3, 1) := by decide +kernel
theorem dX5_advise_48 : decode cX5_advise 48 = .ok (.iaload, 1) := by decide +kernel
theorem dX5_advise_49 : decode cX5_advise 49 = .ok (.aload_n 0, 1) := by decide +kernel
theorem dX5_advise_50 : decode cX5_advise 50 = .ok (.getfield 23, 3) := by decide +kernel
theorem dX5_advise_53 : decode cX5_advise 53 = .ok (.iload_n 1, 1) := by decide +kernel
theorem dX5_advise_54 : decode cX5_advise 54 = .ok (.iaload, 1) := by decide +kernel
theorem dX5_advise_55 : decode cX5_advise 55 = .ok (.if_icmp .lt 6, 3) := by decide +kernel
theorem dX5_advise_58 : decode cX5_advise 58 = .ok (.goto 8, 3) := by decide +kernel
theorem dX5_advise_61 : decode cX5_advise 61 = .ok (.iload_n 3, 1) := by decide +kernel
theorem dX5_advise_62 : decode cX5_advise 62 = .ok (.istore_n 1, 1) := by decide +kernel
theorem dX5_advise_63 : decode cX5_advise 63 = .ok (.iload 4, 2) := by decide +kernel
theorem dX5_advise_65 : decode cX5_advise 65 = .ok (.istore_n 2, 1) := by decide +kernel
theorem dX5_advise_66 : decode cX5_advise 66 = .ok (.iinc 3 1, 3) := by decide +kernel
theorem dX5_advise_69 : decode cX5_advise 69 = .ok (.goto (-58), 3) := by decide +kernel
theorem dX5_advise_72 : decode cX5_advise 72 = .ok (.iload_n 1, 1) := by decide +kernel
theorem dX5_advise_73 : decode cX5_advise 73 = .ok (.ireturn, 1) := by decide +kernel
set_option maxRecDepth 20000 in
theorem ggX5_mean_X5_pileTold : GoodIn wsX5_mean wsX5_pileTold := goodIn_r _ [7, 8, 9, 10, 11, 12, 13, 14, 15, 16, 6, 17, 18, 19, 20, 21, 22, 23, 24, 25, 26, 27, 28, 29, 30, 31, 32, 33, 34, 35, 36, 37, 38, 39, 40, 41, 42, 43, 44, 45, 46, 47, 48, 49, 50, 51, 52, 53, 54, 55, 56, 57, 58, 72, 73, 74, 75, 76, 77, 78, 79, 80, 81, 82, 83, 84, 85, 86, 87, 88, 89, 90] (by decide +kernel) (by decide +kernel)
set_option maxRecDepth 20000 in
theorem gX5_mean_X5_pileTold : GoodIn wsX5_mean (wsV RX5 140 RX5 yX5_pileTold wsX5_pileTold) := goodIn_app (goodIn_of _ (by decide +kernel)) ggX5_mean_X5_pileTold
set_option maxRecDepth 20000 in
theorem ggX5_mean_X5_all : GoodIn wsX5_mean wsX5_all := goodIn_r _ [62, 63, 64, 65, 6, 66, 67, 68, 69, 70, 71, 2, 8, 10, 72, 73, 74, 75, 76, 77, 78, 79, 80, 81, 82, 83, 84, 85, 86, 87, 88, 89, 90] (by decide +kernel) (by decide +kernel)
set_option maxRecDepth 20000 in
theorem gX5_mean_X5_all : GoodIn wsX5_mean (wsV RX5 155 RX5 yX5_all wsX5_all) := goodIn_app (goodIn_of _ (by decide +kernel)) ggX5_mean_X5_all
theorem dX5_mean_0 : decode cX5_mean 0 = .ok (.aload_n 0, 1) := by decide +kernel
theorem dX5_mean_1 : decode cX5_mean 1 = .ok (.iconst 0, 1) := by decide +kernel
theorem dX5_mean_2 : decode cX5_mean 2 = .ok (.putfield 53, 3) := by decide +kernel
theorem dX5_mean_5 : decode cX5_mean 5 = .ok (.iconst 0, 1) := by decide +kernel
theorem dX5_mean_6 : decode cX5_mean 6 = .ok (.istore_n 1, 1) := by decide +kernel
theorem dX5_mean_7 : decode cX5_mean 7 = .ok (.iconst 0, 1) := by decide +kernel
theorem dX5_mean_8 : decode cX5_mean 8 = .ok (.istore_n 2, 1) := by decide +kernel
theorem dX5_mean_9 : decode cX5_mean 9 = .ok (.iload_n 2, 1) := by decide +kernel
theorem dX5_mean_10 : decode cX5_mean 10 = .ok (.aload_n 0, 1) := by decide +kernel
theorem dX5_mean_11 : decode cX5_mean 11 = .ok (.getfield 56, 3) := by decide +kernel
theorem dX5_mean_14 : decode cX5_mean 14 = .ok (.if_icmp .ge 19, 3) := by decide +kernel
theorem dX5_mean_17 : decode cX5_mean 17 = .ok (.iload_n 1, 1) := by decide +kernel
theorem dX5_mean_18 : decode cX5_mean 18 = .ok (.aload_n 0, 1) := by decide +kernel
theorem dX5_mean_19 : decode cX5_mean 19 = .ok (.iload_n 2, 1) := by decide +kernel
theorem dX5_mean_20 : decode cX5_mean 20 = .ok (.bipush 9, 2) := by decide +kernel
theorem dX5_mean_22 : decode cX5_mean 22 = .ok (.invokevirtual 140, 3) := by decide +kernel
theorem dX5_mean_25 : decode cX5_mean 25 = .ok (.iadd, 1) := by decide +kernel
theorem dX5_mean_26 : decode cX5_mean 26 = .ok (.istore_n 1, 1) := by decide +kernel
theorem dX5_mean_27 : decode cX5_mean 27 = .ok (.iinc 2 1, 3) := by decide +kernel
theorem dX5_mean_30 : decode cX5_mean 30 = .ok (.goto (-21), 3) := by decide +kernel
theorem dX5_mean_33 : decode cX5_mean 33 = .ok (.aload_n 0, 1) := by decide +kernel
theorem dX5_mean_34 : decode cX5_mean 34 = .ok (.iconst 2, 1) := by decide +kernel
theorem dX5_mean_35 : decode cX5_mean 35 = .ok (.invokevirtual 155, 3) := by decide +kernel
theorem dX5_mean_38 : decode cX5_mean 38 = .ok (.ifCond .ne 7, 3) := by decide +kernel
theorem dX5_mean_41 : decode cX5_mean 41 = .ok (.dconst 0, 1) := by decide +kernel
theorem dX5_mean_42 : decode cX5_mean 42 = .ok (.goto 12, 3) := by decide +kernel
theorem dX5_mean_45 : decode cX5_mean 45 = .ok (.iload_n 1, 1) := by decide +kernel
theorem dX5_mean_46 : decode cX5_mean 46 = .ok (.i2d, 1) := by decide +kernel
theorem dX5_mean_47 : decode cX5_mean 47 = .ok (.aload_n 0, 1) := by decide +kernel
theorem dX5_mean_48 : decode cX5_mean 48 = .ok (.iconst 2, 1) := by decide +kernel
theorem dX5_mean_49 : decode cX5_mean 49 = .ok (.invokevirtual 155, 3) := by decide +kernel
theorem dX5_mean_52 : decode cX5_mean 52 = .ok (.i2d, 1) := by decide +kernel
theorem dX5_mean_53 : decode cX5_mean 53 = .ok (.ddiv, 1) := by decide +kernel
theorem dX5_mean_54 : decode cX5_mean 54 = .ok (.dreturn, 1) := by decide +kernel
set_option maxRecDepth 20000 in
theorem ggX5_digest_X5_counted : GoodIn wsX5_digest wsX5_counted := goodIn_r _ [11, 12, 4, 6, 13, 14, 15, 16, 17, 10, 18, 19, 20, 21, 22, 23, 24, 25, 26, 27, 28, 5, 29, 30, 31, 32, 33, 34, 35, 36, 37, 88, 89, 90, 91, 92, 93, 94, 95, 96, 97, 98, 99, 100, 101, 102, 103, 104, 105, 106] (by decide +kernel) (by decide +kernel)
set_option maxRecDepth 20000 in
theorem gX5_digest_X5_counted : GoodIn wsX5_digest (wsV RX5 158 RX5 yX5_counted wsX5_counted) := goodIn_app (goodIn_of _ (by decide +kernel)) ggX5_digest_X5_counted
set_option maxRecDepth 20000 in
theorem ggX5_digest_X5_calibreTold : GoodIn wsX5_digest wsX5_calibreTold := goodIn_r _ [22, 23, 24, 25, 26, 10, 27, 4, 28, 5, 88, 89, 90, 91, 92, 93, 94, 95, 96, 97, 98, 99, 100, 101, 102, 103, 104, 105, 106] (by decide +kernel) (by decide +kernel)
set_option maxRecDepth 20000 in
theorem gX5_digest_X5_calibreTold : GoodIn wsX5_digest (wsV RX5 146 RX5 yX5_calibreTold wsX5_calibreTold) := goodIn_app (goodIn_of _ (by decide +kernel)) ggX5_digest_X5_calibreTold
set_option maxRecDepth 20000 in
theorem ggX5_digest_X5_pileTold : GoodIn wsX5_digest wsX5_pileTold := goodIn_r _ [41, 28, 42, 5, 43, 44, 45, 46, 47, 48, 10, 49, 50, 51, 52, 53, 54, 55, 56, 57, 58, 59, 60, 61, 62, 63, 64, 65, 66, 67, 68, 69, 70, 71, 72, 73, 74, 75, 76, 77, 78, 79, 80, 29, 30, 31, 32, 14, 33, 34, 35, 36, 37, 88, 89, 90, 91, 92, 93, 94, 95, 96, 97, 98, 99, 100, 101, 102, 103, 104, 105, 106] (by decide +kernel) (by decide +kernel)
set_option maxRecDepth 20000 in
theorem gX5_digest_X5_pileTold : GoodIn wsX5_digest (wsV RX5 140 RX5 yX5_pileTold wsX5_pileTold) := goodIn_app (goodIn_of _ (by decide +kernel)) ggX5_digest_X5_pileTold
set_option maxRecDepth 20000 in
theorem ggX5_digest_X5_rustOf : GoodIn wsX5_digest wsX5_rustOf := goodIn_r _ [36, 37, 88, 89, 90, 91, 92, 93, 94, 95, 96, 97, 98, 99, 100, 101, 102, 103, 104, 105, 106] (by decide +kernel) (by decide +kernel)
set_option maxRecDepth 20000 in
theorem gX5_digest_X5_rustOf : GoodIn wsX5_digest (wsV RX5 118 RX5 yX5_rustOf wsX5_rustOf) := goodIn_app (goodIn_of _ (by decide +kernel)) ggX5_digest_X5_rustOf
set_option maxRecDepth 20000 in
theorem ggX5_digest_X5_catTold : GoodIn wsX5_digest wsX5_catTold := goodIn_r _ [84, 85, 86, 87, 88, 89, 90, 91, 92, 93, 94, 95, 96, 97, 98, 99, 100, 101, 102, 103, 104, 105, 106] (by decide +kernel) (by decide +kernel)
set_option maxRecDepth 20000 in
theorem gX5_digest_X5_catTold : GoodIn wsX5_digest (wsV RX5 149 RX5 yX5_catTold wsX5_catTold) := goodIn_app (goodIn_of _ (by decide +kernel)) ggX5_digest_X5_catTold
theorem dX5_digest_0 : decode cX5_digest 0 = .ok (.aload_n 0, 1) := by decide +kernel
theorem dX5_digest_1 : decode cX5_digest 1 = .ok (.iconst 0, 1) := by decide +kernel
theorem dX5_digest_2 : decode cX5_digest 2 = .ok (.putfield 53, 3) := by decide +kernel
theorem dX5_digest_5 : decode cX5_digest 5 = .ok (.ldc2_w 174, 3) := by decide +kernel
theorem dX5_digest_8 : decode cX5_digest 8 = .ok (.lstore_n 1, 1) := by decide +kernel
theorem dX5_digest_9 : decode cX5_digest 9 = .ok (.iconst 0, 1) := by decide +kernel
theorem dX5_digest_10 : decode cX5_digest 10 = .ok (.istore_n 3, 1) := by decide +kernel
theorem dX5_digest_11 : decode cX5_digest 11 = .ok (.iload_n 3, 1) := by decide +kernel
theorem dX5_digest_12 : decode cX5_digest 12 = .ok (.bipush 11, 2) := by decide +kernel
theorem dX5_digest_14 : decode cX5_digest 14 = .ok (.if_icmp .ge 22, 3) := by decide +kernel
theorem dX5_digest_17 : decode cX5_digest 17 = .ok (.lload_n 1, 1) := by decide +kernel
theorem dX5_digest_18 : decode cX5_digest 18 = .ok (.ldc2_w 176, 3) := by decide +kernel
theorem dX5_digest_21 : decode cX5_digest 21 = .ok (.lmul, 1) := by decide +kernel
theorem dX5_digest_22 : decode cX5_digest 22 = .ok (.aload_n 0, 1) := by decide +kernel
theorem dX5_digest_23 : decode cX5_digest 23 = .ok (.iload_n 3, 1) := by decide +kernel
theorem dX5_digest_24 : decode cX5_digest 24 = .ok (.invokevirtual 158, 3) := by decide +kernel
theorem dX5_digest_27 : decode cX5_digest 27 = .ok (.i2l, 1) := by decide +kernel
theorem dX5_digest_28 : decode cX5_digest 28 = .ok (.ladd, 1) := by decide +kernel
theorem dX5_digest_29 : decode cX5_digest 29 = .ok (.lstore_n 1, 1) := by decide +kernel
theorem dX5_digest_30 : decode cX5_digest 30 = .ok (.iinc 3 1, 3) := by decide +kernel
theorem dX5_digest_33 : decode cX5_digest 33 = .ok (.goto (-22), 3) := by decide +kernel
theorem dX5_digest_36 : decode cX5_digest 36 = .ok (.iconst 0, 1) := by decide +kernel
theorem dX5_digest_37 : decode cX5_digest 37 = .ok (.istore_n 3, 1) := by decide +kernel
theorem dX5_digest_38 : decode cX5_digest 38 = .ok (.iload_n 3, 1) := by decide +kernel
theorem dX5_digest_39 : decode cX5_digest 39 = .ok (.iconst 5, 1) := by decide +kernel
theorem dX5_digest_40 : decode cX5_digest 40 = .ok (.if_icmp .ge 39, 3) := by decide +kernel
theorem dX5_digest_43 : decode cX5_digest 43 = .ok (.iconst 0, 1) := by decide +kernel
theorem dX5_digest_44 : decode cX5_digest 44 = .ok (.istore 4, 2) := by decide +kernel
theorem dX5_digest_46 : decode cX5_digest 46 = .ok (.iload 4, 2) := by decide +kernel
theorem dX5_digest_48 : decode cX5_digest 48 = .ok (.iconst 5, 1) := by decide +kernel
theorem dX5_digest_49 : decode cX5_digest 49 = .ok (.if_icmp .ge 24, 3) := by decide +kernel
theorem dX5_digest_52 : decode cX5_digest 52 = .ok (.lload_n 1, 1) := by decide +kernel
theorem dX5_digest_53 : decode cX5_digest 53 = .ok (.ldc2_w 176, 3) := by decide +kernel
theorem dX5_digest_56 : decode cX5_digest 56 = .ok (.lmul, 1) := by decide +kernel
theorem dX5_digest_57 : decode cX5_digest 57 = .ok (.aload_n 0, 1) := by decide +kernel
theorem dX5_digest_58 : decode cX5_digest 58 = .ok (.iload_n 3, 1) := by decide +kernel
theorem dX5_digest_59 : decode cX5_digest 59 = .ok (.iload 4, 2) := by decide +kernel
theorem dX5_digest_61 : decode cX5_digest 61 = .ok (.invokevirtual 146, 3) := by decide +kernel
theorem dX5_digest_64 : decode cX5_digest 64 = .ok (.i2l, 1) := by decide +kernel
theorem dX5_digest_65 : decode cX5_digest 65 = .ok (.ladd, 1) := by decide +kernel
theorem dX5_digest_66 : decode cX5_digest 66 = .ok (.lstore_n 1, 1) := by decide +kernel
theorem dX5_digest_67 : decode cX5_digest 67 = .ok (.iinc 4 1, 3) := by decide +kernel
theorem dX5_digest_70 : decode cX5_digest 70 = .ok (.goto (-24), 3) := by decide +kernel
theorem dX5_digest_73 : decode cX5_digest 73 = .ok (.iinc 3 1, 3) := by decide +kernel
theorem dX5_digest_76 : decode cX5_digest 76 = .ok (.goto (-38), 3) := by decide +kernel
theorem dX5_digest_79 : decode cX5_digest 79 = .ok (.iconst 0, 1) := by decide +kernel
theorem dX5_digest_80 : decode cX5_digest 80 = .ok (.istore_n 3, 1) := by decide +kernel
theorem dX5_digest_81 : decode cX5_digest 81 = .ok (.iload_n 3, 1) := by decide +kernel
theorem dX5_digest_82 : decode cX5_digest 82 = .ok (.aload_n 0, 1) := by decide +kernel
theorem dX5_digest_83 : decode cX5_digest 83 = .ok (.getfield 56, 3) := by decide +kernel
theorem dX5_digest_86 : decode cX5_digest 86 = .ok (.if_icmp .ge 75, 3) := by decide +kernel
theorem dX5_digest_89 : decode cX5_digest 89 = .ok (.iconst 0, 1) := by decide +kernel
theorem dX5_digest_90 : decode cX5_digest 90 = .ok (.istore 4, 2) := by decide +kernel
theorem dX5_digest_92 : decode cX5_digest 92 = .ok (.iload 4, 2) := by decide +kernel
theorem dX5_digest_94 : decode cX5_digest 94 = .ok (.bipush 10, 2) := by decide +kernel
theorem dX5_digest_96 : decode cX5_digest 96 = .ok (.if_icmp .ge 24, 3) := by decide +kernel
theorem dX5_digest_99 : decode cX5_digest 99 = .ok (.lload_n 1, 1) := by decide +kernel
theorem dX5_digest_100 : decode cX5_digest 100 = .ok (.ldc2_w 176, 3) := by decide +kernel
theorem dX5_digest_103 : decode cX5_digest 103 = .ok (.lmul, 1) := by decide +kernel
theorem dX5_digest_104 : decode cX5_digest 104 = .ok (.aload_n 0, 1) := by decide +kernel
theorem dX5_digest_105 : decode cX5_digest 105 = .ok (.iload_n 3, 1) := by decide +kernel
theorem dX5_digest_106 : decode cX5_digest 106 = .ok (.iload 4, 2) := by decide +kernel
theorem dX5_digest_108 : decode cX5_digest 108 = .ok (.invokevirtual 140, 3) := by decide +kernel
theorem dX5_digest_111 : decode cX5_digest 111 = .ok (.i2l, 1) := by decide +kernel
theorem dX5_digest_112 : decode cX5_digest 112 = .ok (.ladd, 1) := by decide +kernel
theorem dX5_digest_113 : decode cX5_digest 113 = .ok (.lstore_n 1, 1) := by decide +kernel
theorem dX5_digest_114 : decode cX5_digest 114 = .ok (.iinc 4 1, 3) := by decide +kernel
theorem dX5_digest_117 : decode cX5_digest 117 = .ok (.goto (-25), 3) := by decide +kernel
theorem dX5_digest_120 : decode cX5_digest 120 = .ok (.iconst 0, 1) := by decide +kernel
theorem dX5_digest_121 : decode cX5_digest 121 = .ok (.istore 4, 2) := by decide +kernel
theorem dX5_digest_123 : decode cX5_digest 123 = .ok (.iload 4, 2) := by decide +kernel
theorem dX5_digest_125 : decode cX5_digest 125 = .ok (.aload_n 0, 1) := by decide +kernel
theorem dX5_digest_126 : decode cX5_digest 126 = .ok (.getfield 23, 3) := by decide +kernel
theorem dX5_digest_129 : decode cX5_digest 129 = .ok (.iload_n 3, 1) := by decide +kernel
theorem dX5_digest_130 : decode cX5_digest 130 = .ok (.iaload, 1) := by decide +kernel
theorem dX5_digest_131 : decode cX5_digest 131 = .ok (.if_icmp .ge 24, 3) := by decide +kernel
theorem dX5_digest_134 : decode cX5_digest 134 = .ok (.lload_n 1, 1) := by decide +kernel
theorem dX5_digest_135 : decode cX5_digest 135 = .ok (.ldc2_w 176, 3) := by decide +kernel
theorem dX5_digest_138 : decode cX5_digest 138 = .ok (.lmul, 1) := by decide +kernel
theorem dX5_digest_139 : decode cX5_digest 139 = .ok (.aload_n 0, 1) := by decide +kernel
theorem dX5_digest_140 : decode cX5_digest 140 = .ok (.iload_n 3, 1) := by decide +kernel
theorem dX5_digest_141 : decode cX5_digest 141 = .ok (.iload 4, 2) := by decide +kernel
theorem dX5_digest_143 : decode cX5_digest 143 = .ok (.invokevirtual 118, 3) := by decide +kernel
theorem dX5_digest_146 : decode cX5_digest 146 = .ok (.i2l, 1) := by decide +kernel
theorem dX5_digest_147 : decode cX5_digest 147 = .ok (.ladd, 1) := by decide +kernel
theorem dX5_digest_148 : decode cX5_digest 148 = .ok (.lstore_n 1, 1) := by decide +kernel
theorem dX5_digest_149 : decode cX5_digest 149 = .ok (.iinc 4 1, 3) := by decide +kernel
theorem dX5_digest_152 : decode cX5_digest 152 = .ok (.goto (-29), 3) := by decide +kernel
theorem dX5_digest_155 : decode cX5_digest 155 = .ok (.iinc 3 1, 3) := by decide +kernel
theorem dX5_digest_158 : decode cX5_digest 158 = .ok (.goto (-77), 3) := by decide +kernel
theorem dX5_digest_161 : decode cX5_digest 161 = .ok (.iconst 0, 1) := by decide +kernel
theorem dX5_digest_162 : decode cX5_digest 162 = .ok (.istore_n 3, 1) := by decide +kernel
theorem dX5_digest_163 : decode cX5_digest 163 = .ok (.iload_n 3, 1) := by decide +kernel
theorem dX5_digest_164 : decode cX5_digest 164 = .ok (.aload_n 0, 1) := by decide +kernel
theorem dX5_digest_165 : decode cX5_digest 165 = .ok (.getfield 95, 3) := by decide +kernel
theorem dX5_digest_168 : decode cX5_digest 168 = .ok (.if_icmp .ge 39, 3) := by decide +kernel
theorem dX5_digest_171 : decode cX5_digest 171 = .ok (.iconst 0, 1) := by decide +kernel
theorem dX5_digest_172 : decode cX5_digest 172 = .ok (.istore 4, 2) := by decide +kernel
theorem dX5_digest_174 : decode cX5_digest 174 = .ok (.iload 4, 2) := by decide +kernel
theorem dX5_digest_176 : decode cX5_digest 176 = .ok (.iconst 3, 1) := by decide +kernel
theorem dX5_digest_177 : decode cX5_digest 177 = .ok (.if_icmp .ge 24, 3) := by decide +kernel
theorem dX5_digest_180 : decode cX5_digest 180 = .ok (.lload_n 1, 1) := by decide +kernel
theorem dX5_digest_181 : decode cX5_digest 181 = .ok (.ldc2_w 176, 3) := by decide +kernel
theorem dX5_digest_184 : decode cX5_digest 184 = .ok (.lmul, 1) := by decide +kernel
theorem dX5_digest_185 : decode cX5_digest 185 = .ok (.aload_n 0, 1) := by decide +kernel
theorem dX5_digest_186 : decode cX5_digest 186 = .ok (.iload_n 3, 1) := by decide +kernel
theorem dX5_digest_187 : decode cX5_digest 187 = .ok (.iload 4, 2) := by decide +kernel
theorem dX5_digest_189 : decode cX5_digest 189 = .ok (.invokevirtual 149, 3) := by decide +kernel
theorem dX5_digest_192 : decode cX5_digest 192 = .ok (.i2l, 1) := by decide +kernel
theorem dX5_digest_193 : decode cX5_digest 193 = .ok (.ladd, 1) := by decide +kernel
theorem dX5_digest_194 : decode cX5_digest 194 = .ok (.lstore_n 1, 1) := by decide +kernel
theorem dX5_digest_195 : decode cX5_digest 195 = .ok (.iinc 4 1, 3) := by decide +kernel
theorem dX5_digest_198 : decode cX5_digest 198 = .ok (.goto (-24), 3) := by decide +kernel
theorem dX5_digest_201 : decode cX5_digest 201 = .ok (.iinc 3 1, 3) := by decide +kernel
theorem dX5_digest_204 : decode cX5_digest 204 = .ok (.goto (-41), 3) := by decide +kernel
theorem dX5_digest_207 : decode cX5_digest 207 = .ok (.lload_n 1, 1) := by decide +kernel
theorem dX5_digest_208 : decode cX5_digest 208 = .ok (.lreturn, 1) := by decide +kernel
theorem dJ9_floorMod_7cf53_0 : decode cJ9_floorMod_7cf53 0 = .ok (.iload_n 0, 1) := by decide +kernel
theorem dJ9_floorMod_7cf53_1 : decode cJ9_floorMod_7cf53 1 = .ok (.iload_n 1, 1) := by decide +kernel
theorem dJ9_floorMod_7cf53_2 : decode cJ9_floorMod_7cf53 2 = .ok (.irem, 1) := by decide +kernel
theorem dJ9_floorMod_7cf53_3 : decode cJ9_floorMod_7cf53 3 = .ok (.istore_n 2, 1) := by decide +kernel
theorem dJ9_floorMod_7cf53_4 : decode cJ9_floorMod_7cf53 4 = .ok (.iload_n 0, 1) := by decide +kernel
theorem dJ9_floorMod_7cf53_5 : decode cJ9_floorMod_7cf53 5 = .ok (.iload_n 1, 1) := by decide +kernel
theorem dJ9_floorMod_7cf53_6 : decode cJ9_floorMod_7cf53 6 = .ok (.ixor, 1) := by decide +kernel
theorem dJ9_floorMod_7cf53_7 : decode cJ9_floorMod_7cf53 7 = .ok (.ifCond .ge 11, 3) := by decide +kernel
theorem dJ9_floorMod_7cf53_10 : decode cJ9_floorMod_7cf53 10 = .ok (.iload_n 2, 1) := by decide +kernel
theorem dJ9_floorMod_7cf53_11 : decode cJ9_floorMod_7cf53 11 = .ok (.ifCond .eq 7, 3) := by decide +kernel
theorem dJ9_floorMod_7cf53_14 : decode cJ9_floorMod_7cf53 14 = .ok (.iload_n 2, 1) := by decide +kernel
theorem dJ9_floorMod_7cf53_15 : decode cJ9_floorMod_7cf53 15 = .ok (.iload_n 1, 1) := by decide +kernel
theorem dJ9_floorMod_7cf53_16 : decode cJ9_floorMod_7cf53 16 = .ok (.iadd, 1) := by decide +kernel
theorem dJ9_floorMod_7cf53_17 : decode cJ9_floorMod_7cf53 17 = .ok (.ireturn, 1) := by decide +kernel
theorem dJ9_floorMod_7cf53_18 : decode cJ9_floorMod_7cf53 18 = .ok (.iload_n 2, 1) := by decide +kernel
theorem dJ9_floorMod_7cf53_19 : decode cJ9_floorMod_7cf53 19 = .ok (.ireturn, 1) := by decide +kernel
theorem dJ9_max_7cf53_0 : decode cJ9_max_7cf53 0 = .ok (.iload_n 0, 1) := by decide +kernel
theorem dJ9_max_7cf53_1 : decode cJ9_max_7cf53 1 = .ok (.iload_n 1, 1) := by decide +kernel
theorem dJ9_max_7cf53_2 : decode cJ9_max_7cf53 2 = .ok (.if_icmp .lt 7, 3) := by decide +kernel
theorem dJ9_max_7cf53_5 : decode cJ9_max_7cf53 5 = .ok (.iload_n 0, 1) := by decide +kernel
theorem dJ9_max_7cf53_6 : decode cJ9_max_7cf53 6 = .ok (.goto 4, 3) := by decide +kernel
theorem dJ9_max_7cf53_9 : decode cJ9_max_7cf53 9 = .ok (.iload_n 1, 1) := by decide +kernel
theorem dJ9_max_7cf53_10 : decode cJ9_max_7cf53 10 = .ok (.ireturn, 1) := by decide +kernel
theorem dJ9_min_7cf53_0 : decode cJ9_min_7cf53 0 = .ok (.iload_n 0, 1) := by decide +kernel
theorem dJ9_min_7cf53_1 : decode cJ9_min_7cf53 1 = .ok (.iload_n 1, 1) := by decide +kernel
theorem dJ9_min_7cf53_2 : decode cJ9_min_7cf53 2 = .ok (.if_icmp .gt 7, 3) := by decide +kernel
theorem dJ9_min_7cf53_5 : decode cJ9_min_7cf53 5 = .ok (.iload_n 0, 1) := by decide +kernel
theorem dJ9_min_7cf53_6 : decode cJ9_min_7cf53 6 = .ok (.goto 4, 3) := by decide +kernel
theorem dJ9_min_7cf53_9 : decode cJ9_min_7cf53 9 = .ok (.iload_n 1, 1) := by decide +kernel
theorem dJ9_min_7cf53_10 : decode cJ9_min_7cf53 10 = .ok (.ireturn, 1) := by decide +kernel
