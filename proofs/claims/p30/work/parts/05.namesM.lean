theorem dX7_init_0 : decode cX7_init 0 = .ok (.aload_n 0, 1) := by decide +kernel
theorem dX7_init_1 : decode cX7_init 1 = .ok (.invokespecial 1, 3) := by decide +kernel
theorem dX7_init_4 : decode cX7_init 4 = .ok (.aload_n 0, 1) := by decide +kernel
theorem dX7_init_5 : decode cX7_init 5 = .ok (.iload_n 1, 1) := by decide +kernel
theorem dX7_init_6 : decode cX7_init 6 = .ok (.putfield 7, 3) := by decide +kernel
theorem dX7_init_9 : decode cX7_init 9 = .ok (.aload_n 0, 1) := by decide +kernel
theorem dX7_init_10 : decode cX7_init 10 = .ok (.iload_n 2, 1) := by decide +kernel
theorem dX7_init_11 : decode cX7_init 11 = .ok (.putfield 13, 3) := by decide +kernel
theorem dX7_init_14 : decode cX7_init 14 = .ok (.iconst 0, 1) := by decide +kernel
theorem dX7_init_15 : decode cX7_init 15 = .ok (.istore_n 3, 1) := by decide +kernel
theorem dX7_init_16 : decode cX7_init 16 = .ok (.iconst 1, 1) := by decide +kernel
theorem dX7_init_17 : decode cX7_init 17 = .ok (.istore 4, 2) := by decide +kernel
theorem dX7_init_19 : decode cX7_init 19 = .ok (.iload 4, 2) := by decide +kernel
theorem dX7_init_21 : decode cX7_init 21 = .ok (.iload_n 2, 1) := by decide +kernel
theorem dX7_init_22 : decode cX7_init 22 = .ok (.if_icmp .gt 17, 3) := by decide +kernel
theorem dX7_init_25 : decode cX7_init 25 = .ok (.iload_n 3, 1) := by decide +kernel
theorem dX7_init_26 : decode cX7_init 26 = .ok (.iload 4, 2) := by decide +kernel
theorem dX7_init_28 : decode cX7_init 28 = .ok (.iload 4, 2) := by decide +kernel
theorem dX7_init_30 : decode cX7_init 30 = .ok (.imul, 1) := by decide +kernel
theorem dX7_init_31 : decode cX7_init 31 = .ok (.iadd, 1) := by decide +kernel
theorem dX7_init_32 : decode cX7_init 32 = .ok (.istore_n 3, 1) := by decide +kernel
theorem dX7_init_33 : decode cX7_init 33 = .ok (.iinc 4 1, 3) := by decide +kernel
theorem dX7_init_36 : decode cX7_init 36 = .ok (.goto (-17), 3) := by decide +kernel
theorem dX7_init_39 : decode cX7_init 39 = .ok (.aload_n 0, 1) := by decide +kernel
theorem dX7_init_40 : decode cX7_init 40 = .ok (.iload_n 3, 1) := by decide +kernel
theorem dX7_init_41 : decode cX7_init 41 = .ok (.newarray .int, 2) := by decide +kernel
theorem dX7_init_43 : decode cX7_init 43 = .ok (.putfield 16, 3) := by decide +kernel
theorem dX7_init_46 : decode cX7_init 46 = .ok (.aload_n 0, 1) := by decide +kernel
theorem dX7_init_47 : decode cX7_init 47 = .ok (.iload_n 3, 1) := by decide +kernel
theorem dX7_init_48 : decode cX7_init 48 = .ok (.anewarray 20, 3) := by decide +kernel
theorem dX7_init_51 : decode cX7_init 51 = .ok (.putfield 21, 3) := by decide +kernel
theorem dX7_init_54 : decode cX7_init 54 = .ok (.iconst 0, 1) := by decide +kernel
theorem dX7_init_55 : decode cX7_init 55 = .ok (.istore 4, 2) := by decide +kernel
theorem dX7_init_57 : decode cX7_init 57 = .ok (.iconst 0, 1) := by decide +kernel
theorem dX7_init_58 : decode cX7_init 58 = .ok (.istore 5, 2) := by decide +kernel
theorem dX7_init_60 : decode cX7_init 60 = .ok (.iload 5, 2) := by decide +kernel
theorem dX7_init_62 : decode cX7_init 62 = .ok (.iload_n 2, 1) := by decide +kernel
theorem dX7_init_63 : decode cX7_init 63 = .ok (.if_icmp .ge 73, 3) := by decide +kernel
theorem dX7_init_66 : decode cX7_init 66 = .ok (.iconst 0, 1) := by decide +kernel
theorem dX7_init_67 : decode cX7_init 67 = .ok (.istore 6, 2) := by decide +kernel
theorem dX7_init_69 : decode cX7_init 69 = .ok (.iload 6, 2) := by decide +kernel
theorem dX7_init_71 : decode cX7_init 71 = .ok (.iload_n 2, 1) := by decide +kernel
theorem dX7_init_72 : decode cX7_init 72 = .ok (.iload 5, 2) := by decide +kernel
theorem dX7_init_74 : decode cX7_init 74 = .ok (.isub, 1) := by decide +kernel
theorem dX7_init_75 : decode cX7_init 75 = .ok (.if_icmp .ge 55, 3) := by decide +kernel
theorem dX7_init_78 : decode cX7_init 78 = .ok (.iconst 0, 1) := by decide +kernel
theorem dX7_init_79 : decode cX7_init 79 = .ok (.istore 7, 2) := by decide +kernel
theorem dX7_init_81 : decode cX7_init 81 = .ok (.iload 7, 2) := by decide +kernel
theorem dX7_init_83 : decode cX7_init 83 = .ok (.iload_n 2, 1) := by decide +kernel
theorem dX7_init_84 : decode cX7_init 84 = .ok (.iload 5, 2) := by decide +kernel
theorem dX7_init_86 : decode cX7_init 86 = .ok (.isub, 1) := by decide +kernel
theorem dX7_init_87 : decode cX7_init 87 = .ok (.if_icmp .ge 37, 3) := by decide +kernel
theorem dX7_init_90 : decode cX7_init 90 = .ok (.aload_n 0, 1) := by decide +kernel
theorem dX7_init_91 : decode cX7_init 91 = .ok (.getfield 21, 3) := by decide +kernel
theorem dX7_init_94 : decode cX7_init 94 = .ok (.iload 4, 2) := by decide +kernel
theorem dX7_init_96 : decode cX7_init 96 = .ok (.iconst 3, 1) := by decide +kernel
theorem dX7_init_97 : decode cX7_init 97 = .ok (.newarray .int, 2) := by decide +kernel
theorem dX7_init_99 : decode cX7_init 99 = .ok (.dup, 1) := by decide +kernel
theorem dX7_init_100 : decode cX7_init 100 = .ok (.iconst 0, 1) := by decide +kernel
theorem dX7_init_101 : decode cX7_init 101 = .ok (.iload 5, 2) := by decide +kernel
theorem dX7_init_103 : decode cX7_init 103 = .ok (.iastore, 1) := by decide +kernel
theorem dX7_init_104 : decode cX7_init 104 = .ok (.dup, 1) := by decide +kernel
theorem dX7_init_105 : decode cX7_init 105 = .ok (.iconst 1, 1) := by decide +kernel
theorem dX7_init_106 : decode cX7_init 106 = .ok (.iload 6, 2) := by decide +kernel
theorem dX7_init_108 : decode cX7_init 108 = .ok (.iastore, 1) := by decide +kernel
theorem dX7_init_109 : decode cX7_init 109 = .ok (.dup, 1) := by decide +kernel
theorem dX7_init_110 : decode cX7_init 110 = .ok (.iconst 2, 1) := by decide +kernel
theorem dX7_init_111 : decode cX7_init 111 = .ok (.iload 7, 2) := by decide +kernel
theorem dX7_init_113 : decode cX7_init 113 = .ok (.iastore, 1) := by decide +kernel
theorem dX7_init_114 : decode cX7_init 114 = .ok (.aastore, 1) := by decide +kernel
theorem dX7_init_115 : decode cX7_init 115 = .ok (.iinc 7 1, 3) := by decide +kernel
theorem dX7_init_118 : decode cX7_init 118 = .ok (.iinc 4 1, 3) := by decide +kernel
theorem dX7_init_121 : decode cX7_init 121 = .ok (.goto (-40), 3) := by decide +kernel
theorem dX7_init_124 : decode cX7_init 124 = .ok (.iinc 6 1, 3) := by decide +kernel
theorem dX7_init_127 : decode cX7_init 127 = .ok (.goto (-58), 3) := by decide +kernel
theorem dX7_init_130 : decode cX7_init 130 = .ok (.iinc 5 1, 3) := by decide +kernel
theorem dX7_init_133 : decode cX7_init 133 = .ok (.goto (-73), 3) := by decide +kernel
theorem dX7_init_136 : decode cX7_init 136 = .ok (.return_, 1) := by decide +kernel
theorem dX7_isOn_0 : decode cX7_isOn 0 = .ok (.aload_n 0, 1) := by decide +kernel
theorem dX7_isOn_1 : decode cX7_isOn 1 = .ok (.getfield 21, 3) := by decide +kernel
theorem dX7_isOn_4 : decode cX7_isOn 4 = .ok (.iload_n 1, 1) := by decide +kernel
theorem dX7_isOn_5 : decode cX7_isOn 5 = .ok (.aaload, 1) := by decide +kernel
theorem dX7_isOn_6 : decode cX7_isOn 6 = .ok (.astore_n 3, 1) := by decide +kernel
theorem dX7_isOn_7 : decode cX7_isOn 7 = .ok (.aload_n 0, 1) := by decide +kernel
theorem dX7_isOn_8 : decode cX7_isOn 8 = .ok (.getfield 21, 3) := by decide +kernel
theorem dX7_isOn_11 : decode cX7_isOn 11 = .ok (.iload_n 2, 1) := by decide +kernel
theorem dX7_isOn_12 : decode cX7_isOn 12 = .ok (.aaload, 1) := by decide +kernel
theorem dX7_isOn_13 : decode cX7_isOn 13 = .ok (.astore 4, 2) := by decide +kernel
theorem dX7_isOn_15 : decode cX7_isOn 15 = .ok (.aload 4, 2) := by decide +kernel
theorem dX7_isOn_17 : decode cX7_isOn 17 = .ok (.iconst 1, 1) := by decide +kernel
theorem dX7_isOn_18 : decode cX7_isOn 18 = .ok (.iaload, 1) := by decide +kernel
theorem dX7_isOn_19 : decode cX7_isOn 19 = .ok (.aload_n 3, 1) := by decide +kernel
theorem dX7_isOn_20 : decode cX7_isOn 20 = .ok (.iconst 1, 1) := by decide +kernel
theorem dX7_isOn_21 : decode cX7_isOn 21 = .ok (.iaload, 1) := by decide +kernel
theorem dX7_isOn_22 : decode cX7_isOn 22 = .ok (.isub, 1) := by decide +kernel
theorem dX7_isOn_23 : decode cX7_isOn 23 = .ok (.istore 5, 2) := by decide +kernel
theorem dX7_isOn_25 : decode cX7_isOn 25 = .ok (.aload 4, 2) := by decide +kernel
theorem dX7_isOn_27 : decode cX7_isOn 27 = .ok (.iconst 2, 1) := by decide +kernel
theorem dX7_isOn_28 : decode cX7_isOn 28 = .ok (.iaload, 1) := by decide +kernel
theorem dX7_isOn_29 : decode cX7_isOn 29 = .ok (.aload_n 3, 1) := by decide +kernel
theorem dX7_isOn_30 : decode cX7_isOn 30 = .ok (.iconst 2, 1) := by decide +kernel
theorem dX7_isOn_31 : decode cX7_isOn 31 = .ok (.iaload, 1) := by decide +kernel
theorem dX7_isOn_32 : decode cX7_isOn 32 = .ok (.isub, 1) := by decide +kernel
theorem dX7_isOn_33 : decode cX7_isOn 33 = .ok (.istore 6, 2) := by decide +kernel
theorem dX7_isOn_35 : decode cX7_isOn 35 = .ok (.aload_n 3, 1) := by decide +kernel
theorem dX7_isOn_36 : decode cX7_isOn 36 = .ok (.iconst 0, 1) := by decide +kernel
theorem dX7_isOn_37 : decode cX7_isOn 37 = .ok (.iaload, 1) := by decide +kernel
theorem dX7_isOn_38 : decode cX7_isOn 38 = .ok (.aload 4, 2) := by decide +kernel
theorem dX7_isOn_40 : decode cX7_isOn 40 = .ok (.iconst 0, 1) := by decide +kernel
theorem dX7_isOn_41 : decode cX7_isOn 41 = .ok (.iaload, 1) := by decide +kernel
theorem dX7_isOn_42 : decode cX7_isOn 42 = .ok (.iconst 1, 1) := by decide +kernel
theorem dX7_isOn_43 : decode cX7_isOn 43 = .ok (.iadd, 1) := by decide +kernel
theorem dX7_isOn_44 : decode cX7_isOn 44 = .ok (.if_icmp .ne 29, 3) := by decide +kernel
theorem dX7_isOn_47 : decode cX7_isOn 47 = .ok (.iload 5, 2) := by decide +kernel
theorem dX7_isOn_49 : decode cX7_isOn 49 = .ok (.ifCond .eq 9, 3) := by decide +kernel
theorem dX7_isOn_52 : decode cX7_isOn 52 = .ok (.iload 5, 2) := by decide +kernel
theorem dX7_isOn_54 : decode cX7_isOn 54 = .ok (.iconst 1, 1) := by decide +kernel
theorem dX7_isOn_55 : decode cX7_isOn 55 = .ok (.if_icmp .ne 18, 3) := by decide +kernel
theorem dX7_isOn_58 : decode cX7_isOn 58 = .ok (.iload 6, 2) := by decide +kernel
theorem dX7_isOn_60 : decode cX7_isOn 60 = .ok (.ifCond .eq 9, 3) := by decide +kernel
theorem dX7_isOn_63 : decode cX7_isOn 63 = .ok (.iload 6, 2) := by decide +kernel
theorem dX7_isOn_65 : decode cX7_isOn 65 = .ok (.iconst 1, 1) := by decide +kernel
theorem dX7_isOn_66 : decode cX7_isOn 66 = .ok (.if_icmp .ne 7, 3) := by decide +kernel
theorem dX7_isOn_69 : decode cX7_isOn 69 = .ok (.iconst 1, 1) := by decide +kernel
theorem dX7_isOn_70 : decode cX7_isOn 70 = .ok (.goto 4, 3) := by decide +kernel
theorem dX7_isOn_73 : decode cX7_isOn 73 = .ok (.iconst 0, 1) := by decide +kernel
theorem dX7_isOn_74 : decode cX7_isOn 74 = .ok (.ireturn, 1) := by decide +kernel
set_option maxRecDepth 20000 in
theorem ggX7_on_X7_isOn : GoodIn wsX7_on wsX7_isOn := goodIn_r _ [6, 7, 8, 9, 10, 11, 12] (by decide +kernel) (by decide +kernel)
set_option maxRecDepth 20000 in
theorem gX7_on_X7_isOn : GoodIn wsX7_on (wsV RX7 32 RX7 yX7_isOn wsX7_isOn) := goodIn_app (goodIn_of _ (by decide +kernel)) ggX7_on_X7_isOn
theorem dX7_on_0 : decode cX7_on 0 = .ok (.iconst 0, 1) := by decide +kernel
theorem dX7_on_1 : decode cX7_on 1 = .ok (.istore_n 2, 1) := by decide +kernel
theorem dX7_on_2 : decode cX7_on 2 = .ok (.iload_n 1, 1) := by decide +kernel
theorem dX7_on_3 : decode cX7_on 3 = .ok (.iconst 1, 1) := by decide +kernel
theorem dX7_on_4 : decode cX7_on 4 = .ok (.iadd, 1) := by decide +kernel
theorem dX7_on_5 : decode cX7_on 5 = .ok (.istore_n 3, 1) := by decide +kernel
theorem dX7_on_6 : decode cX7_on 6 = .ok (.iload_n 3, 1) := by decide +kernel
theorem dX7_on_7 : decode cX7_on 7 = .ok (.aload_n 0, 1) := by decide +kernel
theorem dX7_on_8 : decode cX7_on 8 = .ok (.getfield 25, 3) := by decide +kernel
theorem dX7_on_11 : decode cX7_on 11 = .ok (.if_icmp .ge 26, 3) := by decide +kernel
theorem dX7_on_14 : decode cX7_on 14 = .ok (.iload_n 2, 1) := by decide +kernel
theorem dX7_on_15 : decode cX7_on 15 = .ok (.aload_n 0, 1) := by decide +kernel
theorem dX7_on_16 : decode cX7_on 16 = .ok (.iload_n 3, 1) := by decide +kernel
theorem dX7_on_17 : decode cX7_on 17 = .ok (.iload_n 1, 1) := by decide +kernel
theorem dX7_on_18 : decode cX7_on 18 = .ok (.invokevirtual 32, 3) := by decide +kernel
theorem dX7_on_21 : decode cX7_on 21 = .ok (.ifCond .eq 7, 3) := by decide +kernel
theorem dX7_on_24 : decode cX7_on 24 = .ok (.iconst 1, 1) := by decide +kernel
theorem dX7_on_25 : decode cX7_on 25 = .ok (.goto 4, 3) := by decide +kernel
theorem dX7_on_28 : decode cX7_on 28 = .ok (.iconst 0, 1) := by decide +kernel
theorem dX7_on_29 : decode cX7_on 29 = .ok (.iadd, 1) := by decide +kernel
theorem dX7_on_30 : decode cX7_on 30 = .ok (.istore_n 2, 1) := by decide +kernel
theorem dX7_on_31 : decode cX7_on 31 = .ok (.iinc 3 1, 3) := by decide +kernel
theorem dX7_on_34 : decode cX7_on 34 = .ok (.goto (-28), 3) := by decide +kernel
theorem dX7_on_37 : decode cX7_on 37 = .ok (.iload_n 2, 1) := by decide +kernel
theorem dX7_on_38 : decode cX7_on 38 = .ok (.ireturn, 1) := by decide +kernel
theorem dX7_layers_0 : decode cX7_layers 0 = .ok (.aload_n 0, 1) := by decide +kernel
theorem dX7_layers_1 : decode cX7_layers 1 = .ok (.getfield 25, 3) := by decide +kernel
theorem dX7_layers_4 : decode cX7_layers 4 = .ok (.ifCond .ne 7, 3) := by decide +kernel
theorem dX7_layers_7 : decode cX7_layers 7 = .ok (.iconst 0, 1) := by decide +kernel
theorem dX7_layers_8 : decode cX7_layers 8 = .ok (.goto 18, 3) := by decide +kernel
theorem dX7_layers_11 : decode cX7_layers 11 = .ok (.aload_n 0, 1) := by decide +kernel
theorem dX7_layers_12 : decode cX7_layers 12 = .ok (.getfield 21, 3) := by decide +kernel
theorem dX7_layers_15 : decode cX7_layers 15 = .ok (.aload_n 0, 1) := by decide +kernel
theorem dX7_layers_16 : decode cX7_layers 16 = .ok (.getfield 25, 3) := by decide +kernel
theorem dX7_layers_19 : decode cX7_layers 19 = .ok (.iconst 1, 1) := by decide +kernel
theorem dX7_layers_20 : decode cX7_layers 20 = .ok (.isub, 1) := by decide +kernel
theorem dX7_layers_21 : decode cX7_layers 21 = .ok (.aaload, 1) := by decide +kernel
theorem dX7_layers_22 : decode cX7_layers 22 = .ok (.iconst 0, 1) := by decide +kernel
theorem dX7_layers_23 : decode cX7_layers 23 = .ok (.iaload, 1) := by decide +kernel
theorem dX7_layers_24 : decode cX7_layers 24 = .ok (.iconst 1, 1) := by decide +kernel
theorem dX7_layers_25 : decode cX7_layers 25 = .ok (.iadd, 1) := by decide +kernel
theorem dX7_layers_26 : decode cX7_layers 26 = .ok (.ireturn, 1) := by decide +kernel
theorem dX7_isOpen_0 : decode cX7_isOpen 0 = .ok (.aload_n 0, 1) := by decide +kernel
theorem dX7_isOpen_1 : decode cX7_isOpen 1 = .ok (.getfield 25, 3) := by decide +kernel
theorem dX7_isOpen_4 : decode cX7_isOpen 4 = .ok (.ifCond .le 46, 3) := by decide +kernel
theorem dX7_isOpen_7 : decode cX7_isOpen 7 = .ok (.aload_n 0, 1) := by decide +kernel
theorem dX7_isOpen_8 : decode cX7_isOpen 8 = .ok (.getfield 25, 3) := by decide +kernel
theorem dX7_isOpen_11 : decode cX7_isOpen 11 = .ok (.aload_n 0, 1) := by decide +kernel
theorem dX7_isOpen_12 : decode cX7_isOpen 12 = .ok (.getfield 16, 3) := by decide +kernel
theorem dX7_isOpen_15 : decode cX7_isOpen 15 = .ok (.arraylength, 1) := by decide +kernel
theorem dX7_isOpen_16 : decode cX7_isOpen 16 = .ok (.if_icmp .ge 34, 3) := by decide +kernel
theorem dX7_isOpen_19 : decode cX7_isOpen 19 = .ok (.aload_n 0, 1) := by decide +kernel
theorem dX7_isOpen_20 : decode cX7_isOpen 20 = .ok (.getfield 21, 3) := by decide +kernel
theorem dX7_isOpen_23 : decode cX7_isOpen 23 = .ok (.aload_n 0, 1) := by decide +kernel
theorem dX7_isOpen_24 : decode cX7_isOpen 24 = .ok (.getfield 25, 3) := by decide +kernel
theorem dX7_isOpen_27 : decode cX7_isOpen 27 = .ok (.aaload, 1) := by decide +kernel
theorem dX7_isOpen_28 : decode cX7_isOpen 28 = .ok (.iconst 0, 1) := by decide +kernel
theorem dX7_isOpen_29 : decode cX7_isOpen 29 = .ok (.iaload, 1) := by decide +kernel
theorem dX7_isOpen_30 : decode cX7_isOpen 30 = .ok (.aload_n 0, 1) := by decide +kernel
theorem dX7_isOpen_31 : decode cX7_isOpen 31 = .ok (.getfield 21, 3) := by decide +kernel
theorem dX7_isOpen_34 : decode cX7_isOpen 34 = .ok (.aload_n 0, 1) := by decide +kernel
theorem dX7_isOpen_35 : decode cX7_isOpen 35 = .ok (.getfield 25, 3) := by decide +kernel
theorem dX7_isOpen_38 : decode cX7_isOpen 38 = .ok (.iconst 1, 1) := by decide +kernel
theorem dX7_isOpen_39 : decode cX7_isOpen 39 = .ok (.isub, 1) := by decide +kernel
theorem dX7_isOpen_40 : decode cX7_isOpen 40 = .ok (.aaload, 1) := by decide +kernel
theorem dX7_isOpen_41 : decode cX7_isOpen 41 = .ok (.iconst 0, 1) := by decide +kernel
theorem dX7_isOpen_42 : decode cX7_isOpen 42 = .ok (.iaload, 1) := by decide +kernel
theorem dX7_isOpen_43 : decode cX7_isOpen 43 = .ok (.if_icmp .ne 7, 3) := by decide +kernel
theorem dX7_isOpen_46 : decode cX7_isOpen 46 = .ok (.iconst 1, 1) := by decide +kernel
theorem dX7_isOpen_47 : decode cX7_isOpen 47 = .ok (.goto 4, 3) := by decide +kernel
theorem dX7_isOpen_50 : decode cX7_isOpen 50 = .ok (.iconst 0, 1) := by decide +kernel
theorem dX7_isOpen_51 : decode cX7_isOpen 51 = .ok (.ireturn, 1) := by decide +kernel
theorem dX7_rusty_0 : decode cX7_rusty 0 = .ok (.iconst 0, 1) := by decide +kernel
theorem dX7_rusty_1 : decode cX7_rusty 1 = .ok (.istore_n 2, 1) := by decide +kernel
theorem dX7_rusty_2 : decode cX7_rusty 2 = .ok (.iconst 0, 1) := by decide +kernel
theorem dX7_rusty_3 : decode cX7_rusty 3 = .ok (.istore_n 3, 1) := by decide +kernel
theorem dX7_rusty_4 : decode cX7_rusty 4 = .ok (.iload_n 3, 1) := by decide +kernel
theorem dX7_rusty_5 : decode cX7_rusty 5 = .ok (.aload_n 0, 1) := by decide +kernel
theorem dX7_rusty_6 : decode cX7_rusty 6 = .ok (.getfield 25, 3) := by decide +kernel
theorem dX7_rusty_9 : decode cX7_rusty 9 = .ok (.if_icmp .ge 27, 3) := by decide +kernel
theorem dX7_rusty_12 : decode cX7_rusty 12 = .ok (.iload_n 2, 1) := by decide +kernel
theorem dX7_rusty_13 : decode cX7_rusty 13 = .ok (.aload_n 0, 1) := by decide +kernel
theorem dX7_rusty_14 : decode cX7_rusty 14 = .ok (.getfield 16, 3) := by decide +kernel
theorem dX7_rusty_17 : decode cX7_rusty 17 = .ok (.iload_n 3, 1) := by decide +kernel
theorem dX7_rusty_18 : decode cX7_rusty 18 = .ok (.iaload, 1) := by decide +kernel
theorem dX7_rusty_19 : decode cX7_rusty 19 = .ok (.iload_n 1, 1) := by decide +kernel
theorem dX7_rusty_20 : decode cX7_rusty 20 = .ok (.if_icmp .ge 7, 3) := by decide +kernel
theorem dX7_rusty_23 : decode cX7_rusty 23 = .ok (.iconst 0, 1) := by decide +kernel
theorem dX7_rusty_24 : decode cX7_rusty 24 = .ok (.goto 4, 3) := by decide +kernel
theorem dX7_rusty_27 : decode cX7_rusty 27 = .ok (.iconst 1, 1) := by decide +kernel
theorem dX7_rusty_28 : decode cX7_rusty 28 = .ok (.iadd, 1) := by decide +kernel
theorem dX7_rusty_29 : decode cX7_rusty 29 = .ok (.istore_n 2, 1) := by decide +kernel
theorem dX7_rusty_30 : decode cX7_rusty 30 = .ok (.iinc 3 1, 3) := by decide +kernel
theorem dX7_rusty_33 : decode cX7_rusty 33 = .ok (.goto (-29), 3) := by decide +kernel
theorem dX7_rusty_36 : decode cX7_rusty 36 = .ok (.iload_n 2, 1) := by decide +kernel
theorem dX7_rusty_37 : decode cX7_rusty 37 = .ok (.ireturn, 1) := by decide +kernel
theorem dX7_put_0 : decode cX7_put 0 = .ok (.aload_n 0, 1) := by decide +kernel
theorem dX7_put_1 : decode cX7_put 1 = .ok (.getfield 16, 3) := by decide +kernel
theorem dX7_put_4 : decode cX7_put 4 = .ok (.aload_n 0, 1) := by decide +kernel
theorem dX7_put_5 : decode cX7_put 5 = .ok (.getfield 25, 3) := by decide +kernel
theorem dX7_put_8 : decode cX7_put 8 = .ok (.iload_n 1, 1) := by decide +kernel
theorem dX7_put_9 : decode cX7_put 9 = .ok (.iastore, 1) := by decide +kernel
theorem dX7_put_10 : decode cX7_put 10 = .ok (.aload_n 0, 1) := by decide +kernel
theorem dX7_put_11 : decode cX7_put 11 = .ok (.dup, 1) := by decide +kernel
theorem dX7_put_12 : decode cX7_put 12 = .ok (.getfield 25, 3) := by decide +kernel
theorem dX7_put_15 : decode cX7_put 15 = .ok (.iconst 1, 1) := by decide +kernel
theorem dX7_put_16 : decode cX7_put 16 = .ok (.iadd, 1) := by decide +kernel
theorem dX7_put_17 : decode cX7_put 17 = .ok (.putfield 25, 3) := by decide +kernel
theorem dX7_put_20 : decode cX7_put 20 = .ok (.return_, 1) := by decide +kernel
theorem dX5_init_0 : decode cX5_init 0 = .ok (.aload_n 0, 1) := by decide +kernel
theorem dX5_init_1 : decode cX5_init 1 = .ok (.invokespecial 1, 3) := by decide +kernel
theorem dX5_init_4 : decode cX5_init 4 = .ok (.aload_n 0, 1) := by decide +kernel
theorem dX5_init_5 : decode cX5_init 5 = .ok (.bipush 6, 2) := by decide +kernel
theorem dX5_init_7 : decode cX5_init 7 = .ok (.putfield 7, 3) := by decide +kernel
theorem dX5_init_10 : decode cX5_init 10 = .ok (.aload_n 0, 1) := by decide +kernel
theorem dX5_init_11 : decode cX5_init 11 = .ok (.iconst 5, 1) := by decide +kernel
theorem dX5_init_12 : decode cX5_init 12 = .ok (.newarray .int, 2) := by decide +kernel
theorem dX5_init_14 : decode cX5_init 14 = .ok (.putfield 13, 3) := by decide +kernel
theorem dX5_init_17 : decode cX5_init 17 = .ok (.aload_n 0, 1) := by decide +kernel
theorem dX5_init_18 : decode cX5_init 18 = .ok (.iconst 5, 1) := by decide +kernel
theorem dX5_init_19 : decode cX5_init 19 = .ok (.newarray .int, 2) := by decide +kernel
theorem dX5_init_21 : decode cX5_init 21 = .ok (.putfield 17, 3) := by decide +kernel
theorem dX5_init_24 : decode cX5_init 24 = .ok (.aload_n 0, 1) := by decide +kernel
theorem dX5_init_25 : decode cX5_init 25 = .ok (.iconst 5, 1) := by decide +kernel
theorem dX5_init_26 : decode cX5_init 26 = .ok (.newarray .int, 2) := by decide +kernel
theorem dX5_init_28 : decode cX5_init 28 = .ok (.putfield 20, 3) := by decide +kernel
theorem dX5_init_31 : decode cX5_init 31 = .ok (.aload_n 0, 1) := by decide +kernel
theorem dX5_init_32 : decode cX5_init 32 = .ok (.iconst 5, 1) := by decide +kernel
theorem dX5_init_33 : decode cX5_init 33 = .ok (.newarray .int, 2) := by decide +kernel
theorem dX5_init_35 : decode cX5_init 35 = .ok (.putfield 23, 3) := by decide +kernel
theorem dX5_init_38 : decode cX5_init 38 = .ok (.aload_n 0, 1) := by decide +kernel
theorem dX5_init_39 : decode cX5_init 39 = .ok (.iconst 0, 1) := by decide +kernel
theorem dX5_init_40 : decode cX5_init 40 = .ok (.anewarray 26, 3) := by decide +kernel
theorem dX5_init_43 : decode cX5_init 43 = .ok (.putfield 28, 3) := by decide +kernel
theorem dX5_init_46 : decode cX5_init 46 = .ok (.aload_n 0, 1) := by decide +kernel
theorem dX5_init_47 : decode cX5_init 47 = .ok (.iconst 0, 1) := by decide +kernel
theorem dX5_init_48 : decode cX5_init 48 = .ok (.anewarray 32, 3) := by decide +kernel
theorem dX5_init_51 : decode cX5_init 51 = .ok (.putfield 33, 3) := by decide +kernel
theorem dX5_init_54 : decode cX5_init 54 = .ok (.return_, 1) := by decide +kernel
set_option maxRecDepth 20000 in
theorem ggX5_pass_X7_on : GoodIn wsX5_pass wsX7_on := goodIn_r _ [14, 15, 16, 17, 18, 13, 19, 20, 35, 36, 37, 38, 39] (by decide +kernel) (by decide +kernel)
set_option maxRecDepth 20000 in
theorem gX5_pass_X7_on : GoodIn wsX5_pass (wsV RX5 54 RX7 yX7_on wsX7_on) := goodIn_app (goodIn_of _ (by decide +kernel)) ggX5_pass_X7_on
set_option maxRecDepth 20000 in
theorem ggX5_pass_X7_isOpen : GoodIn wsX5_pass wsX7_isOpen := goodIn_r _ [24, 15, 25, 20, 35, 36, 37, 38, 39] (by decide +kernel) (by decide +kernel)
set_option maxRecDepth 20000 in
theorem gX5_pass_X7_isOpen : GoodIn wsX5_pass (wsV RX5 61 RX7 yX7_isOpen wsX7_isOpen) := goodIn_app (goodIn_of _ (by decide +kernel)) ggX5_pass_X7_isOpen
theorem dX5_pass_0 : decode cX5_pass 0 = .ok (.aload_n 0, 1) := by decide +kernel
theorem dX5_pass_1 : decode cX5_pass 1 = .ok (.getfield 28, 3) := by decide +kernel
theorem dX5_pass_4 : decode cX5_pass 4 = .ok (.astore_n 1, 1) := by decide +kernel
theorem dX5_pass_5 : decode cX5_pass 5 = .ok (.aload_n 1, 1) := by decide +kernel
theorem dX5_pass_6 : decode cX5_pass 6 = .ok (.arraylength, 1) := by decide +kernel
theorem dX5_pass_7 : decode cX5_pass 7 = .ok (.istore_n 2, 1) := by decide +kernel
theorem dX5_pass_8 : decode cX5_pass 8 = .ok (.iconst 0, 1) := by decide +kernel
theorem dX5_pass_9 : decode cX5_pass 9 = .ok (.istore_n 3, 1) := by decide +kernel
theorem dX5_pass_10 : decode cX5_pass 10 = .ok (.iload_n 3, 1) := by decide +kernel
theorem dX5_pass_11 : decode cX5_pass 11 = .ok (.iload_n 2, 1) := by decide +kernel
theorem dX5_pass_12 : decode cX5_pass 12 = .ok (.if_icmp .ge 137, 3) := by decide +kernel
theorem dX5_pass_15 : decode cX5_pass 15 = .ok (.aload_n 1, 1) := by decide +kernel
theorem dX5_pass_16 : decode cX5_pass 16 = .ok (.iload_n 3, 1) := by decide +kernel
theorem dX5_pass_17 : decode cX5_pass 17 = .ok (.aaload, 1) := by decide +kernel
theorem dX5_pass_18 : decode cX5_pass 18 = .ok (.astore 4, 2) := by decide +kernel
theorem dX5_pass_20 : decode cX5_pass 20 = .ok (.aload 4, 2) := by decide +kernel
theorem dX5_pass_22 : decode cX5_pass 22 = .ok (.getfield 51, 3) := by decide +kernel
theorem dX5_pass_25 : decode cX5_pass 25 = .ok (.newarray .boolean, 2) := by decide +kernel
theorem dX5_pass_27 : decode cX5_pass 27 = .ok (.astore 5, 2) := by decide +kernel
theorem dX5_pass_29 : decode cX5_pass 29 = .ok (.iconst 0, 1) := by decide +kernel
theorem dX5_pass_30 : decode cX5_pass 30 = .ok (.istore 6, 2) := by decide +kernel
theorem dX5_pass_32 : decode cX5_pass 32 = .ok (.iload 6, 2) := by decide +kernel
theorem dX5_pass_34 : decode cX5_pass 34 = .ok (.aload 4, 2) := by decide +kernel
theorem dX5_pass_36 : decode cX5_pass 36 = .ok (.getfield 51, 3) := by decide +kernel
theorem dX5_pass_39 : decode cX5_pass 39 = .ok (.if_icmp .ge 29, 3) := by decide +kernel
theorem dX5_pass_42 : decode cX5_pass 42 = .ok (.aload 5, 2) := by decide +kernel
theorem dX5_pass_44 : decode cX5_pass 44 = .ok (.iload 6, 2) := by decide +kernel
theorem dX5_pass_46 : decode cX5_pass 46 = .ok (.aload 4, 2) := by decide +kernel
theorem dX5_pass_48 : decode cX5_pass 48 = .ok (.iload 6, 2) := by decide +kernel
theorem dX5_pass_50 : decode cX5_pass 50 = .ok (.invokevirtual 54, 3) := by decide +kernel
theorem dX5_pass_53 : decode cX5_pass 53 = .ok (.ifCond .le 7, 3) := by decide +kernel
theorem dX5_pass_56 : decode cX5_pass 56 = .ok (.iconst 1, 1) := by decide +kernel
theorem dX5_pass_57 : decode cX5_pass 57 = .ok (.goto 4, 3) := by decide +kernel
theorem dX5_pass_60 : decode cX5_pass 60 = .ok (.iconst 0, 1) := by decide +kernel
theorem dX5_pass_61 : decode cX5_pass 61 = .ok (.bastore, 1) := by decide +kernel
theorem dX5_pass_62 : decode cX5_pass 62 = .ok (.iinc 6 1, 3) := by decide +kernel
theorem dX5_pass_65 : decode cX5_pass 65 = .ok (.goto (-33), 3) := by decide +kernel
theorem dX5_pass_68 : decode cX5_pass 68 = .ok (.iconst 0, 1) := by decide +kernel
theorem dX5_pass_69 : decode cX5_pass 69 = .ok (.istore 6, 2) := by decide +kernel
theorem dX5_pass_71 : decode cX5_pass 71 = .ok (.iload 6, 2) := by decide +kernel
theorem dX5_pass_73 : decode cX5_pass 73 = .ok (.aload 4, 2) := by decide +kernel
theorem dX5_pass_75 : decode cX5_pass 75 = .ok (.getfield 51, 3) := by decide +kernel
theorem dX5_pass_78 : decode cX5_pass 78 = .ok (.if_icmp .ge 65, 3) := by decide +kernel
theorem dX5_pass_81 : decode cX5_pass 81 = .ok (.aload 4, 2) := by decide +kernel
theorem dX5_pass_83 : decode cX5_pass 83 = .ok (.getfield 58, 3) := by decide +kernel
theorem dX5_pass_86 : decode cX5_pass 86 = .ok (.iload 6, 2) := by decide +kernel
theorem dX5_pass_88 : decode cX5_pass 88 = .ok (.iaload, 1) := by decide +kernel
theorem dX5_pass_89 : decode cX5_pass 89 = .ok (.aload 5, 2) := by decide +kernel
theorem dX5_pass_91 : decode cX5_pass 91 = .ok (.iload 6, 2) := by decide +kernel
theorem dX5_pass_93 : decode cX5_pass 93 = .ok (.baload, 1) := by decide +kernel
theorem dX5_pass_94 : decode cX5_pass 94 = .ok (.ifCond .eq 12, 3) := by decide +kernel
theorem dX5_pass_97 : decode cX5_pass 97 = .ok (.aload_n 0, 1) := by decide +kernel
theorem dX5_pass_98 : decode cX5_pass 98 = .ok (.getfield 41, 3) := by decide +kernel
theorem dX5_pass_101 : decode cX5_pass 101 = .ok (.iconst 2, 1) := by decide +kernel
theorem dX5_pass_102 : decode cX5_pass 102 = .ok (.idiv, 1) := by decide +kernel
theorem dX5_pass_103 : decode cX5_pass 103 = .ok (.goto 9, 3) := by decide +kernel
theorem dX5_pass_106 : decode cX5_pass 106 = .ok (.aload_n 0, 1) := by decide +kernel
theorem dX5_pass_107 : decode cX5_pass 107 = .ok (.getfield 41, 3) := by decide +kernel
theorem dX5_pass_110 : decode cX5_pass 110 = .ok (.iconst 1, 1) := by decide +kernel
theorem dX5_pass_111 : decode cX5_pass 111 = .ok (.iadd, 1) := by decide +kernel
theorem dX5_pass_112 : decode cX5_pass 112 = .ok (.iadd, 1) := by decide +kernel
theorem dX5_pass_113 : decode cX5_pass 113 = .ok (.istore 7, 2) := by decide +kernel
theorem dX5_pass_115 : decode cX5_pass 115 = .ok (.aload 4, 2) := by decide +kernel
theorem dX5_pass_117 : decode cX5_pass 117 = .ok (.getfield 58, 3) := by decide +kernel
theorem dX5_pass_120 : decode cX5_pass 120 = .ok (.iload 6, 2) := by decide +kernel
theorem dX5_pass_122 : decode cX5_pass 122 = .ok (.iload 7, 2) := by decide +kernel
theorem dX5_pass_124 : decode cX5_pass 124 = .ok (.bipush 9, 2) := by decide +kernel
theorem dX5_pass_126 : decode cX5_pass 126 = .ok (.if_icmp .le 8, 3) := by decide +kernel
theorem dX5_pass_129 : decode cX5_pass 129 = .ok (.bipush 9, 2) := by decide +kernel
theorem dX5_pass_131 : decode cX5_pass 131 = .ok (.goto 5, 3) := by decide +kernel
theorem dX5_pass_134 : decode cX5_pass 134 = .ok (.iload 7, 2) := by decide +kernel
theorem dX5_pass_136 : decode cX5_pass 136 = .ok (.iastore, 1) := by decide +kernel
theorem dX5_pass_137 : decode cX5_pass 137 = .ok (.iinc 6 1, 3) := by decide +kernel
theorem dX5_pass_140 : decode cX5_pass 140 = .ok (.goto (-69), 3) := by decide +kernel
theorem dX5_pass_143 : decode cX5_pass 143 = .ok (.iinc 3 1, 3) := by decide +kernel
theorem dX5_pass_146 : decode cX5_pass 146 = .ok (.goto (-136), 3) := by decide +kernel
theorem dX5_pass_149 : decode cX5_pass 149 = .ok (.aload_n 0, 1) := by decide +kernel
theorem dX5_pass_150 : decode cX5_pass 150 = .ok (.getfield 33, 3) := by decide +kernel
theorem dX5_pass_153 : decode cX5_pass 153 = .ok (.astore_n 1, 1) := by decide +kernel
theorem dX5_pass_154 : decode cX5_pass 154 = .ok (.aload_n 1, 1) := by decide +kernel
theorem dX5_pass_155 : decode cX5_pass 155 = .ok (.arraylength, 1) := by decide +kernel
theorem dX5_pass_156 : decode cX5_pass 156 = .ok (.istore_n 2, 1) := by decide +kernel
theorem dX5_pass_157 : decode cX5_pass 157 = .ok (.iconst 0, 1) := by decide +kernel
theorem dX5_pass_158 : decode cX5_pass 158 = .ok (.istore_n 3, 1) := by decide +kernel
theorem dX5_pass_159 : decode cX5_pass 159 = .ok (.iload_n 3, 1) := by decide +kernel
theorem dX5_pass_160 : decode cX5_pass 160 = .ok (.iload_n 2, 1) := by decide +kernel
theorem dX5_pass_161 : decode cX5_pass 161 = .ok (.if_icmp .ge 110, 3) := by decide +kernel
theorem dX5_pass_164 : decode cX5_pass 164 = .ok (.aload_n 1, 1) := by decide +kernel
theorem dX5_pass_165 : decode cX5_pass 165 = .ok (.iload_n 3, 1) := by decide +kernel
theorem dX5_pass_166 : decode cX5_pass 166 = .ok (.aaload, 1) := by decide +kernel
theorem dX5_pass_167 : decode cX5_pass 167 = .ok (.astore 4, 2) := by decide +kernel
theorem dX5_pass_169 : decode cX5_pass 169 = .ok (.aload_n 0, 1) := by decide +kernel
theorem dX5_pass_170 : decode cX5_pass 170 = .ok (.getfield 28, 3) := by decide +kernel
theorem dX5_pass_173 : decode cX5_pass 173 = .ok (.arraylength, 1) := by decide +kernel
theorem dX5_pass_174 : decode cX5_pass 174 = .ok (.ifCond .ne 6, 3) := by decide +kernel
theorem dX5_pass_177 : decode cX5_pass 177 = .ok (.goto 94, 3) := by decide +kernel
theorem dX5_pass_180 : decode cX5_pass 180 = .ok (.aload 4, 2) := by decide +kernel
theorem dX5_pass_182 : decode cX5_pass 182 = .ok (.iconst 1, 1) := by decide +kernel
theorem dX5_pass_183 : decode cX5_pass 183 = .ok (.aload 4, 2) := by decide +kernel
theorem dX5_pass_185 : decode cX5_pass 185 = .ok (.iconst 1, 1) := by decide +kernel
theorem dX5_pass_186 : decode cX5_pass 186 = .ok (.iaload, 1) := by decide +kernel
theorem dX5_pass_187 : decode cX5_pass 187 = .ok (.ifCond .ge 7, 3) := by decide +kernel
theorem dX5_pass_190 : decode cX5_pass 190 = .ok (.iconst 0, 1) := by decide +kernel
theorem dX5_pass_191 : decode cX5_pass 191 = .ok (.goto 18, 3) := by decide +kernel
theorem dX5_pass_194 : decode cX5_pass 194 = .ok (.aload 4, 2) := by decide +kernel
theorem dX5_pass_196 : decode cX5_pass 196 = .ok (.iconst 1, 1) := by decide +kernel
theorem dX5_pass_197 : decode cX5_pass 197 = .ok (.iaload, 1) := by decide +kernel
theorem dX5_pass_198 : decode cX5_pass 198 = .ok (.aload 4, 2) := by decide +kernel
theorem dX5_pass_200 : decode cX5_pass 200 = .ok (.iconst 0, 1) := by decide +kernel
theorem dX5_pass_201 : decode cX5_pass 201 = .ok (.iaload, 1) := by decide +kernel
theorem dX5_pass_202 : decode cX5_pass 202 = .ok (.iadd, 1) := by decide +kernel
theorem dX5_pass_203 : decode cX5_pass 203 = .ok (.aload_n 0, 1) := by decide +kernel
theorem dX5_pass_204 : decode cX5_pass 204 = .ok (.getfield 28, 3) := by decide +kernel
theorem dX5_pass_207 : decode cX5_pass 207 = .ok (.arraylength, 1) := by decide +kernel
theorem dX5_pass_208 : decode cX5_pass 208 = .ok (.irem, 1) := by decide +kernel
theorem dX5_pass_209 : decode cX5_pass 209 = .ok (.iastore, 1) := by decide +kernel
theorem dX5_pass_210 : decode cX5_pass 210 = .ok (.aload_n 0, 1) := by decide +kernel
theorem dX5_pass_211 : decode cX5_pass 211 = .ok (.getfield 28, 3) := by decide +kernel
theorem dX5_pass_214 : decode cX5_pass 214 = .ok (.aload 4, 2) := by decide +kernel
theorem dX5_pass_216 : decode cX5_pass 216 = .ok (.iconst 1, 1) := by decide +kernel
theorem dX5_pass_217 : decode cX5_pass 217 = .ok (.iaload, 1) := by decide +kernel
theorem dX5_pass_218 : decode cX5_pass 218 = .ok (.aaload, 1) := by decide +kernel
theorem dX5_pass_219 : decode cX5_pass 219 = .ok (.astore 5, 2) := by decide +kernel
theorem dX5_pass_221 : decode cX5_pass 221 = .ok (.aload 5, 2) := by decide +kernel
theorem dX5_pass_223 : decode cX5_pass 223 = .ok (.invokevirtual 61, 3) := by decide +kernel
theorem dX5_pass_226 : decode cX5_pass 226 = .ok (.ifCond .ne 6, 3) := by decide +kernel
theorem dX5_pass_229 : decode cX5_pass 229 = .ok (.goto 36, 3) := by decide +kernel
theorem dX5_pass_232 : decode cX5_pass 232 = .ok (.aload 5, 2) := by decide +kernel
theorem dX5_pass_234 : decode cX5_pass 234 = .ok (.dup, 1) := by decide +kernel
theorem dX5_pass_235 : decode cX5_pass 235 = .ok (.getfield 51, 3) := by decide +kernel
theorem dX5_pass_238 : decode cX5_pass 238 = .ok (.iconst 1, 1) := by decide +kernel
theorem dX5_pass_239 : decode cX5_pass 239 = .ok (.isub, 1) := by decide +kernel
theorem dX5_pass_240 : decode cX5_pass 240 = .ok (.putfield 51, 3) := by decide +kernel
theorem dX5_pass_243 : decode cX5_pass 243 = .ok (.aload_n 0, 1) := by decide +kernel
theorem dX5_pass_244 : decode cX5_pass 244 = .ok (.getfield 17, 3) := by decide +kernel
theorem dX5_pass_247 : decode cX5_pass 247 = .ok (.aload 5, 2) := by decide +kernel
theorem dX5_pass_249 : decode cX5_pass 249 = .ok (.getfield 65, 3) := by decide +kernel
theorem dX5_pass_252 : decode cX5_pass 252 = .ok (.dup2, 1) := by decide +kernel
theorem dX5_pass_253 : decode cX5_pass 253 = .ok (.iaload, 1) := by decide +kernel
theorem dX5_pass_254 : decode cX5_pass 254 = .ok (.iconst 1, 1) := by decide +kernel
theorem dX5_pass_255 : decode cX5_pass 255 = .ok (.iadd, 1) := by decide +kernel
theorem dX5_pass_256 : decode cX5_pass 256 = .ok (.iastore, 1) := by decide +kernel
theorem dX5_pass_257 : decode cX5_pass 257 = .ok (.aload 4, 2) := by decide +kernel
theorem dX5_pass_259 : decode cX5_pass 259 = .ok (.iconst 2, 1) := by decide +kernel
theorem dX5_pass_260 : decode cX5_pass 260 = .ok (.dup2, 1) := by decide +kernel
theorem dX5_pass_261 : decode cX5_pass 261 = .ok (.iaload, 1) := by decide +kernel
theorem dX5_pass_262 : decode cX5_pass 262 = .ok (.iconst 1, 1) := by decide +kernel
theorem dX5_pass_263 : decode cX5_pass 263 = .ok (.iadd, 1) := by decide +kernel
theorem dX5_pass_264 : decode cX5_pass 264 = .ok (.iastore, 1) := by decide +kernel
theorem dX5_pass_265 : decode cX5_pass 265 = .ok (.iinc 3 1, 3) := by decide +kernel
theorem dX5_pass_268 : decode cX5_pass 268 = .ok (.goto (-109), 3) := by decide +kernel
theorem dX5_pass_271 : decode cX5_pass 271 = .ok (.aload_n 0, 1) := by decide +kernel
theorem dX5_pass_272 : decode cX5_pass 272 = .ok (.dup, 1) := by decide +kernel
theorem dX5_pass_273 : decode cX5_pass 273 = .ok (.getfield 38, 3) := by decide +kernel
theorem dX5_pass_276 : decode cX5_pass 276 = .ok (.iconst 1, 1) := by decide +kernel
theorem dX5_pass_277 : decode cX5_pass 277 = .ok (.iadd, 1) := by decide +kernel
theorem dX5_pass_278 : decode cX5_pass 278 = .ok (.putfield 38, 3) := by decide +kernel
theorem dX5_pass_281 : decode cX5_pass 281 = .ok (.return_, 1) := by decide +kernel
set_option maxRecDepth 20000 in
theorem ggX5_behind_X5_pass : GoodIn wsX5_behind wsX5_pass := goodIn_r _ [5, 6, 7, 8, 9, 10, 11, 12, 13, 14, 15, 16, 17, 18, 19, 20, 21, 22, 23, 24, 25, 26, 27, 28, 29, 30, 31, 32, 33, 34, 35, 36, 37, 38, 39, 40, 41, 42, 43, 44] (by decide +kernel) (by decide +kernel)
set_option maxRecDepth 20000 in
theorem gX5_behind_X5_pass : GoodIn wsX5_behind (wsV RX5 68 RX5 yX5_pass wsX5_pass) := goodIn_app (goodIn_of _ (by decide +kernel)) ggX5_behind_X5_pass
theorem dX5_behind_0 : decode cX5_behind 0 = .ok (.iconst 0, 1) := by decide +kernel
theorem dX5_behind_1 : decode cX5_behind 1 = .ok (.istore_n 2, 1) := by decide +kernel
theorem dX5_behind_2 : decode cX5_behind 2 = .ok (.iload_n 2, 1) := by decide +kernel
theorem dX5_behind_3 : decode cX5_behind 3 = .ok (.iload_n 1, 1) := by decide +kernel
theorem dX5_behind_4 : decode cX5_behind 4 = .ok (.if_icmp .ge 13, 3) := by decide +kernel
theorem dX5_behind_7 : decode cX5_behind 7 = .ok (.aload_n 0, 1) := by decide +kernel
theorem dX5_behind_8 : decode cX5_behind 8 = .ok (.invokevirtual 68, 3) := by decide +kernel
theorem dX5_behind_11 : decode cX5_behind 11 = .ok (.iinc 2 1, 3) := by decide +kernel
theorem dX5_behind_14 : decode cX5_behind 14 = .ok (.goto (-12), 3) := by decide +kernel
theorem dX5_behind_17 : decode cX5_behind 17 = .ok (.aload_n 0, 1) := by decide +kernel
theorem dX5_behind_18 : decode cX5_behind 18 = .ok (.areturn, 1) := by decide +kernel
set_option maxRecDepth 20000 in
theorem ggX5_counted_X7_rusty : GoodIn wsX5_counted wsX7_rusty := goodIn_r _ [16, 17, 18, 28, 29, 30, 31, 32] (by decide +kernel) (by decide +kernel)
set_option maxRecDepth 20000 in
theorem gX5_counted_X7_rusty : GoodIn wsX5_counted (wsV RX5 71 RX7 yX7_rusty wsX7_rusty) := goodIn_app (goodIn_of _ (by decide +kernel)) ggX5_counted_X7_rusty
theorem dX5_counted_0 : decode cX5_counted 0 = .ok (.iconst 5, 1) := by decide +kernel
theorem dX5_counted_1 : decode cX5_counted 1 = .ok (.newarray .int, 2) := by decide +kernel
theorem dX5_counted_3 : decode cX5_counted 3 = .ok (.astore_n 2, 1) := by decide +kernel
theorem dX5_counted_4 : decode cX5_counted 4 = .ok (.iconst 0, 1) := by decide +kernel
theorem dX5_counted_5 : decode cX5_counted 5 = .ok (.istore_n 3, 1) := by decide +kernel
theorem dX5_counted_6 : decode cX5_counted 6 = .ok (.iload_n 3, 1) := by decide +kernel
theorem dX5_counted_7 : decode cX5_counted 7 = .ok (.iconst 5, 1) := by decide +kernel
theorem dX5_counted_8 : decode cX5_counted 8 = .ok (.if_icmp .ge 57, 3) := by decide +kernel
theorem dX5_counted_11 : decode cX5_counted 11 = .ok (.aload_n 2, 1) := by decide +kernel
theorem dX5_counted_12 : decode cX5_counted 12 = .ok (.iconst 0, 1) := by decide +kernel
theorem dX5_counted_13 : decode cX5_counted 13 = .ok (.dup2, 1) := by decide +kernel
theorem dX5_counted_14 : decode cX5_counted 14 = .ok (.iaload, 1) := by decide +kernel
theorem dX5_counted_15 : decode cX5_counted 15 = .ok (.aload_n 0, 1) := by decide +kernel
theorem dX5_counted_16 : decode cX5_counted 16 = .ok (.getfield 13, 3) := by decide +kernel
theorem dX5_counted_19 : decode cX5_counted 19 = .ok (.iload_n 3, 1) := by decide +kernel
theorem dX5_counted_20 : decode cX5_counted 20 = .ok (.iaload, 1) := by decide +kernel
theorem dX5_counted_21 : decode cX5_counted 21 = .ok (.iadd, 1) := by decide +kernel
theorem dX5_counted_22 : decode cX5_counted 22 = .ok (.iastore, 1) := by decide +kernel
theorem dX5_counted_23 : decode cX5_counted 23 = .ok (.aload_n 2, 1) := by decide +kernel
theorem dX5_counted_24 : decode cX5_counted 24 = .ok (.iconst 1, 1) := by decide +kernel
theorem dX5_counted_25 : decode cX5_counted 25 = .ok (.dup2, 1) := by decide +kernel
theorem dX5_counted_26 : decode cX5_counted 26 = .ok (.iaload, 1) := by decide +kernel
theorem dX5_counted_27 : decode cX5_counted 27 = .ok (.aload_n 0, 1) := by decide +kernel
theorem dX5_counted_28 : decode cX5_counted 28 = .ok (.getfield 17, 3) := by decide +kernel
theorem dX5_counted_31 : decode cX5_counted 31 = .ok (.iload_n 3, 1) := by decide +kernel
theorem dX5_counted_32 : decode cX5_counted 32 = .ok (.iaload, 1) := by decide +kernel
theorem dX5_counted_33 : decode cX5_counted 33 = .ok (.iadd, 1) := by decide +kernel
theorem dX5_counted_34 : decode cX5_counted 34 = .ok (.iastore, 1) := by decide +kernel
theorem dX5_counted_35 : decode cX5_counted 35 = .ok (.aload_n 2, 1) := by decide +kernel
theorem dX5_counted_36 : decode cX5_counted 36 = .ok (.iconst 3, 1) := by decide +kernel
theorem dX5_counted_37 : decode cX5_counted 37 = .ok (.dup2, 1) := by decide +kernel
theorem dX5_counted_38 : decode cX5_counted 38 = .ok (.iaload, 1) := by decide +kernel
theorem dX5_counted_39 : decode cX5_counted 39 = .ok (.aload_n 0, 1) := by decide +kernel
theorem dX5_counted_40 : decode cX5_counted 40 = .ok (.getfield 20, 3) := by decide +kernel
theorem dX5_counted_43 : decode cX5_counted 43 = .ok (.iload_n 3, 1) := by decide +kernel
theorem dX5_counted_44 : decode cX5_counted 44 = .ok (.iaload, 1) := by decide +kernel
theorem dX5_counted_45 : decode cX5_counted 45 = .ok (.iadd, 1) := by decide +kernel
theorem dX5_counted_46 : decode cX5_counted 46 = .ok (.iastore, 1) := by decide +kernel
theorem dX5_counted_47 : decode cX5_counted 47 = .ok (.aload_n 2, 1) := by decide +kernel
theorem dX5_counted_48 : decode cX5_counted 48 = .ok (.iconst 4, 1) := by decide +kernel
theorem dX5_counted_49 : decode cX5_counted 49 = .ok (.dup2, 1) := by decide +kernel
theorem dX5_counted_50 : decode cX5_counted 50 = .ok (.iaload, 1) := by decide +kernel
theorem dX5_counted_51 : decode cX5_counted 51 = .ok (.aload_n 0, 1) := by decide +kernel
theorem dX5_counted_52 : decode cX5_counted 52 = .ok (.getfield 23, 3) := by decide +kernel
theorem dX5_counted_55 : decode cX5_counted 55 = .ok (.iload_n 3, 1) := by decide +kernel
theorem dX5_counted_56 : decode cX5_counted 56 = .ok (.iaload, 1) := by decide +kernel
theorem dX5_counted_57 : decode cX5_counted 57 = .ok (.iadd, 1) := by decide +kernel
theorem dX5_counted_58 : decode cX5_counted 58 = .ok (.iastore, 1) := by decide +kernel
theorem dX5_counted_59 : decode cX5_counted 59 = .ok (.iinc 3 1, 3) := by decide +kernel
theorem dX5_counted_62 : decode cX5_counted 62 = .ok (.goto (-56), 3) := by decide +kernel
theorem dX5_counted_65 : decode cX5_counted 65 = .ok (.iconst 0, 1) := by decide +kernel
theorem dX5_counted_66 : decode cX5_counted 66 = .ok (.istore_n 3, 1) := by decide +kernel
theorem dX5_counted_67 : decode cX5_counted 67 = .ok (.aload_n 0, 1) := by decide +kernel
theorem dX5_counted_68 : decode cX5_counted 68 = .ok (.getfield 28, 3) := by decide +kernel
theorem dX5_counted_71 : decode cX5_counted 71 = .ok (.astore 4, 2) := by decide +kernel
theorem dX5_counted_73 : decode cX5_counted 73 = .ok (.aload 4, 2) := by decide +kernel
theorem dX5_counted_75 : decode cX5_counted 75 = .ok (.arraylength, 1) := by decide +kernel
theorem dX5_counted_76 : decode cX5_counted 76 = .ok (.istore 5, 2) := by decide +kernel
theorem dX5_counted_78 : decode cX5_counted 78 = .ok (.iconst 0, 1) := by decide +kernel
theorem dX5_counted_79 : decode cX5_counted 79 = .ok (.istore 6, 2) := by decide +kernel
theorem dX5_counted_81 : decode cX5_counted 81 = .ok (.iload 6, 2) := by decide +kernel
theorem dX5_counted_83 : decode cX5_counted 83 = .ok (.iload 5, 2) := by decide +kernel
theorem dX5_counted_85 : decode cX5_counted 85 = .ok (.if_icmp .ge 39, 3) := by decide +kernel
theorem dX5_counted_88 : decode cX5_counted 88 = .ok (.aload 4, 2) := by decide +kernel
theorem dX5_counted_90 : decode cX5_counted 90 = .ok (.iload 6, 2) := by decide +kernel
theorem dX5_counted_92 : decode cX5_counted 92 = .ok (.aaload, 1) := by decide +kernel
theorem dX5_counted_93 : decode cX5_counted 93 = .ok (.astore 7, 2) := by decide +kernel
theorem dX5_counted_95 : decode cX5_counted 95 = .ok (.aload_n 2, 1) := by decide +kernel
theorem dX5_counted_96 : decode cX5_counted 96 = .ok (.iconst 2, 1) := by decide +kernel
theorem dX5_counted_97 : decode cX5_counted 97 = .ok (.dup2, 1) := by decide +kernel
theorem dX5_counted_98 : decode cX5_counted 98 = .ok (.iaload, 1) := by decide +kernel
theorem dX5_counted_99 : decode cX5_counted 99 = .ok (.aload 7, 2) := by decide +kernel
theorem dX5_counted_101 : decode cX5_counted 101 = .ok (.getfield 51, 3) := by decide +kernel
theorem dX5_counted_104 : decode cX5_counted 104 = .ok (.iadd, 1) := by decide +kernel
theorem dX5_counted_105 : decode cX5_counted 105 = .ok (.iastore, 1) := by decide +kernel
theorem dX5_counted_106 : decode cX5_counted 106 = .ok (.iload_n 3, 1) := by decide +kernel
theorem dX5_counted_107 : decode cX5_counted 107 = .ok (.aload 7, 2) := by decide +kernel
theorem dX5_counted_109 : decode cX5_counted 109 = .ok (.aload_n 0, 1) := by decide +kernel
theorem dX5_counted_110 : decode cX5_counted 110 = .ok (.getfield 7, 3) := by decide +kernel
theorem dX5_counted_113 : decode cX5_counted 113 = .ok (.invokevirtual 71, 3) := by decide +kernel
theorem dX5_counted_116 : decode cX5_counted 116 = .ok (.iadd, 1) := by decide +kernel
theorem dX5_counted_117 : decode cX5_counted 117 = .ok (.istore_n 3, 1) := by decide +kernel
theorem dX5_counted_118 : decode cX5_counted 118 = .ok (.iinc 6 1, 3) := by decide +kernel
theorem dX5_counted_121 : decode cX5_counted 121 = .ok (.goto (-40), 3) := by decide +kernel
theorem dX5_counted_124 : decode cX5_counted 124 = .ok (.bipush 11, 2) := by decide +kernel
theorem dX5_counted_126 : decode cX5_counted 126 = .ok (.newarray .int, 2) := by decide +kernel
theorem dX5_counted_128 : decode cX5_counted 128 = .ok (.dup, 1) := by decide +kernel
theorem dX5_counted_129 : decode cX5_counted 129 = .ok (.iconst 0, 1) := by decide +kernel
theorem dX5_counted_130 : decode cX5_counted 130 = .ok (.aload_n 0, 1) := by decide +kernel
theorem dX5_counted_131 : decode cX5_counted 131 = .ok (.getfield 38, 3) := by decide +kernel
theorem dX5_counted_134 : decode cX5_counted 134 = .ok (.iastore, 1) := by decide +kernel
theorem dX5_counted_135 : decode cX5_counted 135 = .ok (.dup, 1) := by decide +kernel
theorem dX5_counted_136 : decode cX5_counted 136 = .ok (.iconst 1, 1) := by decide +kernel
theorem dX5_counted_137 : decode cX5_counted 137 = .ok (.aload_n 0, 1) := by decide +kernel
theorem dX5_counted_138 : decode cX5_counted 138 = .ok (.getfield 28, 3) := by decide +kernel
theorem dX5_counted_141 : decode cX5_counted 141 = .ok (.arraylength, 1) := by decide +kernel
theorem dX5_counted_142 : decode cX5_counted 142 = .ok (.iastore, 1) := by decide +kernel
theorem dX5_counted_143 : decode cX5_counted 143 = .ok (.dup, 1) := by decide +kernel
theorem dX5_counted_144 : decode cX5_counted 144 = .ok (.iconst 2, 1) := by decide +kernel
theorem dX5_counted_145 : decode cX5_counted 145 = .ok (.aload_n 0, 1) := by decide +kernel
theorem dX5_counted_146 : decode cX5_counted 146 = .ok (.getfield 33, 3) := by decide +kernel
theorem dX5_counted_149 : decode cX5_counted 149 = .ok (.arraylength, 1) := by decide +kernel
theorem dX5_counted_150 : decode cX5_counted 150 = .ok (.iastore, 1) := by decide +kernel
theorem dX5_counted_151 : decode cX5_counted 151 = .ok (.dup, 1) := by decide +kernel
theorem dX5_counted_152 : decode cX5_counted 152 = .ok (.iconst 3, 1) := by decide +kernel
theorem dX5_counted_153 : decode cX5_counted 153 = .ok (.aload_n 2, 1) := by decide +kernel
theorem dX5_counted_154 : decode cX5_counted 154 = .ok (.iconst 0, 1) := by decide +kernel
theorem dX5_counted_155 : decode cX5_counted 155 = .ok (.iaload, 1) := by decide +kernel
theorem dX5_counted_156 : decode cX5_counted 156 = .ok (.iastore, 1) := by decide +kernel
theorem dX5_counted_157 : decode cX5_counted 157 = .ok (.dup, 1) := by decide +kernel
theorem dX5_counted_158 : decode cX5_counted 158 = .ok (.iconst 4, 1) := by decide +kernel
theorem dX5_counted_159 : decode cX5_counted 159 = .ok (.aload_n 2, 1) := by decide +kernel
theorem dX5_counted_160 : decode cX5_counted 160 = .ok (.iconst 1, 1) := by decide +kernel
theorem dX5_counted_161 : decode cX5_counted 161 = .ok (.iaload, 1) := by decide +kernel
theorem dX5_counted_162 : decode cX5_counted 162 = .ok (.iastore, 1) := by decide +kernel
theorem dX5_counted_163 : decode cX5_counted 163 = .ok (.dup, 1) := by decide +kernel
theorem dX5_counted_164 : decode cX5_counted 164 = .ok (.iconst 5, 1) := by decide +kernel
theorem dX5_counted_165 : decode cX5_counted 165 = .ok (.aload_n 2, 1) := by decide +kernel
theorem dX5_counted_166 : decode cX5_counted 166 = .ok (.iconst 2, 1) := by decide +kernel
theorem dX5_counted_167 : decode cX5_counted 167 = .ok (.iaload, 1) := by decide +kernel
theorem dX5_counted_168 : decode cX5_counted 168 = .ok (.iastore, 1) := by decide +kernel
theorem dX5_counted_169 : decode cX5_counted 169 = .ok (.dup, 1) := by decide +kernel
theorem dX5_counted_170 : decode cX5_counted 170 = .ok (.bipush 6, 2) := by decide +kernel
theorem dX5_counted_172 : decode cX5_counted 172 = .ok (.iload_n 3, 1) := by decide +kernel
theorem dX5_counted_173 : decode cX5_counted 173 = .ok (.iastore, 1) := by decide +kernel
theorem dX5_counted_174 : decode cX5_counted 174 = .ok (.dup, 1) := by decide +kernel
theorem dX5_counted_175 : decode cX5_counted 175 = .ok (.bipush 7, 2) := by decide +kernel
theorem dX5_counted_177 : decode cX5_counted 177 = .ok (.aload_n 2, 1) := by decide +kernel
theorem dX5_counted_178 : decode cX5_counted 178 = .ok (.iconst 3, 1) := by decide +kernel
theorem dX5_counted_179 : decode cX5_counted 179 = .ok (.iaload, 1) := by decide +kernel
theorem dX5_counted_180 : decode cX5_counted 180 = .ok (.iastore, 1) := by decide +kernel
theorem dX5_counted_181 : decode cX5_counted 181 = .ok (.dup, 1) := by decide +kernel
theorem dX5_counted_182 : decode cX5_counted 182 = .ok (.bipush 8, 2) := by decide +kernel
theorem dX5_counted_184 : decode cX5_counted 184 = .ok (.aload_n 2, 1) := by decide +kernel
theorem dX5_counted_185 : decode cX5_counted 185 = .ok (.iconst 4, 1) := by decide +kernel
theorem dX5_counted_186 : decode cX5_counted 186 = .ok (.iaload, 1) := by decide +kernel
theorem dX5_counted_187 : decode cX5_counted 187 = .ok (.iastore, 1) := by decide +kernel
theorem dX5_counted_188 : decode cX5_counted 188 = .ok (.dup, 1) := by decide +kernel
theorem dX5_counted_189 : decode cX5_counted 189 = .ok (.bipush 9, 2) := by decide +kernel
theorem dX5_counted_191 : decode cX5_counted 191 = .ok (.aload_n 0, 1) := by decide +kernel
theorem dX5_counted_192 : decode cX5_counted 192 = .ok (.getfield 41, 3) := by decide +kernel
theorem dX5_counted_195 : decode cX5_counted 195 = .ok (.iastore, 1) := by decide +kernel
theorem dX5_counted_196 : decode cX5_counted 196 = .ok (.dup, 1) := by decide +kernel
theorem dX5_counted_197 : decode cX5_counted 197 = .ok (.bipush 10, 2) := by decide +kernel
theorem dX5_counted_199 : decode cX5_counted 199 = .ok (.aload_n 0, 1) := by decide +kernel
theorem dX5_counted_200 : decode cX5_counted 200 = .ok (.getfield 7, 3) := by decide +kernel
theorem dX5_counted_203 : decode cX5_counted 203 = .ok (.iastore, 1) := by decide +kernel
theorem dX5_counted_204 : decode cX5_counted 204 = .ok (.astore 4, 2) := by decide +kernel
theorem dX5_counted_206 : decode cX5_counted 206 = .ok (.aload 4, 2) := by decide +kernel
theorem dX5_counted_208 : decode cX5_counted 208 = .ok (.iload_n 1, 1) := by decide +kernel
theorem dX5_counted_209 : decode cX5_counted 209 = .ok (.iaload, 1) := by decide +kernel
theorem dX5_counted_210 : decode cX5_counted 210 = .ok (.ireturn, 1) := by decide +kernel
set_option maxRecDepth 20000 in
theorem ggX5_isSame_X4_count : GoodIn wsX5_isSame wsX4_count := goodIn_ca (goodIn_r _ [22, 23, 24, 25, 26, 27, 28, 29, 30, 31, 32, 33, 34, 35, 36, 37, 38, 39, 40, 41, 42, 43, 44, 45, 46, 47, 48, 49, 50, 51, 52, 53, 54, 55, 56, 57, 58, 59, 60, 61, 237, 238, 239, 240, 241, 242, 243, 244, 245, 246, 247, 248, 249, 250, 251, 252, 253, 254, 255] (by decide +kernel) (by decide +kernel)) (goodIn_sub (fun _ h => List.mem_cons_of_mem _ (List.mem_append_right _ h)) (by decide +kernel))
set_option maxRecDepth 20000 in
theorem gX5_isSame_X4_count : GoodIn wsX5_isSame (wsV RX5 74 RX4 yX4_count wsX4_count) := goodIn_app (goodIn_of _ (by decide +kernel)) ggX5_isSame_X4_count
set_option maxRecDepth 20000 in
theorem ggX5_isSame_X5_counted : GoodIn wsX5_isSame wsX5_counted := goodIn_r _ [66, 4, 5, 6, 7, 8, 1, 3, 16, 67, 17, 68, 69, 70, 71, 72, 73, 74, 75, 223, 224, 225, 226, 227, 228, 229, 230, 231, 232, 233, 234, 235, 236] (by decide +kernel) (by decide +kernel)
set_option maxRecDepth 20000 in
theorem gX5_isSame_X5_counted : GoodIn wsX5_isSame (wsV RX5 79 RX5 yX5_counted wsX5_counted) := goodIn_app (goodIn_of _ (by decide +kernel)) ggX5_isSame_X5_counted
set_option maxRecDepth 20000 in
theorem ggX5_isSame_X4_told : GoodIn wsX5_isSame wsX4_told := goodIn_ca (goodIn_r _ [79, 23, 24, 29, 25, 80, 30, 31, 81, 82, 21, 83, 84, 85, 86, 87, 88, 89, 37, 90, 39, 91, 92, 93, 43, 94, 46, 47, 95, 49, 237, 238, 239, 240, 241, 242, 243, 244, 245, 246, 247, 248, 249, 250, 251, 252, 253, 254, 255] (by decide +kernel) (by decide +kernel)) (goodIn_sub (fun _ h => List.mem_cons_of_mem _ (List.mem_append_right _ h)) (by decide +kernel))
set_option maxRecDepth 20000 in
theorem gX5_isSame_X4_told : GoodIn wsX5_isSame (wsV RX5 82 RX4 yX4_told wsX4_told) := goodIn_app (goodIn_of _ (by decide +kernel)) ggX5_isSame_X4_told
set_option maxRecDepth 20000 in
theorem ggX5_isSame_X7_on : GoodIn wsX5_isSame wsX7_on := goodIn_r _ [99, 74, 100, 101, 102, 72, 103, 104, 232, 233, 234, 235, 236] (by decide +kernel) (by decide +kernel)
set_option maxRecDepth 20000 in
theorem gX5_isSame_X7_on : GoodIn wsX5_isSame (wsV RX5 54 RX7 yX7_on wsX7_on) := goodIn_app (goodIn_of _ (by decide +kernel)) ggX5_isSame_X7_on
set_option maxRecDepth 20000 in
theorem ggX5_isSame_X4_ball : GoodIn wsX5_isSame wsX4_ball := goodIn_ca (goodIn_r _ [108, 23, 24, 25, 109, 110, 111, 112, 113, 114, 21, 115, 27, 84, 85, 86, 116, 58, 59, 54, 60, 61, 117, 118, 119, 120, 121, 122, 123, 124, 125, 126, 127, 128, 129, 130, 131, 132, 133, 134, 135, 136, 137, 138, 139, 140, 141, 142, 143, 144, 145, 146, 56, 147, 148, 149, 150, 151, 152, 153, 154, 155, 156, 157, 11, 12, 13, 158, 159, 160, 161, 162, 163, 164, 165, 166, 167, 237, 238, 239, 240, 241, 242, 243, 244, 245, 246, 247, 248, 249, 250, 252, 253, 254, 255, 256, 257, 258, 259] (by decide +kernel) (by decide +kernel)) (goodIn_sub (fun _ h => List.mem_cons_of_mem _ (List.mem_append_right _ h)) (by decide +kernel))
set_option maxRecDepth 20000 in
theorem gX5_isSame_X4_ball : GoodIn wsX5_isSame (wsV RX5 94 RX4 yX4_ball wsX4_ball) := goodIn_app (goodIn_of _ (by decide +kernel)) ggX5_isSame_X4_ball
set_option maxRecDepth 20000 in
theorem ggX5_isSame_X4_at : GoodIn wsX5_isSame wsX4_at := goodIn_ca (goodIn_r _ [171, 23, 24, 25, 109, 111, 172, 110, 112, 113, 114, 21, 115, 27, 84, 85, 86, 173, 165, 166, 120, 167, 126, 133, 134, 135, 136, 127, 137, 237, 238, 239, 240, 241, 242, 243, 244, 245, 246, 247, 248, 249, 250, 252, 253, 254, 255, 256, 257, 258, 259] (by decide +kernel) (by decide +kernel)) (goodIn_sub (fun _ h => List.mem_cons_of_mem _ (List.mem_append_right _ h)) (by decide +kernel))
set_option maxRecDepth 20000 in
theorem gX5_isSame_X4_at : GoodIn wsX5_isSame (wsV RX5 98 RX4 yX4_at wsX4_at) := goodIn_app (goodIn_of _ (by decide +kernel)) ggX5_isSame_X4_at
set_option maxRecDepth 20000 in
theorem ggX5_isSame_X7_layers : GoodIn wsX5_isSame wsX7_layers := goodIn_r _ [177, 74, 104, 232, 233, 234, 235, 236] (by decide +kernel) (by decide +kernel)
set_option maxRecDepth 20000 in
theorem gX5_isSame_X7_layers : GoodIn wsX5_isSame (wsV RX5 105 RX7 yX7_layers wsX7_layers) := goodIn_app (goodIn_of _ (by decide +kernel)) ggX5_isSame_X7_layers
set_option maxRecDepth 20000 in
theorem ggX5_isSame_X7_isOpen : GoodIn wsX5_isSame wsX7_isOpen := goodIn_r _ [181, 74, 75, 104, 232, 233, 234, 235, 236] (by decide +kernel) (by decide +kernel)
set_option maxRecDepth 20000 in
theorem gX5_isSame_X7_isOpen : GoodIn wsX5_isSame (wsV RX5 61 RX7 yX7_isOpen wsX7_isOpen) := goodIn_app (goodIn_of _ (by decide +kernel)) ggX5_isSame_X7_isOpen
set_option maxRecDepth 20000 in
theorem ggX5_isSame_X7_rusty : GoodIn wsX5_isSame wsX7_rusty := goodIn_r _ [73, 74, 75, 232, 233, 234, 235, 236] (by decide +kernel) (by decide +kernel)
set_option maxRecDepth 20000 in
theorem gX5_isSame_X7_rusty : GoodIn wsX5_isSame (wsV RX5 71 RX7 yX7_rusty wsX7_rusty) := goodIn_app (goodIn_of _ (by decide +kernel)) ggX5_isSame_X7_rusty
set_option maxRecDepth 20000 in
theorem ggX5_isSame_X4_about : GoodIn wsX5_isSame wsX4_about := goodIn_ca (goodIn_r _ [185, 23, 24, 25, 109, 186, 111, 172, 110, 187, 33, 112, 113, 114, 21, 115, 27, 84, 85, 86, 188, 189, 190, 120, 191, 126, 127, 192, 123, 124, 125, 193, 194, 195, 54, 196, 56, 197, 143, 144, 145, 146, 147, 148, 149, 150, 151, 137, 198, 52, 53, 55, 57, 58, 59, 60, 61, 199, 200, 201, 202, 157, 11, 12, 13, 203, 204, 205, 206, 237, 238, 239, 240, 241, 242, 243, 244, 245, 246, 247, 248, 249, 250, 252, 253, 254, 255, 256, 257, 258, 259] (by decide +kernel) (by decide +kernel)) (goodIn_sub (fun _ h => List.mem_cons_of_mem _ (List.mem_append_right _ h)) (by decide +kernel))
set_option maxRecDepth 20000 in
theorem gX5_isSame_X4_about : GoodIn wsX5_isSame (wsV RX5 109 RX4 yX4_about wsX4_about) := goodIn_app (goodIn_of _ (by decide +kernel)) ggX5_isSame_X4_about
set_option maxRecDepth 20000 in
theorem ggX5_isSame_X4_mouser : GoodIn wsX5_isSame wsX4_mouser := goodIn_ca (goodIn_r _ [210, 23, 24, 25, 211, 212, 213, 214, 215, 216, 217, 21, 218, 28, 84, 85, 86, 237, 238, 239, 240, 241, 242, 243, 244, 245, 246, 247, 248, 249, 250, 260, 261, 262] (by decide +kernel) (by decide +kernel)) (goodIn_sub (fun _ h => List.mem_cons_of_mem _ (List.mem_append_right _ h)) (by decide +kernel))
set_option maxRecDepth 20000 in
theorem gX5_isSame_X4_mouser : GoodIn wsX5_isSame (wsV RX5 112 RX4 yX4_mouser wsX4_mouser) := goodIn_app (goodIn_of _ (by decide +kernel)) ggX5_isSame_X4_mouser
set_option maxRecDepth 20000 in
theorem ggX5_isSame_X4_mean : GoodIn wsX5_isSame wsX4_mean := goodIn_r _ [222, 25, 27, 109, 110, 203, 204, 205, 54, 206, 56, 57, 58, 59, 60, 61, 237, 238, 239, 240, 241, 242, 243, 244, 245, 246, 247, 248, 249, 250, 252, 253, 254, 255] (by decide +kernel) (by decide +kernel)
set_option maxRecDepth 20000 in
theorem gX5_isSame_X4_mean : GoodIn wsX5_isSame (wsV RX5 115 RX4 yX4_mean wsX4_mean) := goodIn_app (goodIn_of _ (by decide +kernel)) ggX5_isSame_X4_mean
theorem dX5_isSame_0 : decode cX5_isSame 0 = .ok (.iconst 0, 1) := by decide +kernel
theorem dX5_isSame_1 : decode cX5_isSame 1 = .ok (.istore_n 3, 1) := by decide +kernel
theorem dX5_isSame_2 : decode cX5_isSame 2 = .ok (.iload_n 3, 1) := by decide +kernel
theorem dX5_isSame_3 : decode cX5_isSame 3 = .ok (.bipush 11, 2) := by decide +kernel
theorem dX5_isSame_5 : decode cX5_isSame 5 = .ok (.if_icmp .ge 24, 3) := by decide +kernel
theorem dX5_isSame_8 : decode cX5_isSame 8 = .ok (.aload_n 1, 1) := by decide +kernel
theorem dX5_isSame_9 : decode cX5_isSame 9 = .ok (.iload_n 3, 1) := by decide +kernel
theorem dX5_isSame_10 : decode cX5_isSame 10 = .ok (.invokevirtual 74, 3) := by decide +kernel
theorem dX5_isSame_13 : decode cX5_isSame 13 = .ok (.aload_n 0, 1) := by decide +kernel
theorem dX5_isSame_14 : decode cX5_isSame 14 = .ok (.iload_n 3, 1) := by decide +kernel
theorem dX5_isSame_15 : decode cX5_isSame 15 = .ok (.invokevirtual 79, 3) := by decide +kernel
theorem dX5_isSame_18 : decode cX5_isSame 18 = .ok (.if_icmp .eq 5, 3) := by decide +kernel
theorem dX5_isSame_21 : decode cX5_isSame 21 = .ok (.iconst 0, 1) := by decide +kernel
theorem dX5_isSame_22 : decode cX5_isSame 22 = .ok (.ireturn, 1) := by decide +kernel
theorem dX5_isSame_23 : decode cX5_isSame 23 = .ok (.iinc 3 1, 3) := by decide +kernel
theorem dX5_isSame_26 : decode cX5_isSame 26 = .ok (.goto (-24), 3) := by decide +kernel
theorem dX5_isSame_29 : decode cX5_isSame 29 = .ok (.iconst 0, 1) := by decide +kernel
theorem dX5_isSame_30 : decode cX5_isSame 30 = .ok (.istore_n 3, 1) := by decide +kernel
theorem dX5_isSame_31 : decode cX5_isSame 31 = .ok (.iconst 0, 1) := by decide +kernel
theorem dX5_isSame_32 : decode cX5_isSame 32 = .ok (.istore 4, 2) := by decide +kernel
theorem dX5_isSame_34 : decode cX5_isSame 34 = .ok (.iload 4, 2) := by decide +kernel
theorem dX5_isSame_36 : decode cX5_isSame 36 = .ok (.iconst 5, 1) := by decide +kernel
theorem dX5_isSame_37 : decode cX5_isSame 37 = .ok (.if_icmp .ge 153, 3) := by decide +kernel
theorem dX5_isSame_40 : decode cX5_isSame 40 = .ok (.iconst 0, 1) := by decide +kernel
theorem dX5_isSame_41 : decode cX5_isSame 41 = .ok (.istore 5, 2) := by decide +kernel
theorem dX5_isSame_43 : decode cX5_isSame 43 = .ok (.aload_n 0, 1) := by decide +kernel
theorem dX5_isSame_44 : decode cX5_isSame 44 = .ok (.getfield 28, 3) := by decide +kernel
theorem dX5_isSame_47 : decode cX5_isSame 47 = .ok (.astore 6, 2) := by decide +kernel
theorem dX5_isSame_49 : decode cX5_isSame 49 = .ok (.aload 6, 2) := by decide +kernel
theorem dX5_isSame_51 : decode cX5_isSame 51 = .ok (.arraylength, 1) := by decide +kernel
theorem dX5_isSame_52 : decode cX5_isSame 52 = .ok (.istore 7, 2) := by decide +kernel
theorem dX5_isSame_54 : decode cX5_isSame 54 = .ok (.iconst 0, 1) := by decide +kernel
theorem dX5_isSame_55 : decode cX5_isSame 55 = .ok (.istore 8, 2) := by decide +kernel
theorem dX5_isSame_57 : decode cX5_isSame 57 = .ok (.iload 8, 2) := by decide +kernel
theorem dX5_isSame_59 : decode cX5_isSame 59 = .ok (.iload 7, 2) := by decide +kernel
theorem dX5_isSame_61 : decode cX5_isSame 61 = .ok (.if_icmp .ge 40, 3) := by decide +kernel
theorem dX5_isSame_64 : decode cX5_isSame 64 = .ok (.aload 6, 2) := by decide +kernel
theorem dX5_isSame_66 : decode cX5_isSame 66 = .ok (.iload 8, 2) := by decide +kernel
theorem dX5_isSame_68 : decode cX5_isSame 68 = .ok (.aaload, 1) := by decide +kernel
theorem dX5_isSame_69 : decode cX5_isSame 69 = .ok (.astore 9, 2) := by decide +kernel
theorem dX5_isSame_71 : decode cX5_isSame 71 = .ok (.iload 5, 2) := by decide +kernel
theorem dX5_isSame_73 : decode cX5_isSame 73 = .ok (.aload 9, 2) := by decide +kernel
theorem dX5_isSame_75 : decode cX5_isSame 75 = .ok (.getfield 65, 3) := by decide +kernel
theorem dX5_isSame_78 : decode cX5_isSame 78 = .ok (.iload 4, 2) := by decide +kernel
theorem dX5_isSame_80 : decode cX5_isSame 80 = .ok (.if_icmp .ne 11, 3) := by decide +kernel
theorem dX5_isSame_83 : decode cX5_isSame 83 = .ok (.aload 9, 2) := by decide +kernel
theorem dX5_isSame_85 : decode cX5_isSame 85 = .ok (.getfield 51, 3) := by decide +kernel
theorem dX5_isSame_88 : decode cX5_isSame 88 = .ok (.goto 4, 3) := by decide +kernel
theorem dX5_isSame_91 : decode cX5_isSame 91 = .ok (.iconst 0, 1) := by decide +kernel
theorem dX5_isSame_92 : decode cX5_isSame 92 = .ok (.iadd, 1) := by decide +kernel
theorem dX5_isSame_93 : decode cX5_isSame 93 = .ok (.istore 5, 2) := by decide +kernel
theorem dX5_isSame_95 : decode cX5_isSame 95 = .ok (.iinc 8 1, 3) := by decide +kernel
theorem dX5_isSame_98 : decode cX5_isSame 98 = .ok (.goto (-41), 3) := by decide +kernel
theorem dX5_isSame_101 : decode cX5_isSame 101 = .ok (.iconst 5, 1) := by decide +kernel
theorem dX5_isSame_102 : decode cX5_isSame 102 = .ok (.newarray .int, 2) := by decide +kernel
theorem dX5_isSame_104 : decode cX5_isSame 104 = .ok (.dup, 1) := by decide +kernel
theorem dX5_isSame_105 : decode cX5_isSame 105 = .ok (.iconst 0, 1) := by decide +kernel
theorem dX5_isSame_106 : decode cX5_isSame 106 = .ok (.aload_n 0, 1) := by decide +kernel
theorem dX5_isSame_107 : decode cX5_isSame 107 = .ok (.getfield 13, 3) := by decide +kernel
theorem dX5_isSame_110 : decode cX5_isSame 110 = .ok (.iload 4, 2) := by decide +kernel
theorem dX5_isSame_112 : decode cX5_isSame 112 = .ok (.iaload, 1) := by decide +kernel
theorem dX5_isSame_113 : decode cX5_isSame 113 = .ok (.iastore, 1) := by decide +kernel
theorem dX5_isSame_114 : decode cX5_isSame 114 = .ok (.dup, 1) := by decide +kernel
theorem dX5_isSame_115 : decode cX5_isSame 115 = .ok (.iconst 1, 1) := by decide +kernel
theorem dX5_isSame_116 : decode cX5_isSame 116 = .ok (.aload_n 0, 1) := by decide +kernel
theorem dX5_isSame_117 : decode cX5_isSame 117 = .ok (.getfield 17, 3) := by decide +kernel
theorem dX5_isSame_120 : decode cX5_isSame 120 = .ok (.iload 4, 2) := by decide +kernel
theorem dX5_isSame_122 : decode cX5_isSame 122 = .ok (.iaload, 1) := by decide +kernel
theorem dX5_isSame_123 : decode cX5_isSame 123 = .ok (.iastore, 1) := by decide +kernel
theorem dX5_isSame_124 : decode cX5_isSame 124 = .ok (.dup, 1) := by decide +kernel
theorem dX5_isSame_125 : decode cX5_isSame 125 = .ok (.iconst 2, 1) := by decide +kernel
theorem dX5_isSame_126 : decode cX5_isSame 126 = .ok (.iload 5, 2) := by decide +kernel
theorem dX5_isSame_128 : decode cX5_isSame 128 = .ok (.iastore, 1) := by decide +kernel
theorem dX5_isSame_129 : decode cX5_isSame 129 = .ok (.dup, 1) := by decide +kernel
theorem dX5_isSame_130 : decode cX5_isSame 130 = .ok (.iconst 3, 1) := by decide +kernel
theorem dX5_isSame_131 : decode cX5_isSame 131 = .ok (.aload_n 0, 1) := by decide +kernel
theorem dX5_isSame_132 : decode cX5_isSame 132 = .ok (.getfield 20, 3) := by decide +kernel
theorem dX5_isSame_135 : decode cX5_isSame 135 = .ok (.iload 4, 2) := by decide +kernel
theorem dX5_isSame_137 : decode cX5_isSame 137 = .ok (.iaload, 1) := by decide +kernel
theorem dX5_isSame_138 : decode cX5_isSame 138 = .ok (.iastore, 1) := by decide +kernel
theorem dX5_isSame_139 : decode cX5_isSame 139 = .ok (.dup, 1) := by decide +kernel
theorem dX5_isSame_140 : decode cX5_isSame 140 = .ok (.iconst 4, 1) := by decide +kernel
theorem dX5_isSame_141 : decode cX5_isSame 141 = .ok (.aload_n 0, 1) := by decide +kernel
theorem dX5_isSame_142 : decode cX5_isSame 142 = .ok (.getfield 23, 3) := by decide +kernel
theorem dX5_isSame_145 : decode cX5_isSame 145 = .ok (.iload 4, 2) := by decide +kernel
theorem dX5_isSame_147 : decode cX5_isSame 147 = .ok (.iaload, 1) := by decide +kernel
theorem dX5_isSame_148 : decode cX5_isSame 148 = .ok (.iastore, 1) := by decide +kernel
theorem dX5_isSame_149 : decode cX5_isSame 149 = .ok (.astore 6, 2) := by decide +kernel
theorem dX5_isSame_151 : decode cX5_isSame 151 = .ok (.iconst 0, 1) := by decide +kernel
theorem dX5_isSame_152 : decode cX5_isSame 152 = .ok (.istore 7, 2) := by decide +kernel
theorem dX5_isSame_154 : decode cX5_isSame 154 = .ok (.iload 7, 2) := by decide +kernel
theorem dX5_isSame_156 : decode cX5_isSame 156 = .ok (.iconst 5, 1) := by decide +kernel
theorem dX5_isSame_157 : decode cX5_isSame 157 = .ok (.if_icmp .ge 27, 3) := by decide +kernel
theorem dX5_isSame_160 : decode cX5_isSame 160 = .ok (.aload_n 1, 1) := by decide +kernel
theorem dX5_isSame_161 : decode cX5_isSame 161 = .ok (.iload 4, 2) := by decide +kernel
theorem dX5_isSame_163 : decode cX5_isSame 163 = .ok (.iload 7, 2) := by decide +kernel
theorem dX5_isSame_165 : decode cX5_isSame 165 = .ok (.invokevirtual 82, 3) := by decide +kernel
theorem dX5_isSame_168 : decode cX5_isSame 168 = .ok (.aload 6, 2) := by decide +kernel
theorem dX5_isSame_170 : decode cX5_isSame 170 = .ok (.iload 7, 2) := by decide +kernel
theorem dX5_isSame_172 : decode cX5_isSame 172 = .ok (.iaload, 1) := by decide +kernel
theorem dX5_isSame_173 : decode cX5_isSame 173 = .ok (.if_icmp .eq 5, 3) := by decide +kernel
theorem dX5_isSame_176 : decode cX5_isSame 176 = .ok (.iconst 0, 1) := by decide +kernel
theorem dX5_isSame_177 : decode cX5_isSame 177 = .ok (.ireturn, 1) := by decide +kernel
theorem dX5_isSame_178 : decode cX5_isSame 178 = .ok (.iinc 7 1, 3) := by decide +kernel
theorem dX5_isSame_181 : decode cX5_isSame 181 = .ok (.goto (-27), 3) := by decide +kernel
theorem dX5_isSame_184 : decode cX5_isSame 184 = .ok (.iinc 4 1, 3) := by decide +kernel
theorem dX5_isSame_187 : decode cX5_isSame 187 = .ok (.goto (-153), 3) := by decide +kernel
theorem dX5_isSame_190 : decode cX5_isSame 190 = .ok (.iconst 0, 1) := by decide +kernel
theorem dX5_isSame_191 : decode cX5_isSame 191 = .ok (.istore 4, 2) := by decide +kernel
theorem dX5_isSame_193 : decode cX5_isSame 193 = .ok (.iload 4, 2) := by decide +kernel
theorem dX5_isSame_195 : decode cX5_isSame 195 = .ok (.aload_n 0, 1) := by decide +kernel
theorem dX5_isSame_196 : decode cX5_isSame 196 = .ok (.getfield 28, 3) := by decide +kernel
theorem dX5_isSame_199 : decode cX5_isSame 199 = .ok (.arraylength, 1) := by decide +kernel
theorem dX5_isSame_200 : decode cX5_isSame 200 = .ok (.if_icmp .ge 381, 3) := by decide +kernel
theorem dX5_isSame_203 : decode cX5_isSame 203 = .ok (.aload_n 0, 1) := by decide +kernel
theorem dX5_isSame_204 : decode cX5_isSame 204 = .ok (.getfield 28, 3) := by decide +kernel
theorem dX5_isSame_207 : decode cX5_isSame 207 = .ok (.iload 4, 2) := by decide +kernel
theorem dX5_isSame_209 : decode cX5_isSame 209 = .ok (.aaload, 1) := by decide +kernel
theorem dX5_isSame_210 : decode cX5_isSame 210 = .ok (.astore 5, 2) := by decide +kernel
theorem dX5_isSame_212 : decode cX5_isSame 212 = .ok (.iconst 0, 1) := by decide +kernel
theorem dX5_isSame_213 : decode cX5_isSame 213 = .ok (.istore 6, 2) := by decide +kernel
theorem dX5_isSame_215 : decode cX5_isSame 215 = .ok (.iconst 0, 1) := by decide +kernel
theorem dX5_isSame_216 : decode cX5_isSame 216 = .ok (.istore 7, 2) := by decide +kernel
theorem dX5_isSame_218 : decode cX5_isSame 218 = .ok (.iconst 0, 1) := by decide +kernel
theorem dX5_isSame_219 : decode cX5_isSame 219 = .ok (.istore 8, 2) := by decide +kernel
theorem dX5_isSame_221 : decode cX5_isSame 221 = .ok (.iconst 0, 1) := by decide +kernel
theorem dX5_isSame_222 : decode cX5_isSame 222 = .ok (.istore 9, 2) := by decide +kernel
theorem dX5_isSame_224 : decode cX5_isSame 224 = .ok (.iload 9, 2) := by decide +kernel
theorem dX5_isSame_226 : decode cX5_isSame 226 = .ok (.aload 5, 2) := by decide +kernel
theorem dX5_isSame_228 : decode cX5_isSame 228 = .ok (.getfield 51, 3) := by decide +kernel
theorem dX5_isSame_231 : decode cX5_isSame 231 = .ok (.if_icmp .ge 205, 3) := by decide +kernel
theorem dX5_isSame_234 : decode cX5_isSame 234 = .ok (.aload 5, 2) := by decide +kernel
theorem dX5_isSame_236 : decode cX5_isSame 236 = .ok (.iload 9, 2) := by decide +kernel
theorem dX5_isSame_238 : decode cX5_isSame 238 = .ok (.invokevirtual 54, 3) := by decide +kernel
theorem dX5_isSame_241 : decode cX5_isSame 241 = .ok (.istore 10, 2) := by decide +kernel
theorem dX5_isSame_243 : decode cX5_isSame 243 = .ok (.iload 6, 2) := by decide +kernel
theorem dX5_isSame_245 : decode cX5_isSame 245 = .ok (.iload 10, 2) := by decide +kernel
theorem dX5_isSame_247 : decode cX5_isSame 247 = .ok (.ifCond .ne 7, 3) := by decide +kernel
theorem dX5_isSame_250 : decode cX5_isSame 250 = .ok (.iconst 1, 1) := by decide +kernel
theorem dX5_isSame_251 : decode cX5_isSame 251 = .ok (.goto 4, 3) := by decide +kernel
theorem dX5_isSame_254 : decode cX5_isSame 254 = .ok (.iconst 0, 1) := by decide +kernel
theorem dX5_isSame_255 : decode cX5_isSame 255 = .ok (.iadd, 1) := by decide +kernel
theorem dX5_isSame_256 : decode cX5_isSame 256 = .ok (.istore 6, 2) := by decide +kernel
theorem dX5_isSame_258 : decode cX5_isSame 258 = .ok (.iload 7, 2) := by decide +kernel
theorem dX5_isSame_260 : decode cX5_isSame 260 = .ok (.aload 5, 2) := by decide +kernel
theorem dX5_isSame_262 : decode cX5_isSame 262 = .ok (.getfield 58, 3) := by decide +kernel
theorem dX5_isSame_265 : decode cX5_isSame 265 = .ok (.iload 9, 2) := by decide +kernel
theorem dX5_isSame_267 : decode cX5_isSame 267 = .ok (.iaload, 1) := by decide +kernel
theorem dX5_isSame_268 : decode cX5_isSame 268 = .ok (.invokestatic 86, 3) := by decide +kernel
theorem dX5_isSame_271 : decode cX5_isSame 271 = .ok (.istore 7, 2) := by decide +kernel
theorem dX5_isSame_273 : decode cX5_isSame 273 = .ok (.iload 8, 2) := by decide +kernel
theorem dX5_isSame_275 : decode cX5_isSame 275 = .ok (.aload 5, 2) := by decide +kernel
theorem dX5_isSame_277 : decode cX5_isSame 277 = .ok (.getfield 58, 3) := by decide +kernel
theorem dX5_isSame_280 : decode cX5_isSame 280 = .ok (.iload 9, 2) := by decide +kernel
theorem dX5_isSame_282 : decode cX5_isSame 282 = .ok (.iaload, 1) := by decide +kernel
theorem dX5_isSame_283 : decode cX5_isSame 283 = .ok (.iadd, 1) := by decide +kernel
theorem dX5_isSame_284 : decode cX5_isSame 284 = .ok (.istore 8, 2) := by decide +kernel
theorem dX5_isSame_286 : decode cX5_isSame 286 = .ok (.iload_n 2, 1) := by decide +kernel
theorem dX5_isSame_287 : decode cX5_isSame 287 = .ok (.ifCond .ne 16, 3) := by decide +kernel
theorem dX5_isSame_290 : decode cX5_isSame 290 = .ok (.iload 9, 2) := by decide +kernel
theorem dX5_isSame_292 : decode cX5_isSame 292 = .ok (.bipush 7, 2) := by decide +kernel
theorem dX5_isSame_294 : decode cX5_isSame 294 = .ok (.irem, 1) := by decide +kernel
theorem dX5_isSame_295 : decode cX5_isSame 295 = .ok (.iload 4, 2) := by decide +kernel
theorem dX5_isSame_297 : decode cX5_isSame 297 = .ok (.if_icmp .eq 6, 3) := by decide +kernel
theorem dX5_isSame_300 : decode cX5_isSame 300 = .ok (.goto 130, 3) := by decide +kernel
theorem dX5_isSame_303 : decode cX5_isSame 303 = .ok (.aload 5, 2) := by decide +kernel
theorem dX5_isSame_305 : decode cX5_isSame 305 = .ok (.getfield 91, 3) := by decide +kernel
theorem dX5_isSame_308 : decode cX5_isSame 308 = .ok (.iload 9, 2) := by decide +kernel
theorem dX5_isSame_310 : decode cX5_isSame 310 = .ok (.aaload, 1) := by decide +kernel
theorem dX5_isSame_311 : decode cX5_isSame 311 = .ok (.astore 11, 2) := by decide +kernel
theorem dX5_isSame_313 : decode cX5_isSame 313 = .ok (.bipush 6, 2) := by decide +kernel
theorem dX5_isSame_315 : decode cX5_isSame 315 = .ok (.newarray .int, 2) := by decide +kernel
theorem dX5_isSame_317 : decode cX5_isSame 317 = .ok (.dup, 1) := by decide +kernel
theorem dX5_isSame_318 : decode cX5_isSame 318 = .ok (.iconst 0, 1) := by decide +kernel
theorem dX5_isSame_319 : decode cX5_isSame 319 = .ok (.aload 5, 2) := by decide +kernel
theorem dX5_isSame_321 : decode cX5_isSame 321 = .ok (.getfield 58, 3) := by decide +kernel
theorem dX5_isSame_324 : decode cX5_isSame 324 = .ok (.iload 9, 2) := by decide +kernel
theorem dX5_isSame_326 : decode cX5_isSame 326 = .ok (.iaload, 1) := by decide +kernel
theorem dX5_isSame_327 : decode cX5_isSame 327 = .ok (.iastore, 1) := by decide +kernel
theorem dX5_isSame_328 : decode cX5_isSame 328 = .ok (.dup, 1) := by decide +kernel
theorem dX5_isSame_329 : decode cX5_isSame 329 = .ok (.iconst 1, 1) := by decide +kernel
theorem dX5_isSame_330 : decode cX5_isSame 330 = .ok (.aload 11, 2) := by decide +kernel
theorem dX5_isSame_332 : decode cX5_isSame 332 = .ok (.iconst 0, 1) := by decide +kernel
theorem dX5_isSame_333 : decode cX5_isSame 333 = .ok (.iaload, 1) := by decide +kernel
theorem dX5_isSame_334 : decode cX5_isSame 334 = .ok (.iastore, 1) := by decide +kernel
theorem dX5_isSame_335 : decode cX5_isSame 335 = .ok (.dup, 1) := by decide +kernel
theorem dX5_isSame_336 : decode cX5_isSame 336 = .ok (.iconst 2, 1) := by decide +kernel
theorem dX5_isSame_337 : decode cX5_isSame 337 = .ok (.aload 11, 2) := by decide +kernel
theorem dX5_isSame_339 : decode cX5_isSame 339 = .ok (.iconst 1, 1) := by decide +kernel
theorem dX5_isSame_340 : decode cX5_isSame 340 = .ok (.iaload, 1) := by decide +kernel
theorem dX5_isSame_341 : decode cX5_isSame 341 = .ok (.iastore, 1) := by decide +kernel
theorem dX5_isSame_342 : decode cX5_isSame 342 = .ok (.dup, 1) := by decide +kernel
theorem dX5_isSame_343 : decode cX5_isSame 343 = .ok (.iconst 3, 1) := by decide +kernel
theorem dX5_isSame_344 : decode cX5_isSame 344 = .ok (.aload 11, 2) := by decide +kernel
theorem dX5_isSame_346 : decode cX5_isSame 346 = .ok (.iconst 2, 1) := by decide +kernel
theorem dX5_isSame_347 : decode cX5_isSame 347 = .ok (.iaload, 1) := by decide +kernel
theorem dX5_isSame_348 : decode cX5_isSame 348 = .ok (.iastore, 1) := by decide +kernel
theorem dX5_isSame_349 : decode cX5_isSame 349 = .ok (.dup, 1) := by decide +kernel
theorem dX5_isSame_350 : decode cX5_isSame 350 = .ok (.iconst 4, 1) := by decide +kernel
theorem dX5_isSame_351 : decode cX5_isSame 351 = .ok (.iload 10, 2) := by decide +kernel
theorem dX5_isSame_353 : decode cX5_isSame 353 = .ok (.ifCond .le 7, 3) := by decide +kernel
theorem dX5_isSame_356 : decode cX5_isSame 356 = .ok (.iconst 1, 1) := by decide +kernel
theorem dX5_isSame_357 : decode cX5_isSame 357 = .ok (.goto 4, 3) := by decide +kernel
theorem dX5_isSame_360 : decode cX5_isSame 360 = .ok (.iconst 0, 1) := by decide +kernel
theorem dX5_isSame_361 : decode cX5_isSame 361 = .ok (.iastore, 1) := by decide +kernel
theorem dX5_isSame_362 : decode cX5_isSame 362 = .ok (.dup, 1) := by decide +kernel
theorem dX5_isSame_363 : decode cX5_isSame 363 = .ok (.iconst 5, 1) := by decide +kernel
theorem dX5_isSame_364 : decode cX5_isSame 364 = .ok (.iload 10, 2) := by decide +kernel
theorem dX5_isSame_366 : decode cX5_isSame 366 = .ok (.iastore, 1) := by decide +kernel
theorem dX5_isSame_367 : decode cX5_isSame 367 = .ok (.astore 12, 2) := by decide +kernel
theorem dX5_isSame_369 : decode cX5_isSame 369 = .ok (.iconst 0, 1) := by decide +kernel
theorem dX5_isSame_370 : decode cX5_isSame 370 = .ok (.istore 13, 2) := by decide +kernel
theorem dX5_isSame_372 : decode cX5_isSame 372 = .ok (.iload 13, 2) := by decide +kernel
theorem dX5_isSame_374 : decode cX5_isSame 374 = .ok (.bipush 6, 2) := by decide +kernel
theorem dX5_isSame_376 : decode cX5_isSame 376 = .ok (.if_icmp .ge 29, 3) := by decide +kernel
theorem dX5_isSame_379 : decode cX5_isSame 379 = .ok (.aload_n 1, 1) := by decide +kernel
theorem dX5_isSame_380 : decode cX5_isSame 380 = .ok (.iload 4, 2) := by decide +kernel
theorem dX5_isSame_382 : decode cX5_isSame 382 = .ok (.iload 9, 2) := by decide +kernel
theorem dX5_isSame_384 : decode cX5_isSame 384 = .ok (.iload 13, 2) := by decide +kernel
theorem dX5_isSame_386 : decode cX5_isSame 386 = .ok (.invokevirtual 94, 3) := by decide +kernel
theorem dX5_isSame_389 : decode cX5_isSame 389 = .ok (.aload 12, 2) := by decide +kernel
theorem dX5_isSame_391 : decode cX5_isSame 391 = .ok (.iload 13, 2) := by decide +kernel
theorem dX5_isSame_393 : decode cX5_isSame 393 = .ok (.iaload, 1) := by decide +kernel
theorem dX5_isSame_394 : decode cX5_isSame 394 = .ok (.if_icmp .eq 5, 3) := by decide +kernel
theorem dX5_isSame_397 : decode cX5_isSame 397 = .ok (.iconst 0, 1) := by decide +kernel
theorem dX5_isSame_398 : decode cX5_isSame 398 = .ok (.ireturn, 1) := by decide +kernel
theorem dX5_isSame_399 : decode cX5_isSame 399 = .ok (.iinc 13 1, 3) := by decide +kernel
theorem dX5_isSame_402 : decode cX5_isSame 402 = .ok (.goto (-30), 3) := by decide +kernel
theorem dX5_isSame_405 : decode cX5_isSame 405 = .ok (.aload_n 1, 1) := by decide +kernel
theorem dX5_isSame_406 : decode cX5_isSame 406 = .ok (.iload 4, 2) := by decide +kernel
theorem dX5_isSame_408 : decode cX5_isSame 408 = .ok (.aload 11, 2) := by decide +kernel
theorem dX5_isSame_410 : decode cX5_isSame 410 = .ok (.iconst 0, 1) := by decide +kernel
theorem dX5_isSame_411 : decode cX5_isSame 411 = .ok (.iaload, 1) := by decide +kernel
theorem dX5_isSame_412 : decode cX5_isSame 412 = .ok (.aload 11, 2) := by decide +kernel
theorem dX5_isSame_414 : decode cX5_isSame 414 = .ok (.iconst 1, 1) := by decide +kernel
theorem dX5_isSame_415 : decode cX5_isSame 415 = .ok (.iaload, 1) := by decide +kernel
theorem dX5_isSame_416 : decode cX5_isSame 416 = .ok (.aload 11, 2) := by decide +kernel
theorem dX5_isSame_418 : decode cX5_isSame 418 = .ok (.iconst 2, 1) := by decide +kernel
theorem dX5_isSame_419 : decode cX5_isSame 419 = .ok (.iaload, 1) := by decide +kernel
theorem dX5_isSame_420 : decode cX5_isSame 420 = .ok (.invokevirtual 98, 3) := by decide +kernel
theorem dX5_isSame_423 : decode cX5_isSame 423 = .ok (.iload 9, 2) := by decide +kernel
theorem dX5_isSame_425 : decode cX5_isSame 425 = .ok (.if_icmp .eq 5, 3) := by decide +kernel
theorem dX5_isSame_428 : decode cX5_isSame 428 = .ok (.iconst 0, 1) := by decide +kernel
theorem dX5_isSame_429 : decode cX5_isSame 429 = .ok (.ireturn, 1) := by decide +kernel
theorem dX5_isSame_430 : decode cX5_isSame 430 = .ok (.iinc 9 1, 3) := by decide +kernel
theorem dX5_isSame_433 : decode cX5_isSame 433 = .ok (.goto (-209), 3) := by decide +kernel
theorem dX5_isSame_436 : decode cX5_isSame 436 = .ok (.iload_n 3, 1) := by decide +kernel
theorem dX5_isSame_437 : decode cX5_isSame 437 = .ok (.iload 8, 2) := by decide +kernel
theorem dX5_isSame_439 : decode cX5_isSame 439 = .ok (.iadd, 1) := by decide +kernel
theorem dX5_isSame_440 : decode cX5_isSame 440 = .ok (.istore_n 3, 1) := by decide +kernel
theorem dX5_isSame_441 : decode cX5_isSame 441 = .ok (.bipush 10, 2) := by decide +kernel
theorem dX5_isSame_443 : decode cX5_isSame 443 = .ok (.newarray .int, 2) := by decide +kernel
theorem dX5_isSame_445 : decode cX5_isSame 445 = .ok (.dup, 1) := by decide +kernel
theorem dX5_isSame_446 : decode cX5_isSame 446 = .ok (.iconst 0, 1) := by decide +kernel
theorem dX5_isSame_447 : decode cX5_isSame 447 = .ok (.aload 5, 2) := by decide +kernel
theorem dX5_isSame_449 : decode cX5_isSame 449 = .ok (.getfield 65, 3) := by decide +kernel
theorem dX5_isSame_452 : decode cX5_isSame 452 = .ok (.iastore, 1) := by decide +kernel
theorem dX5_isSame_453 : decode cX5_isSame 453 = .ok (.dup, 1) := by decide +kernel
theorem dX5_isSame_454 : decode cX5_isSame 454 = .ok (.iconst 1, 1) := by decide +kernel
theorem dX5_isSame_455 : decode cX5_isSame 455 = .ok (.aload 5, 2) := by decide +kernel
theorem dX5_isSame_457 : decode cX5_isSame 457 = .ok (.getfield 102, 3) := by decide +kernel
theorem dX5_isSame_460 : decode cX5_isSame 460 = .ok (.iastore, 1) := by decide +kernel
theorem dX5_isSame_461 : decode cX5_isSame 461 = .ok (.dup, 1) := by decide +kernel
theorem dX5_isSame_462 : decode cX5_isSame 462 = .ok (.iconst 2, 1) := by decide +kernel
theorem dX5_isSame_463 : decode cX5_isSame 463 = .ok (.aload 5, 2) := by decide +kernel
theorem dX5_isSame_465 : decode cX5_isSame 465 = .ok (.getfield 51, 3) := by decide +kernel
theorem dX5_isSame_468 : decode cX5_isSame 468 = .ok (.iastore, 1) := by decide +kernel
theorem dX5_isSame_469 : decode cX5_isSame 469 = .ok (.dup, 1) := by decide +kernel
theorem dX5_isSame_470 : decode cX5_isSame 470 = .ok (.iconst 3, 1) := by decide +kernel
theorem dX5_isSame_471 : decode cX5_isSame 471 = .ok (.aload 5, 2) := by decide +kernel
theorem dX5_isSame_473 : decode cX5_isSame 473 = .ok (.getfield 58, 3) := by decide +kernel
theorem dX5_isSame_476 : decode cX5_isSame 476 = .ok (.arraylength, 1) := by decide +kernel
theorem dX5_isSame_477 : decode cX5_isSame 477 = .ok (.iastore, 1) := by decide +kernel
theorem dX5_isSame_478 : decode cX5_isSame 478 = .ok (.dup, 1) := by decide +kernel
theorem dX5_isSame_479 : decode cX5_isSame 479 = .ok (.iconst 4, 1) := by decide +kernel
theorem dX5_isSame_480 : decode cX5_isSame 480 = .ok (.aload 5, 2) := by decide +kernel
theorem dX5_isSame_482 : decode cX5_isSame 482 = .ok (.invokevirtual 105, 3) := by decide +kernel
theorem dX5_isSame_485 : decode cX5_isSame 485 = .ok (.iastore, 1) := by decide +kernel
theorem dX5_isSame_486 : decode cX5_isSame 486 = .ok (.dup, 1) := by decide +kernel
theorem dX5_isSame_487 : decode cX5_isSame 487 = .ok (.iconst 5, 1) := by decide +kernel
theorem dX5_isSame_488 : decode cX5_isSame 488 = .ok (.aload 5, 2) := by decide +kernel
theorem dX5_isSame_490 : decode cX5_isSame 490 = .ok (.invokevirtual 105, 3) := by decide +kernel
theorem dX5_isSame_493 : decode cX5_isSame 493 = .ok (.aload 5, 2) := by decide +kernel
theorem dX5_isSame_495 : decode cX5_isSame 495 = .ok (.invokevirtual 61, 3) := by decide +kernel
theorem dX5_isSame_498 : decode cX5_isSame 498 = .ok (.ifCond .eq 7, 3) := by decide +kernel
theorem dX5_isSame_501 : decode cX5_isSame 501 = .ok (.iconst 1, 1) := by decide +kernel
theorem dX5_isSame_502 : decode cX5_isSame 502 = .ok (.goto 4, 3) := by decide +kernel
theorem dX5_isSame_505 : decode cX5_isSame 505 = .ok (.iconst 0, 1) := by decide +kernel
theorem dX5_isSame_506 : decode cX5_isSame 506 = .ok (.isub, 1) := by decide +kernel
theorem dX5_isSame_507 : decode cX5_isSame 507 = .ok (.iastore, 1) := by decide +kernel
theorem dX5_isSame_508 : decode cX5_isSame 508 = .ok (.dup, 1) := by decide +kernel
theorem dX5_isSame_509 : decode cX5_isSame 509 = .ok (.bipush 6, 2) := by decide +kernel
theorem dX5_isSame_511 : decode cX5_isSame 511 = .ok (.iload 6, 2) := by decide +kernel
theorem dX5_isSame_513 : decode cX5_isSame 513 = .ok (.iastore, 1) := by decide +kernel
theorem dX5_isSame_514 : decode cX5_isSame 514 = .ok (.dup, 1) := by decide +kernel
theorem dX5_isSame_515 : decode cX5_isSame 515 = .ok (.bipush 7, 2) := by decide +kernel
theorem dX5_isSame_517 : decode cX5_isSame 517 = .ok (.aload 5, 2) := by decide +kernel
theorem dX5_isSame_519 : decode cX5_isSame 519 = .ok (.aload_n 0, 1) := by decide +kernel
theorem dX5_isSame_520 : decode cX5_isSame 520 = .ok (.getfield 7, 3) := by decide +kernel
theorem dX5_isSame_523 : decode cX5_isSame 523 = .ok (.invokevirtual 71, 3) := by decide +kernel
theorem dX5_isSame_526 : decode cX5_isSame 526 = .ok (.iastore, 1) := by decide +kernel
theorem dX5_isSame_527 : decode cX5_isSame 527 = .ok (.dup, 1) := by decide +kernel
theorem dX5_isSame_528 : decode cX5_isSame 528 = .ok (.bipush 8, 2) := by decide +kernel
theorem dX5_isSame_530 : decode cX5_isSame 530 = .ok (.iload 7, 2) := by decide +kernel
theorem dX5_isSame_532 : decode cX5_isSame 532 = .ok (.iastore, 1) := by decide +kernel
theorem dX5_isSame_533 : decode cX5_isSame 533 = .ok (.dup, 1) := by decide +kernel
theorem dX5_isSame_534 : decode cX5_isSame 534 = .ok (.bipush 9, 2) := by decide +kernel
theorem dX5_isSame_536 : decode cX5_isSame 536 = .ok (.iload 8, 2) := by decide +kernel
theorem dX5_isSame_538 : decode cX5_isSame 538 = .ok (.iastore, 1) := by decide +kernel
theorem dX5_isSame_539 : decode cX5_isSame 539 = .ok (.astore 9, 2) := by decide +kernel
theorem dX5_isSame_541 : decode cX5_isSame 541 = .ok (.iconst 0, 1) := by decide +kernel
theorem dX5_isSame_542 : decode cX5_isSame 542 = .ok (.istore 10, 2) := by decide +kernel
theorem dX5_isSame_544 : decode cX5_isSame 544 = .ok (.iload 10, 2) := by decide +kernel
theorem dX5_isSame_546 : decode cX5_isSame 546 = .ok (.bipush 10, 2) := by decide +kernel
theorem dX5_isSame_548 : decode cX5_isSame 548 = .ok (.if_icmp .ge 27, 3) := by decide +kernel
theorem dX5_isSame_551 : decode cX5_isSame 551 = .ok (.aload_n 1, 1) := by decide +kernel
theorem dX5_isSame_552 : decode cX5_isSame 552 = .ok (.iload 4, 2) := by decide +kernel
theorem dX5_isSame_554 : decode cX5_isSame 554 = .ok (.iload 10, 2) := by decide +kernel
theorem dX5_isSame_556 : decode cX5_isSame 556 = .ok (.invokevirtual 109, 3) := by decide +kernel
theorem dX5_isSame_559 : decode cX5_isSame 559 = .ok (.aload 9, 2) := by decide +kernel
theorem dX5_isSame_561 : decode cX5_isSame 561 = .ok (.iload 10, 2) := by decide +kernel
theorem dX5_isSame_563 : decode cX5_isSame 563 = .ok (.iaload, 1) := by decide +kernel
theorem dX5_isSame_564 : decode cX5_isSame 564 = .ok (.if_icmp .eq 5, 3) := by decide +kernel
theorem dX5_isSame_567 : decode cX5_isSame 567 = .ok (.iconst 0, 1) := by decide +kernel
theorem dX5_isSame_568 : decode cX5_isSame 568 = .ok (.ireturn, 1) := by decide +kernel
theorem dX5_isSame_569 : decode cX5_isSame 569 = .ok (.iinc 10 1, 3) := by decide +kernel
theorem dX5_isSame_572 : decode cX5_isSame 572 = .ok (.goto (-28), 3) := by decide +kernel
theorem dX5_isSame_575 : decode cX5_isSame 575 = .ok (.iinc 4 1, 3) := by decide +kernel
theorem dX5_isSame_578 : decode cX5_isSame 578 = .ok (.goto (-385), 3) := by decide +kernel
theorem dX5_isSame_581 : decode cX5_isSame 581 = .ok (.iconst 0, 1) := by decide +kernel
theorem dX5_isSame_582 : decode cX5_isSame 582 = .ok (.istore 4, 2) := by decide +kernel
theorem dX5_isSame_584 : decode cX5_isSame 584 = .ok (.iload 4, 2) := by decide +kernel
theorem dX5_isSame_586 : decode cX5_isSame 586 = .ok (.aload_n 0, 1) := by decide +kernel
theorem dX5_isSame_587 : decode cX5_isSame 587 = .ok (.getfield 33, 3) := by decide +kernel
theorem dX5_isSame_590 : decode cX5_isSame 590 = .ok (.arraylength, 1) := by decide +kernel
theorem dX5_isSame_591 : decode cX5_isSame 591 = .ok (.if_icmp .ge 47, 3) := by decide +kernel
theorem dX5_isSame_594 : decode cX5_isSame 594 = .ok (.iconst 0, 1) := by decide +kernel
theorem dX5_isSame_595 : decode cX5_isSame 595 = .ok (.istore 5, 2) := by decide +kernel
theorem dX5_isSame_597 : decode cX5_isSame 597 = .ok (.iload 5, 2) := by decide +kernel
theorem dX5_isSame_599 : decode cX5_isSame 599 = .ok (.iconst 3, 1) := by decide +kernel
theorem dX5_isSame_600 : decode cX5_isSame 600 = .ok (.if_icmp .ge 32, 3) := by decide +kernel
theorem dX5_isSame_603 : decode cX5_isSame 603 = .ok (.aload_n 1, 1) := by decide +kernel
theorem dX5_isSame_604 : decode cX5_isSame 604 = .ok (.iload 4, 2) := by decide +kernel
theorem dX5_isSame_606 : decode cX5_isSame 606 = .ok (.iload 5, 2) := by decide +kernel
theorem dX5_isSame_608 : decode cX5_isSame 608 = .ok (.invokevirtual 112, 3) := by decide +kernel
theorem dX5_isSame_611 : decode cX5_isSame 611 = .ok (.aload_n 0, 1) := by decide +kernel
theorem dX5_isSame_612 : decode cX5_isSame 612 = .ok (.getfield 33, 3) := by decide +kernel
theorem dX5_isSame_615 : decode cX5_isSame 615 = .ok (.iload 4, 2) := by decide +kernel
theorem dX5_isSame_617 : decode cX5_isSame 617 = .ok (.aaload, 1) := by decide +kernel
theorem dX5_isSame_618 : decode cX5_isSame 618 = .ok (.iload 5, 2) := by decide +kernel
theorem dX5_isSame_620 : decode cX5_isSame 620 = .ok (.iaload, 1) := by decide +kernel
theorem dX5_isSame_621 : decode cX5_isSame 621 = .ok (.if_icmp .eq 5, 3) := by decide +kernel
theorem dX5_isSame_624 : decode cX5_isSame 624 = .ok (.iconst 0, 1) := by decide +kernel
theorem dX5_isSame_625 : decode cX5_isSame 625 = .ok (.ireturn, 1) := by decide +kernel
theorem dX5_isSame_626 : decode cX5_isSame 626 = .ok (.iinc 5 1, 3) := by decide +kernel
theorem dX5_isSame_629 : decode cX5_isSame 629 = .ok (.goto (-32), 3) := by decide +kernel
theorem dX5_isSame_632 : decode cX5_isSame 632 = .ok (.iinc 4 1, 3) := by decide +kernel
theorem dX5_isSame_635 : decode cX5_isSame 635 = .ok (.goto (-51), 3) := by decide +kernel
theorem dX5_isSame_638 : decode cX5_isSame 638 = .ok (.aload_n 1, 1) := by decide +kernel
theorem dX5_isSame_639 : decode cX5_isSame 639 = .ok (.invokevirtual 115, 3) := by decide +kernel
theorem dX5_isSame_642 : decode cX5_isSame 642 = .ok (.aload_n 0, 1) := by decide +kernel
theorem dX5_isSame_643 : decode cX5_isSame 643 = .ok (.iconst 5, 1) := by decide +kernel
theorem dX5_isSame_644 : decode cX5_isSame 644 = .ok (.invokevirtual 79, 3) := by decide +kernel
theorem dX5_isSame_647 : decode cX5_isSame 647 = .ok (.ifCond .ne 7, 3) := by decide +kernel
theorem dX5_isSame_650 : decode cX5_isSame 650 = .ok (.dconst 0, 1) := by decide +kernel
theorem dX5_isSame_651 : decode cX5_isSame 651 = .ok (.goto 12, 3) := by decide +kernel
theorem dX5_isSame_654 : decode cX5_isSame 654 = .ok (.iload_n 3, 1) := by decide +kernel
theorem dX5_isSame_655 : decode cX5_isSame 655 = .ok (.i2d, 1) := by decide +kernel
theorem dX5_isSame_656 : decode cX5_isSame 656 = .ok (.aload_n 0, 1) := by decide +kernel
theorem dX5_isSame_657 : decode cX5_isSame 657 = .ok (.iconst 5, 1) := by decide +kernel
theorem dX5_isSame_658 : decode cX5_isSame 658 = .ok (.invokevirtual 79, 3) := by decide +kernel
theorem dX5_isSame_661 : decode cX5_isSame 661 = .ok (.i2d, 1) := by decide +kernel
theorem dX5_isSame_662 : decode cX5_isSame 662 = .ok (.ddiv, 1) := by decide +kernel
theorem dX5_isSame_663 : decode cX5_isSame 663 = .ok (.dcmp .l, 1) := by decide +kernel
theorem dX5_isSame_664 : decode cX5_isSame 664 = .ok (.ifCond .ne 7, 3) := by decide +kernel
theorem dX5_isSame_667 : decode cX5_isSame 667 = .ok (.iconst 1, 1) := by decide +kernel
theorem dX5_isSame_668 : decode cX5_isSame 668 = .ok (.goto 4, 3) := by decide +kernel
theorem dX5_isSame_671 : decode cX5_isSame 671 = .ok (.iconst 0, 1) := by decide +kernel
theorem dX5_isSame_672 : decode cX5_isSame 672 = .ok (.ireturn, 1) := by decide +kernel
theorem dJ9_floorMod_7cf53_0 : decode cJ9_floorMod_7cf53 0 = .ok (.iload_n 0, 1) := by decide +kernel
theorem dJ9_floorMod_7cf53_1 : decode cJ9_floorMod_7cf53 1 = .ok (.iload_n 1, 1) := by decide +kernel
theorem dJ9_floorMod_7cf53_2 : decode cJ9_floorMod_7cf53 2 = .ok (.irem, 1) := by decide +kernel
theorem dJ9_floorMod_7cf53_3 : decode cJ9_floorMod_7cf53 3 = .ok (.istore_n 2, 1) := by decide +kernel
theorem dJ9_floorMod_7cf53_4 : decode cJ9_floorMod_7cf53 4 = .ok (.iload_n 0, 1) := by decide +kernel
theorem dJ9_floorMod_7cf53_5 : decode cJ9_floorMod_7cf53 5 = .ok (.iload_n 1, 1) := by decide +kernel
theorem dJ9_floorMod_7cf53_6 : decode cJ9_floorMod_7cf53 6 = .ok (.ixor, 1) := by decide +kernel
theorem dJ9_floorMod_7cf53_7 : decode cJ9_floorMod_7cf53 7 = .ok (.ifCond .ge 11, 3) := by decide +kernel
theorem dJ9_floorMod_7cf53_10 : decode cJ9_floorMod_7cf53 10 = .ok (.iload_n 2, 1) := by decide +kernel
theorem dJ9_floorMod_7cf53_11 : decode cJ9_floorMod_7cf53 11 = .ok (.ifCond .eq 7, 3) := by decide +kernel
theorem dJ9_floorMod_7cf53_14 : decode cJ9_floorMod_7cf53 14 = .ok (.iload_n 2, 1) := by decide +kernel
theorem dJ9_floorMod_7cf53_15 : decode cJ9_floorMod_7cf53 15 = .ok (.iload_n 1, 1) := by decide +kernel
theorem dJ9_floorMod_7cf53_16 : decode cJ9_floorMod_7cf53 16 = .ok (.iadd, 1) := by decide +kernel
theorem dJ9_floorMod_7cf53_17 : decode cJ9_floorMod_7cf53 17 = .ok (.ireturn, 1) := by decide +kernel
theorem dJ9_floorMod_7cf53_18 : decode cJ9_floorMod_7cf53 18 = .ok (.iload_n 2, 1) := by decide +kernel
theorem dJ9_floorMod_7cf53_19 : decode cJ9_floorMod_7cf53 19 = .ok (.ireturn, 1) := by decide +kernel
theorem dJ9_max_7cf53_0 : decode cJ9_max_7cf53 0 = .ok (.iload_n 0, 1) := by decide +kernel
theorem dJ9_max_7cf53_1 : decode cJ9_max_7cf53 1 = .ok (.iload_n 1, 1) := by decide +kernel
theorem dJ9_max_7cf53_2 : decode cJ9_max_7cf53 2 = .ok (.if_icmp .lt 7, 3) := by decide +kernel
theorem dJ9_max_7cf53_5 : decode cJ9_max_7cf53 5 = .ok (.iload_n 0, 1) := by decide +kernel
theorem dJ9_max_7cf53_6 : decode cJ9_max_7cf53 6 = .ok (.goto 4, 3) := by decide +kernel
theorem dJ9_max_7cf53_9 : decode cJ9_max_7cf53 9 = .ok (.iload_n 1, 1) := by decide +kernel
theorem dJ9_max_7cf53_10 : decode cJ9_max_7cf53 10 = .ok (.ireturn, 1) := by decide +kernel
theorem dJ9_min_7cf53_0 : decode cJ9_min_7cf53 0 = .ok (.iload_n 0, 1) := by decide +kernel
theorem dJ9_min_7cf53_1 : decode cJ9_min_7cf53 1 = .ok (.iload_n 1, 1) := by decide +kernel
theorem dJ9_min_7cf53_2 : decode cJ9_min_7cf53 2 = .ok (.if_icmp .gt 7, 3) := by decide +kernel
theorem dJ9_min_7cf53_5 : decode cJ9_min_7cf53 5 = .ok (.iload_n 0, 1) := by decide +kernel
theorem dJ9_min_7cf53_6 : decode cJ9_min_7cf53 6 = .ok (.goto 4, 3) := by decide +kernel
theorem dJ9_min_7cf53_9 : decode cJ9_min_7cf53 9 = .ok (.iload_n 1, 1) := by decide +kernel
theorem dJ9_min_7cf53_10 : decode cJ9_min_7cf53 10 = .ok (.ireturn, 1) := by decide +kernel
