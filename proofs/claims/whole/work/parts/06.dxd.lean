set_option maxRecDepth 20000 in
theorem ggX5_slip_X5_isRegister : GoodIn wsX5_slip wsX5_isRegister := goodIn_r _ [5, 6, 7, 8, 4, 9] (by decide +kernel) (by decide +kernel)
set_option maxRecDepth 20000 in
theorem gX5_slip_X5_isRegister : GoodIn wsX5_slip (va_wsS RX5 134 yX5_isRegister wsX5_isRegister) := goodIn_app (goodIn_of _ (by decide +kernel)) ggX5_slip_X5_isRegister
set_option maxRecDepth 20000 in
theorem ggX5_slip_X5_isWheel : GoodIn wsX5_slip wsX5_isWheel := goodIn_r _ [13, 1, 7, 8, 4, 9, 18, 19, 20, 21, 22, 23, 24, 25, 26, 27, 28, 29, 30, 31, 32] (by decide +kernel) (by decide +kernel)
set_option maxRecDepth 20000 in
theorem gX5_slip_X5_isWheel : GoodIn wsX5_slip (wsV RX5 128 RX5 yX5_isWheel wsX5_isWheel) := goodIn_app (goodIn_of _ (by decide +kernel)) ggX5_slip_X5_isWheel
set_option maxRecDepth 20000 in
theorem ggX5_slip_X5_in : GoodIn wsX5_slip wsX5_in := goodIn_r _ [9] (by decide +kernel) (by decide +kernel)
set_option maxRecDepth 20000 in
theorem gX5_slip_X5_in : GoodIn wsX5_slip (va_wsS RX5 35 yX5_in wsX5_in) := goodIn_app (goodIn_of _ (by decide +kernel)) ggX5_slip_X5_in
set_option maxRecDepth 20000 in
theorem ggX5_slip_X5_minds : GoodIn wsX5_slip wsX5_minds := goodIn_r _ [17, 1, 18, 19, 20, 21, 22, 23, 24, 25, 26, 27, 28, 29, 30, 31, 32] (by decide +kernel) (by decide +kernel)
set_option maxRecDepth 20000 in
theorem gX5_slip_X5_minds : GoodIn wsX5_slip (wsV RX5 152 RX5 yX5_minds wsX5_minds) := goodIn_app (goodIn_of _ (by decide +kernel)) ggX5_slip_X5_minds
theorem dX5_slip_0 : decode cX5_slip 0 = .ok (.iload_n 1, 1) := by decide +kernel
theorem dX5_slip_1 : decode cX5_slip 1 = .ok (.invokestatic 134, 3) := by decide +kernel
theorem dX5_slip_4 : decode cX5_slip 4 = .ok (.ifCond .eq 32, 3) := by decide +kernel
theorem dX5_slip_7 : decode cX5_slip 7 = .ok (.aload_n 0, 1) := by decide +kernel
theorem dX5_slip_8 : decode cX5_slip 8 = .ok (.iload_n 2, 1) := by decide +kernel
theorem dX5_slip_9 : decode cX5_slip 9 = .ok (.invokevirtual 128, 3) := by decide +kernel
theorem dX5_slip_12 : decode cX5_slip 12 = .ok (.ifCond .eq 24, 3) := by decide +kernel
theorem dX5_slip_15 : decode cX5_slip 15 = .ok (.iload_n 3, 1) := by decide +kernel
theorem dX5_slip_16 : decode cX5_slip 16 = .ok (.i2l, 1) := by decide +kernel
theorem dX5_slip_17 : decode cX5_slip 17 = .ok (.lconst 0, 1) := by decide +kernel
theorem dX5_slip_18 : decode cX5_slip 18 = .ok (.aload_n 0, 1) := by decide +kernel
theorem dX5_slip_19 : decode cX5_slip 19 = .ok (.getfield 7, 3) := by decide +kernel
theorem dX5_slip_22 : decode cX5_slip 22 = .ok (.bipush 8, 2) := by decide +kernel
theorem dX5_slip_24 : decode cX5_slip 24 = .ok (.iload_n 2, 1) := by decide +kernel
theorem dX5_slip_25 : decode cX5_slip 25 = .ok (.iadd, 1) := by decide +kernel
theorem dX5_slip_26 : decode cX5_slip 26 = .ok (.iaload, 1) := by decide +kernel
theorem dX5_slip_27 : decode cX5_slip 27 = .ok (.iconst 1, 1) := by decide +kernel
theorem dX5_slip_28 : decode cX5_slip 28 = .ok (.isub, 1) := by decide +kernel
theorem dX5_slip_29 : decode cX5_slip 29 = .ok (.i2l, 1) := by decide +kernel
theorem dX5_slip_30 : decode cX5_slip 30 = .ok (.invokestatic 35, 3) := by decide +kernel
theorem dX5_slip_33 : decode cX5_slip 33 = .ok (.ifCond .ne 5, 3) := by decide +kernel
theorem dX5_slip_36 : decode cX5_slip 36 = .ok (.iconst (-1), 1) := by decide +kernel
theorem dX5_slip_37 : decode cX5_slip 37 = .ok (.ireturn, 1) := by decide +kernel
theorem dX5_slip_38 : decode cX5_slip 38 = .ok (.aload_n 0, 1) := by decide +kernel
theorem dX5_slip_39 : decode cX5_slip 39 = .ok (.getfield 7, 3) := by decide +kernel
theorem dX5_slip_42 : decode cX5_slip 42 = .ok (.bipush 15, 2) := by decide +kernel
theorem dX5_slip_44 : decode cX5_slip 44 = .ok (.bipush 6, 2) := by decide +kernel
theorem dX5_slip_46 : decode cX5_slip 46 = .ok (.iload_n 1, 1) := by decide +kernel
theorem dX5_slip_47 : decode cX5_slip 47 = .ok (.imul, 1) := by decide +kernel
theorem dX5_slip_48 : decode cX5_slip 48 = .ok (.iadd, 1) := by decide +kernel
theorem dX5_slip_49 : decode cX5_slip 49 = .ok (.iload_n 2, 1) := by decide +kernel
theorem dX5_slip_50 : decode cX5_slip 50 = .ok (.iadd, 1) := by decide +kernel
theorem dX5_slip_51 : decode cX5_slip 51 = .ok (.iaload, 1) := by decide +kernel
theorem dX5_slip_52 : decode cX5_slip 52 = .ok (.istore 4, 2) := by decide +kernel
theorem dX5_slip_54 : decode cX5_slip 54 = .ok (.iload 4, 2) := by decide +kernel
theorem dX5_slip_56 : decode cX5_slip 56 = .ok (.iload_n 3, 1) := by decide +kernel
theorem dX5_slip_57 : decode cX5_slip 57 = .ok (.if_icmp .ne 6, 3) := by decide +kernel
theorem dX5_slip_60 : decode cX5_slip 60 = .ok (.bipush (-2), 2) := by decide +kernel
theorem dX5_slip_62 : decode cX5_slip 62 = .ok (.ireturn, 1) := by decide +kernel
theorem dX5_slip_63 : decode cX5_slip 63 = .ok (.aload_n 0, 1) := by decide +kernel
theorem dX5_slip_64 : decode cX5_slip 64 = .ok (.invokevirtual 152, 3) := by decide +kernel
theorem dX5_slip_67 : decode cX5_slip 67 = .ok (.aload_n 0, 1) := by decide +kernel
theorem dX5_slip_68 : decode cX5_slip 68 = .ok (.getfield 7, 3) := by decide +kernel
theorem dX5_slip_71 : decode cX5_slip 71 = .ok (.bipush 15, 2) := by decide +kernel
theorem dX5_slip_73 : decode cX5_slip 73 = .ok (.bipush 6, 2) := by decide +kernel
theorem dX5_slip_75 : decode cX5_slip 75 = .ok (.iload_n 1, 1) := by decide +kernel
theorem dX5_slip_76 : decode cX5_slip 76 = .ok (.imul, 1) := by decide +kernel
theorem dX5_slip_77 : decode cX5_slip 77 = .ok (.iadd, 1) := by decide +kernel
theorem dX5_slip_78 : decode cX5_slip 78 = .ok (.iload_n 2, 1) := by decide +kernel
theorem dX5_slip_79 : decode cX5_slip 79 = .ok (.iadd, 1) := by decide +kernel
theorem dX5_slip_80 : decode cX5_slip 80 = .ok (.iload_n 3, 1) := by decide +kernel
theorem dX5_slip_81 : decode cX5_slip 81 = .ok (.iastore, 1) := by decide +kernel
theorem dX5_slip_82 : decode cX5_slip 82 = .ok (.iload 4, 2) := by decide +kernel
theorem dX5_slip_84 : decode cX5_slip 84 = .ok (.ireturn, 1) := by decide +kernel
set_option maxRecDepth 20000 in
theorem ggX5_take_X5_isRegister : GoodIn wsX5_take wsX5_isRegister := goodIn_r _ [5, 6, 7, 8, 4, 9] (by decide +kernel) (by decide +kernel)
set_option maxRecDepth 20000 in
theorem gX5_take_X5_isRegister : GoodIn wsX5_take (va_wsS RX5 134 yX5_isRegister wsX5_isRegister) := goodIn_app (goodIn_of _ (by decide +kernel)) ggX5_take_X5_isRegister
set_option maxRecDepth 20000 in
theorem ggX5_take_X5_minds : GoodIn wsX5_take wsX5_minds := goodIn_r _ [13, 1, 27, 28, 29, 30, 31, 32, 33, 34, 35, 36, 37, 38, 39, 40, 41] (by decide +kernel) (by decide +kernel)
set_option maxRecDepth 20000 in
theorem gX5_take_X5_minds : GoodIn wsX5_take (wsV RX5 152 RX5 yX5_minds wsX5_minds) := goodIn_app (goodIn_of _ (by decide +kernel)) ggX5_take_X5_minds
set_option maxRecDepth 20000 in
theorem ggX5_take_X5_value : GoodIn wsX5_take wsX5_value := goodIn_r _ [17, 18, 19, 20, 4, 21, 22, 1, 23, 24, 25, 26, 27, 28, 29, 30, 31, 32, 33, 34, 35, 36, 37, 38, 39, 40, 41] (by decide +kernel) (by decide +kernel)
set_option maxRecDepth 20000 in
theorem gX5_take_X5_value : GoodIn wsX5_take (wsV RX5 67 RX5 yX5_value wsX5_value) := goodIn_app (goodIn_of _ (by decide +kernel)) ggX5_take_X5_value
theorem dX5_take_0 : decode cX5_take 0 = .ok (.iload_n 1, 1) := by decide +kernel
theorem dX5_take_1 : decode cX5_take 1 = .ok (.invokestatic 134, 3) := by decide +kernel
theorem dX5_take_4 : decode cX5_take 4 = .ok (.ifCond .eq 15, 3) := by decide +kernel
theorem dX5_take_7 : decode cX5_take 7 = .ok (.iload_n 2, 1) := by decide +kernel
theorem dX5_take_8 : decode cX5_take 8 = .ok (.invokestatic 134, 3) := by decide +kernel
theorem dX5_take_11 : decode cX5_take 11 = .ok (.ifCond .eq 8, 3) := by decide +kernel
theorem dX5_take_14 : decode cX5_take 14 = .ok (.iload_n 1, 1) := by decide +kernel
theorem dX5_take_15 : decode cX5_take 15 = .ok (.iload_n 2, 1) := by decide +kernel
theorem dX5_take_16 : decode cX5_take 16 = .ok (.if_icmp .ne 5, 3) := by decide +kernel
theorem dX5_take_19 : decode cX5_take 19 = .ok (.iconst (-1), 1) := by decide +kernel
theorem dX5_take_20 : decode cX5_take 20 = .ok (.ireturn, 1) := by decide +kernel
theorem dX5_take_21 : decode cX5_take 21 = .ok (.aload_n 0, 1) := by decide +kernel
theorem dX5_take_22 : decode cX5_take 22 = .ok (.invokevirtual 152, 3) := by decide +kernel
theorem dX5_take_25 : decode cX5_take 25 = .ok (.iconst 0, 1) := by decide +kernel
theorem dX5_take_26 : decode cX5_take 26 = .ok (.istore_n 3, 1) := by decide +kernel
theorem dX5_take_27 : decode cX5_take 27 = .ok (.iload_n 3, 1) := by decide +kernel
theorem dX5_take_28 : decode cX5_take 28 = .ok (.bipush 6, 2) := by decide +kernel
theorem dX5_take_30 : decode cX5_take 30 = .ok (.if_icmp .ge 37, 3) := by decide +kernel
theorem dX5_take_33 : decode cX5_take 33 = .ok (.aload_n 0, 1) := by decide +kernel
theorem dX5_take_34 : decode cX5_take 34 = .ok (.getfield 7, 3) := by decide +kernel
theorem dX5_take_37 : decode cX5_take 37 = .ok (.bipush 15, 2) := by decide +kernel
theorem dX5_take_39 : decode cX5_take 39 = .ok (.bipush 6, 2) := by decide +kernel
theorem dX5_take_41 : decode cX5_take 41 = .ok (.iload_n 1, 1) := by decide +kernel
theorem dX5_take_42 : decode cX5_take 42 = .ok (.imul, 1) := by decide +kernel
theorem dX5_take_43 : decode cX5_take 43 = .ok (.iadd, 1) := by decide +kernel
theorem dX5_take_44 : decode cX5_take 44 = .ok (.iload_n 3, 1) := by decide +kernel
theorem dX5_take_45 : decode cX5_take 45 = .ok (.iadd, 1) := by decide +kernel
theorem dX5_take_46 : decode cX5_take 46 = .ok (.aload_n 0, 1) := by decide +kernel
theorem dX5_take_47 : decode cX5_take 47 = .ok (.getfield 7, 3) := by decide +kernel
theorem dX5_take_50 : decode cX5_take 50 = .ok (.bipush 15, 2) := by decide +kernel
theorem dX5_take_52 : decode cX5_take 52 = .ok (.bipush 6, 2) := by decide +kernel
theorem dX5_take_54 : decode cX5_take 54 = .ok (.iload_n 2, 1) := by decide +kernel
theorem dX5_take_55 : decode cX5_take 55 = .ok (.imul, 1) := by decide +kernel
theorem dX5_take_56 : decode cX5_take 56 = .ok (.iadd, 1) := by decide +kernel
theorem dX5_take_57 : decode cX5_take 57 = .ok (.iload_n 3, 1) := by decide +kernel
theorem dX5_take_58 : decode cX5_take 58 = .ok (.iadd, 1) := by decide +kernel
theorem dX5_take_59 : decode cX5_take 59 = .ok (.iaload, 1) := by decide +kernel
theorem dX5_take_60 : decode cX5_take 60 = .ok (.iastore, 1) := by decide +kernel
theorem dX5_take_61 : decode cX5_take 61 = .ok (.iinc 3 1, 3) := by decide +kernel
theorem dX5_take_64 : decode cX5_take 64 = .ok (.goto (-37), 3) := by decide +kernel
theorem dX5_take_67 : decode cX5_take 67 = .ok (.aload_n 0, 1) := by decide +kernel
theorem dX5_take_68 : decode cX5_take 68 = .ok (.iload_n 1, 1) := by decide +kernel
theorem dX5_take_69 : decode cX5_take 69 = .ok (.invokevirtual 67, 3) := by decide +kernel
theorem dX5_take_72 : decode cX5_take 72 = .ok (.ireturn, 1) := by decide +kernel
set_option maxRecDepth 20000 in
theorem ggX5_drifts_X5_minds : GoodIn wsX5_drifts wsX5_minds := goodIn_r _ [9, 1, 27, 28, 29, 30, 31, 32, 33, 34, 35, 36, 37, 38, 39, 40, 41] (by decide +kernel) (by decide +kernel)
set_option maxRecDepth 20000 in
theorem gX5_drifts_X5_minds : GoodIn wsX5_drifts (wsV RX5 152 RX5 yX5_minds wsX5_minds) := goodIn_app (goodIn_of _ (by decide +kernel)) ggX5_drifts_X5_minds
set_option maxRecDepth 20000 in
theorem ggX5_drifts_X5_adds : GoodIn wsX5_drifts wsX5_adds := goodIn_r _ [13, 1, 14, 15, 16, 8, 17, 18, 19, 20, 21, 22, 23, 24, 25, 26, 27, 28, 29, 30, 31, 32, 33, 34, 35, 36, 37, 38, 39, 40, 41] (by decide +kernel) (by decide +kernel)
set_option maxRecDepth 20000 in
theorem gX5_drifts_X5_adds : GoodIn wsX5_drifts (wsV RX5 159 RX5 yX5_adds wsX5_adds) := goodIn_app (goodIn_of _ (by decide +kernel)) ggX5_drifts_X5_adds
theorem dX5_drifts_0 : decode cX5_drifts 0 = .ok (.aload_n 0, 1) := by decide +kernel
theorem dX5_drifts_1 : decode cX5_drifts 1 = .ok (.invokevirtual 152, 3) := by decide +kernel
theorem dX5_drifts_4 : decode cX5_drifts 4 = .ok (.aload_n 0, 1) := by decide +kernel
theorem dX5_drifts_5 : decode cX5_drifts 5 = .ok (.getfield 7, 3) := by decide +kernel
theorem dX5_drifts_8 : decode cX5_drifts 8 = .ok (.bipush 14, 2) := by decide +kernel
theorem dX5_drifts_10 : decode cX5_drifts 10 = .ok (.iaload, 1) := by decide +kernel
theorem dX5_drifts_11 : decode cX5_drifts 11 = .ok (.ldc 162, 2) := by decide +kernel
theorem dX5_drifts_13 : decode cX5_drifts 13 = .ok (.imul, 1) := by decide +kernel
theorem dX5_drifts_14 : decode cX5_drifts 14 = .ok (.sipush 12345, 3) := by decide +kernel
theorem dX5_drifts_17 : decode cX5_drifts 17 = .ok (.iadd, 1) := by decide +kernel
theorem dX5_drifts_18 : decode cX5_drifts 18 = .ok (.ldc 163, 2) := by decide +kernel
theorem dX5_drifts_20 : decode cX5_drifts 20 = .ok (.iand, 1) := by decide +kernel
theorem dX5_drifts_21 : decode cX5_drifts 21 = .ok (.istore_n 1, 1) := by decide +kernel
theorem dX5_drifts_22 : decode cX5_drifts 22 = .ok (.aload_n 0, 1) := by decide +kernel
theorem dX5_drifts_23 : decode cX5_drifts 23 = .ok (.getfield 7, 3) := by decide +kernel
theorem dX5_drifts_26 : decode cX5_drifts 26 = .ok (.bipush 14, 2) := by decide +kernel
theorem dX5_drifts_28 : decode cX5_drifts 28 = .ok (.iload_n 1, 1) := by decide +kernel
theorem dX5_drifts_29 : decode cX5_drifts 29 = .ok (.iastore, 1) := by decide +kernel
theorem dX5_drifts_30 : decode cX5_drifts 30 = .ok (.iload_n 1, 1) := by decide +kernel
theorem dX5_drifts_31 : decode cX5_drifts 31 = .ok (.ldc 164, 2) := by decide +kernel
theorem dX5_drifts_33 : decode cX5_drifts 33 = .ok (.idiv, 1) := by decide +kernel
theorem dX5_drifts_34 : decode cX5_drifts 34 = .ok (.iconst 4, 1) := by decide +kernel
theorem dX5_drifts_35 : decode cX5_drifts 35 = .ok (.irem, 1) := by decide +kernel
theorem dX5_drifts_36 : decode cX5_drifts 36 = .ok (.istore_n 2, 1) := by decide +kernel
theorem dX5_drifts_37 : decode cX5_drifts 37 = .ok (.aload_n 0, 1) := by decide +kernel
theorem dX5_drifts_38 : decode cX5_drifts 38 = .ok (.iload_n 2, 1) := by decide +kernel
theorem dX5_drifts_39 : decode cX5_drifts 39 = .ok (.iload_n 1, 1) := by decide +kernel
theorem dX5_drifts_40 : decode cX5_drifts 40 = .ok (.sipush 128, 3) := by decide +kernel
theorem dX5_drifts_43 : decode cX5_drifts 43 = .ok (.idiv, 1) := by decide +kernel
theorem dX5_drifts_44 : decode cX5_drifts 44 = .ok (.iconst 4, 1) := by decide +kernel
theorem dX5_drifts_45 : decode cX5_drifts 45 = .ok (.irem, 1) := by decide +kernel
theorem dX5_drifts_46 : decode cX5_drifts 46 = .ok (.invokevirtual 159, 3) := by decide +kernel
theorem dX5_drifts_49 : decode cX5_drifts 49 = .ok (.aload_n 0, 1) := by decide +kernel
theorem dX5_drifts_50 : decode cX5_drifts 50 = .ok (.getfield 7, 3) := by decide +kernel
theorem dX5_drifts_53 : decode cX5_drifts 53 = .ok (.iconst 0, 1) := by decide +kernel
theorem dX5_drifts_54 : decode cX5_drifts 54 = .ok (.iaload, 1) := by decide +kernel
theorem dX5_drifts_55 : decode cX5_drifts 55 = .ok (.ifCond .le 66, 3) := by decide +kernel
theorem dX5_drifts_58 : decode cX5_drifts 58 = .ok (.iload_n 1, 1) := by decide +kernel
theorem dX5_drifts_59 : decode cX5_drifts 59 = .ok (.sipush 2048, 3) := by decide +kernel
theorem dX5_drifts_62 : decode cX5_drifts 62 = .ok (.idiv, 1) := by decide +kernel
theorem dX5_drifts_63 : decode cX5_drifts 63 = .ok (.iconst 5, 1) := by decide +kernel
theorem dX5_drifts_64 : decode cX5_drifts 64 = .ok (.irem, 1) := by decide +kernel
theorem dX5_drifts_65 : decode cX5_drifts 65 = .ok (.ifCond .ne 56, 3) := by decide +kernel
theorem dX5_drifts_68 : decode cX5_drifts 68 = .ok (.iload_n 1, 1) := by decide +kernel
theorem dX5_drifts_69 : decode cX5_drifts 69 = .ok (.sipush 256, 3) := by decide +kernel
theorem dX5_drifts_72 : decode cX5_drifts 72 = .ok (.idiv, 1) := by decide +kernel
theorem dX5_drifts_73 : decode cX5_drifts 73 = .ok (.aload_n 0, 1) := by decide +kernel
theorem dX5_drifts_74 : decode cX5_drifts 74 = .ok (.getfield 7, 3) := by decide +kernel
theorem dX5_drifts_77 : decode cX5_drifts 77 = .ok (.iconst 0, 1) := by decide +kernel
theorem dX5_drifts_78 : decode cX5_drifts 78 = .ok (.iaload, 1) := by decide +kernel
theorem dX5_drifts_79 : decode cX5_drifts 79 = .ok (.irem, 1) := by decide +kernel
theorem dX5_drifts_80 : decode cX5_drifts 80 = .ok (.istore_n 3, 1) := by decide +kernel
theorem dX5_drifts_81 : decode cX5_drifts 81 = .ok (.aload_n 0, 1) := by decide +kernel
theorem dX5_drifts_82 : decode cX5_drifts 82 = .ok (.getfield 7, 3) := by decide +kernel
theorem dX5_drifts_85 : decode cX5_drifts 85 = .ok (.bipush 15, 2) := by decide +kernel
theorem dX5_drifts_87 : decode cX5_drifts 87 = .ok (.bipush 6, 2) := by decide +kernel
theorem dX5_drifts_89 : decode cX5_drifts 89 = .ok (.iload_n 2, 1) := by decide +kernel
theorem dX5_drifts_90 : decode cX5_drifts 90 = .ok (.imul, 1) := by decide +kernel
theorem dX5_drifts_91 : decode cX5_drifts 91 = .ok (.iadd, 1) := by decide +kernel
theorem dX5_drifts_92 : decode cX5_drifts 92 = .ok (.iload_n 3, 1) := by decide +kernel
theorem dX5_drifts_93 : decode cX5_drifts 93 = .ok (.iadd, 1) := by decide +kernel
theorem dX5_drifts_94 : decode cX5_drifts 94 = .ok (.aload_n 0, 1) := by decide +kernel
theorem dX5_drifts_95 : decode cX5_drifts 95 = .ok (.getfield 7, 3) := by decide +kernel
theorem dX5_drifts_98 : decode cX5_drifts 98 = .ok (.bipush 15, 2) := by decide +kernel
theorem dX5_drifts_100 : decode cX5_drifts 100 = .ok (.bipush 6, 2) := by decide +kernel
theorem dX5_drifts_102 : decode cX5_drifts 102 = .ok (.iload_n 2, 1) := by decide +kernel
theorem dX5_drifts_103 : decode cX5_drifts 103 = .ok (.imul, 1) := by decide +kernel
theorem dX5_drifts_104 : decode cX5_drifts 104 = .ok (.iadd, 1) := by decide +kernel
theorem dX5_drifts_105 : decode cX5_drifts 105 = .ok (.iload_n 3, 1) := by decide +kernel
theorem dX5_drifts_106 : decode cX5_drifts 106 = .ok (.iadd, 1) := by decide +kernel
theorem dX5_drifts_107 : decode cX5_drifts 107 = .ok (.iaload, 1) := by decide +kernel
theorem dX5_drifts_108 : decode cX5_drifts 108 = .ok (.iconst 1, 1) := by decide +kernel
theorem dX5_drifts_109 : decode cX5_drifts 109 = .ok (.iadd, 1) := by decide +kernel
theorem dX5_drifts_110 : decode cX5_drifts 110 = .ok (.aload_n 0, 1) := by decide +kernel
theorem dX5_drifts_111 : decode cX5_drifts 111 = .ok (.getfield 7, 3) := by decide +kernel
theorem dX5_drifts_114 : decode cX5_drifts 114 = .ok (.bipush 8, 2) := by decide +kernel
theorem dX5_drifts_116 : decode cX5_drifts 116 = .ok (.iload_n 3, 1) := by decide +kernel
theorem dX5_drifts_117 : decode cX5_drifts 117 = .ok (.iadd, 1) := by decide +kernel
theorem dX5_drifts_118 : decode cX5_drifts 118 = .ok (.iaload, 1) := by decide +kernel
theorem dX5_drifts_119 : decode cX5_drifts 119 = .ok (.irem, 1) := by decide +kernel
theorem dX5_drifts_120 : decode cX5_drifts 120 = .ok (.iastore, 1) := by decide +kernel
theorem dX5_drifts_121 : decode cX5_drifts 121 = .ok (.return_, 1) := by decide +kernel
set_option maxRecDepth 20000 in
theorem ggX5_drift_X5_in : GoodIn wsX5_drift wsX5_in := goodIn_r _ [5] (by decide +kernel) (by decide +kernel)
set_option maxRecDepth 20000 in
theorem gX5_drift_X5_in : GoodIn wsX5_drift (va_wsS RX5 35 yX5_in wsX5_in) := goodIn_app (goodIn_of _ (by decide +kernel)) ggX5_drift_X5_in
set_option maxRecDepth 20000 in
theorem ggX5_drift_X5_drifts : GoodIn wsX5_drift wsX5_drifts := goodIn_r _ [9, 10, 11, 12, 13, 14, 15, 16, 4, 17, 18, 19, 20, 21, 22, 23, 24, 25, 26, 27, 28, 29, 30, 31, 32, 33, 34, 64, 65, 66, 67, 68, 69, 70, 71, 72, 73, 74, 75, 76, 77, 78] (by decide +kernel) (by decide +kernel)
set_option maxRecDepth 20000 in
theorem gX5_drift_X5_drifts : GoodIn wsX5_drift (wsV RX5 167 RX5 yX5_drifts wsX5_drifts) := goodIn_app (goodIn_of _ (by decide +kernel)) ggX5_drift_X5_drifts
set_option maxRecDepth 20000 in
theorem ggX5_drift_X5_legals : GoodIn wsX5_drift wsX5_legals := goodIn_r _ [38, 39, 40, 41, 4, 42, 43, 44, 45, 46, 47, 48, 49, 50, 51, 10, 52, 53, 54, 55, 56, 57, 58, 59, 60, 61, 62, 63, 64, 65, 66, 67, 68, 69, 70, 71, 72, 73, 74, 75, 76, 77, 78] (by decide +kernel) (by decide +kernel)
set_option maxRecDepth 20000 in
theorem gX5_drift_X5_legals : GoodIn wsX5_drift (wsV RX5 146 RX5 yX5_legals wsX5_legals) := goodIn_app (goodIn_of _ (by decide +kernel)) ggX5_drift_X5_legals
theorem dX5_drift_0 : decode cX5_drift 0 = .ok (.iload_n 1, 1) := by decide +kernel
theorem dX5_drift_1 : decode cX5_drift 1 = .ok (.i2l, 1) := by decide +kernel
theorem dX5_drift_2 : decode cX5_drift 2 = .ok (.lconst 1, 1) := by decide +kernel
theorem dX5_drift_3 : decode cX5_drift 3 = .ok (.ldc2_w 165, 3) := by decide +kernel
theorem dX5_drift_6 : decode cX5_drift 6 = .ok (.invokestatic 35, 3) := by decide +kernel
theorem dX5_drift_9 : decode cX5_drift 9 = .ok (.ifCond .ne 5, 3) := by decide +kernel
theorem dX5_drift_12 : decode cX5_drift 12 = .ok (.iconst (-1), 1) := by decide +kernel
theorem dX5_drift_13 : decode cX5_drift 13 = .ok (.ireturn, 1) := by decide +kernel
theorem dX5_drift_14 : decode cX5_drift 14 = .ok (.iconst 0, 1) := by decide +kernel
theorem dX5_drift_15 : decode cX5_drift 15 = .ok (.istore_n 2, 1) := by decide +kernel
theorem dX5_drift_16 : decode cX5_drift 16 = .ok (.iload_n 2, 1) := by decide +kernel
theorem dX5_drift_17 : decode cX5_drift 17 = .ok (.iload_n 1, 1) := by decide +kernel
theorem dX5_drift_18 : decode cX5_drift 18 = .ok (.if_icmp .ge 13, 3) := by decide +kernel
theorem dX5_drift_21 : decode cX5_drift 21 = .ok (.aload_n 0, 1) := by decide +kernel
theorem dX5_drift_22 : decode cX5_drift 22 = .ok (.invokevirtual 167, 3) := by decide +kernel
theorem dX5_drift_25 : decode cX5_drift 25 = .ok (.iinc 2 1, 3) := by decide +kernel
theorem dX5_drift_28 : decode cX5_drift 28 = .ok (.goto (-12), 3) := by decide +kernel
theorem dX5_drift_31 : decode cX5_drift 31 = .ok (.aload_n 0, 1) := by decide +kernel
theorem dX5_drift_32 : decode cX5_drift 32 = .ok (.invokevirtual 146, 3) := by decide +kernel
theorem dX5_drift_35 : decode cX5_drift 35 = .ok (.ireturn, 1) := by decide +kernel
theorem dX5_undo_0 : decode cX5_undo 0 = .ok (.aload_n 0, 1) := by decide +kernel
theorem dX5_undo_1 : decode cX5_undo 1 = .ok (.getfield 7, 3) := by decide +kernel
theorem dX5_undo_4 : decode cX5_undo 4 = .ok (.bipush 39, 2) := by decide +kernel
theorem dX5_undo_6 : decode cX5_undo 6 = .ok (.iaload, 1) := by decide +kernel
theorem dX5_undo_7 : decode cX5_undo 7 = .ok (.ifCond .ne 6, 3) := by decide +kernel
theorem dX5_undo_10 : decode cX5_undo 10 = .ok (.bipush (-4), 2) := by decide +kernel
theorem dX5_undo_12 : decode cX5_undo 12 = .ok (.ireturn, 1) := by decide +kernel
theorem dX5_undo_13 : decode cX5_undo 13 = .ok (.aload_n 0, 1) := by decide +kernel
theorem dX5_undo_14 : decode cX5_undo 14 = .ok (.getfield 7, 3) := by decide +kernel
theorem dX5_undo_17 : decode cX5_undo 17 = .ok (.bipush 39, 2) := by decide +kernel
theorem dX5_undo_19 : decode cX5_undo 19 = .ok (.dup2, 1) := by decide +kernel
theorem dX5_undo_20 : decode cX5_undo 20 = .ok (.iaload, 1) := by decide +kernel
theorem dX5_undo_21 : decode cX5_undo 21 = .ok (.iconst 1, 1) := by decide +kernel
theorem dX5_undo_22 : decode cX5_undo 22 = .ok (.isub, 1) := by decide +kernel
theorem dX5_undo_23 : decode cX5_undo 23 = .ok (.iastore, 1) := by decide +kernel
theorem dX5_undo_24 : decode cX5_undo 24 = .ok (.iconst 0, 1) := by decide +kernel
theorem dX5_undo_25 : decode cX5_undo 25 = .ok (.istore_n 1, 1) := by decide +kernel
theorem dX5_undo_26 : decode cX5_undo 26 = .ok (.iload_n 1, 1) := by decide +kernel
theorem dX5_undo_27 : decode cX5_undo 27 = .ok (.bipush 25, 2) := by decide +kernel
theorem dX5_undo_29 : decode cX5_undo 29 = .ok (.if_icmp .ge 38, 3) := by decide +kernel
theorem dX5_undo_32 : decode cX5_undo 32 = .ok (.aload_n 0, 1) := by decide +kernel
theorem dX5_undo_33 : decode cX5_undo 33 = .ok (.getfield 7, 3) := by decide +kernel
theorem dX5_undo_36 : decode cX5_undo 36 = .ok (.bipush 14, 2) := by decide +kernel
theorem dX5_undo_38 : decode cX5_undo 38 = .ok (.iload_n 1, 1) := by decide +kernel
theorem dX5_undo_39 : decode cX5_undo 39 = .ok (.iadd, 1) := by decide +kernel
theorem dX5_undo_40 : decode cX5_undo 40 = .ok (.aload_n 0, 1) := by decide +kernel
theorem dX5_undo_41 : decode cX5_undo 41 = .ok (.getfield 7, 3) := by decide +kernel
theorem dX5_undo_44 : decode cX5_undo 44 = .ok (.bipush 40, 2) := by decide +kernel
theorem dX5_undo_46 : decode cX5_undo 46 = .ok (.bipush 25, 2) := by decide +kernel
theorem dX5_undo_48 : decode cX5_undo 48 = .ok (.aload_n 0, 1) := by decide +kernel
theorem dX5_undo_49 : decode cX5_undo 49 = .ok (.getfield 7, 3) := by decide +kernel
theorem dX5_undo_52 : decode cX5_undo 52 = .ok (.bipush 39, 2) := by decide +kernel
theorem dX5_undo_54 : decode cX5_undo 54 = .ok (.iaload, 1) := by decide +kernel
theorem dX5_undo_55 : decode cX5_undo 55 = .ok (.imul, 1) := by decide +kernel
theorem dX5_undo_56 : decode cX5_undo 56 = .ok (.iadd, 1) := by decide +kernel
theorem dX5_undo_57 : decode cX5_undo 57 = .ok (.iload_n 1, 1) := by decide +kernel
theorem dX5_undo_58 : decode cX5_undo 58 = .ok (.iadd, 1) := by decide +kernel
theorem dX5_undo_59 : decode cX5_undo 59 = .ok (.iaload, 1) := by decide +kernel
theorem dX5_undo_60 : decode cX5_undo 60 = .ok (.iastore, 1) := by decide +kernel
theorem dX5_undo_61 : decode cX5_undo 61 = .ok (.iinc 1 1, 3) := by decide +kernel
theorem dX5_undo_64 : decode cX5_undo 64 = .ok (.goto (-38), 3) := by decide +kernel
theorem dX5_undo_67 : decode cX5_undo 67 = .ok (.aload_n 0, 1) := by decide +kernel
theorem dX5_undo_68 : decode cX5_undo 68 = .ok (.getfield 7, 3) := by decide +kernel
theorem dX5_undo_71 : decode cX5_undo 71 = .ok (.bipush 39, 2) := by decide +kernel
theorem dX5_undo_73 : decode cX5_undo 73 = .ok (.iaload, 1) := by decide +kernel
theorem dX5_undo_74 : decode cX5_undo 74 = .ok (.ireturn, 1) := by decide +kernel
theorem dX5_seed_0 : decode cX5_seed 0 = .ok (.iload_n 1, 1) := by decide +kernel
theorem dX5_seed_1 : decode cX5_seed 1 = .ok (.ifCond .ge 5, 3) := by decide +kernel
theorem dX5_seed_4 : decode cX5_seed 4 = .ok (.iconst (-1), 1) := by decide +kernel
theorem dX5_seed_5 : decode cX5_seed 5 = .ok (.ireturn, 1) := by decide +kernel
theorem dX5_seed_6 : decode cX5_seed 6 = .ok (.aload_n 0, 1) := by decide +kernel
theorem dX5_seed_7 : decode cX5_seed 7 = .ok (.getfield 7, 3) := by decide +kernel
theorem dX5_seed_10 : decode cX5_seed 10 = .ok (.bipush 14, 2) := by decide +kernel
theorem dX5_seed_12 : decode cX5_seed 12 = .ok (.iaload, 1) := by decide +kernel
theorem dX5_seed_13 : decode cX5_seed 13 = .ok (.istore_n 2, 1) := by decide +kernel
theorem dX5_seed_14 : decode cX5_seed 14 = .ok (.aload_n 0, 1) := by decide +kernel
theorem dX5_seed_15 : decode cX5_seed 15 = .ok (.getfield 7, 3) := by decide +kernel
theorem dX5_seed_18 : decode cX5_seed 18 = .ok (.bipush 14, 2) := by decide +kernel
theorem dX5_seed_20 : decode cX5_seed 20 = .ok (.iload_n 1, 1) := by decide +kernel
theorem dX5_seed_21 : decode cX5_seed 21 = .ok (.iastore, 1) := by decide +kernel
theorem dX5_seed_22 : decode cX5_seed 22 = .ok (.iload_n 2, 1) := by decide +kernel
theorem dX5_seed_23 : decode cX5_seed 23 = .ok (.ireturn, 1) := by decide +kernel
set_option maxRecDepth 20000 in
theorem ggX5_figure_X5_isRegister : GoodIn wsX5_figure wsX5_isRegister := goodIn_r _ [5, 6, 7, 8, 4, 9] (by decide +kernel) (by decide +kernel)
set_option maxRecDepth 20000 in
theorem gX5_figure_X5_isRegister : GoodIn wsX5_figure (va_wsS RX5 134 yX5_isRegister wsX5_isRegister) := goodIn_app (goodIn_of _ (by decide +kernel)) ggX5_figure_X5_isRegister
set_option maxRecDepth 20000 in
theorem ggX5_figure_X5_isWheel : GoodIn wsX5_figure wsX5_isWheel := goodIn_r _ [13, 1, 7, 8, 4, 9, 31, 32, 33, 34, 35, 36, 37, 38, 39, 40, 41, 42, 43, 44, 45] (by decide +kernel) (by decide +kernel)
set_option maxRecDepth 20000 in
theorem gX5_figure_X5_isWheel : GoodIn wsX5_figure (wsV RX5 128 RX5 yX5_isWheel wsX5_isWheel) := goodIn_app (goodIn_of _ (by decide +kernel)) ggX5_figure_X5_isWheel
set_option maxRecDepth 20000 in
theorem ggX5_figure_X5_value : GoodIn wsX5_figure wsX5_value := goodIn_r _ [17, 18, 19, 20, 4, 21, 22, 1, 23, 24, 25, 26, 31, 32, 33, 34, 35, 36, 37, 38, 39, 40, 41, 42, 43, 44, 45] (by decide +kernel) (by decide +kernel)
set_option maxRecDepth 20000 in
theorem gX5_figure_X5_value : GoodIn wsX5_figure (wsV RX5 67 RX5 yX5_value wsX5_value) := goodIn_app (goodIn_of _ (by decide +kernel)) ggX5_figure_X5_value
set_option maxRecDepth 20000 in
theorem ggX5_figure_X5_product : GoodIn wsX5_figure wsX5_product := goodIn_r _ [30, 1, 31, 32, 33, 34, 35, 36, 37, 38, 39, 40, 41, 42, 43, 44, 45] (by decide +kernel) (by decide +kernel)
set_option maxRecDepth 20000 in
theorem gX5_figure_X5_product : GoodIn wsX5_figure (wsV RX5 55 RX5 yX5_product wsX5_product) := goodIn_app (goodIn_of _ (by decide +kernel)) ggX5_figure_X5_product
theorem dX5_figure_0 : decode cX5_figure 0 = .ok (.iload_n 1, 1) := by decide +kernel
theorem dX5_figure_1 : decode cX5_figure 1 = .ok (.invokestatic 134, 3) := by decide +kernel
theorem dX5_figure_4 : decode cX5_figure 4 = .ok (.ifCond .eq 35, 3) := by decide +kernel
theorem dX5_figure_7 : decode cX5_figure 7 = .ok (.aload_n 0, 1) := by decide +kernel
theorem dX5_figure_8 : decode cX5_figure 8 = .ok (.iload_n 2, 1) := by decide +kernel
theorem dX5_figure_9 : decode cX5_figure 9 = .ok (.invokevirtual 128, 3) := by decide +kernel
theorem dX5_figure_12 : decode cX5_figure 12 = .ok (.ifCond .eq 27, 3) := by decide +kernel
theorem dX5_figure_15 : decode cX5_figure 15 = .ok (.aload_n 0, 1) := by decide +kernel
theorem dX5_figure_16 : decode cX5_figure 16 = .ok (.iload_n 1, 1) := by decide +kernel
theorem dX5_figure_17 : decode cX5_figure 17 = .ok (.invokevirtual 67, 3) := by decide +kernel
theorem dX5_figure_20 : decode cX5_figure 20 = .ok (.aload_n 0, 1) := by decide +kernel
theorem dX5_figure_21 : decode cX5_figure 21 = .ok (.iload_n 2, 1) := by decide +kernel
theorem dX5_figure_22 : decode cX5_figure 22 = .ok (.invokevirtual 55, 3) := by decide +kernel
theorem dX5_figure_25 : decode cX5_figure 25 = .ok (.idiv, 1) := by decide +kernel
theorem dX5_figure_26 : decode cX5_figure 26 = .ok (.aload_n 0, 1) := by decide +kernel
theorem dX5_figure_27 : decode cX5_figure 27 = .ok (.getfield 7, 3) := by decide +kernel
theorem dX5_figure_30 : decode cX5_figure 30 = .ok (.bipush 8, 2) := by decide +kernel
theorem dX5_figure_32 : decode cX5_figure 32 = .ok (.iload_n 2, 1) := by decide +kernel
theorem dX5_figure_33 : decode cX5_figure 33 = .ok (.iadd, 1) := by decide +kernel
theorem dX5_figure_34 : decode cX5_figure 34 = .ok (.iaload, 1) := by decide +kernel
theorem dX5_figure_35 : decode cX5_figure 35 = .ok (.irem, 1) := by decide +kernel
theorem dX5_figure_36 : decode cX5_figure 36 = .ok (.goto 4, 3) := by decide +kernel
theorem dX5_figure_39 : decode cX5_figure 39 = .ok (.iconst (-1), 1) := by decide +kernel
theorem dX5_figure_40 : decode cX5_figure 40 = .ok (.ireturn, 1) := by decide +kernel
set_option maxRecDepth 20000 in
theorem ggX5_order_X5_isRegister : GoodIn wsX5_order wsX5_isRegister := goodIn_r _ [4, 5, 6, 7, 3, 8] (by decide +kernel) (by decide +kernel)
set_option maxRecDepth 20000 in
theorem gX5_order_X5_isRegister : GoodIn wsX5_order (va_wsS RX5 134 yX5_isRegister wsX5_isRegister) := goodIn_app (goodIn_of _ (by decide +kernel)) ggX5_order_X5_isRegister
set_option maxRecDepth 20000 in
theorem ggX5_order_X5_value : GoodIn wsX5_order wsX5_value := goodIn_r _ [12, 13, 14, 15, 3, 16, 17, 18, 19, 20, 21, 22, 23, 24, 25, 26, 27, 28, 29, 30, 31, 32, 33, 34, 35, 36, 37] (by decide +kernel) (by decide +kernel)
set_option maxRecDepth 20000 in
theorem gX5_order_X5_value : GoodIn wsX5_order (wsV RX5 67 RX5 yX5_value wsX5_value) := goodIn_app (goodIn_of _ (by decide +kernel)) ggX5_order_X5_value
theorem dX5_order_0 : decode cX5_order 0 = .ok (.iload_n 1, 1) := by decide +kernel
theorem dX5_order_1 : decode cX5_order 1 = .ok (.invokestatic 134, 3) := by decide +kernel
theorem dX5_order_4 : decode cX5_order 4 = .ok (.ifCond .eq 10, 3) := by decide +kernel
theorem dX5_order_7 : decode cX5_order 7 = .ok (.iload_n 2, 1) := by decide +kernel
theorem dX5_order_8 : decode cX5_order 8 = .ok (.invokestatic 134, 3) := by decide +kernel
theorem dX5_order_11 : decode cX5_order 11 = .ok (.ifCond .ne 5, 3) := by decide +kernel
theorem dX5_order_14 : decode cX5_order 14 = .ok (.iconst (-1), 1) := by decide +kernel
theorem dX5_order_15 : decode cX5_order 15 = .ok (.ireturn, 1) := by decide +kernel
theorem dX5_order_16 : decode cX5_order 16 = .ok (.aload_n 0, 1) := by decide +kernel
theorem dX5_order_17 : decode cX5_order 17 = .ok (.iload_n 1, 1) := by decide +kernel
theorem dX5_order_18 : decode cX5_order 18 = .ok (.invokevirtual 67, 3) := by decide +kernel
theorem dX5_order_21 : decode cX5_order 21 = .ok (.istore_n 3, 1) := by decide +kernel
theorem dX5_order_22 : decode cX5_order 22 = .ok (.aload_n 0, 1) := by decide +kernel
theorem dX5_order_23 : decode cX5_order 23 = .ok (.iload_n 2, 1) := by decide +kernel
theorem dX5_order_24 : decode cX5_order 24 = .ok (.invokevirtual 67, 3) := by decide +kernel
theorem dX5_order_27 : decode cX5_order 27 = .ok (.istore 4, 2) := by decide +kernel
theorem dX5_order_29 : decode cX5_order 29 = .ok (.iload_n 3, 1) := by decide +kernel
theorem dX5_order_30 : decode cX5_order 30 = .ok (.iload 4, 2) := by decide +kernel
theorem dX5_order_32 : decode cX5_order 32 = .ok (.if_icmp .ge 7, 3) := by decide +kernel
theorem dX5_order_35 : decode cX5_order 35 = .ok (.iconst 0, 1) := by decide +kernel
theorem dX5_order_36 : decode cX5_order 36 = .ok (.goto 14, 3) := by decide +kernel
theorem dX5_order_39 : decode cX5_order 39 = .ok (.iload_n 3, 1) := by decide +kernel
theorem dX5_order_40 : decode cX5_order 40 = .ok (.iload 4, 2) := by decide +kernel
theorem dX5_order_42 : decode cX5_order 42 = .ok (.if_icmp .ne 7, 3) := by decide +kernel
theorem dX5_order_45 : decode cX5_order 45 = .ok (.iconst 1, 1) := by decide +kernel
theorem dX5_order_46 : decode cX5_order 46 = .ok (.goto 4, 3) := by decide +kernel
theorem dX5_order_49 : decode cX5_order 49 = .ok (.iconst 2, 1) := by decide +kernel
theorem dX5_order_50 : decode cX5_order 50 = .ok (.ireturn, 1) := by decide +kernel
set_option maxRecDepth 20000 in
theorem ggX5_blame_X5_isRegister : GoodIn wsX5_blame wsX5_isRegister := goodIn_r _ [6, 7, 8, 9, 5, 10] (by decide +kernel) (by decide +kernel)
set_option maxRecDepth 20000 in
theorem gX5_blame_X5_isRegister : GoodIn wsX5_blame (va_wsS RX5 134 yX5_isRegister wsX5_isRegister) := goodIn_app (goodIn_of _ (by decide +kernel)) ggX5_blame_X5_isRegister
set_option maxRecDepth 20000 in
theorem ggX5_blame_X5_isLegal : GoodIn wsX5_blame wsX5_isLegal := goodIn_r _ [14, 15, 16, 17, 5, 18, 19, 20, 21, 22, 2, 1, 23, 24, 25, 26, 27, 28, 29, 30, 31, 32, 33, 34, 35, 36, 37, 38, 39, 40, 41, 42, 43, 44, 45, 46, 47, 48, 49] (by decide +kernel) (by decide +kernel)
set_option maxRecDepth 20000 in
theorem gX5_blame_X5_isLegal : GoodIn wsX5_blame (wsV RX5 137 RX5 yX5_isLegal wsX5_isLegal) := goodIn_app (goodIn_of _ (by decide +kernel)) ggX5_blame_X5_isLegal
set_option maxRecDepth 20000 in
theorem ggX5_blame_X5_range : GoodIn wsX5_blame wsX5_range := goodIn_r _ [30, 1, 31, 32, 33, 5, 34, 35, 36, 37, 38, 39, 40, 41, 42, 43, 44, 45, 46, 47, 48, 49] (by decide +kernel) (by decide +kernel)
set_option maxRecDepth 20000 in
theorem gX5_blame_X5_range : GoodIn wsX5_blame (wsV RX5 70 RX5 yX5_range wsX5_range) := goodIn_app (goodIn_of _ (by decide +kernel)) ggX5_blame_X5_range
set_option maxRecDepth 20000 in
theorem ggX5_blame_X5_looks : GoodIn wsX5_blame wsX5_looks := goodIn_r _ [22, 2, 1, 35, 36, 37, 38, 39, 40, 41, 42, 43, 44, 45, 46, 47, 48, 49] (by decide +kernel) (by decide +kernel)
set_option maxRecDepth 20000 in
theorem gX5_blame_X5_looks : GoodIn wsX5_blame (wsV RX5 59 RX5 yX5_looks wsX5_looks) := goodIn_app (goodIn_of _ (by decide +kernel)) ggX5_blame_X5_looks
set_option maxRecDepth 20000 in
theorem ggX5_blame_X5_valueOf : GoodIn wsX5_blame wsX5_valueOf := goodIn_r _ [26, 1, 2, 35, 36, 37, 38, 39, 40, 41, 42, 43, 44, 45, 46, 47, 48, 49] (by decide +kernel) (by decide +kernel)
set_option maxRecDepth 20000 in
theorem gX5_blame_X5_valueOf : GoodIn wsX5_blame (wsV RX5 63 RX5 yX5_valueOf wsX5_valueOf) := goodIn_app (goodIn_of _ (by decide +kernel)) ggX5_blame_X5_valueOf
theorem dX5_blame_0 : decode cX5_blame 0 = .ok (.iload_n 1, 1) := by decide +kernel
theorem dX5_blame_1 : decode cX5_blame 1 = .ok (.invokestatic 134, 3) := by decide +kernel
theorem dX5_blame_4 : decode cX5_blame 4 = .ok (.ifCond .ne 5, 3) := by decide +kernel
theorem dX5_blame_7 : decode cX5_blame 7 = .ok (.iconst (-1), 1) := by decide +kernel
theorem dX5_blame_8 : decode cX5_blame 8 = .ok (.ireturn, 1) := by decide +kernel
theorem dX5_blame_9 : decode cX5_blame 9 = .ok (.aload_n 0, 1) := by decide +kernel
theorem dX5_blame_10 : decode cX5_blame 10 = .ok (.iload_n 1, 1) := by decide +kernel
theorem dX5_blame_11 : decode cX5_blame 11 = .ok (.invokevirtual 137, 3) := by decide +kernel
theorem dX5_blame_14 : decode cX5_blame 14 = .ok (.ifCond .eq 5, 3) := by decide +kernel
theorem dX5_blame_17 : decode cX5_blame 17 = .ok (.iconst 0, 1) := by decide +kernel
theorem dX5_blame_18 : decode cX5_blame 18 = .ok (.ireturn, 1) := by decide +kernel
theorem dX5_blame_19 : decode cX5_blame 19 = .ok (.iconst 0, 1) := by decide +kernel
theorem dX5_blame_20 : decode cX5_blame 20 = .ok (.istore_n 2, 1) := by decide +kernel
theorem dX5_blame_21 : decode cX5_blame 21 = .ok (.aload_n 0, 1) := by decide +kernel
theorem dX5_blame_22 : decode cX5_blame 22 = .ok (.invokevirtual 70, 3) := by decide +kernel
theorem dX5_blame_25 : decode cX5_blame 25 = .ok (.istore_n 3, 1) := by decide +kernel
theorem dX5_blame_26 : decode cX5_blame 26 = .ok (.iconst 0, 1) := by decide +kernel
theorem dX5_blame_27 : decode cX5_blame 27 = .ok (.istore 4, 2) := by decide +kernel
theorem dX5_blame_29 : decode cX5_blame 29 = .ok (.iload 4, 2) := by decide +kernel
theorem dX5_blame_31 : decode cX5_blame 31 = .ok (.aload_n 0, 1) := by decide +kernel
theorem dX5_blame_32 : decode cX5_blame 32 = .ok (.getfield 7, 3) := by decide +kernel
theorem dX5_blame_35 : decode cX5_blame 35 = .ok (.iconst 0, 1) := by decide +kernel
theorem dX5_blame_36 : decode cX5_blame 36 = .ok (.iaload, 1) := by decide +kernel
theorem dX5_blame_37 : decode cX5_blame 37 = .ok (.if_icmp .ge 82, 3) := by decide +kernel
theorem dX5_blame_40 : decode cX5_blame 40 = .ok (.aload_n 0, 1) := by decide +kernel
theorem dX5_blame_41 : decode cX5_blame 41 = .ok (.iload_n 1, 1) := by decide +kernel
theorem dX5_blame_42 : decode cX5_blame 42 = .ok (.invokevirtual 59, 3) := by decide +kernel
theorem dX5_blame_45 : decode cX5_blame 45 = .ok (.aload_n 0, 1) := by decide +kernel
theorem dX5_blame_46 : decode cX5_blame 46 = .ok (.getfield 26, 3) := by decide +kernel
theorem dX5_blame_49 : decode cX5_blame 49 = .ok (.iload 4, 2) := by decide +kernel
theorem dX5_blame_51 : decode cX5_blame 51 = .ok (.iaload, 1) := by decide +kernel
theorem dX5_blame_52 : decode cX5_blame 52 = .ok (.istore 5, 2) := by decide +kernel
theorem dX5_blame_54 : decode cX5_blame 54 = .ok (.iconst 0, 1) := by decide +kernel
theorem dX5_blame_55 : decode cX5_blame 55 = .ok (.istore 6, 2) := by decide +kernel
theorem dX5_blame_57 : decode cX5_blame 57 = .ok (.iload 6, 2) := by decide +kernel
theorem dX5_blame_59 : decode cX5_blame 59 = .ok (.aload_n 0, 1) := by decide +kernel
theorem dX5_blame_60 : decode cX5_blame 60 = .ok (.getfield 7, 3) := by decide +kernel
theorem dX5_blame_63 : decode cX5_blame 63 = .ok (.bipush 8, 2) := by decide +kernel
theorem dX5_blame_65 : decode cX5_blame 65 = .ok (.iload 4, 2) := by decide +kernel
theorem dX5_blame_67 : decode cX5_blame 67 = .ok (.iadd, 1) := by decide +kernel
theorem dX5_blame_68 : decode cX5_blame 68 = .ok (.iaload, 1) := by decide +kernel
theorem dX5_blame_69 : decode cX5_blame 69 = .ok (.if_icmp .ge 44, 3) := by decide +kernel
theorem dX5_blame_72 : decode cX5_blame 72 = .ok (.aload_n 0, 1) := by decide +kernel
theorem dX5_blame_73 : decode cX5_blame 73 = .ok (.getfield 26, 3) := by decide +kernel
theorem dX5_blame_76 : decode cX5_blame 76 = .ok (.iload 4, 2) := by decide +kernel
theorem dX5_blame_78 : decode cX5_blame 78 = .ok (.iload 6, 2) := by decide +kernel
theorem dX5_blame_80 : decode cX5_blame 80 = .ok (.iastore, 1) := by decide +kernel
theorem dX5_blame_81 : decode cX5_blame 81 = .ok (.iload_n 2, 1) := by decide +kernel
theorem dX5_blame_82 : decode cX5_blame 82 = .ok (.iload 6, 2) := by decide +kernel
theorem dX5_blame_84 : decode cX5_blame 84 = .ok (.iload 5, 2) := by decide +kernel
theorem dX5_blame_86 : decode cX5_blame 86 = .ok (.if_icmp .eq 18, 3) := by decide +kernel
theorem dX5_blame_89 : decode cX5_blame 89 = .ok (.aload_n 0, 1) := by decide +kernel
theorem dX5_blame_90 : decode cX5_blame 90 = .ok (.invokevirtual 63, 3) := by decide +kernel
theorem dX5_blame_93 : decode cX5_blame 93 = .ok (.iload_n 3, 1) := by decide +kernel
theorem dX5_blame_94 : decode cX5_blame 94 = .ok (.if_icmp .ge 10, 3) := by decide +kernel
theorem dX5_blame_97 : decode cX5_blame 97 = .ok (.iconst 1, 1) := by decide +kernel
theorem dX5_blame_98 : decode cX5_blame 98 = .ok (.iload 4, 2) := by decide +kernel
theorem dX5_blame_100 : decode cX5_blame 100 = .ok (.ishl, 1) := by decide +kernel
theorem dX5_blame_101 : decode cX5_blame 101 = .ok (.goto 4, 3) := by decide +kernel
theorem dX5_blame_104 : decode cX5_blame 104 = .ok (.iconst 0, 1) := by decide +kernel
theorem dX5_blame_105 : decode cX5_blame 105 = .ok (.ior, 1) := by decide +kernel
theorem dX5_blame_106 : decode cX5_blame 106 = .ok (.istore_n 2, 1) := by decide +kernel
theorem dX5_blame_107 : decode cX5_blame 107 = .ok (.iinc 6 1, 3) := by decide +kernel
theorem dX5_blame_110 : decode cX5_blame 110 = .ok (.goto (-53), 3) := by decide +kernel
theorem dX5_blame_113 : decode cX5_blame 113 = .ok (.iinc 4 1, 3) := by decide +kernel
theorem dX5_blame_116 : decode cX5_blame 116 = .ok (.goto (-87), 3) := by decide +kernel
theorem dX5_blame_119 : decode cX5_blame 119 = .ok (.iload_n 2, 1) := by decide +kernel
theorem dX5_blame_120 : decode cX5_blame 120 = .ok (.ireturn, 1) := by decide +kernel
set_option maxRecDepth 20000 in
theorem ggX5_nearest_X5_isRegister : GoodIn wsX5_nearest wsX5_isRegister := goodIn_r _ [6, 7, 8, 9, 5, 10] (by decide +kernel) (by decide +kernel)
set_option maxRecDepth 20000 in
theorem gX5_nearest_X5_isRegister : GoodIn wsX5_nearest (va_wsS RX5 134 yX5_isRegister wsX5_isRegister) := goodIn_app (goodIn_of _ (by decide +kernel)) ggX5_nearest_X5_isRegister
set_option maxRecDepth 20000 in
theorem ggX5_nearest_X5_in : GoodIn wsX5_nearest wsX5_in := goodIn_r _ [10] (by decide +kernel) (by decide +kernel)
set_option maxRecDepth 20000 in
theorem gX5_nearest_X5_in : GoodIn wsX5_nearest (va_wsS RX5 35 yX5_in wsX5_in) := goodIn_app (goodIn_of _ (by decide +kernel)) ggX5_nearest_X5_in
set_option maxRecDepth 20000 in
theorem ggX5_nearest_X5_range : GoodIn wsX5_nearest wsX5_range := goodIn_r _ [14, 2, 15, 16, 17, 5, 18, 19, 20, 21, 22, 23, 24, 25, 26, 27, 28, 29, 30, 31, 32, 33] (by decide +kernel) (by decide +kernel)
set_option maxRecDepth 20000 in
theorem gX5_nearest_X5_range : GoodIn wsX5_nearest (wsV RX5 70 RX5 yX5_range wsX5_range) := goodIn_app (goodIn_of _ (by decide +kernel)) ggX5_nearest_X5_range
theorem dX5_nearest_0 : decode cX5_nearest 0 = .ok (.iload_n 1, 1) := by decide +kernel
theorem dX5_nearest_1 : decode cX5_nearest 1 = .ok (.invokestatic 134, 3) := by decide +kernel
theorem dX5_nearest_4 : decode cX5_nearest 4 = .ok (.ifCond .eq 13, 3) := by decide +kernel
theorem dX5_nearest_7 : decode cX5_nearest 7 = .ok (.iload_n 2, 1) := by decide +kernel
theorem dX5_nearest_8 : decode cX5_nearest 8 = .ok (.i2l, 1) := by decide +kernel
theorem dX5_nearest_9 : decode cX5_nearest 9 = .ok (.lconst 0, 1) := by decide +kernel
theorem dX5_nearest_10 : decode cX5_nearest 10 = .ok (.lconst 1, 1) := by decide +kernel
theorem dX5_nearest_11 : decode cX5_nearest 11 = .ok (.invokestatic 35, 3) := by decide +kernel
theorem dX5_nearest_14 : decode cX5_nearest 14 = .ok (.ifCond .ne 5, 3) := by decide +kernel
theorem dX5_nearest_17 : decode cX5_nearest 17 = .ok (.iconst (-1), 1) := by decide +kernel
theorem dX5_nearest_18 : decode cX5_nearest 18 = .ok (.ireturn, 1) := by decide +kernel
theorem dX5_nearest_19 : decode cX5_nearest 19 = .ok (.iconst 0, 1) := by decide +kernel
theorem dX5_nearest_20 : decode cX5_nearest 20 = .ok (.istore_n 3, 1) := by decide +kernel
theorem dX5_nearest_21 : decode cX5_nearest 21 = .ok (.ldc 170, 2) := by decide +kernel
theorem dX5_nearest_23 : decode cX5_nearest 23 = .ok (.istore 4, 2) := by decide +kernel
theorem dX5_nearest_25 : decode cX5_nearest 25 = .ok (.aload_n 0, 1) := by decide +kernel
theorem dX5_nearest_26 : decode cX5_nearest 26 = .ok (.invokevirtual 70, 3) := by decide +kernel
theorem dX5_nearest_29 : decode cX5_nearest 29 = .ok (.istore 5, 2) := by decide +kernel
theorem dX5_nearest_31 : decode cX5_nearest 31 = .ok (.iconst 0, 1) := by decide +kernel
theorem dX5_nearest_32 : decode cX5_nearest 32 = .ok (.istore 6, 2) := by decide +kernel
theorem dX5_nearest_34 : decode cX5_nearest 34 = .ok (.iload 6, 2) := by decide +kernel
theorem dX5_nearest_36 : decode cX5_nearest 36 = .ok (.iload 5, 2) := by decide +kernel
theorem dX5_nearest_38 : decode cX5_nearest 38 = .ok (.if_icmp .ge 103, 3) := by decide +kernel
theorem dX5_nearest_41 : decode cX5_nearest 41 = .ok (.iconst 0, 1) := by decide +kernel
theorem dX5_nearest_42 : decode cX5_nearest 42 = .ok (.istore 7, 2) := by decide +kernel
theorem dX5_nearest_44 : decode cX5_nearest 44 = .ok (.iconst 0, 1) := by decide +kernel
theorem dX5_nearest_45 : decode cX5_nearest 45 = .ok (.istore 8, 2) := by decide +kernel
theorem dX5_nearest_47 : decode cX5_nearest 47 = .ok (.iload 8, 2) := by decide +kernel
theorem dX5_nearest_49 : decode cX5_nearest 49 = .ok (.aload_n 0, 1) := by decide +kernel
theorem dX5_nearest_50 : decode cX5_nearest 50 = .ok (.getfield 7, 3) := by decide +kernel
theorem dX5_nearest_53 : decode cX5_nearest 53 = .ok (.iconst 0, 1) := by decide +kernel
theorem dX5_nearest_54 : decode cX5_nearest 54 = .ok (.iaload, 1) := by decide +kernel
theorem dX5_nearest_55 : decode cX5_nearest 55 = .ok (.if_icmp .ge 50, 3) := by decide +kernel
theorem dX5_nearest_58 : decode cX5_nearest 58 = .ok (.iload 7, 2) := by decide +kernel
theorem dX5_nearest_60 : decode cX5_nearest 60 = .ok (.iload 6, 2) := by decide +kernel
theorem dX5_nearest_62 : decode cX5_nearest 62 = .ok (.aload_n 0, 1) := by decide +kernel
theorem dX5_nearest_63 : decode cX5_nearest 63 = .ok (.getfield 7, 3) := by decide +kernel
theorem dX5_nearest_66 : decode cX5_nearest 66 = .ok (.bipush 8, 2) := by decide +kernel
theorem dX5_nearest_68 : decode cX5_nearest 68 = .ok (.iload 8, 2) := by decide +kernel
theorem dX5_nearest_70 : decode cX5_nearest 70 = .ok (.iadd, 1) := by decide +kernel
theorem dX5_nearest_71 : decode cX5_nearest 71 = .ok (.iaload, 1) := by decide +kernel
theorem dX5_nearest_72 : decode cX5_nearest 72 = .ok (.irem, 1) := by decide +kernel
theorem dX5_nearest_73 : decode cX5_nearest 73 = .ok (.aload_n 0, 1) := by decide +kernel
theorem dX5_nearest_74 : decode cX5_nearest 74 = .ok (.getfield 7, 3) := by decide +kernel
theorem dX5_nearest_77 : decode cX5_nearest 77 = .ok (.bipush 15, 2) := by decide +kernel
theorem dX5_nearest_79 : decode cX5_nearest 79 = .ok (.bipush 6, 2) := by decide +kernel
theorem dX5_nearest_81 : decode cX5_nearest 81 = .ok (.iload_n 1, 1) := by decide +kernel
theorem dX5_nearest_82 : decode cX5_nearest 82 = .ok (.imul, 1) := by decide +kernel
theorem dX5_nearest_83 : decode cX5_nearest 83 = .ok (.iadd, 1) := by decide +kernel
theorem dX5_nearest_84 : decode cX5_nearest 84 = .ok (.iload 8, 2) := by decide +kernel
theorem dX5_nearest_86 : decode cX5_nearest 86 = .ok (.iadd, 1) := by decide +kernel
theorem dX5_nearest_87 : decode cX5_nearest 87 = .ok (.iaload, 1) := by decide +kernel
theorem dX5_nearest_88 : decode cX5_nearest 88 = .ok (.if_icmp .ne 7, 3) := by decide +kernel
theorem dX5_nearest_91 : decode cX5_nearest 91 = .ok (.iconst 0, 1) := by decide +kernel
theorem dX5_nearest_92 : decode cX5_nearest 92 = .ok (.goto 4, 3) := by decide +kernel
theorem dX5_nearest_95 : decode cX5_nearest 95 = .ok (.iconst 1, 1) := by decide +kernel
theorem dX5_nearest_96 : decode cX5_nearest 96 = .ok (.iadd, 1) := by decide +kernel
theorem dX5_nearest_97 : decode cX5_nearest 97 = .ok (.istore 7, 2) := by decide +kernel
theorem dX5_nearest_99 : decode cX5_nearest 99 = .ok (.iinc 8 1, 3) := by decide +kernel
theorem dX5_nearest_102 : decode cX5_nearest 102 = .ok (.goto (-55), 3) := by decide +kernel
theorem dX5_nearest_105 : decode cX5_nearest 105 = .ok (.iload 7, 2) := by decide +kernel
theorem dX5_nearest_107 : decode cX5_nearest 107 = .ok (.iload 4, 2) := by decide +kernel
theorem dX5_nearest_109 : decode cX5_nearest 109 = .ok (.if_icmp .ge 8, 3) := by decide +kernel
theorem dX5_nearest_112 : decode cX5_nearest 112 = .ok (.iload 6, 2) := by decide +kernel
theorem dX5_nearest_114 : decode cX5_nearest 114 = .ok (.goto 4, 3) := by decide +kernel
theorem dX5_nearest_117 : decode cX5_nearest 117 = .ok (.iload_n 3, 1) := by decide +kernel
theorem dX5_nearest_118 : decode cX5_nearest 118 = .ok (.istore_n 3, 1) := by decide +kernel
theorem dX5_nearest_119 : decode cX5_nearest 119 = .ok (.iload 7, 2) := by decide +kernel
theorem dX5_nearest_121 : decode cX5_nearest 121 = .ok (.iload 4, 2) := by decide +kernel
theorem dX5_nearest_123 : decode cX5_nearest 123 = .ok (.if_icmp .ge 8, 3) := by decide +kernel
theorem dX5_nearest_126 : decode cX5_nearest 126 = .ok (.iload 7, 2) := by decide +kernel
theorem dX5_nearest_128 : decode cX5_nearest 128 = .ok (.goto 5, 3) := by decide +kernel
theorem dX5_nearest_131 : decode cX5_nearest 131 = .ok (.iload 4, 2) := by decide +kernel
theorem dX5_nearest_133 : decode cX5_nearest 133 = .ok (.istore 4, 2) := by decide +kernel
theorem dX5_nearest_135 : decode cX5_nearest 135 = .ok (.iinc 6 1, 3) := by decide +kernel
theorem dX5_nearest_138 : decode cX5_nearest 138 = .ok (.goto (-104), 3) := by decide +kernel
theorem dX5_nearest_141 : decode cX5_nearest 141 = .ok (.iload_n 2, 1) := by decide +kernel
theorem dX5_nearest_142 : decode cX5_nearest 142 = .ok (.ifCond .ne 7, 3) := by decide +kernel
theorem dX5_nearest_145 : decode cX5_nearest 145 = .ok (.iload_n 3, 1) := by decide +kernel
theorem dX5_nearest_146 : decode cX5_nearest 146 = .ok (.goto 5, 3) := by decide +kernel
theorem dX5_nearest_149 : decode cX5_nearest 149 = .ok (.iload 4, 2) := by decide +kernel
theorem dX5_nearest_151 : decode cX5_nearest 151 = .ok (.ireturn, 1) := by decide +kernel
set_option maxRecDepth 20000 in
theorem ggX5_apart_X5_range : GoodIn wsX5_apart wsX5_range := goodIn_r _ [7, 2, 8, 9, 10, 6, 11, 12, 13, 14, 15, 16, 17, 18, 19, 20, 21, 22, 23, 24, 25, 26] (by decide +kernel) (by decide +kernel)
set_option maxRecDepth 20000 in
theorem gX5_apart_X5_range : GoodIn wsX5_apart (wsV RX5 70 RX5 yX5_range wsX5_range) := goodIn_app (goodIn_of _ (by decide +kernel)) ggX5_apart_X5_range
theorem dX5_apart_0 : decode cX5_apart 0 = .ok (.ldc 170, 2) := by decide +kernel
theorem dX5_apart_2 : decode cX5_apart 2 = .ok (.istore_n 1, 1) := by decide +kernel
theorem dX5_apart_3 : decode cX5_apart 3 = .ok (.aload_n 0, 1) := by decide +kernel
theorem dX5_apart_4 : decode cX5_apart 4 = .ok (.invokevirtual 70, 3) := by decide +kernel
theorem dX5_apart_7 : decode cX5_apart 7 = .ok (.istore_n 2, 1) := by decide +kernel
theorem dX5_apart_8 : decode cX5_apart 8 = .ok (.iconst 1, 1) := by decide +kernel
theorem dX5_apart_9 : decode cX5_apart 9 = .ok (.istore_n 3, 1) := by decide +kernel
theorem dX5_apart_10 : decode cX5_apart 10 = .ok (.iload_n 3, 1) := by decide +kernel
theorem dX5_apart_11 : decode cX5_apart 11 = .ok (.iload_n 2, 1) := by decide +kernel
theorem dX5_apart_12 : decode cX5_apart 12 = .ok (.if_icmp .ge 70, 3) := by decide +kernel
theorem dX5_apart_15 : decode cX5_apart 15 = .ok (.iconst 0, 1) := by decide +kernel
theorem dX5_apart_16 : decode cX5_apart 16 = .ok (.istore 4, 2) := by decide +kernel
theorem dX5_apart_18 : decode cX5_apart 18 = .ok (.iconst 0, 1) := by decide +kernel
theorem dX5_apart_19 : decode cX5_apart 19 = .ok (.istore 5, 2) := by decide +kernel
theorem dX5_apart_21 : decode cX5_apart 21 = .ok (.iload 5, 2) := by decide +kernel
theorem dX5_apart_23 : decode cX5_apart 23 = .ok (.aload_n 0, 1) := by decide +kernel
theorem dX5_apart_24 : decode cX5_apart 24 = .ok (.getfield 7, 3) := by decide +kernel
theorem dX5_apart_27 : decode cX5_apart 27 = .ok (.iconst 0, 1) := by decide +kernel
theorem dX5_apart_28 : decode cX5_apart 28 = .ok (.iaload, 1) := by decide +kernel
theorem dX5_apart_29 : decode cX5_apart 29 = .ok (.if_icmp .ge 34, 3) := by decide +kernel
theorem dX5_apart_32 : decode cX5_apart 32 = .ok (.iload 4, 2) := by decide +kernel
theorem dX5_apart_34 : decode cX5_apart 34 = .ok (.iload_n 3, 1) := by decide +kernel
theorem dX5_apart_35 : decode cX5_apart 35 = .ok (.aload_n 0, 1) := by decide +kernel
theorem dX5_apart_36 : decode cX5_apart 36 = .ok (.getfield 7, 3) := by decide +kernel
theorem dX5_apart_39 : decode cX5_apart 39 = .ok (.bipush 8, 2) := by decide +kernel
theorem dX5_apart_41 : decode cX5_apart 41 = .ok (.iload 5, 2) := by decide +kernel
theorem dX5_apart_43 : decode cX5_apart 43 = .ok (.iadd, 1) := by decide +kernel
theorem dX5_apart_44 : decode cX5_apart 44 = .ok (.iaload, 1) := by decide +kernel
theorem dX5_apart_45 : decode cX5_apart 45 = .ok (.irem, 1) := by decide +kernel
theorem dX5_apart_46 : decode cX5_apart 46 = .ok (.ifCond .ne 7, 3) := by decide +kernel
theorem dX5_apart_49 : decode cX5_apart 49 = .ok (.iconst 0, 1) := by decide +kernel
theorem dX5_apart_50 : decode cX5_apart 50 = .ok (.goto 4, 3) := by decide +kernel
theorem dX5_apart_53 : decode cX5_apart 53 = .ok (.iconst 1, 1) := by decide +kernel
theorem dX5_apart_54 : decode cX5_apart 54 = .ok (.iadd, 1) := by decide +kernel
theorem dX5_apart_55 : decode cX5_apart 55 = .ok (.istore 4, 2) := by decide +kernel
theorem dX5_apart_57 : decode cX5_apart 57 = .ok (.iinc 5 1, 3) := by decide +kernel
theorem dX5_apart_60 : decode cX5_apart 60 = .ok (.goto (-39), 3) := by decide +kernel
theorem dX5_apart_63 : decode cX5_apart 63 = .ok (.iload 4, 2) := by decide +kernel
theorem dX5_apart_65 : decode cX5_apart 65 = .ok (.iload_n 1, 1) := by decide +kernel
theorem dX5_apart_66 : decode cX5_apart 66 = .ok (.if_icmp .ge 8, 3) := by decide +kernel
theorem dX5_apart_69 : decode cX5_apart 69 = .ok (.iload 4, 2) := by decide +kernel
theorem dX5_apart_71 : decode cX5_apart 71 = .ok (.goto 4, 3) := by decide +kernel
theorem dX5_apart_74 : decode cX5_apart 74 = .ok (.iload_n 1, 1) := by decide +kernel
theorem dX5_apart_75 : decode cX5_apart 75 = .ok (.istore_n 1, 1) := by decide +kernel
theorem dX5_apart_76 : decode cX5_apart 76 = .ok (.iinc 3 1, 3) := by decide +kernel
theorem dX5_apart_79 : decode cX5_apart 79 = .ok (.goto (-69), 3) := by decide +kernel
theorem dX5_apart_82 : decode cX5_apart 82 = .ok (.iload_n 1, 1) := by decide +kernel
theorem dX5_apart_83 : decode cX5_apart 83 = .ok (.ldc 170, 2) := by decide +kernel
theorem dX5_apart_85 : decode cX5_apart 85 = .ok (.if_icmp .ne 8, 3) := by decide +kernel
theorem dX5_apart_88 : decode cX5_apart 88 = .ok (.bipush (-4), 2) := by decide +kernel
theorem dX5_apart_90 : decode cX5_apart 90 = .ok (.goto 4, 3) := by decide +kernel
theorem dX5_apart_93 : decode cX5_apart 93 = .ok (.iload_n 1, 1) := by decide +kernel
theorem dX5_apart_94 : decode cX5_apart 94 = .ok (.ireturn, 1) := by decide +kernel
set_option maxRecDepth 20000 in
theorem ggX5_sum_X5_isRegister : GoodIn wsX5_sum wsX5_isRegister := goodIn_r _ [6, 7, 8, 9, 5, 10] (by decide +kernel) (by decide +kernel)
set_option maxRecDepth 20000 in
theorem gX5_sum_X5_isRegister : GoodIn wsX5_sum (va_wsS RX5 134 yX5_isRegister wsX5_isRegister) := goodIn_app (goodIn_of _ (by decide +kernel)) ggX5_sum_X5_isRegister
set_option maxRecDepth 20000 in
theorem ggX5_sum_X5_in : GoodIn wsX5_sum wsX5_in := goodIn_r _ [10] (by decide +kernel) (by decide +kernel)
set_option maxRecDepth 20000 in
theorem gX5_sum_X5_in : GoodIn wsX5_sum (va_wsS RX5 35 yX5_in wsX5_in) := goodIn_app (goodIn_of _ (by decide +kernel)) ggX5_sum_X5_in
set_option maxRecDepth 20000 in
theorem ggX5_sum_X5_isWheel : GoodIn wsX5_sum wsX5_isWheel := goodIn_r _ [14, 2, 8, 9, 5, 10, 28, 29, 30, 31, 32, 33, 34, 35, 36, 37, 38, 39, 40, 41, 42] (by decide +kernel) (by decide +kernel)
set_option maxRecDepth 20000 in
theorem gX5_sum_X5_isWheel : GoodIn wsX5_sum (wsV RX5 128 RX5 yX5_isWheel wsX5_isWheel) := goodIn_app (goodIn_of _ (by decide +kernel)) ggX5_sum_X5_isWheel
set_option maxRecDepth 20000 in
theorem ggX5_sum_X5_added : GoodIn wsX5_sum wsX5_added := goodIn_r _ [18, 2, 19, 20, 5, 21, 22, 23, 24, 25, 26, 27, 28, 29, 30, 31, 32, 33, 34, 35, 36, 37, 38, 39, 40, 41, 42] (by decide +kernel) (by decide +kernel)
set_option maxRecDepth 20000 in
theorem gX5_sum_X5_added : GoodIn wsX5_sum (wsV RX5 52 RX5 yX5_added wsX5_added) := goodIn_app (goodIn_of _ (by decide +kernel)) ggX5_sum_X5_added
theorem dX5_sum_0 : decode cX5_sum 0 = .ok (.iload_n 1, 1) := by decide +kernel
theorem dX5_sum_1 : decode cX5_sum 1 = .ok (.invokestatic 134, 3) := by decide +kernel
theorem dX5_sum_4 : decode cX5_sum 4 = .ok (.ifCond .eq 31, 3) := by decide +kernel
theorem dX5_sum_7 : decode cX5_sum 7 = .ok (.iload_n 2, 1) := by decide +kernel
theorem dX5_sum_8 : decode cX5_sum 8 = .ok (.invokestatic 134, 3) := by decide +kernel
theorem dX5_sum_11 : decode cX5_sum 11 = .ok (.ifCond .eq 24, 3) := by decide +kernel
theorem dX5_sum_14 : decode cX5_sum 14 = .ok (.iload_n 3, 1) := by decide +kernel
theorem dX5_sum_15 : decode cX5_sum 15 = .ok (.i2l, 1) := by decide +kernel
theorem dX5_sum_16 : decode cX5_sum 16 = .ok (.lconst 0, 1) := by decide +kernel
theorem dX5_sum_17 : decode cX5_sum 17 = .ok (.ldc2_w 171, 3) := by decide +kernel
theorem dX5_sum_20 : decode cX5_sum 20 = .ok (.invokestatic 35, 3) := by decide +kernel
theorem dX5_sum_23 : decode cX5_sum 23 = .ok (.ifCond .eq 12, 3) := by decide +kernel
theorem dX5_sum_26 : decode cX5_sum 26 = .ok (.aload_n 0, 1) := by decide +kernel
theorem dX5_sum_27 : decode cX5_sum 27 = .ok (.iload 4, 2) := by decide +kernel
theorem dX5_sum_29 : decode cX5_sum 29 = .ok (.invokevirtual 128, 3) := by decide +kernel
theorem dX5_sum_32 : decode cX5_sum 32 = .ok (.ifCond .ne 5, 3) := by decide +kernel
theorem dX5_sum_35 : decode cX5_sum 35 = .ok (.iconst (-1), 1) := by decide +kernel
theorem dX5_sum_36 : decode cX5_sum 36 = .ok (.ireturn, 1) := by decide +kernel
theorem dX5_sum_37 : decode cX5_sum 37 = .ok (.aload_n 0, 1) := by decide +kernel
theorem dX5_sum_38 : decode cX5_sum 38 = .ok (.getfield 7, 3) := by decide +kernel
theorem dX5_sum_41 : decode cX5_sum 41 = .ok (.bipush 15, 2) := by decide +kernel
theorem dX5_sum_43 : decode cX5_sum 43 = .ok (.bipush 6, 2) := by decide +kernel
theorem dX5_sum_45 : decode cX5_sum 45 = .ok (.iload_n 1, 1) := by decide +kernel
theorem dX5_sum_46 : decode cX5_sum 46 = .ok (.imul, 1) := by decide +kernel
theorem dX5_sum_47 : decode cX5_sum 47 = .ok (.iadd, 1) := by decide +kernel
theorem dX5_sum_48 : decode cX5_sum 48 = .ok (.iload 4, 2) := by decide +kernel
theorem dX5_sum_50 : decode cX5_sum 50 = .ok (.iadd, 1) := by decide +kernel
theorem dX5_sum_51 : decode cX5_sum 51 = .ok (.iaload, 1) := by decide +kernel
theorem dX5_sum_52 : decode cX5_sum 52 = .ok (.istore 5, 2) := by decide +kernel
theorem dX5_sum_54 : decode cX5_sum 54 = .ok (.iconst 0, 1) := by decide +kernel
theorem dX5_sum_55 : decode cX5_sum 55 = .ok (.istore 6, 2) := by decide +kernel
theorem dX5_sum_57 : decode cX5_sum 57 = .ok (.iload 6, 2) := by decide +kernel
theorem dX5_sum_59 : decode cX5_sum 59 = .ok (.iload_n 3, 1) := by decide +kernel
theorem dX5_sum_60 : decode cX5_sum 60 = .ok (.if_icmp .ge 34, 3) := by decide +kernel
theorem dX5_sum_63 : decode cX5_sum 63 = .ok (.aload_n 0, 1) := by decide +kernel
theorem dX5_sum_64 : decode cX5_sum 64 = .ok (.iload 4, 2) := by decide +kernel
theorem dX5_sum_66 : decode cX5_sum 66 = .ok (.iload 5, 2) := by decide +kernel
theorem dX5_sum_68 : decode cX5_sum 68 = .ok (.aload_n 0, 1) := by decide +kernel
theorem dX5_sum_69 : decode cX5_sum 69 = .ok (.getfield 7, 3) := by decide +kernel
theorem dX5_sum_72 : decode cX5_sum 72 = .ok (.bipush 15, 2) := by decide +kernel
theorem dX5_sum_74 : decode cX5_sum 74 = .ok (.bipush 6, 2) := by decide +kernel
theorem dX5_sum_76 : decode cX5_sum 76 = .ok (.iload_n 2, 1) := by decide +kernel
theorem dX5_sum_77 : decode cX5_sum 77 = .ok (.imul, 1) := by decide +kernel
theorem dX5_sum_78 : decode cX5_sum 78 = .ok (.iadd, 1) := by decide +kernel
theorem dX5_sum_79 : decode cX5_sum 79 = .ok (.iload 4, 2) := by decide +kernel
theorem dX5_sum_81 : decode cX5_sum 81 = .ok (.iadd, 1) := by decide +kernel
theorem dX5_sum_82 : decode cX5_sum 82 = .ok (.iaload, 1) := by decide +kernel
theorem dX5_sum_83 : decode cX5_sum 83 = .ok (.invokevirtual 52, 3) := by decide +kernel
theorem dX5_sum_86 : decode cX5_sum 86 = .ok (.istore 5, 2) := by decide +kernel
theorem dX5_sum_88 : decode cX5_sum 88 = .ok (.iinc 6 1, 3) := by decide +kernel
theorem dX5_sum_91 : decode cX5_sum 91 = .ok (.goto (-34), 3) := by decide +kernel
theorem dX5_sum_94 : decode cX5_sum 94 = .ok (.iload 5, 2) := by decide +kernel
theorem dX5_sum_96 : decode cX5_sum 96 = .ok (.ireturn, 1) := by decide +kernel
set_option maxRecDepth 20000 in
theorem ggX5_again_X5_isRegister : GoodIn wsX5_again wsX5_isRegister := goodIn_r _ [6, 7, 8, 9, 5, 10] (by decide +kernel) (by decide +kernel)
set_option maxRecDepth 20000 in
theorem gX5_again_X5_isRegister : GoodIn wsX5_again (va_wsS RX5 134 yX5_isRegister wsX5_isRegister) := goodIn_app (goodIn_of _ (by decide +kernel)) ggX5_again_X5_isRegister
set_option maxRecDepth 20000 in
theorem ggX5_again_X5_looks : GoodIn wsX5_again wsX5_looks := goodIn_r _ [14, 2, 1, 28, 29, 30, 31, 32, 33, 34, 35, 36, 37, 38, 39, 40, 41, 42] (by decide +kernel) (by decide +kernel)
set_option maxRecDepth 20000 in
theorem gX5_again_X5_looks : GoodIn wsX5_again (wsV RX5 59 RX5 yX5_looks wsX5_looks) := goodIn_app (goodIn_of _ (by decide +kernel)) ggX5_again_X5_looks
set_option maxRecDepth 20000 in
theorem ggX5_again_X5_added : GoodIn wsX5_again wsX5_added := goodIn_r _ [18, 1, 19, 20, 5, 21, 22, 23, 24, 25, 26, 27, 28, 29, 30, 31, 32, 33, 34, 35, 36, 37, 38, 39, 40, 41, 42] (by decide +kernel) (by decide +kernel)
set_option maxRecDepth 20000 in
theorem gX5_again_X5_added : GoodIn wsX5_again (wsV RX5 52 RX5 yX5_added wsX5_added) := goodIn_app (goodIn_of _ (by decide +kernel)) ggX5_again_X5_added
theorem dX5_again_0 : decode cX5_again 0 = .ok (.iload_n 1, 1) := by decide +kernel
theorem dX5_again_1 : decode cX5_again 1 = .ok (.invokestatic 134, 3) := by decide +kernel
theorem dX5_again_4 : decode cX5_again 4 = .ok (.ifCond .eq 10, 3) := by decide +kernel
theorem dX5_again_7 : decode cX5_again 7 = .ok (.iload_n 2, 1) := by decide +kernel
theorem dX5_again_8 : decode cX5_again 8 = .ok (.invokestatic 134, 3) := by decide +kernel
theorem dX5_again_11 : decode cX5_again 11 = .ok (.ifCond .ne 5, 3) := by decide +kernel
theorem dX5_again_14 : decode cX5_again 14 = .ok (.iconst (-1), 1) := by decide +kernel
theorem dX5_again_15 : decode cX5_again 15 = .ok (.ireturn, 1) := by decide +kernel
theorem dX5_again_16 : decode cX5_again 16 = .ok (.aload_n 0, 1) := by decide +kernel
theorem dX5_again_17 : decode cX5_again 17 = .ok (.iload_n 1, 1) := by decide +kernel
theorem dX5_again_18 : decode cX5_again 18 = .ok (.invokevirtual 59, 3) := by decide +kernel
theorem dX5_again_21 : decode cX5_again 21 = .ok (.iconst 1, 1) := by decide +kernel
theorem dX5_again_22 : decode cX5_again 22 = .ok (.istore_n 3, 1) := by decide +kernel
theorem dX5_again_23 : decode cX5_again 23 = .ok (.iload_n 3, 1) := by decide +kernel
theorem dX5_again_24 : decode cX5_again 24 = .ok (.sipush 2000, 3) := by decide +kernel
theorem dX5_again_27 : decode cX5_again 27 = .ok (.if_icmp .gt 111, 3) := by decide +kernel
theorem dX5_again_30 : decode cX5_again 30 = .ok (.iconst 1, 1) := by decide +kernel
theorem dX5_again_31 : decode cX5_again 31 = .ok (.istore 4, 2) := by decide +kernel
theorem dX5_again_33 : decode cX5_again 33 = .ok (.iconst 0, 1) := by decide +kernel
theorem dX5_again_34 : decode cX5_again 34 = .ok (.istore 5, 2) := by decide +kernel
theorem dX5_again_36 : decode cX5_again 36 = .ok (.iload 5, 2) := by decide +kernel
theorem dX5_again_38 : decode cX5_again 38 = .ok (.aload_n 0, 1) := by decide +kernel
theorem dX5_again_39 : decode cX5_again 39 = .ok (.getfield 7, 3) := by decide +kernel
theorem dX5_again_42 : decode cX5_again 42 = .ok (.iconst 0, 1) := by decide +kernel
theorem dX5_again_43 : decode cX5_again 43 = .ok (.iaload, 1) := by decide +kernel
theorem dX5_again_44 : decode cX5_again 44 = .ok (.if_icmp .ge 81, 3) := by decide +kernel
theorem dX5_again_47 : decode cX5_again 47 = .ok (.aload_n 0, 1) := by decide +kernel
theorem dX5_again_48 : decode cX5_again 48 = .ok (.getfield 26, 3) := by decide +kernel
theorem dX5_again_51 : decode cX5_again 51 = .ok (.iload 5, 2) := by decide +kernel
theorem dX5_again_53 : decode cX5_again 53 = .ok (.aload_n 0, 1) := by decide +kernel
theorem dX5_again_54 : decode cX5_again 54 = .ok (.iload 5, 2) := by decide +kernel
theorem dX5_again_56 : decode cX5_again 56 = .ok (.aload_n 0, 1) := by decide +kernel
theorem dX5_again_57 : decode cX5_again 57 = .ok (.getfield 26, 3) := by decide +kernel
theorem dX5_again_60 : decode cX5_again 60 = .ok (.iload 5, 2) := by decide +kernel
theorem dX5_again_62 : decode cX5_again 62 = .ok (.iaload, 1) := by decide +kernel
theorem dX5_again_63 : decode cX5_again 63 = .ok (.aload_n 0, 1) := by decide +kernel
theorem dX5_again_64 : decode cX5_again 64 = .ok (.getfield 7, 3) := by decide +kernel
theorem dX5_again_67 : decode cX5_again 67 = .ok (.bipush 15, 2) := by decide +kernel
theorem dX5_again_69 : decode cX5_again 69 = .ok (.bipush 6, 2) := by decide +kernel
theorem dX5_again_71 : decode cX5_again 71 = .ok (.iload_n 2, 1) := by decide +kernel
theorem dX5_again_72 : decode cX5_again 72 = .ok (.imul, 1) := by decide +kernel
theorem dX5_again_73 : decode cX5_again 73 = .ok (.iadd, 1) := by decide +kernel
theorem dX5_again_74 : decode cX5_again 74 = .ok (.iload 5, 2) := by decide +kernel
theorem dX5_again_76 : decode cX5_again 76 = .ok (.iadd, 1) := by decide +kernel
theorem dX5_again_77 : decode cX5_again 77 = .ok (.iaload, 1) := by decide +kernel
theorem dX5_again_78 : decode cX5_again 78 = .ok (.invokevirtual 52, 3) := by decide +kernel
theorem dX5_again_81 : decode cX5_again 81 = .ok (.iastore, 1) := by decide +kernel
theorem dX5_again_82 : decode cX5_again 82 = .ok (.iload 4, 2) := by decide +kernel
theorem dX5_again_84 : decode cX5_again 84 = .ok (.ifCond .eq 32, 3) := by decide +kernel
theorem dX5_again_87 : decode cX5_again 87 = .ok (.aload_n 0, 1) := by decide +kernel
theorem dX5_again_88 : decode cX5_again 88 = .ok (.getfield 26, 3) := by decide +kernel
theorem dX5_again_91 : decode cX5_again 91 = .ok (.iload 5, 2) := by decide +kernel
theorem dX5_again_93 : decode cX5_again 93 = .ok (.iaload, 1) := by decide +kernel
theorem dX5_again_94 : decode cX5_again 94 = .ok (.aload_n 0, 1) := by decide +kernel
theorem dX5_again_95 : decode cX5_again 95 = .ok (.getfield 7, 3) := by decide +kernel
theorem dX5_again_98 : decode cX5_again 98 = .ok (.bipush 15, 2) := by decide +kernel
theorem dX5_again_100 : decode cX5_again 100 = .ok (.bipush 6, 2) := by decide +kernel
theorem dX5_again_102 : decode cX5_again 102 = .ok (.iload_n 1, 1) := by decide +kernel
theorem dX5_again_103 : decode cX5_again 103 = .ok (.imul, 1) := by decide +kernel
theorem dX5_again_104 : decode cX5_again 104 = .ok (.iadd, 1) := by decide +kernel
theorem dX5_again_105 : decode cX5_again 105 = .ok (.iload 5, 2) := by decide +kernel
theorem dX5_again_107 : decode cX5_again 107 = .ok (.iadd, 1) := by decide +kernel
theorem dX5_again_108 : decode cX5_again 108 = .ok (.iaload, 1) := by decide +kernel
theorem dX5_again_109 : decode cX5_again 109 = .ok (.if_icmp .ne 7, 3) := by decide +kernel
theorem dX5_again_112 : decode cX5_again 112 = .ok (.iconst 1, 1) := by decide +kernel
theorem dX5_again_113 : decode cX5_again 113 = .ok (.goto 4, 3) := by decide +kernel
theorem dX5_again_116 : decode cX5_again 116 = .ok (.iconst 0, 1) := by decide +kernel
theorem dX5_again_117 : decode cX5_again 117 = .ok (.istore 4, 2) := by decide +kernel
theorem dX5_again_119 : decode cX5_again 119 = .ok (.iinc 5 1, 3) := by decide +kernel
theorem dX5_again_122 : decode cX5_again 122 = .ok (.goto (-86), 3) := by decide +kernel
theorem dX5_again_125 : decode cX5_again 125 = .ok (.iload 4, 2) := by decide +kernel
theorem dX5_again_127 : decode cX5_again 127 = .ok (.ifCond .eq 5, 3) := by decide +kernel
theorem dX5_again_130 : decode cX5_again 130 = .ok (.iload_n 3, 1) := by decide +kernel
theorem dX5_again_131 : decode cX5_again 131 = .ok (.ireturn, 1) := by decide +kernel
theorem dX5_again_132 : decode cX5_again 132 = .ok (.iinc 3 1, 3) := by decide +kernel
theorem dX5_again_135 : decode cX5_again 135 = .ok (.goto (-112), 3) := by decide +kernel
theorem dX5_again_138 : decode cX5_again 138 = .ok (.bipush (-4), 2) := by decide +kernel
theorem dX5_again_140 : decode cX5_again 140 = .ok (.ireturn, 1) := by decide +kernel
set_option maxRecDepth 20000 in
theorem ggX5_should_X5_isRegister : GoodIn wsX5_should wsX5_isRegister := goodIn_r _ [5, 6, 7, 8, 4, 9] (by decide +kernel) (by decide +kernel)
set_option maxRecDepth 20000 in
theorem gX5_should_X5_isRegister : GoodIn wsX5_should (va_wsS RX5 134 yX5_isRegister wsX5_isRegister) := goodIn_app (goodIn_of _ (by decide +kernel)) ggX5_should_X5_isRegister
set_option maxRecDepth 20000 in
theorem ggX5_should_X5_added : GoodIn wsX5_should wsX5_added := goodIn_r _ [13, 1, 14, 15, 4, 16, 17, 18, 19, 20, 21, 22, 23, 24, 25, 26, 27, 28, 29, 30, 31, 32, 33, 34, 35, 36, 37] (by decide +kernel) (by decide +kernel)
set_option maxRecDepth 20000 in
theorem gX5_should_X5_added : GoodIn wsX5_should (wsV RX5 52 RX5 yX5_added wsX5_added) := goodIn_app (goodIn_of _ (by decide +kernel)) ggX5_should_X5_added
set_option maxRecDepth 20000 in
theorem ggX5_should_X5_plain : GoodIn wsX5_should wsX5_plain := goodIn_r _ [22] (by decide +kernel) (by decide +kernel)
set_option maxRecDepth 20000 in
theorem gX5_should_X5_plain : GoodIn wsX5_should (va_wsS RX5 41 yX5_plain wsX5_plain) := goodIn_app (goodIn_of _ (by decide +kernel)) ggX5_should_X5_plain
theorem dX5_should_0 : decode cX5_should 0 = .ok (.iload_n 1, 1) := by decide +kernel
theorem dX5_should_1 : decode cX5_should 1 = .ok (.invokestatic 134, 3) := by decide +kernel
theorem dX5_should_4 : decode cX5_should 4 = .ok (.ifCond .eq 10, 3) := by decide +kernel
theorem dX5_should_7 : decode cX5_should 7 = .ok (.iload_n 2, 1) := by decide +kernel
theorem dX5_should_8 : decode cX5_should 8 = .ok (.invokestatic 134, 3) := by decide +kernel
theorem dX5_should_11 : decode cX5_should 11 = .ok (.ifCond .ne 5, 3) := by decide +kernel
theorem dX5_should_14 : decode cX5_should 14 = .ok (.iconst (-1), 1) := by decide +kernel
theorem dX5_should_15 : decode cX5_should 15 = .ok (.ireturn, 1) := by decide +kernel
theorem dX5_should_16 : decode cX5_should 16 = .ok (.iconst 0, 1) := by decide +kernel
theorem dX5_should_17 : decode cX5_should 17 = .ok (.istore_n 3, 1) := by decide +kernel
theorem dX5_should_18 : decode cX5_should 18 = .ok (.iconst 0, 1) := by decide +kernel
theorem dX5_should_19 : decode cX5_should 19 = .ok (.istore 4, 2) := by decide +kernel
theorem dX5_should_21 : decode cX5_should 21 = .ok (.iload 4, 2) := by decide +kernel
theorem dX5_should_23 : decode cX5_should 23 = .ok (.aload_n 0, 1) := by decide +kernel
theorem dX5_should_24 : decode cX5_should 24 = .ok (.getfield 7, 3) := by decide +kernel
theorem dX5_should_27 : decode cX5_should 27 = .ok (.iconst 0, 1) := by decide +kernel
theorem dX5_should_28 : decode cX5_should 28 = .ok (.iaload, 1) := by decide +kernel
theorem dX5_should_29 : decode cX5_should 29 = .ok (.if_icmp .ge 84, 3) := by decide +kernel
theorem dX5_should_32 : decode cX5_should 32 = .ok (.aload_n 0, 1) := by decide +kernel
theorem dX5_should_33 : decode cX5_should 33 = .ok (.getfield 7, 3) := by decide +kernel
theorem dX5_should_36 : decode cX5_should 36 = .ok (.bipush 15, 2) := by decide +kernel
theorem dX5_should_38 : decode cX5_should 38 = .ok (.bipush 6, 2) := by decide +kernel
theorem dX5_should_40 : decode cX5_should 40 = .ok (.iload_n 1, 1) := by decide +kernel
theorem dX5_should_41 : decode cX5_should 41 = .ok (.imul, 1) := by decide +kernel
theorem dX5_should_42 : decode cX5_should 42 = .ok (.iadd, 1) := by decide +kernel
theorem dX5_should_43 : decode cX5_should 43 = .ok (.iload 4, 2) := by decide +kernel
theorem dX5_should_45 : decode cX5_should 45 = .ok (.iadd, 1) := by decide +kernel
theorem dX5_should_46 : decode cX5_should 46 = .ok (.iaload, 1) := by decide +kernel
theorem dX5_should_47 : decode cX5_should 47 = .ok (.istore 5, 2) := by decide +kernel
theorem dX5_should_49 : decode cX5_should 49 = .ok (.aload_n 0, 1) := by decide +kernel
theorem dX5_should_50 : decode cX5_should 50 = .ok (.getfield 7, 3) := by decide +kernel
theorem dX5_should_53 : decode cX5_should 53 = .ok (.bipush 15, 2) := by decide +kernel
theorem dX5_should_55 : decode cX5_should 55 = .ok (.bipush 6, 2) := by decide +kernel
theorem dX5_should_57 : decode cX5_should 57 = .ok (.iload_n 2, 1) := by decide +kernel
theorem dX5_should_58 : decode cX5_should 58 = .ok (.imul, 1) := by decide +kernel
theorem dX5_should_59 : decode cX5_should 59 = .ok (.iadd, 1) := by decide +kernel
theorem dX5_should_60 : decode cX5_should 60 = .ok (.iload 4, 2) := by decide +kernel
theorem dX5_should_62 : decode cX5_should 62 = .ok (.iadd, 1) := by decide +kernel
theorem dX5_should_63 : decode cX5_should 63 = .ok (.iaload, 1) := by decide +kernel
theorem dX5_should_64 : decode cX5_should 64 = .ok (.istore 6, 2) := by decide +kernel
theorem dX5_should_66 : decode cX5_should 66 = .ok (.iload_n 3, 1) := by decide +kernel
theorem dX5_should_67 : decode cX5_should 67 = .ok (.aload_n 0, 1) := by decide +kernel
theorem dX5_should_68 : decode cX5_should 68 = .ok (.iload 4, 2) := by decide +kernel
theorem dX5_should_70 : decode cX5_should 70 = .ok (.iload 5, 2) := by decide +kernel
theorem dX5_should_72 : decode cX5_should 72 = .ok (.iload 6, 2) := by decide +kernel
theorem dX5_should_74 : decode cX5_should 74 = .ok (.invokevirtual 52, 3) := by decide +kernel
theorem dX5_should_77 : decode cX5_should 77 = .ok (.aload_n 0, 1) := by decide +kernel
theorem dX5_should_78 : decode cX5_should 78 = .ok (.getfield 7, 3) := by decide +kernel
theorem dX5_should_81 : decode cX5_should 81 = .ok (.bipush 8, 2) := by decide +kernel
theorem dX5_should_83 : decode cX5_should 83 = .ok (.iload 4, 2) := by decide +kernel
theorem dX5_should_85 : decode cX5_should 85 = .ok (.iadd, 1) := by decide +kernel
theorem dX5_should_86 : decode cX5_should 86 = .ok (.iaload, 1) := by decide +kernel
theorem dX5_should_87 : decode cX5_should 87 = .ok (.iload 5, 2) := by decide +kernel
theorem dX5_should_89 : decode cX5_should 89 = .ok (.iload 6, 2) := by decide +kernel
theorem dX5_should_91 : decode cX5_should 91 = .ok (.invokestatic 41, 3) := by decide +kernel
theorem dX5_should_94 : decode cX5_should 94 = .ok (.if_icmp .ne 7, 3) := by decide +kernel
theorem dX5_should_97 : decode cX5_should 97 = .ok (.iconst 0, 1) := by decide +kernel
theorem dX5_should_98 : decode cX5_should 98 = .ok (.goto 7, 3) := by decide +kernel
theorem dX5_should_101 : decode cX5_should 101 = .ok (.iconst 1, 1) := by decide +kernel
theorem dX5_should_102 : decode cX5_should 102 = .ok (.iload 4, 2) := by decide +kernel
theorem dX5_should_104 : decode cX5_should 104 = .ok (.ishl, 1) := by decide +kernel
theorem dX5_should_105 : decode cX5_should 105 = .ok (.ior, 1) := by decide +kernel
theorem dX5_should_106 : decode cX5_should 106 = .ok (.istore_n 3, 1) := by decide +kernel
theorem dX5_should_107 : decode cX5_should 107 = .ok (.iinc 4 1, 3) := by decide +kernel
theorem dX5_should_110 : decode cX5_should 110 = .ok (.goto (-89), 3) := by decide +kernel
theorem dX5_should_113 : decode cX5_should 113 = .ok (.iload_n 3, 1) := by decide +kernel
theorem dX5_should_114 : decode cX5_should 114 = .ok (.ireturn, 1) := by decide +kernel
set_option maxRecDepth 20000 in
theorem ggX5_unseen_X5_isRegister : GoodIn wsX5_unseen wsX5_isRegister := goodIn_r _ [7, 8, 9, 10, 6, 11] (by decide +kernel) (by decide +kernel)
set_option maxRecDepth 20000 in
theorem gX5_unseen_X5_isRegister : GoodIn wsX5_unseen (va_wsS RX5 134 yX5_isRegister wsX5_isRegister) := goodIn_app (goodIn_of _ (by decide +kernel)) ggX5_unseen_X5_isRegister
set_option maxRecDepth 20000 in
theorem ggX5_unseen_X5_in : GoodIn wsX5_unseen wsX5_in := goodIn_r _ [11] (by decide +kernel) (by decide +kernel)
set_option maxRecDepth 20000 in
theorem gX5_unseen_X5_in : GoodIn wsX5_unseen (va_wsS RX5 35 yX5_in wsX5_in) := goodIn_app (goodIn_of _ (by decide +kernel)) ggX5_unseen_X5_in
set_option maxRecDepth 20000 in
theorem ggX5_unseen_X5_range : GoodIn wsX5_unseen wsX5_range := goodIn_r _ [15, 2, 16, 17, 18, 6, 19, 34, 35, 36, 37, 38, 39, 40, 41, 42, 43, 44, 45, 46, 47, 48] (by decide +kernel) (by decide +kernel)
set_option maxRecDepth 20000 in
theorem gX5_unseen_X5_range : GoodIn wsX5_unseen (wsV RX5 70 RX5 yX5_range wsX5_range) := goodIn_app (goodIn_of _ (by decide +kernel)) ggX5_unseen_X5_range
set_option maxRecDepth 20000 in
theorem ggX5_unseen_X5_looks : GoodIn wsX5_unseen wsX5_looks := goodIn_r _ [23, 3, 2, 34, 35, 36, 37, 38, 39, 40, 41, 42, 43, 44, 45, 46, 47, 48] (by decide +kernel) (by decide +kernel)
set_option maxRecDepth 20000 in
theorem gX5_unseen_X5_looks : GoodIn wsX5_unseen (wsV RX5 59 RX5 yX5_looks wsX5_looks) := goodIn_app (goodIn_of _ (by decide +kernel)) ggX5_unseen_X5_looks
set_option maxRecDepth 20000 in
theorem ggX5_unseen_X5_has : GoodIn wsX5_unseen wsX5_has := goodIn_r _ [26] (by decide +kernel) (by decide +kernel)
set_option maxRecDepth 20000 in
theorem gX5_unseen_X5_has : GoodIn wsX5_unseen (va_wsS RX5 175 yX5_has wsX5_has) := goodIn_app (goodIn_of _ (by decide +kernel)) ggX5_unseen_X5_has
set_option maxRecDepth 20000 in
theorem ggX5_unseen_X5_valueOf : GoodIn wsX5_unseen wsX5_valueOf := goodIn_r _ [30, 2, 3, 34, 35, 36, 37, 38, 39, 40, 41, 42, 43, 44, 45, 46, 47, 48] (by decide +kernel) (by decide +kernel)
set_option maxRecDepth 20000 in
theorem gX5_unseen_X5_valueOf : GoodIn wsX5_unseen (wsV RX5 63 RX5 yX5_valueOf wsX5_valueOf) := goodIn_app (goodIn_of _ (by decide +kernel)) ggX5_unseen_X5_valueOf
set_option maxRecDepth 20000 in
theorem ggX5_unseen_X5_divisor : GoodIn wsX5_unseen wsX5_divisor := goodIn_r _ [33] (by decide +kernel) (by decide +kernel)
set_option maxRecDepth 20000 in
theorem gX5_unseen_X5_divisor : GoodIn wsX5_unseen (va_wsS RX5 94 yX5_divisor wsX5_divisor) := goodIn_app (goodIn_of _ (by decide +kernel)) ggX5_unseen_X5_divisor
theorem dX5_unseen_0 : decode cX5_unseen 0 = .ok (.iload_n 1, 1) := by decide +kernel
theorem dX5_unseen_1 : decode cX5_unseen 1 = .ok (.invokestatic 134, 3) := by decide +kernel
theorem dX5_unseen_4 : decode cX5_unseen 4 = .ok (.ifCond .eq 25, 3) := by decide +kernel
theorem dX5_unseen_7 : decode cX5_unseen 7 = .ok (.iload_n 2, 1) := by decide +kernel
theorem dX5_unseen_8 : decode cX5_unseen 8 = .ok (.i2l, 1) := by decide +kernel
theorem dX5_unseen_9 : decode cX5_unseen 9 = .ok (.lconst 0, 1) := by decide +kernel
theorem dX5_unseen_10 : decode cX5_unseen 10 = .ok (.ldc2_w 173, 3) := by decide +kernel
theorem dX5_unseen_13 : decode cX5_unseen 13 = .ok (.invokestatic 35, 3) := by decide +kernel
theorem dX5_unseen_16 : decode cX5_unseen 16 = .ok (.ifCond .eq 13, 3) := by decide +kernel
theorem dX5_unseen_19 : decode cX5_unseen 19 = .ok (.iload_n 3, 1) := by decide +kernel
theorem dX5_unseen_20 : decode cX5_unseen 20 = .ok (.i2l, 1) := by decide +kernel
theorem dX5_unseen_21 : decode cX5_unseen 21 = .ok (.lconst 0, 1) := by decide +kernel
theorem dX5_unseen_22 : decode cX5_unseen 22 = .ok (.lconst 1, 1) := by decide +kernel
theorem dX5_unseen_23 : decode cX5_unseen 23 = .ok (.invokestatic 35, 3) := by decide +kernel
theorem dX5_unseen_26 : decode cX5_unseen 26 = .ok (.ifCond .ne 5, 3) := by decide +kernel
theorem dX5_unseen_29 : decode cX5_unseen 29 = .ok (.iconst (-1), 1) := by decide +kernel
theorem dX5_unseen_30 : decode cX5_unseen 30 = .ok (.ireturn, 1) := by decide +kernel
theorem dX5_unseen_31 : decode cX5_unseen 31 = .ok (.iconst 0, 1) := by decide +kernel
theorem dX5_unseen_32 : decode cX5_unseen 32 = .ok (.istore 4, 2) := by decide +kernel
theorem dX5_unseen_34 : decode cX5_unseen 34 = .ok (.iconst 1, 1) := by decide +kernel
theorem dX5_unseen_35 : decode cX5_unseen 35 = .ok (.istore 5, 2) := by decide +kernel
theorem dX5_unseen_37 : decode cX5_unseen 37 = .ok (.aload_n 0, 1) := by decide +kernel
theorem dX5_unseen_38 : decode cX5_unseen 38 = .ok (.invokevirtual 70, 3) := by decide +kernel
theorem dX5_unseen_41 : decode cX5_unseen 41 = .ok (.istore 6, 2) := by decide +kernel
theorem dX5_unseen_43 : decode cX5_unseen 43 = .ok (.iconst 0, 1) := by decide +kernel
theorem dX5_unseen_44 : decode cX5_unseen 44 = .ok (.istore 7, 2) := by decide +kernel
theorem dX5_unseen_46 : decode cX5_unseen 46 = .ok (.iload 7, 2) := by decide +kernel
theorem dX5_unseen_48 : decode cX5_unseen 48 = .ok (.aload_n 0, 1) := by decide +kernel
theorem dX5_unseen_49 : decode cX5_unseen 49 = .ok (.getfield 7, 3) := by decide +kernel
theorem dX5_unseen_52 : decode cX5_unseen 52 = .ok (.iconst 0, 1) := by decide +kernel
theorem dX5_unseen_53 : decode cX5_unseen 53 = .ok (.iaload, 1) := by decide +kernel
theorem dX5_unseen_54 : decode cX5_unseen 54 = .ok (.if_icmp .ge 16, 3) := by decide +kernel
theorem dX5_unseen_57 : decode cX5_unseen 57 = .ok (.iload 5, 2) := by decide +kernel
theorem dX5_unseen_59 : decode cX5_unseen 59 = .ok (.bipush 10, 2) := by decide +kernel
theorem dX5_unseen_61 : decode cX5_unseen 61 = .ok (.imul, 1) := by decide +kernel
theorem dX5_unseen_62 : decode cX5_unseen 62 = .ok (.istore 5, 2) := by decide +kernel
theorem dX5_unseen_64 : decode cX5_unseen 64 = .ok (.iinc 7 1, 3) := by decide +kernel
theorem dX5_unseen_67 : decode cX5_unseen 67 = .ok (.goto (-21), 3) := by decide +kernel
theorem dX5_unseen_70 : decode cX5_unseen 70 = .ok (.iconst 1, 1) := by decide +kernel
theorem dX5_unseen_71 : decode cX5_unseen 71 = .ok (.istore 7, 2) := by decide +kernel
theorem dX5_unseen_73 : decode cX5_unseen 73 = .ok (.iload 7, 2) := by decide +kernel
theorem dX5_unseen_75 : decode cX5_unseen 75 = .ok (.iconst 1, 1) := by decide +kernel
theorem dX5_unseen_76 : decode cX5_unseen 76 = .ok (.aload_n 0, 1) := by decide +kernel
theorem dX5_unseen_77 : decode cX5_unseen 77 = .ok (.getfield 7, 3) := by decide +kernel
theorem dX5_unseen_80 : decode cX5_unseen 80 = .ok (.iconst 0, 1) := by decide +kernel
theorem dX5_unseen_81 : decode cX5_unseen 81 = .ok (.iaload, 1) := by decide +kernel
theorem dX5_unseen_82 : decode cX5_unseen 82 = .ok (.ishl, 1) := by decide +kernel
theorem dX5_unseen_83 : decode cX5_unseen 83 = .ok (.if_icmp .ge 127, 3) := by decide +kernel
theorem dX5_unseen_86 : decode cX5_unseen 86 = .ok (.iconst 1, 1) := by decide +kernel
theorem dX5_unseen_87 : decode cX5_unseen 87 = .ok (.istore 8, 2) := by decide +kernel
theorem dX5_unseen_89 : decode cX5_unseen 89 = .ok (.aload_n 0, 1) := by decide +kernel
theorem dX5_unseen_90 : decode cX5_unseen 90 = .ok (.iload_n 1, 1) := by decide +kernel
theorem dX5_unseen_91 : decode cX5_unseen 91 = .ok (.invokevirtual 59, 3) := by decide +kernel
theorem dX5_unseen_94 : decode cX5_unseen 94 = .ok (.iconst 0, 1) := by decide +kernel
theorem dX5_unseen_95 : decode cX5_unseen 95 = .ok (.istore 9, 2) := by decide +kernel
theorem dX5_unseen_97 : decode cX5_unseen 97 = .ok (.iload 9, 2) := by decide +kernel
theorem dX5_unseen_99 : decode cX5_unseen 99 = .ok (.aload_n 0, 1) := by decide +kernel
theorem dX5_unseen_100 : decode cX5_unseen 100 = .ok (.getfield 7, 3) := by decide +kernel
theorem dX5_unseen_103 : decode cX5_unseen 103 = .ok (.iconst 0, 1) := by decide +kernel
theorem dX5_unseen_104 : decode cX5_unseen 104 = .ok (.iaload, 1) := by decide +kernel
theorem dX5_unseen_105 : decode cX5_unseen 105 = .ok (.if_icmp .ge 79, 3) := by decide +kernel
theorem dX5_unseen_108 : decode cX5_unseen 108 = .ok (.iload 8, 2) := by decide +kernel
theorem dX5_unseen_110 : decode cX5_unseen 110 = .ok (.iload 7, 2) := by decide +kernel
theorem dX5_unseen_112 : decode cX5_unseen 112 = .ok (.iload 9, 2) := by decide +kernel
theorem dX5_unseen_114 : decode cX5_unseen 114 = .ok (.invokestatic 175, 3) := by decide +kernel
theorem dX5_unseen_117 : decode cX5_unseen 117 = .ok (.ifCond .eq 7, 3) := by decide +kernel
theorem dX5_unseen_120 : decode cX5_unseen 120 = .ok (.iload_n 2, 1) := by decide +kernel
theorem dX5_unseen_121 : decode cX5_unseen 121 = .ok (.goto 7, 3) := by decide +kernel
theorem dX5_unseen_124 : decode cX5_unseen 124 = .ok (.bipush 10, 2) := by decide +kernel
theorem dX5_unseen_126 : decode cX5_unseen 126 = .ok (.iload_n 2, 1) := by decide +kernel
theorem dX5_unseen_127 : decode cX5_unseen 127 = .ok (.isub, 1) := by decide +kernel
theorem dX5_unseen_128 : decode cX5_unseen 128 = .ok (.imul, 1) := by decide +kernel
theorem dX5_unseen_129 : decode cX5_unseen 129 = .ok (.istore 8, 2) := by decide +kernel
theorem dX5_unseen_131 : decode cX5_unseen 131 = .ok (.aload_n 0, 1) := by decide +kernel
theorem dX5_unseen_132 : decode cX5_unseen 132 = .ok (.getfield 26, 3) := by decide +kernel
theorem dX5_unseen_135 : decode cX5_unseen 135 = .ok (.iload 9, 2) := by decide +kernel
theorem dX5_unseen_137 : decode cX5_unseen 137 = .ok (.iload 7, 2) := by decide +kernel
theorem dX5_unseen_139 : decode cX5_unseen 139 = .ok (.iload 9, 2) := by decide +kernel
theorem dX5_unseen_141 : decode cX5_unseen 141 = .ok (.invokestatic 175, 3) := by decide +kernel
theorem dX5_unseen_144 : decode cX5_unseen 144 = .ok (.ifCond .eq 26, 3) := by decide +kernel
theorem dX5_unseen_147 : decode cX5_unseen 147 = .ok (.aload_n 0, 1) := by decide +kernel
theorem dX5_unseen_148 : decode cX5_unseen 148 = .ok (.getfield 26, 3) := by decide +kernel
theorem dX5_unseen_151 : decode cX5_unseen 151 = .ok (.iload 9, 2) := by decide +kernel
theorem dX5_unseen_153 : decode cX5_unseen 153 = .ok (.iaload, 1) := by decide +kernel
theorem dX5_unseen_154 : decode cX5_unseen 154 = .ok (.iconst 1, 1) := by decide +kernel
theorem dX5_unseen_155 : decode cX5_unseen 155 = .ok (.iadd, 1) := by decide +kernel
theorem dX5_unseen_156 : decode cX5_unseen 156 = .ok (.aload_n 0, 1) := by decide +kernel
theorem dX5_unseen_157 : decode cX5_unseen 157 = .ok (.getfield 7, 3) := by decide +kernel
theorem dX5_unseen_160 : decode cX5_unseen 160 = .ok (.bipush 8, 2) := by decide +kernel
theorem dX5_unseen_162 : decode cX5_unseen 162 = .ok (.iload 9, 2) := by decide +kernel
theorem dX5_unseen_164 : decode cX5_unseen 164 = .ok (.iadd, 1) := by decide +kernel
theorem dX5_unseen_165 : decode cX5_unseen 165 = .ok (.iaload, 1) := by decide +kernel
theorem dX5_unseen_166 : decode cX5_unseen 166 = .ok (.irem, 1) := by decide +kernel
theorem dX5_unseen_167 : decode cX5_unseen 167 = .ok (.goto 10, 3) := by decide +kernel
theorem dX5_unseen_170 : decode cX5_unseen 170 = .ok (.aload_n 0, 1) := by decide +kernel
theorem dX5_unseen_171 : decode cX5_unseen 171 = .ok (.getfield 26, 3) := by decide +kernel
theorem dX5_unseen_174 : decode cX5_unseen 174 = .ok (.iload 9, 2) := by decide +kernel
theorem dX5_unseen_176 : decode cX5_unseen 176 = .ok (.iaload, 1) := by decide +kernel
theorem dX5_unseen_177 : decode cX5_unseen 177 = .ok (.iastore, 1) := by decide +kernel
theorem dX5_unseen_178 : decode cX5_unseen 178 = .ok (.iinc 9 1, 3) := by decide +kernel
theorem dX5_unseen_181 : decode cX5_unseen 181 = .ok (.goto (-84), 3) := by decide +kernel
theorem dX5_unseen_184 : decode cX5_unseen 184 = .ok (.iload 4, 2) := by decide +kernel
theorem dX5_unseen_186 : decode cX5_unseen 186 = .ok (.aload_n 0, 1) := by decide +kernel
theorem dX5_unseen_187 : decode cX5_unseen 187 = .ok (.invokevirtual 63, 3) := by decide +kernel
theorem dX5_unseen_190 : decode cX5_unseen 190 = .ok (.iload 6, 2) := by decide +kernel
theorem dX5_unseen_192 : decode cX5_unseen 192 = .ok (.if_icmp .ge 8, 3) := by decide +kernel
theorem dX5_unseen_195 : decode cX5_unseen 195 = .ok (.iload 8, 2) := by decide +kernel
theorem dX5_unseen_197 : decode cX5_unseen 197 = .ok (.goto 4, 3) := by decide +kernel
theorem dX5_unseen_200 : decode cX5_unseen 200 = .ok (.iconst 0, 1) := by decide +kernel
theorem dX5_unseen_201 : decode cX5_unseen 201 = .ok (.iadd, 1) := by decide +kernel
theorem dX5_unseen_202 : decode cX5_unseen 202 = .ok (.istore 4, 2) := by decide +kernel
theorem dX5_unseen_204 : decode cX5_unseen 204 = .ok (.iinc 7 1, 3) := by decide +kernel
theorem dX5_unseen_207 : decode cX5_unseen 207 = .ok (.goto (-134), 3) := by decide +kernel
theorem dX5_unseen_210 : decode cX5_unseen 210 = .ok (.iload 4, 2) := by decide +kernel
theorem dX5_unseen_212 : decode cX5_unseen 212 = .ok (.iload 5, 2) := by decide +kernel
theorem dX5_unseen_214 : decode cX5_unseen 214 = .ok (.invokestatic 94, 3) := by decide +kernel
theorem dX5_unseen_217 : decode cX5_unseen 217 = .ok (.istore 7, 2) := by decide +kernel
theorem dX5_unseen_219 : decode cX5_unseen 219 = .ok (.iload_n 3, 1) := by decide +kernel
theorem dX5_unseen_220 : decode cX5_unseen 220 = .ok (.ifCond .ne 11, 3) := by decide +kernel
theorem dX5_unseen_223 : decode cX5_unseen 223 = .ok (.iload 4, 2) := by decide +kernel
theorem dX5_unseen_225 : decode cX5_unseen 225 = .ok (.iload 7, 2) := by decide +kernel
theorem dX5_unseen_227 : decode cX5_unseen 227 = .ok (.idiv, 1) := by decide +kernel
theorem dX5_unseen_228 : decode cX5_unseen 228 = .ok (.goto 8, 3) := by decide +kernel
theorem dX5_unseen_231 : decode cX5_unseen 231 = .ok (.iload 5, 2) := by decide +kernel
theorem dX5_unseen_233 : decode cX5_unseen 233 = .ok (.iload 7, 2) := by decide +kernel
theorem dX5_unseen_235 : decode cX5_unseen 235 = .ok (.idiv, 1) := by decide +kernel
theorem dX5_unseen_236 : decode cX5_unseen 236 = .ok (.ireturn, 1) := by decide +kernel
theorem dX5_image_0 : decode cX5_image 0 = .ok (.iconst 0, 1) := by decide +kernel
theorem dX5_image_1 : decode cX5_image 1 = .ok (.istore_n 1, 1) := by decide +kernel
theorem dX5_image_2 : decode cX5_image 2 = .ok (.iload_n 1, 1) := by decide +kernel
theorem dX5_image_3 : decode cX5_image 3 = .ok (.sipush 240, 3) := by decide +kernel
theorem dX5_image_6 : decode cX5_image 6 = .ok (.if_icmp .ge 25, 3) := by decide +kernel
theorem dX5_image_9 : decode cX5_image 9 = .ok (.aload_n 0, 1) := by decide +kernel
theorem dX5_image_10 : decode cX5_image 10 = .ok (.getfield 7, 3) := by decide +kernel
theorem dX5_image_13 : decode cX5_image 13 = .ok (.sipush 240, 3) := by decide +kernel
theorem dX5_image_16 : decode cX5_image 16 = .ok (.iload_n 1, 1) := by decide +kernel
theorem dX5_image_17 : decode cX5_image 17 = .ok (.iadd, 1) := by decide +kernel
theorem dX5_image_18 : decode cX5_image 18 = .ok (.aload_n 0, 1) := by decide +kernel
theorem dX5_image_19 : decode cX5_image 19 = .ok (.getfield 7, 3) := by decide +kernel
theorem dX5_image_22 : decode cX5_image 22 = .ok (.iload_n 1, 1) := by decide +kernel
theorem dX5_image_23 : decode cX5_image 23 = .ok (.iaload, 1) := by decide +kernel
theorem dX5_image_24 : decode cX5_image 24 = .ok (.iastore, 1) := by decide +kernel
theorem dX5_image_25 : decode cX5_image 25 = .ok (.iinc 1 1, 3) := by decide +kernel
theorem dX5_image_28 : decode cX5_image 28 = .ok (.goto (-26), 3) := by decide +kernel
theorem dX5_image_31 : decode cX5_image 31 = .ok (.aload_n 0, 1) := by decide +kernel
theorem dX5_image_32 : decode cX5_image 32 = .ok (.iconst 1, 1) := by decide +kernel
theorem dX5_image_33 : decode cX5_image 33 = .ok (.putfield 179, 3) := by decide +kernel
theorem dX5_image_36 : decode cX5_image 36 = .ok (.iconst 1, 1) := by decide +kernel
theorem dX5_image_37 : decode cX5_image 37 = .ok (.ireturn, 1) := by decide +kernel
theorem dX5_restore_0 : decode cX5_restore 0 = .ok (.aload_n 0, 1) := by decide +kernel
theorem dX5_restore_1 : decode cX5_restore 1 = .ok (.getfield 179, 3) := by decide +kernel
theorem dX5_restore_4 : decode cX5_restore 4 = .ok (.ifCond .ne 6, 3) := by decide +kernel
theorem dX5_restore_7 : decode cX5_restore 7 = .ok (.bipush (-4), 2) := by decide +kernel
theorem dX5_restore_9 : decode cX5_restore 9 = .ok (.ireturn, 1) := by decide +kernel
theorem dX5_restore_10 : decode cX5_restore 10 = .ok (.iconst 0, 1) := by decide +kernel
theorem dX5_restore_11 : decode cX5_restore 11 = .ok (.istore_n 1, 1) := by decide +kernel
theorem dX5_restore_12 : decode cX5_restore 12 = .ok (.iload_n 1, 1) := by decide +kernel
theorem dX5_restore_13 : decode cX5_restore 13 = .ok (.sipush 240, 3) := by decide +kernel
theorem dX5_restore_16 : decode cX5_restore 16 = .ok (.if_icmp .ge 25, 3) := by decide +kernel
theorem dX5_restore_19 : decode cX5_restore 19 = .ok (.aload_n 0, 1) := by decide +kernel
theorem dX5_restore_20 : decode cX5_restore 20 = .ok (.getfield 7, 3) := by decide +kernel
theorem dX5_restore_23 : decode cX5_restore 23 = .ok (.iload_n 1, 1) := by decide +kernel
theorem dX5_restore_24 : decode cX5_restore 24 = .ok (.aload_n 0, 1) := by decide +kernel
theorem dX5_restore_25 : decode cX5_restore 25 = .ok (.getfield 7, 3) := by decide +kernel
theorem dX5_restore_28 : decode cX5_restore 28 = .ok (.sipush 240, 3) := by decide +kernel
theorem dX5_restore_31 : decode cX5_restore 31 = .ok (.iload_n 1, 1) := by decide +kernel
theorem dX5_restore_32 : decode cX5_restore 32 = .ok (.iadd, 1) := by decide +kernel
theorem dX5_restore_33 : decode cX5_restore 33 = .ok (.iaload, 1) := by decide +kernel
theorem dX5_restore_34 : decode cX5_restore 34 = .ok (.iastore, 1) := by decide +kernel
theorem dX5_restore_35 : decode cX5_restore 35 = .ok (.iinc 1 1, 3) := by decide +kernel
theorem dX5_restore_38 : decode cX5_restore 38 = .ok (.goto (-26), 3) := by decide +kernel
theorem dX5_restore_41 : decode cX5_restore 41 = .ok (.iconst 1, 1) := by decide +kernel
theorem dX5_restore_42 : decode cX5_restore 42 = .ok (.ireturn, 1) := by decide +kernel
set_option maxRecDepth 20000 in
theorem ggX5_isLane_X5_in : GoodIn wsX5_isLane wsX5_in := goodIn_r _ [5] (by decide +kernel) (by decide +kernel)
set_option maxRecDepth 20000 in
theorem gX5_isLane_X5_in : GoodIn wsX5_isLane (va_wsS RX5 35 yX5_in wsX5_in) := goodIn_app (goodIn_of _ (by decide +kernel)) ggX5_isLane_X5_in
theorem dX5_isLane_0 : decode cX5_isLane 0 = .ok (.iload_n 0, 1) := by decide +kernel
theorem dX5_isLane_1 : decode cX5_isLane 1 = .ok (.i2l, 1) := by decide +kernel
theorem dX5_isLane_2 : decode cX5_isLane 2 = .ok (.lconst 0, 1) := by decide +kernel
theorem dX5_isLane_3 : decode cX5_isLane 3 = .ok (.ldc2_w 39, 3) := by decide +kernel
theorem dX5_isLane_6 : decode cX5_isLane 6 = .ok (.invokestatic 35, 3) := by decide +kernel
theorem dX5_isLane_9 : decode cX5_isLane 9 = .ok (.ireturn, 1) := by decide +kernel
theorem dX5_against_0 : decode cX5_against 0 = .ok (.aload_n 0, 1) := by decide +kernel
theorem dX5_against_1 : decode cX5_against 1 = .ok (.getfield 16, 3) := by decide +kernel
theorem dX5_against_4 : decode cX5_against 4 = .ok (.iload_n 1, 1) := by decide +kernel
theorem dX5_against_5 : decode cX5_against 5 = .ok (.iaload, 1) := by decide +kernel
theorem dX5_against_6 : decode cX5_against 6 = .ok (.ifCond .ge 6, 3) := by decide +kernel
theorem dX5_against_9 : decode cX5_against 9 = .ok (.bipush (-11), 2) := by decide +kernel
theorem dX5_against_11 : decode cX5_against 11 = .ok (.ireturn, 1) := by decide +kernel
theorem dX5_against_12 : decode cX5_against 12 = .ok (.aload_n 0, 1) := by decide +kernel
theorem dX5_against_13 : decode cX5_against 13 = .ok (.getfield 16, 3) := by decide +kernel
theorem dX5_against_16 : decode cX5_against 16 = .ok (.iload_n 1, 1) := by decide +kernel
theorem dX5_against_17 : decode cX5_against 17 = .ok (.iaload, 1) := by decide +kernel
theorem dX5_against_18 : decode cX5_against 18 = .ok (.iload_n 2, 1) := by decide +kernel
theorem dX5_against_19 : decode cX5_against 19 = .ok (.if_icmp .eq 6, 3) := by decide +kernel
theorem dX5_against_22 : decode cX5_against 22 = .ok (.bipush (-12), 2) := by decide +kernel
theorem dX5_against_24 : decode cX5_against 24 = .ok (.ireturn, 1) := by decide +kernel
theorem dX5_against_25 : decode cX5_against 25 = .ok (.iload_n 3, 1) := by decide +kernel
theorem dX5_against_26 : decode cX5_against 26 = .ok (.ifCond .lt 25, 3) := by decide +kernel
theorem dX5_against_29 : decode cX5_against 29 = .ok (.iload 4, 2) := by decide +kernel
theorem dX5_against_31 : decode cX5_against 31 = .ok (.ifCond .lt 20, 3) := by decide +kernel
theorem dX5_against_34 : decode cX5_against 34 = .ok (.iload_n 3, 1) := by decide +kernel
theorem dX5_against_35 : decode cX5_against 35 = .ok (.i2l, 1) := by decide +kernel
theorem dX5_against_36 : decode cX5_against 36 = .ok (.iload 4, 2) := by decide +kernel
theorem dX5_against_38 : decode cX5_against 38 = .ok (.i2l, 1) := by decide +kernel
theorem dX5_against_39 : decode cX5_against 39 = .ok (.ladd, 1) := by decide +kernel
theorem dX5_against_40 : decode cX5_against 40 = .ok (.aload_n 0, 1) := by decide +kernel
theorem dX5_against_41 : decode cX5_against 41 = .ok (.getfield 19, 3) := by decide +kernel
theorem dX5_against_44 : decode cX5_against 44 = .ok (.iload_n 1, 1) := by decide +kernel
theorem dX5_against_45 : decode cX5_against 45 = .ok (.iaload, 1) := by decide +kernel
theorem dX5_against_46 : decode cX5_against 46 = .ok (.i2l, 1) := by decide +kernel
theorem dX5_against_47 : decode cX5_against 47 = .ok (.lcmp, 1) := by decide +kernel
theorem dX5_against_48 : decode cX5_against 48 = .ok (.ifCond .le 8, 3) := by decide +kernel
theorem dX5_against_51 : decode cX5_against 51 = .ok (.bipush (-13), 2) := by decide +kernel
theorem dX5_against_53 : decode cX5_against 53 = .ok (.goto 4, 3) := by decide +kernel
theorem dX5_against_56 : decode cX5_against 56 = .ok (.iconst 0, 1) := by decide +kernel
theorem dX5_against_57 : decode cX5_against 57 = .ok (.ireturn, 1) := by decide +kernel
theorem dX5_cut_0 : decode cX5_cut 0 = .ok (.iload_n 0, 1) := by decide +kernel
theorem dX5_cut_1 : decode cX5_cut 1 = .ok (.ifCond .ne 10, 3) := by decide +kernel
theorem dX5_cut_4 : decode cX5_cut 4 = .ok (.lload_n 1, 1) := by decide +kernel
theorem dX5_cut_5 : decode cX5_cut 5 = .ok (.l2i, 1) := by decide +kernel
theorem dX5_cut_6 : decode cX5_cut 6 = .ok (.i2b, 1) := by decide +kernel
theorem dX5_cut_7 : decode cX5_cut 7 = .ok (.i2l, 1) := by decide +kernel
theorem dX5_cut_8 : decode cX5_cut 8 = .ok (.goto 27, 3) := by decide +kernel
theorem dX5_cut_11 : decode cX5_cut 11 = .ok (.iload_n 0, 1) := by decide +kernel
theorem dX5_cut_12 : decode cX5_cut 12 = .ok (.iconst 1, 1) := by decide +kernel
theorem dX5_cut_13 : decode cX5_cut 13 = .ok (.if_icmp .ne 10, 3) := by decide +kernel
theorem dX5_cut_16 : decode cX5_cut 16 = .ok (.lload_n 1, 1) := by decide +kernel
theorem dX5_cut_17 : decode cX5_cut 17 = .ok (.l2i, 1) := by decide +kernel
theorem dX5_cut_18 : decode cX5_cut 18 = .ok (.i2s, 1) := by decide +kernel
theorem dX5_cut_19 : decode cX5_cut 19 = .ok (.i2l, 1) := by decide +kernel
theorem dX5_cut_20 : decode cX5_cut 20 = .ok (.goto 15, 3) := by decide +kernel
theorem dX5_cut_23 : decode cX5_cut 23 = .ok (.iload_n 0, 1) := by decide +kernel
theorem dX5_cut_24 : decode cX5_cut 24 = .ok (.iconst 2, 1) := by decide +kernel
theorem dX5_cut_25 : decode cX5_cut 25 = .ok (.if_icmp .ne 9, 3) := by decide +kernel
theorem dX5_cut_28 : decode cX5_cut 28 = .ok (.lload_n 1, 1) := by decide +kernel
theorem dX5_cut_29 : decode cX5_cut 29 = .ok (.l2i, 1) := by decide +kernel
theorem dX5_cut_30 : decode cX5_cut 30 = .ok (.i2l, 1) := by decide +kernel
theorem dX5_cut_31 : decode cX5_cut 31 = .ok (.goto 4, 3) := by decide +kernel
theorem dX5_cut_34 : decode cX5_cut 34 = .ok (.lload_n 1, 1) := by decide +kernel
theorem dX5_cut_35 : decode cX5_cut 35 = .ok (.lreturn, 1) := by decide +kernel
set_option maxRecDepth 20000 in
theorem ggX5_rubbed_X5_isRegister : GoodIn wsX5_rubbed wsX5_isRegister := goodIn_r _ [7, 8, 9, 10, 6, 11] (by decide +kernel) (by decide +kernel)
set_option maxRecDepth 20000 in
theorem gX5_rubbed_X5_isRegister : GoodIn wsX5_rubbed (va_wsS RX5 134 yX5_isRegister wsX5_isRegister) := goodIn_app (goodIn_of _ (by decide +kernel)) ggX5_rubbed_X5_isRegister
set_option maxRecDepth 20000 in
theorem ggX5_rubbed_X5_isLane : GoodIn wsX5_rubbed wsX5_isLane := goodIn_r _ [14, 8, 9, 10, 6, 11] (by decide +kernel) (by decide +kernel)
set_option maxRecDepth 20000 in
theorem gX5_rubbed_X5_isLane : GoodIn wsX5_rubbed (va_wsS RX5 183 yX5_isLane wsX5_isLane) := goodIn_app (goodIn_of _ (by decide +kernel)) ggX5_rubbed_X5_isLane
set_option maxRecDepth 20000 in
theorem ggX5_rubbed_X5_in : GoodIn wsX5_rubbed wsX5_in := goodIn_r _ [11] (by decide +kernel) (by decide +kernel)
set_option maxRecDepth 20000 in
theorem gX5_rubbed_X5_in : GoodIn wsX5_rubbed (va_wsS RX5 35 yX5_in wsX5_in) := goodIn_app (goodIn_of _ (by decide +kernel)) ggX5_rubbed_X5_in
set_option maxRecDepth 20000 in
theorem ggX5_rubbed_X5_against : GoodIn wsX5_rubbed wsX5_against := goodIn_r _ [18, 19, 20, 29, 30, 31, 32, 33, 34, 35, 36, 37, 38, 39, 40, 41, 42, 43] (by decide +kernel) (by decide +kernel)
set_option maxRecDepth 20000 in
theorem gX5_rubbed_X5_against : GoodIn wsX5_rubbed (wsV RX5 186 RX5 yX5_against wsX5_against) := goodIn_app (goodIn_of _ (by decide +kernel)) ggX5_rubbed_X5_against
set_option maxRecDepth 20000 in
theorem ggX5_rubbed_X5_range : GoodIn wsX5_rubbed wsX5_range := goodIn_r _ [24, 1, 25, 26, 27, 6, 28, 29, 30, 31, 32, 33, 34, 35, 36, 37, 38, 39, 40, 41, 42, 43] (by decide +kernel) (by decide +kernel)
set_option maxRecDepth 20000 in
theorem gX5_rubbed_X5_range : GoodIn wsX5_rubbed (wsV RX5 70 RX5 yX5_range wsX5_range) := goodIn_app (goodIn_of _ (by decide +kernel)) ggX5_rubbed_X5_range
theorem dX5_rubbed_0 : decode cX5_rubbed 0 = .ok (.iload_n 1, 1) := by decide +kernel
theorem dX5_rubbed_1 : decode cX5_rubbed 1 = .ok (.invokestatic 134, 3) := by decide +kernel
theorem dX5_rubbed_4 : decode cX5_rubbed 4 = .ok (.ifCond .eq 21, 3) := by decide +kernel
theorem dX5_rubbed_7 : decode cX5_rubbed 7 = .ok (.iload_n 2, 1) := by decide +kernel
theorem dX5_rubbed_8 : decode cX5_rubbed 8 = .ok (.invokestatic 183, 3) := by decide +kernel
theorem dX5_rubbed_11 : decode cX5_rubbed 11 = .ok (.ifCond .eq 14, 3) := by decide +kernel
theorem dX5_rubbed_14 : decode cX5_rubbed 14 = .ok (.iload 4, 2) := by decide +kernel
theorem dX5_rubbed_16 : decode cX5_rubbed 16 = .ok (.i2l, 1) := by decide +kernel
theorem dX5_rubbed_17 : decode cX5_rubbed 17 = .ok (.lconst 0, 1) := by decide +kernel
theorem dX5_rubbed_18 : decode cX5_rubbed 18 = .ok (.lconst 1, 1) := by decide +kernel
theorem dX5_rubbed_19 : decode cX5_rubbed 19 = .ok (.invokestatic 35, 3) := by decide +kernel
theorem dX5_rubbed_22 : decode cX5_rubbed 22 = .ok (.ifCond .ne 5, 3) := by decide +kernel
theorem dX5_rubbed_25 : decode cX5_rubbed 25 = .ok (.iconst (-1), 1) := by decide +kernel
theorem dX5_rubbed_26 : decode cX5_rubbed 26 = .ok (.ireturn, 1) := by decide +kernel
theorem dX5_rubbed_27 : decode cX5_rubbed 27 = .ok (.aload_n 0, 1) := by decide +kernel
theorem dX5_rubbed_28 : decode cX5_rubbed 28 = .ok (.iload_n 1, 1) := by decide +kernel
theorem dX5_rubbed_29 : decode cX5_rubbed 29 = .ok (.iload_n 2, 1) := by decide +kernel
theorem dX5_rubbed_30 : decode cX5_rubbed 30 = .ok (.iload_n 3, 1) := by decide +kernel
theorem dX5_rubbed_31 : decode cX5_rubbed 31 = .ok (.aload_n 0, 1) := by decide +kernel
theorem dX5_rubbed_32 : decode cX5_rubbed 32 = .ok (.getfield 7, 3) := by decide +kernel
theorem dX5_rubbed_35 : decode cX5_rubbed 35 = .ok (.iconst 0, 1) := by decide +kernel
theorem dX5_rubbed_36 : decode cX5_rubbed 36 = .ok (.iaload, 1) := by decide +kernel
theorem dX5_rubbed_37 : decode cX5_rubbed 37 = .ok (.invokevirtual 186, 3) := by decide +kernel
theorem dX5_rubbed_40 : decode cX5_rubbed 40 = .ok (.istore 5, 2) := by decide +kernel
theorem dX5_rubbed_42 : decode cX5_rubbed 42 = .ok (.iload 5, 2) := by decide +kernel
theorem dX5_rubbed_44 : decode cX5_rubbed 44 = .ok (.ifCond .ge 6, 3) := by decide +kernel
theorem dX5_rubbed_47 : decode cX5_rubbed 47 = .ok (.iload 5, 2) := by decide +kernel
theorem dX5_rubbed_49 : decode cX5_rubbed 49 = .ok (.ireturn, 1) := by decide +kernel
theorem dX5_rubbed_50 : decode cX5_rubbed 50 = .ok (.iconst 0, 1) := by decide +kernel
theorem dX5_rubbed_51 : decode cX5_rubbed 51 = .ok (.istore 6, 2) := by decide +kernel
theorem dX5_rubbed_53 : decode cX5_rubbed 53 = .ok (.bipush (-4), 2) := by decide +kernel
theorem dX5_rubbed_55 : decode cX5_rubbed 55 = .ok (.istore 7, 2) := by decide +kernel
theorem dX5_rubbed_57 : decode cX5_rubbed 57 = .ok (.aload_n 0, 1) := by decide +kernel
theorem dX5_rubbed_58 : decode cX5_rubbed 58 = .ok (.invokevirtual 70, 3) := by decide +kernel
theorem dX5_rubbed_61 : decode cX5_rubbed 61 = .ok (.istore 8, 2) := by decide +kernel
theorem dX5_rubbed_63 : decode cX5_rubbed 63 = .ok (.iconst 0, 1) := by decide +kernel
theorem dX5_rubbed_64 : decode cX5_rubbed 64 = .ok (.istore 9, 2) := by decide +kernel
theorem dX5_rubbed_66 : decode cX5_rubbed 66 = .ok (.iload 9, 2) := by decide +kernel
theorem dX5_rubbed_68 : decode cX5_rubbed 68 = .ok (.iload 8, 2) := by decide +kernel
theorem dX5_rubbed_70 : decode cX5_rubbed 70 = .ok (.if_icmp .ge 123, 3) := by decide +kernel
theorem dX5_rubbed_73 : decode cX5_rubbed 73 = .ok (.iconst 1, 1) := by decide +kernel
theorem dX5_rubbed_74 : decode cX5_rubbed 74 = .ok (.istore 10, 2) := by decide +kernel
theorem dX5_rubbed_76 : decode cX5_rubbed 76 = .ok (.iconst 0, 1) := by decide +kernel
theorem dX5_rubbed_77 : decode cX5_rubbed 77 = .ok (.istore 11, 2) := by decide +kernel
theorem dX5_rubbed_79 : decode cX5_rubbed 79 = .ok (.iload 11, 2) := by decide +kernel
theorem dX5_rubbed_81 : decode cX5_rubbed 81 = .ok (.aload_n 0, 1) := by decide +kernel
theorem dX5_rubbed_82 : decode cX5_rubbed 82 = .ok (.getfield 7, 3) := by decide +kernel
theorem dX5_rubbed_85 : decode cX5_rubbed 85 = .ok (.iconst 0, 1) := by decide +kernel
theorem dX5_rubbed_86 : decode cX5_rubbed 86 = .ok (.iaload, 1) := by decide +kernel
theorem dX5_rubbed_87 : decode cX5_rubbed 87 = .ok (.if_icmp .ge 66, 3) := by decide +kernel
theorem dX5_rubbed_90 : decode cX5_rubbed 90 = .ok (.aload_n 0, 1) := by decide +kernel
theorem dX5_rubbed_91 : decode cX5_rubbed 91 = .ok (.getfield 22, 3) := by decide +kernel
theorem dX5_rubbed_94 : decode cX5_rubbed 94 = .ok (.bipush 24, 2) := by decide +kernel
theorem dX5_rubbed_96 : decode cX5_rubbed 96 = .ok (.iload_n 1, 1) := by decide +kernel
theorem dX5_rubbed_97 : decode cX5_rubbed 97 = .ok (.imul, 1) := by decide +kernel
theorem dX5_rubbed_98 : decode cX5_rubbed 98 = .ok (.iload_n 3, 1) := by decide +kernel
theorem dX5_rubbed_99 : decode cX5_rubbed 99 = .ok (.iadd, 1) := by decide +kernel
theorem dX5_rubbed_100 : decode cX5_rubbed 100 = .ok (.iload 11, 2) := by decide +kernel
theorem dX5_rubbed_102 : decode cX5_rubbed 102 = .ok (.iadd, 1) := by decide +kernel
theorem dX5_rubbed_103 : decode cX5_rubbed 103 = .ok (.laload, 1) := by decide +kernel
theorem dX5_rubbed_104 : decode cX5_rubbed 104 = .ok (.lstore 12, 2) := by decide +kernel
theorem dX5_rubbed_106 : decode cX5_rubbed 106 = .ok (.iload 10, 2) := by decide +kernel
theorem dX5_rubbed_108 : decode cX5_rubbed 108 = .ok (.ifCond .eq 36, 3) := by decide +kernel
theorem dX5_rubbed_111 : decode cX5_rubbed 111 = .ok (.lload 12, 2) := by decide +kernel
theorem dX5_rubbed_113 : decode cX5_rubbed 113 = .ok (.ldc2_w 189, 3) := by decide +kernel
theorem dX5_rubbed_116 : decode cX5_rubbed 116 = .ok (.lcmp, 1) := by decide +kernel
theorem dX5_rubbed_117 : decode cX5_rubbed 117 = .ok (.ifCond .eq 23, 3) := by decide +kernel
theorem dX5_rubbed_120 : decode cX5_rubbed 120 = .ok (.lload 12, 2) := by decide +kernel
theorem dX5_rubbed_122 : decode cX5_rubbed 122 = .ok (.iload 9, 2) := by decide +kernel
theorem dX5_rubbed_124 : decode cX5_rubbed 124 = .ok (.aload_n 0, 1) := by decide +kernel
theorem dX5_rubbed_125 : decode cX5_rubbed 125 = .ok (.getfield 7, 3) := by decide +kernel
theorem dX5_rubbed_128 : decode cX5_rubbed 128 = .ok (.bipush 8, 2) := by decide +kernel
theorem dX5_rubbed_130 : decode cX5_rubbed 130 = .ok (.iload 11, 2) := by decide +kernel
theorem dX5_rubbed_132 : decode cX5_rubbed 132 = .ok (.iadd, 1) := by decide +kernel
theorem dX5_rubbed_133 : decode cX5_rubbed 133 = .ok (.iaload, 1) := by decide +kernel
theorem dX5_rubbed_134 : decode cX5_rubbed 134 = .ok (.irem, 1) := by decide +kernel
theorem dX5_rubbed_135 : decode cX5_rubbed 135 = .ok (.i2l, 1) := by decide +kernel
theorem dX5_rubbed_136 : decode cX5_rubbed 136 = .ok (.lcmp, 1) := by decide +kernel
theorem dX5_rubbed_137 : decode cX5_rubbed 137 = .ok (.ifCond .ne 7, 3) := by decide +kernel
theorem dX5_rubbed_140 : decode cX5_rubbed 140 = .ok (.iconst 1, 1) := by decide +kernel
theorem dX5_rubbed_141 : decode cX5_rubbed 141 = .ok (.goto 4, 3) := by decide +kernel
theorem dX5_rubbed_144 : decode cX5_rubbed 144 = .ok (.iconst 0, 1) := by decide +kernel
theorem dX5_rubbed_145 : decode cX5_rubbed 145 = .ok (.istore 10, 2) := by decide +kernel
theorem dX5_rubbed_147 : decode cX5_rubbed 147 = .ok (.iinc 11 1, 3) := by decide +kernel
theorem dX5_rubbed_150 : decode cX5_rubbed 150 = .ok (.goto (-71), 3) := by decide +kernel
theorem dX5_rubbed_153 : decode cX5_rubbed 153 = .ok (.iload 10, 2) := by decide +kernel
theorem dX5_rubbed_155 : decode cX5_rubbed 155 = .ok (.ifCond .eq 13, 3) := by decide +kernel
theorem dX5_rubbed_158 : decode cX5_rubbed 158 = .ok (.iload 6, 2) := by decide +kernel
theorem dX5_rubbed_160 : decode cX5_rubbed 160 = .ok (.ifCond .ne 8, 3) := by decide +kernel
theorem dX5_rubbed_163 : decode cX5_rubbed 163 = .ok (.iload 9, 2) := by decide +kernel
theorem dX5_rubbed_165 : decode cX5_rubbed 165 = .ok (.goto 5, 3) := by decide +kernel
theorem dX5_rubbed_168 : decode cX5_rubbed 168 = .ok (.iload 7, 2) := by decide +kernel
theorem dX5_rubbed_170 : decode cX5_rubbed 170 = .ok (.istore 7, 2) := by decide +kernel
theorem dX5_rubbed_172 : decode cX5_rubbed 172 = .ok (.iload 6, 2) := by decide +kernel
theorem dX5_rubbed_174 : decode cX5_rubbed 174 = .ok (.iload 10, 2) := by decide +kernel
theorem dX5_rubbed_176 : decode cX5_rubbed 176 = .ok (.ifCond .eq 7, 3) := by decide +kernel
theorem dX5_rubbed_179 : decode cX5_rubbed 179 = .ok (.iconst 1, 1) := by decide +kernel
theorem dX5_rubbed_180 : decode cX5_rubbed 180 = .ok (.goto 4, 3) := by decide +kernel
theorem dX5_rubbed_183 : decode cX5_rubbed 183 = .ok (.iconst 0, 1) := by decide +kernel
theorem dX5_rubbed_184 : decode cX5_rubbed 184 = .ok (.iadd, 1) := by decide +kernel
theorem dX5_rubbed_185 : decode cX5_rubbed 185 = .ok (.istore 6, 2) := by decide +kernel
theorem dX5_rubbed_187 : decode cX5_rubbed 187 = .ok (.iinc 9 1, 3) := by decide +kernel
theorem dX5_rubbed_190 : decode cX5_rubbed 190 = .ok (.goto (-124), 3) := by decide +kernel
theorem dX5_rubbed_193 : decode cX5_rubbed 193 = .ok (.iload 4, 2) := by decide +kernel
theorem dX5_rubbed_195 : decode cX5_rubbed 195 = .ok (.ifCond .ne 8, 3) := by decide +kernel
theorem dX5_rubbed_198 : decode cX5_rubbed 198 = .ok (.iload 6, 2) := by decide +kernel
theorem dX5_rubbed_200 : decode cX5_rubbed 200 = .ok (.goto 5, 3) := by decide +kernel
theorem dX5_rubbed_203 : decode cX5_rubbed 203 = .ok (.iload 7, 2) := by decide +kernel
theorem dX5_rubbed_205 : decode cX5_rubbed 205 = .ok (.ireturn, 1) := by decide +kernel
set_option maxRecDepth 20000 in
theorem ggX5_sawSo_X5_in : GoodIn wsX5_sawSo wsX5_in := goodIn_r _ [5] (by decide +kernel) (by decide +kernel)
set_option maxRecDepth 20000 in
theorem gX5_sawSo_X5_in : GoodIn wsX5_sawSo (va_wsS RX5 35 yX5_in wsX5_in) := goodIn_app (goodIn_of _ (by decide +kernel)) ggX5_sawSo_X5_in
set_option maxRecDepth 20000 in
theorem ggX5_sawSo_X5_addedBy : GoodIn wsX5_sawSo wsX5_addedBy := goodIn_r _ [8, 9, 10, 4, 11, 12, 13, 14] (by decide +kernel) (by decide +kernel)
set_option maxRecDepth 20000 in
theorem gX5_sawSo_X5_addedBy : GoodIn wsX5_sawSo (va_wsS RX5 48 yX5_addedBy wsX5_addedBy) := goodIn_app (goodIn_of _ (by decide +kernel)) ggX5_sawSo_X5_addedBy
theorem dX5_sawSo_0 : decode cX5_sawSo 0 = .ok (.iconst 1, 1) := by decide +kernel
theorem dX5_sawSo_1 : decode cX5_sawSo 1 = .ok (.istore 5, 2) := by decide +kernel
theorem dX5_sawSo_3 : decode cX5_sawSo 3 = .ok (.iconst 0, 1) := by decide +kernel
theorem dX5_sawSo_4 : decode cX5_sawSo 4 = .ok (.istore 6, 2) := by decide +kernel
theorem dX5_sawSo_6 : decode cX5_sawSo 6 = .ok (.iload 6, 2) := by decide +kernel
theorem dX5_sawSo_8 : decode cX5_sawSo 8 = .ok (.iload 4, 2) := by decide +kernel
theorem dX5_sawSo_10 : decode cX5_sawSo 10 = .ok (.if_icmp .ge 116, 3) := by decide +kernel
theorem dX5_sawSo_13 : decode cX5_sawSo 13 = .ok (.aload_n 0, 1) := by decide +kernel
theorem dX5_sawSo_14 : decode cX5_sawSo 14 = .ok (.getfield 22, 3) := by decide +kernel
theorem dX5_sawSo_17 : decode cX5_sawSo 17 = .ok (.iload_n 3, 1) := by decide +kernel
theorem dX5_sawSo_18 : decode cX5_sawSo 18 = .ok (.iconst 3, 1) := by decide +kernel
theorem dX5_sawSo_19 : decode cX5_sawSo 19 = .ok (.iload 6, 2) := by decide +kernel
theorem dX5_sawSo_21 : decode cX5_sawSo 21 = .ok (.imul, 1) := by decide +kernel
theorem dX5_sawSo_22 : decode cX5_sawSo 22 = .ok (.iadd, 1) := by decide +kernel
theorem dX5_sawSo_23 : decode cX5_sawSo 23 = .ok (.laload, 1) := by decide +kernel
theorem dX5_sawSo_24 : decode cX5_sawSo 24 = .ok (.lstore 7, 2) := by decide +kernel
theorem dX5_sawSo_26 : decode cX5_sawSo 26 = .ok (.aload_n 0, 1) := by decide +kernel
theorem dX5_sawSo_27 : decode cX5_sawSo 27 = .ok (.getfield 22, 3) := by decide +kernel
theorem dX5_sawSo_30 : decode cX5_sawSo 30 = .ok (.iload_n 3, 1) := by decide +kernel
theorem dX5_sawSo_31 : decode cX5_sawSo 31 = .ok (.iconst 3, 1) := by decide +kernel
theorem dX5_sawSo_32 : decode cX5_sawSo 32 = .ok (.iload 6, 2) := by decide +kernel
theorem dX5_sawSo_34 : decode cX5_sawSo 34 = .ok (.imul, 1) := by decide +kernel
theorem dX5_sawSo_35 : decode cX5_sawSo 35 = .ok (.iadd, 1) := by decide +kernel
theorem dX5_sawSo_36 : decode cX5_sawSo 36 = .ok (.iconst 1, 1) := by decide +kernel
theorem dX5_sawSo_37 : decode cX5_sawSo 37 = .ok (.iadd, 1) := by decide +kernel
theorem dX5_sawSo_38 : decode cX5_sawSo 38 = .ok (.laload, 1) := by decide +kernel
theorem dX5_sawSo_39 : decode cX5_sawSo 39 = .ok (.lstore 9, 2) := by decide +kernel
theorem dX5_sawSo_41 : decode cX5_sawSo 41 = .ok (.lload 7, 2) := by decide +kernel
theorem dX5_sawSo_43 : decode cX5_sawSo 43 = .ok (.lconst 0, 1) := by decide +kernel
theorem dX5_sawSo_44 : decode cX5_sawSo 44 = .ok (.iload_n 2, 1) := by decide +kernel
theorem dX5_sawSo_45 : decode cX5_sawSo 45 = .ok (.iconst 1, 1) := by decide +kernel
theorem dX5_sawSo_46 : decode cX5_sawSo 46 = .ok (.isub, 1) := by decide +kernel
theorem dX5_sawSo_47 : decode cX5_sawSo 47 = .ok (.i2l, 1) := by decide +kernel
theorem dX5_sawSo_48 : decode cX5_sawSo 48 = .ok (.invokestatic 35, 3) := by decide +kernel
theorem dX5_sawSo_51 : decode cX5_sawSo 51 = .ok (.ifCond .eq 20, 3) := by decide +kernel
theorem dX5_sawSo_54 : decode cX5_sawSo 54 = .ok (.lload 9, 2) := by decide +kernel
theorem dX5_sawSo_56 : decode cX5_sawSo 56 = .ok (.lconst 0, 1) := by decide +kernel
theorem dX5_sawSo_57 : decode cX5_sawSo 57 = .ok (.iload_n 2, 1) := by decide +kernel
theorem dX5_sawSo_58 : decode cX5_sawSo 58 = .ok (.iconst 1, 1) := by decide +kernel
theorem dX5_sawSo_59 : decode cX5_sawSo 59 = .ok (.isub, 1) := by decide +kernel
theorem dX5_sawSo_60 : decode cX5_sawSo 60 = .ok (.i2l, 1) := by decide +kernel
theorem dX5_sawSo_61 : decode cX5_sawSo 61 = .ok (.invokestatic 35, 3) := by decide +kernel
theorem dX5_sawSo_64 : decode cX5_sawSo 64 = .ok (.ifCond .eq 7, 3) := by decide +kernel
theorem dX5_sawSo_67 : decode cX5_sawSo 67 = .ok (.iconst 1, 1) := by decide +kernel
theorem dX5_sawSo_68 : decode cX5_sawSo 68 = .ok (.goto 4, 3) := by decide +kernel
theorem dX5_sawSo_71 : decode cX5_sawSo 71 = .ok (.iconst 0, 1) := by decide +kernel
theorem dX5_sawSo_72 : decode cX5_sawSo 72 = .ok (.istore 11, 2) := by decide +kernel
theorem dX5_sawSo_74 : decode cX5_sawSo 74 = .ok (.iload 5, 2) := by decide +kernel
theorem dX5_sawSo_76 : decode cX5_sawSo 76 = .ok (.ifCond .eq 41, 3) := by decide +kernel
theorem dX5_sawSo_79 : decode cX5_sawSo 79 = .ok (.iload 11, 2) := by decide +kernel
theorem dX5_sawSo_81 : decode cX5_sawSo 81 = .ok (.ifCond .eq 36, 3) := by decide +kernel
theorem dX5_sawSo_84 : decode cX5_sawSo 84 = .ok (.iload_n 1, 1) := by decide +kernel
theorem dX5_sawSo_85 : decode cX5_sawSo 85 = .ok (.iload_n 2, 1) := by decide +kernel
theorem dX5_sawSo_86 : decode cX5_sawSo 86 = .ok (.lload 7, 2) := by decide +kernel
theorem dX5_sawSo_88 : decode cX5_sawSo 88 = .ok (.l2i, 1) := by decide +kernel
theorem dX5_sawSo_89 : decode cX5_sawSo 89 = .ok (.lload 9, 2) := by decide +kernel
theorem dX5_sawSo_91 : decode cX5_sawSo 91 = .ok (.l2i, 1) := by decide +kernel
theorem dX5_sawSo_92 : decode cX5_sawSo 92 = .ok (.invokestatic 48, 3) := by decide +kernel
theorem dX5_sawSo_95 : decode cX5_sawSo 95 = .ok (.i2l, 1) := by decide +kernel
theorem dX5_sawSo_96 : decode cX5_sawSo 96 = .ok (.aload_n 0, 1) := by decide +kernel
theorem dX5_sawSo_97 : decode cX5_sawSo 97 = .ok (.getfield 22, 3) := by decide +kernel
theorem dX5_sawSo_100 : decode cX5_sawSo 100 = .ok (.iload_n 3, 1) := by decide +kernel
theorem dX5_sawSo_101 : decode cX5_sawSo 101 = .ok (.iconst 3, 1) := by decide +kernel
theorem dX5_sawSo_102 : decode cX5_sawSo 102 = .ok (.iload 6, 2) := by decide +kernel
theorem dX5_sawSo_104 : decode cX5_sawSo 104 = .ok (.imul, 1) := by decide +kernel
theorem dX5_sawSo_105 : decode cX5_sawSo 105 = .ok (.iadd, 1) := by decide +kernel
theorem dX5_sawSo_106 : decode cX5_sawSo 106 = .ok (.iconst 2, 1) := by decide +kernel
theorem dX5_sawSo_107 : decode cX5_sawSo 107 = .ok (.iadd, 1) := by decide +kernel
theorem dX5_sawSo_108 : decode cX5_sawSo 108 = .ok (.laload, 1) := by decide +kernel
theorem dX5_sawSo_109 : decode cX5_sawSo 109 = .ok (.lcmp, 1) := by decide +kernel
theorem dX5_sawSo_110 : decode cX5_sawSo 110 = .ok (.ifCond .ne 7, 3) := by decide +kernel
theorem dX5_sawSo_113 : decode cX5_sawSo 113 = .ok (.iconst 1, 1) := by decide +kernel
theorem dX5_sawSo_114 : decode cX5_sawSo 114 = .ok (.goto 4, 3) := by decide +kernel
theorem dX5_sawSo_117 : decode cX5_sawSo 117 = .ok (.iconst 0, 1) := by decide +kernel
theorem dX5_sawSo_118 : decode cX5_sawSo 118 = .ok (.istore 5, 2) := by decide +kernel
theorem dX5_sawSo_120 : decode cX5_sawSo 120 = .ok (.iinc 6 1, 3) := by decide +kernel
theorem dX5_sawSo_123 : decode cX5_sawSo 123 = .ok (.goto (-117), 3) := by decide +kernel
theorem dX5_sawSo_126 : decode cX5_sawSo 126 = .ok (.iload 5, 2) := by decide +kernel
theorem dX5_sawSo_128 : decode cX5_sawSo 128 = .ok (.ireturn, 1) := by decide +kernel
set_option maxRecDepth 20000 in
theorem ggX5_seen_X5_isWheel : GoodIn wsX5_seen wsX5_isWheel := goodIn_r _ [7, 2, 8, 9, 6, 10, 38, 39, 40, 41, 42, 43, 44, 45, 46, 47, 48, 49, 50, 51, 52] (by decide +kernel) (by decide +kernel)
set_option maxRecDepth 20000 in
theorem gX5_seen_X5_isWheel : GoodIn wsX5_seen (wsV RX5 128 RX5 yX5_isWheel wsX5_isWheel) := goodIn_app (goodIn_of _ (by decide +kernel)) ggX5_seen_X5_isWheel
set_option maxRecDepth 20000 in
theorem ggX5_seen_X5_isRegister : GoodIn wsX5_seen wsX5_isRegister := goodIn_r _ [13, 14, 8, 9, 6, 10] (by decide +kernel) (by decide +kernel)
set_option maxRecDepth 20000 in
theorem gX5_seen_X5_isRegister : GoodIn wsX5_seen (va_wsS RX5 134 yX5_isRegister wsX5_isRegister) := goodIn_app (goodIn_of _ (by decide +kernel)) ggX5_seen_X5_isRegister
set_option maxRecDepth 20000 in
theorem ggX5_seen_X5_isLane : GoodIn wsX5_seen wsX5_isLane := goodIn_r _ [17, 14, 8, 9, 6, 10] (by decide +kernel) (by decide +kernel)
set_option maxRecDepth 20000 in
theorem gX5_seen_X5_isLane : GoodIn wsX5_seen (va_wsS RX5 183 yX5_isLane wsX5_isLane) := goodIn_app (goodIn_of _ (by decide +kernel)) ggX5_seen_X5_isLane
set_option maxRecDepth 20000 in
theorem ggX5_seen_X5_in : GoodIn wsX5_seen wsX5_in := goodIn_r _ [10] (by decide +kernel) (by decide +kernel)
set_option maxRecDepth 20000 in
theorem gX5_seen_X5_in : GoodIn wsX5_seen (va_wsS RX5 35 yX5_in wsX5_in) := goodIn_app (goodIn_of _ (by decide +kernel)) ggX5_seen_X5_in
set_option maxRecDepth 20000 in
theorem ggX5_seen_X5_against : GoodIn wsX5_seen wsX5_against := goodIn_r _ [21, 22, 23, 38, 39, 40, 41, 42, 43, 44, 45, 46, 47, 48, 49, 50, 51, 52] (by decide +kernel) (by decide +kernel)
set_option maxRecDepth 20000 in
theorem gX5_seen_X5_against : GoodIn wsX5_seen (wsV RX5 186 RX5 yX5_against wsX5_against) := goodIn_app (goodIn_of _ (by decide +kernel)) ggX5_seen_X5_against
set_option maxRecDepth 20000 in
theorem ggX5_seen_X5_sawSo : GoodIn wsX5_seen wsX5_sawSo := goodIn_r _ [27, 28, 8, 9, 6, 10, 29, 30, 31, 32, 33, 34, 35, 36, 37, 38, 39, 40, 41, 42, 43, 44, 45, 46, 47, 48, 49, 50, 51, 52] (by decide +kernel) (by decide +kernel)
set_option maxRecDepth 20000 in
theorem gX5_seen_X5_sawSo : GoodIn wsX5_seen (wsV RX5 193 RX5 yX5_sawSo wsX5_sawSo) := goodIn_app (goodIn_of _ (by decide +kernel)) ggX5_seen_X5_sawSo
theorem dX5_seen_0 : decode cX5_seen 0 = .ok (.aload_n 0, 1) := by decide +kernel
theorem dX5_seen_1 : decode cX5_seen 1 = .ok (.iload_n 1, 1) := by decide +kernel
theorem dX5_seen_2 : decode cX5_seen 2 = .ok (.invokevirtual 128, 3) := by decide +kernel
theorem dX5_seen_5 : decode cX5_seen 5 = .ok (.ifCond .eq 30, 3) := by decide +kernel
theorem dX5_seen_8 : decode cX5_seen 8 = .ok (.iload_n 2, 1) := by decide +kernel
theorem dX5_seen_9 : decode cX5_seen 9 = .ok (.invokestatic 134, 3) := by decide +kernel
theorem dX5_seen_12 : decode cX5_seen 12 = .ok (.ifCond .eq 23, 3) := by decide +kernel
theorem dX5_seen_15 : decode cX5_seen 15 = .ok (.iload_n 3, 1) := by decide +kernel
theorem dX5_seen_16 : decode cX5_seen 16 = .ok (.invokestatic 183, 3) := by decide +kernel
theorem dX5_seen_19 : decode cX5_seen 19 = .ok (.ifCond .eq 16, 3) := by decide +kernel
theorem dX5_seen_22 : decode cX5_seen 22 = .ok (.iload 5, 2) := by decide +kernel
theorem dX5_seen_24 : decode cX5_seen 24 = .ok (.i2l, 1) := by decide +kernel
theorem dX5_seen_25 : decode cX5_seen 25 = .ok (.lconst 1, 1) := by decide +kernel
theorem dX5_seen_26 : decode cX5_seen 26 = .ok (.ldc2_w 191, 3) := by decide +kernel
theorem dX5_seen_29 : decode cX5_seen 29 = .ok (.invokestatic 35, 3) := by decide +kernel
theorem dX5_seen_32 : decode cX5_seen 32 = .ok (.ifCond .ne 5, 3) := by decide +kernel
theorem dX5_seen_35 : decode cX5_seen 35 = .ok (.iconst (-1), 1) := by decide +kernel
theorem dX5_seen_36 : decode cX5_seen 36 = .ok (.ireturn, 1) := by decide +kernel
theorem dX5_seen_37 : decode cX5_seen 37 = .ok (.aload_n 0, 1) := by decide +kernel
theorem dX5_seen_38 : decode cX5_seen 38 = .ok (.iload_n 2, 1) := by decide +kernel
theorem dX5_seen_39 : decode cX5_seen 39 = .ok (.iload_n 3, 1) := by decide +kernel
theorem dX5_seen_40 : decode cX5_seen 40 = .ok (.iload 4, 2) := by decide +kernel
theorem dX5_seen_42 : decode cX5_seen 42 = .ok (.iconst 3, 1) := by decide +kernel
theorem dX5_seen_43 : decode cX5_seen 43 = .ok (.iload 5, 2) := by decide +kernel
theorem dX5_seen_45 : decode cX5_seen 45 = .ok (.imul, 1) := by decide +kernel
theorem dX5_seen_46 : decode cX5_seen 46 = .ok (.invokevirtual 186, 3) := by decide +kernel
theorem dX5_seen_49 : decode cX5_seen 49 = .ok (.istore 6, 2) := by decide +kernel
theorem dX5_seen_51 : decode cX5_seen 51 = .ok (.iload 6, 2) := by decide +kernel
theorem dX5_seen_53 : decode cX5_seen 53 = .ok (.ifCond .ge 6, 3) := by decide +kernel
theorem dX5_seen_56 : decode cX5_seen 56 = .ok (.iload 6, 2) := by decide +kernel
theorem dX5_seen_58 : decode cX5_seen 58 = .ok (.ireturn, 1) := by decide +kernel
theorem dX5_seen_59 : decode cX5_seen 59 = .ok (.iconst 0, 1) := by decide +kernel
theorem dX5_seen_60 : decode cX5_seen 60 = .ok (.istore 7, 2) := by decide +kernel
theorem dX5_seen_62 : decode cX5_seen 62 = .ok (.iconst 0, 1) := by decide +kernel
theorem dX5_seen_63 : decode cX5_seen 63 = .ok (.istore 8, 2) := by decide +kernel
theorem dX5_seen_65 : decode cX5_seen 65 = .ok (.iload 8, 2) := by decide +kernel
theorem dX5_seen_67 : decode cX5_seen 67 = .ok (.iconst 4, 1) := by decide +kernel
theorem dX5_seen_68 : decode cX5_seen 68 = .ok (.if_icmp .gt 49, 3) := by decide +kernel
theorem dX5_seen_71 : decode cX5_seen 71 = .ok (.iload 7, 2) := by decide +kernel
theorem dX5_seen_73 : decode cX5_seen 73 = .ok (.aload_n 0, 1) := by decide +kernel
theorem dX5_seen_74 : decode cX5_seen 74 = .ok (.iload 8, 2) := by decide +kernel
theorem dX5_seen_76 : decode cX5_seen 76 = .ok (.aload_n 0, 1) := by decide +kernel
theorem dX5_seen_77 : decode cX5_seen 77 = .ok (.getfield 7, 3) := by decide +kernel
theorem dX5_seen_80 : decode cX5_seen 80 = .ok (.bipush 8, 2) := by decide +kernel
theorem dX5_seen_82 : decode cX5_seen 82 = .ok (.iload_n 1, 1) := by decide +kernel
theorem dX5_seen_83 : decode cX5_seen 83 = .ok (.iadd, 1) := by decide +kernel
theorem dX5_seen_84 : decode cX5_seen 84 = .ok (.iaload, 1) := by decide +kernel
theorem dX5_seen_85 : decode cX5_seen 85 = .ok (.bipush 24, 2) := by decide +kernel
theorem dX5_seen_87 : decode cX5_seen 87 = .ok (.iload_n 2, 1) := by decide +kernel
theorem dX5_seen_88 : decode cX5_seen 88 = .ok (.imul, 1) := by decide +kernel
theorem dX5_seen_89 : decode cX5_seen 89 = .ok (.iload 4, 2) := by decide +kernel
theorem dX5_seen_91 : decode cX5_seen 91 = .ok (.iadd, 1) := by decide +kernel
theorem dX5_seen_92 : decode cX5_seen 92 = .ok (.iload 5, 2) := by decide +kernel
theorem dX5_seen_94 : decode cX5_seen 94 = .ok (.invokevirtual 193, 3) := by decide +kernel
theorem dX5_seen_97 : decode cX5_seen 97 = .ok (.ifCond .eq 10, 3) := by decide +kernel
theorem dX5_seen_100 : decode cX5_seen 100 = .ok (.iconst 1, 1) := by decide +kernel
theorem dX5_seen_101 : decode cX5_seen 101 = .ok (.iload 8, 2) := by decide +kernel
theorem dX5_seen_103 : decode cX5_seen 103 = .ok (.ishl, 1) := by decide +kernel
theorem dX5_seen_104 : decode cX5_seen 104 = .ok (.goto 4, 3) := by decide +kernel
theorem dX5_seen_107 : decode cX5_seen 107 = .ok (.iconst 0, 1) := by decide +kernel
theorem dX5_seen_108 : decode cX5_seen 108 = .ok (.ior, 1) := by decide +kernel
theorem dX5_seen_109 : decode cX5_seen 109 = .ok (.istore 7, 2) := by decide +kernel
theorem dX5_seen_111 : decode cX5_seen 111 = .ok (.iinc 8 1, 3) := by decide +kernel
theorem dX5_seen_114 : decode cX5_seen 114 = .ok (.goto (-49), 3) := by decide +kernel
theorem dX5_seen_117 : decode cX5_seen 117 = .ok (.iload 7, 2) := by decide +kernel
theorem dX5_seen_119 : decode cX5_seen 119 = .ok (.ireturn, 1) := by decide +kernel
set_option maxRecDepth 20000 in
theorem ggX5_film_X5_isRegister : GoodIn wsX5_film wsX5_isRegister := goodIn_r _ [6, 7, 8, 9, 5, 10] (by decide +kernel) (by decide +kernel)
set_option maxRecDepth 20000 in
theorem gX5_film_X5_isRegister : GoodIn wsX5_film (va_wsS RX5 134 yX5_isRegister wsX5_isRegister) := goodIn_app (goodIn_of _ (by decide +kernel)) ggX5_film_X5_isRegister
set_option maxRecDepth 20000 in
theorem ggX5_film_X5_isLane : GoodIn wsX5_film wsX5_isLane := goodIn_r _ [13, 7, 8, 9, 5, 10] (by decide +kernel) (by decide +kernel)
set_option maxRecDepth 20000 in
theorem gX5_film_X5_isLane : GoodIn wsX5_film (va_wsS RX5 183 yX5_isLane wsX5_isLane) := goodIn_app (goodIn_of _ (by decide +kernel)) ggX5_film_X5_isLane
set_option maxRecDepth 20000 in
theorem ggX5_film_X5_against : GoodIn wsX5_film wsX5_against := goodIn_r _ [17, 18, 19, 20, 21, 22, 23, 24, 25, 26, 27, 28, 29, 30, 31, 32, 33, 34] (by decide +kernel) (by decide +kernel)
set_option maxRecDepth 20000 in
theorem gX5_film_X5_against : GoodIn wsX5_film (wsV RX5 186 RX5 yX5_against wsX5_against) := goodIn_app (goodIn_of _ (by decide +kernel)) ggX5_film_X5_against
theorem dX5_film_0 : decode cX5_film 0 = .ok (.iload_n 1, 1) := by decide +kernel
theorem dX5_film_1 : decode cX5_film 1 = .ok (.invokestatic 134, 3) := by decide +kernel
theorem dX5_film_4 : decode cX5_film 4 = .ok (.ifCond .eq 17, 3) := by decide +kernel
theorem dX5_film_7 : decode cX5_film 7 = .ok (.iload_n 2, 1) := by decide +kernel
theorem dX5_film_8 : decode cX5_film 8 = .ok (.invokestatic 134, 3) := by decide +kernel
theorem dX5_film_11 : decode cX5_film 11 = .ok (.ifCond .eq 10, 3) := by decide +kernel
theorem dX5_film_14 : decode cX5_film 14 = .ok (.iload_n 3, 1) := by decide +kernel
theorem dX5_film_15 : decode cX5_film 15 = .ok (.invokestatic 183, 3) := by decide +kernel
theorem dX5_film_18 : decode cX5_film 18 = .ok (.ifCond .ne 5, 3) := by decide +kernel
theorem dX5_film_21 : decode cX5_film 21 = .ok (.iconst (-1), 1) := by decide +kernel
theorem dX5_film_22 : decode cX5_film 22 = .ok (.ireturn, 1) := by decide +kernel
theorem dX5_film_23 : decode cX5_film 23 = .ok (.aload_n 0, 1) := by decide +kernel
theorem dX5_film_24 : decode cX5_film 24 = .ok (.iload_n 2, 1) := by decide +kernel
theorem dX5_film_25 : decode cX5_film 25 = .ok (.iload_n 3, 1) := by decide +kernel
theorem dX5_film_26 : decode cX5_film 26 = .ok (.iload 4, 2) := by decide +kernel
theorem dX5_film_28 : decode cX5_film 28 = .ok (.aload_n 0, 1) := by decide +kernel
theorem dX5_film_29 : decode cX5_film 29 = .ok (.getfield 7, 3) := by decide +kernel
theorem dX5_film_32 : decode cX5_film 32 = .ok (.iconst 0, 1) := by decide +kernel
theorem dX5_film_33 : decode cX5_film 33 = .ok (.iaload, 1) := by decide +kernel
theorem dX5_film_34 : decode cX5_film 34 = .ok (.invokevirtual 186, 3) := by decide +kernel
theorem dX5_film_37 : decode cX5_film 37 = .ok (.istore 5, 2) := by decide +kernel
theorem dX5_film_39 : decode cX5_film 39 = .ok (.iload 5, 2) := by decide +kernel
theorem dX5_film_41 : decode cX5_film 41 = .ok (.ifCond .ge 6, 3) := by decide +kernel
theorem dX5_film_44 : decode cX5_film 44 = .ok (.iload 5, 2) := by decide +kernel
theorem dX5_film_46 : decode cX5_film 46 = .ok (.ireturn, 1) := by decide +kernel
theorem dX5_film_47 : decode cX5_film 47 = .ok (.iconst 0, 1) := by decide +kernel
theorem dX5_film_48 : decode cX5_film 48 = .ok (.istore 6, 2) := by decide +kernel
theorem dX5_film_50 : decode cX5_film 50 = .ok (.iload 6, 2) := by decide +kernel
theorem dX5_film_52 : decode cX5_film 52 = .ok (.aload_n 0, 1) := by decide +kernel
theorem dX5_film_53 : decode cX5_film 53 = .ok (.getfield 7, 3) := by decide +kernel
theorem dX5_film_56 : decode cX5_film 56 = .ok (.iconst 0, 1) := by decide +kernel
theorem dX5_film_57 : decode cX5_film 57 = .ok (.iaload, 1) := by decide +kernel
theorem dX5_film_58 : decode cX5_film 58 = .ok (.if_icmp .ge 40, 3) := by decide +kernel
theorem dX5_film_61 : decode cX5_film 61 = .ok (.aload_n 0, 1) := by decide +kernel
theorem dX5_film_62 : decode cX5_film 62 = .ok (.getfield 22, 3) := by decide +kernel
theorem dX5_film_65 : decode cX5_film 65 = .ok (.bipush 24, 2) := by decide +kernel
theorem dX5_film_67 : decode cX5_film 67 = .ok (.iload_n 2, 1) := by decide +kernel
theorem dX5_film_68 : decode cX5_film 68 = .ok (.imul, 1) := by decide +kernel
theorem dX5_film_69 : decode cX5_film 69 = .ok (.iload 4, 2) := by decide +kernel
theorem dX5_film_71 : decode cX5_film 71 = .ok (.iadd, 1) := by decide +kernel
theorem dX5_film_72 : decode cX5_film 72 = .ok (.iload 6, 2) := by decide +kernel
theorem dX5_film_74 : decode cX5_film 74 = .ok (.iadd, 1) := by decide +kernel
theorem dX5_film_75 : decode cX5_film 75 = .ok (.aload_n 0, 1) := by decide +kernel
theorem dX5_film_76 : decode cX5_film 76 = .ok (.getfield 7, 3) := by decide +kernel
theorem dX5_film_79 : decode cX5_film 79 = .ok (.bipush 15, 2) := by decide +kernel
theorem dX5_film_81 : decode cX5_film 81 = .ok (.bipush 6, 2) := by decide +kernel
theorem dX5_film_83 : decode cX5_film 83 = .ok (.iload_n 1, 1) := by decide +kernel
theorem dX5_film_84 : decode cX5_film 84 = .ok (.imul, 1) := by decide +kernel
theorem dX5_film_85 : decode cX5_film 85 = .ok (.iadd, 1) := by decide +kernel
theorem dX5_film_86 : decode cX5_film 86 = .ok (.iload 6, 2) := by decide +kernel
theorem dX5_film_88 : decode cX5_film 88 = .ok (.iadd, 1) := by decide +kernel
theorem dX5_film_89 : decode cX5_film 89 = .ok (.iaload, 1) := by decide +kernel
theorem dX5_film_90 : decode cX5_film 90 = .ok (.i2l, 1) := by decide +kernel
theorem dX5_film_91 : decode cX5_film 91 = .ok (.lastore, 1) := by decide +kernel
theorem dX5_film_92 : decode cX5_film 92 = .ok (.iinc 6 1, 3) := by decide +kernel
theorem dX5_film_95 : decode cX5_film 95 = .ok (.goto (-45), 3) := by decide +kernel
theorem dX5_film_98 : decode cX5_film 98 = .ok (.aload_n 0, 1) := by decide +kernel
theorem dX5_film_99 : decode cX5_film 99 = .ok (.getfield 7, 3) := by decide +kernel
theorem dX5_film_102 : decode cX5_film 102 = .ok (.iconst 0, 1) := by decide +kernel
theorem dX5_film_103 : decode cX5_film 103 = .ok (.iaload, 1) := by decide +kernel
theorem dX5_film_104 : decode cX5_film 104 = .ok (.ireturn, 1) := by decide +kernel
set_option maxRecDepth 20000 in
theorem ggX5_sheet_X5_isRegister : GoodIn wsX5_sheet wsX5_isRegister := goodIn_r _ [7, 8, 9, 10, 6, 11] (by decide +kernel) (by decide +kernel)
set_option maxRecDepth 20000 in
theorem gX5_sheet_X5_isRegister : GoodIn wsX5_sheet (va_wsS RX5 134 yX5_isRegister wsX5_isRegister) := goodIn_app (goodIn_of _ (by decide +kernel)) ggX5_sheet_X5_isRegister
set_option maxRecDepth 20000 in
theorem ggX5_sheet_X5_isLane : GoodIn wsX5_sheet wsX5_isLane := goodIn_r _ [14, 8, 9, 10, 6, 11] (by decide +kernel) (by decide +kernel)
set_option maxRecDepth 20000 in
theorem gX5_sheet_X5_isLane : GoodIn wsX5_sheet (va_wsS RX5 183 yX5_isLane wsX5_isLane) := goodIn_app (goodIn_of _ (by decide +kernel)) ggX5_sheet_X5_isLane
theorem dX5_sheet_0 : decode cX5_sheet 0 = .ok (.iload_n 1, 1) := by decide +kernel
theorem dX5_sheet_1 : decode cX5_sheet 1 = .ok (.invokestatic 134, 3) := by decide +kernel
theorem dX5_sheet_4 : decode cX5_sheet 4 = .ok (.ifCond .eq 16, 3) := by decide +kernel
theorem dX5_sheet_7 : decode cX5_sheet 7 = .ok (.iload_n 2, 1) := by decide +kernel
theorem dX5_sheet_8 : decode cX5_sheet 8 = .ok (.invokestatic 183, 3) := by decide +kernel
theorem dX5_sheet_11 : decode cX5_sheet 11 = .ok (.ifCond .eq 9, 3) := by decide +kernel
theorem dX5_sheet_14 : decode cX5_sheet 14 = .ok (.iload_n 3, 1) := by decide +kernel
theorem dX5_sheet_15 : decode cX5_sheet 15 = .ok (.bipush 24, 2) := by decide +kernel
theorem dX5_sheet_17 : decode cX5_sheet 17 = .ok (.if_icmp .le 5, 3) := by decide +kernel
theorem dX5_sheet_20 : decode cX5_sheet 20 = .ok (.iconst (-1), 1) := by decide +kernel
theorem dX5_sheet_21 : decode cX5_sheet 21 = .ok (.ireturn, 1) := by decide +kernel
theorem dX5_sheet_22 : decode cX5_sheet 22 = .ok (.iload_n 3, 1) := by decide +kernel
theorem dX5_sheet_23 : decode cX5_sheet 23 = .ok (.ifCond .ge 6, 3) := by decide +kernel
theorem dX5_sheet_26 : decode cX5_sheet 26 = .ok (.bipush (-14), 2) := by decide +kernel
theorem dX5_sheet_28 : decode cX5_sheet 28 = .ok (.ireturn, 1) := by decide +kernel
theorem dX5_sheet_29 : decode cX5_sheet 29 = .ok (.aload_n 0, 1) := by decide +kernel
theorem dX5_sheet_30 : decode cX5_sheet 30 = .ok (.getfield 16, 3) := by decide +kernel
theorem dX5_sheet_33 : decode cX5_sheet 33 = .ok (.iload_n 1, 1) := by decide +kernel
theorem dX5_sheet_34 : decode cX5_sheet 34 = .ok (.iload_n 2, 1) := by decide +kernel
theorem dX5_sheet_35 : decode cX5_sheet 35 = .ok (.iastore, 1) := by decide +kernel
theorem dX5_sheet_36 : decode cX5_sheet 36 = .ok (.aload_n 0, 1) := by decide +kernel
theorem dX5_sheet_37 : decode cX5_sheet 37 = .ok (.getfield 19, 3) := by decide +kernel
theorem dX5_sheet_40 : decode cX5_sheet 40 = .ok (.iload_n 1, 1) := by decide +kernel
theorem dX5_sheet_41 : decode cX5_sheet 41 = .ok (.iload_n 3, 1) := by decide +kernel
theorem dX5_sheet_42 : decode cX5_sheet 42 = .ok (.iastore, 1) := by decide +kernel
theorem dX5_sheet_43 : decode cX5_sheet 43 = .ok (.iconst 0, 1) := by decide +kernel
theorem dX5_sheet_44 : decode cX5_sheet 44 = .ok (.istore 4, 2) := by decide +kernel
theorem dX5_sheet_46 : decode cX5_sheet 46 = .ok (.iload 4, 2) := by decide +kernel
theorem dX5_sheet_48 : decode cX5_sheet 48 = .ok (.bipush 24, 2) := by decide +kernel
theorem dX5_sheet_50 : decode cX5_sheet 50 = .ok (.if_icmp .ge 22, 3) := by decide +kernel
theorem dX5_sheet_53 : decode cX5_sheet 53 = .ok (.aload_n 0, 1) := by decide +kernel
theorem dX5_sheet_54 : decode cX5_sheet 54 = .ok (.getfield 22, 3) := by decide +kernel
theorem dX5_sheet_57 : decode cX5_sheet 57 = .ok (.bipush 24, 2) := by decide +kernel
theorem dX5_sheet_59 : decode cX5_sheet 59 = .ok (.iload_n 1, 1) := by decide +kernel
theorem dX5_sheet_60 : decode cX5_sheet 60 = .ok (.imul, 1) := by decide +kernel
theorem dX5_sheet_61 : decode cX5_sheet 61 = .ok (.iload 4, 2) := by decide +kernel
theorem dX5_sheet_63 : decode cX5_sheet 63 = .ok (.iadd, 1) := by decide +kernel
theorem dX5_sheet_64 : decode cX5_sheet 64 = .ok (.lconst 0, 1) := by decide +kernel
theorem dX5_sheet_65 : decode cX5_sheet 65 = .ok (.lastore, 1) := by decide +kernel
theorem dX5_sheet_66 : decode cX5_sheet 66 = .ok (.iinc 4 1, 3) := by decide +kernel
theorem dX5_sheet_69 : decode cX5_sheet 69 = .ok (.goto (-23), 3) := by decide +kernel
theorem dX5_sheet_72 : decode cX5_sheet 72 = .ok (.iload_n 3, 1) := by decide +kernel
theorem dX5_sheet_73 : decode cX5_sheet 73 = .ok (.ireturn, 1) := by decide +kernel
set_option maxRecDepth 20000 in
theorem ggX5_drop_X5_isRegister : GoodIn wsX5_drop wsX5_isRegister := goodIn_r _ [6, 7, 8, 9, 5, 10] (by decide +kernel) (by decide +kernel)
set_option maxRecDepth 20000 in
theorem gX5_drop_X5_isRegister : GoodIn wsX5_drop (va_wsS RX5 134 yX5_isRegister wsX5_isRegister) := goodIn_app (goodIn_of _ (by decide +kernel)) ggX5_drop_X5_isRegister
theorem dX5_drop_0 : decode cX5_drop 0 = .ok (.iload_n 1, 1) := by decide +kernel
theorem dX5_drop_1 : decode cX5_drop 1 = .ok (.invokestatic 134, 3) := by decide +kernel
theorem dX5_drop_4 : decode cX5_drop 4 = .ok (.ifCond .ne 5, 3) := by decide +kernel
theorem dX5_drop_7 : decode cX5_drop 7 = .ok (.iconst (-1), 1) := by decide +kernel
theorem dX5_drop_8 : decode cX5_drop 8 = .ok (.ireturn, 1) := by decide +kernel
theorem dX5_drop_9 : decode cX5_drop 9 = .ok (.aload_n 0, 1) := by decide +kernel
theorem dX5_drop_10 : decode cX5_drop 10 = .ok (.getfield 16, 3) := by decide +kernel
theorem dX5_drop_13 : decode cX5_drop 13 = .ok (.iload_n 1, 1) := by decide +kernel
theorem dX5_drop_14 : decode cX5_drop 14 = .ok (.iaload, 1) := by decide +kernel
theorem dX5_drop_15 : decode cX5_drop 15 = .ok (.ifCond .ge 6, 3) := by decide +kernel
theorem dX5_drop_18 : decode cX5_drop 18 = .ok (.bipush (-11), 2) := by decide +kernel
theorem dX5_drop_20 : decode cX5_drop 20 = .ok (.ireturn, 1) := by decide +kernel
theorem dX5_drop_21 : decode cX5_drop 21 = .ok (.aload_n 0, 1) := by decide +kernel
theorem dX5_drop_22 : decode cX5_drop 22 = .ok (.getfield 16, 3) := by decide +kernel
theorem dX5_drop_25 : decode cX5_drop 25 = .ok (.iload_n 1, 1) := by decide +kernel
theorem dX5_drop_26 : decode cX5_drop 26 = .ok (.iconst (-1), 1) := by decide +kernel
theorem dX5_drop_27 : decode cX5_drop 27 = .ok (.iastore, 1) := by decide +kernel
theorem dX5_drop_28 : decode cX5_drop 28 = .ok (.aload_n 0, 1) := by decide +kernel
theorem dX5_drop_29 : decode cX5_drop 29 = .ok (.getfield 19, 3) := by decide +kernel
theorem dX5_drop_32 : decode cX5_drop 32 = .ok (.iload_n 1, 1) := by decide +kernel
theorem dX5_drop_33 : decode cX5_drop 33 = .ok (.iaload, 1) := by decide +kernel
theorem dX5_drop_34 : decode cX5_drop 34 = .ok (.ireturn, 1) := by decide +kernel
set_option maxRecDepth 20000 in
theorem ggX5_item_X5_isRegister : GoodIn wsX5_item wsX5_isRegister := goodIn_r _ [5, 6, 7, 8, 4, 9] (by decide +kernel) (by decide +kernel)
set_option maxRecDepth 20000 in
theorem gX5_item_X5_isRegister : GoodIn wsX5_item (va_wsS RX5 134 yX5_isRegister wsX5_isRegister) := goodIn_app (goodIn_of _ (by decide +kernel)) ggX5_item_X5_isRegister
set_option maxRecDepth 20000 in
theorem ggX5_item_X5_isLane : GoodIn wsX5_item wsX5_isLane := goodIn_r _ [12, 6, 7, 8, 4, 9] (by decide +kernel) (by decide +kernel)
set_option maxRecDepth 20000 in
theorem gX5_item_X5_isLane : GoodIn wsX5_item (va_wsS RX5 183 yX5_isLane wsX5_isLane) := goodIn_app (goodIn_of _ (by decide +kernel)) ggX5_item_X5_isLane
set_option maxRecDepth 20000 in
theorem ggX5_item_X5_against : GoodIn wsX5_item wsX5_against := goodIn_r _ [16, 17, 18, 22, 23, 24, 25, 26, 27, 28, 29, 30, 31, 32, 33, 34, 35, 36] (by decide +kernel) (by decide +kernel)
set_option maxRecDepth 20000 in
theorem gX5_item_X5_against : GoodIn wsX5_item (wsV RX5 186 RX5 yX5_against wsX5_against) := goodIn_app (goodIn_of _ (by decide +kernel)) ggX5_item_X5_against
set_option maxRecDepth 20000 in
theorem ggX5_item_X5_cut : GoodIn wsX5_item wsX5_cut := goodIn_r _ [21] (by decide +kernel) (by decide +kernel)
set_option maxRecDepth 20000 in
theorem gX5_item_X5_cut : GoodIn wsX5_item (va_wsS RX5 197 yX5_cut wsX5_cut) := goodIn_app (goodIn_of _ (by decide +kernel)) ggX5_item_X5_cut
theorem dX5_item_0 : decode cX5_item 0 = .ok (.iload_n 1, 1) := by decide +kernel
theorem dX5_item_1 : decode cX5_item 1 = .ok (.invokestatic 134, 3) := by decide +kernel
theorem dX5_item_4 : decode cX5_item 4 = .ok (.ifCond .eq 10, 3) := by decide +kernel
theorem dX5_item_7 : decode cX5_item 7 = .ok (.iload_n 2, 1) := by decide +kernel
theorem dX5_item_8 : decode cX5_item 8 = .ok (.invokestatic 183, 3) := by decide +kernel
theorem dX5_item_11 : decode cX5_item 11 = .ok (.ifCond .ne 5, 3) := by decide +kernel
theorem dX5_item_14 : decode cX5_item 14 = .ok (.iconst (-1), 1) := by decide +kernel
theorem dX5_item_15 : decode cX5_item 15 = .ok (.ireturn, 1) := by decide +kernel
theorem dX5_item_16 : decode cX5_item 16 = .ok (.aload_n 0, 1) := by decide +kernel
theorem dX5_item_17 : decode cX5_item 17 = .ok (.iload_n 1, 1) := by decide +kernel
theorem dX5_item_18 : decode cX5_item 18 = .ok (.iload_n 2, 1) := by decide +kernel
theorem dX5_item_19 : decode cX5_item 19 = .ok (.iload_n 3, 1) := by decide +kernel
theorem dX5_item_20 : decode cX5_item 20 = .ok (.iconst 1, 1) := by decide +kernel
theorem dX5_item_21 : decode cX5_item 21 = .ok (.invokevirtual 186, 3) := by decide +kernel
theorem dX5_item_24 : decode cX5_item 24 = .ok (.istore 6, 2) := by decide +kernel
theorem dX5_item_26 : decode cX5_item 26 = .ok (.iload 6, 2) := by decide +kernel
theorem dX5_item_28 : decode cX5_item 28 = .ok (.ifCond .ge 6, 3) := by decide +kernel
theorem dX5_item_31 : decode cX5_item 31 = .ok (.iload 6, 2) := by decide +kernel
theorem dX5_item_33 : decode cX5_item 33 = .ok (.ireturn, 1) := by decide +kernel
theorem dX5_item_34 : decode cX5_item 34 = .ok (.aload_n 0, 1) := by decide +kernel
theorem dX5_item_35 : decode cX5_item 35 = .ok (.getfield 22, 3) := by decide +kernel
theorem dX5_item_38 : decode cX5_item 38 = .ok (.bipush 24, 2) := by decide +kernel
theorem dX5_item_40 : decode cX5_item 40 = .ok (.iload_n 1, 1) := by decide +kernel
theorem dX5_item_41 : decode cX5_item 41 = .ok (.imul, 1) := by decide +kernel
theorem dX5_item_42 : decode cX5_item 42 = .ok (.iload_n 3, 1) := by decide +kernel
theorem dX5_item_43 : decode cX5_item 43 = .ok (.iadd, 1) := by decide +kernel
theorem dX5_item_44 : decode cX5_item 44 = .ok (.iload_n 2, 1) := by decide +kernel
theorem dX5_item_45 : decode cX5_item 45 = .ok (.lload 4, 2) := by decide +kernel
theorem dX5_item_47 : decode cX5_item 47 = .ok (.invokestatic 197, 3) := by decide +kernel
theorem dX5_item_50 : decode cX5_item 50 = .ok (.lastore, 1) := by decide +kernel
theorem dX5_item_51 : decode cX5_item 51 = .ok (.iconst 1, 1) := by decide +kernel
theorem dX5_item_52 : decode cX5_item 52 = .ok (.ireturn, 1) := by decide +kernel
set_option maxRecDepth 20000 in
theorem ggX5_copy_X5_isRegister : GoodIn wsX5_copy wsX5_isRegister := goodIn_r _ [7, 8, 9, 10, 6, 11] (by decide +kernel) (by decide +kernel)
set_option maxRecDepth 20000 in
theorem gX5_copy_X5_isRegister : GoodIn wsX5_copy (va_wsS RX5 134 yX5_isRegister wsX5_isRegister) := goodIn_app (goodIn_of _ (by decide +kernel)) ggX5_copy_X5_isRegister
set_option maxRecDepth 20000 in
theorem ggX5_copy_X5_against : GoodIn wsX5_copy wsX5_against := goodIn_r _ [15, 1, 16, 17, 18, 19, 20, 21, 22, 23, 24, 25, 26, 27, 28, 29, 30, 31] (by decide +kernel) (by decide +kernel)
set_option maxRecDepth 20000 in
theorem gX5_copy_X5_against : GoodIn wsX5_copy (wsV RX5 186 RX5 yX5_against wsX5_against) := goodIn_app (goodIn_of _ (by decide +kernel)) ggX5_copy_X5_against
theorem dX5_copy_0 : decode cX5_copy 0 = .ok (.iload_n 1, 1) := by decide +kernel
theorem dX5_copy_1 : decode cX5_copy 1 = .ok (.invokestatic 134, 3) := by decide +kernel
theorem dX5_copy_4 : decode cX5_copy 4 = .ok (.ifCond .eq 10, 3) := by decide +kernel
theorem dX5_copy_7 : decode cX5_copy 7 = .ok (.iload_n 3, 1) := by decide +kernel
theorem dX5_copy_8 : decode cX5_copy 8 = .ok (.invokestatic 134, 3) := by decide +kernel
theorem dX5_copy_11 : decode cX5_copy 11 = .ok (.ifCond .ne 5, 3) := by decide +kernel
theorem dX5_copy_14 : decode cX5_copy 14 = .ok (.iconst (-1), 1) := by decide +kernel
theorem dX5_copy_15 : decode cX5_copy 15 = .ok (.ireturn, 1) := by decide +kernel
theorem dX5_copy_16 : decode cX5_copy 16 = .ok (.aload_n 0, 1) := by decide +kernel
theorem dX5_copy_17 : decode cX5_copy 17 = .ok (.getfield 16, 3) := by decide +kernel
theorem dX5_copy_20 : decode cX5_copy 20 = .ok (.iload_n 1, 1) := by decide +kernel
theorem dX5_copy_21 : decode cX5_copy 21 = .ok (.iaload, 1) := by decide +kernel
theorem dX5_copy_22 : decode cX5_copy 22 = .ok (.ifCond .lt 12, 3) := by decide +kernel
theorem dX5_copy_25 : decode cX5_copy 25 = .ok (.aload_n 0, 1) := by decide +kernel
theorem dX5_copy_26 : decode cX5_copy 26 = .ok (.getfield 16, 3) := by decide +kernel
theorem dX5_copy_29 : decode cX5_copy 29 = .ok (.iload_n 3, 1) := by decide +kernel
theorem dX5_copy_30 : decode cX5_copy 30 = .ok (.iaload, 1) := by decide +kernel
theorem dX5_copy_31 : decode cX5_copy 31 = .ok (.ifCond .ge 6, 3) := by decide +kernel
theorem dX5_copy_34 : decode cX5_copy 34 = .ok (.bipush (-11), 2) := by decide +kernel
theorem dX5_copy_36 : decode cX5_copy 36 = .ok (.ireturn, 1) := by decide +kernel
theorem dX5_copy_37 : decode cX5_copy 37 = .ok (.aload_n 0, 1) := by decide +kernel
theorem dX5_copy_38 : decode cX5_copy 38 = .ok (.getfield 16, 3) := by decide +kernel
theorem dX5_copy_41 : decode cX5_copy 41 = .ok (.iload_n 1, 1) := by decide +kernel
theorem dX5_copy_42 : decode cX5_copy 42 = .ok (.iaload, 1) := by decide +kernel
theorem dX5_copy_43 : decode cX5_copy 43 = .ok (.aload_n 0, 1) := by decide +kernel
theorem dX5_copy_44 : decode cX5_copy 44 = .ok (.getfield 16, 3) := by decide +kernel
theorem dX5_copy_47 : decode cX5_copy 47 = .ok (.iload_n 3, 1) := by decide +kernel
theorem dX5_copy_48 : decode cX5_copy 48 = .ok (.iaload, 1) := by decide +kernel
theorem dX5_copy_49 : decode cX5_copy 49 = .ok (.if_icmp .eq 6, 3) := by decide +kernel
theorem dX5_copy_52 : decode cX5_copy 52 = .ok (.bipush (-12), 2) := by decide +kernel
theorem dX5_copy_54 : decode cX5_copy 54 = .ok (.ireturn, 1) := by decide +kernel
theorem dX5_copy_55 : decode cX5_copy 55 = .ok (.aload_n 0, 1) := by decide +kernel
theorem dX5_copy_56 : decode cX5_copy 56 = .ok (.iload_n 1, 1) := by decide +kernel
theorem dX5_copy_57 : decode cX5_copy 57 = .ok (.aload_n 0, 1) := by decide +kernel
theorem dX5_copy_58 : decode cX5_copy 58 = .ok (.getfield 16, 3) := by decide +kernel
theorem dX5_copy_61 : decode cX5_copy 61 = .ok (.iload_n 1, 1) := by decide +kernel
theorem dX5_copy_62 : decode cX5_copy 62 = .ok (.iaload, 1) := by decide +kernel
theorem dX5_copy_63 : decode cX5_copy 63 = .ok (.iload_n 2, 1) := by decide +kernel
theorem dX5_copy_64 : decode cX5_copy 64 = .ok (.iload 5, 2) := by decide +kernel
theorem dX5_copy_66 : decode cX5_copy 66 = .ok (.invokevirtual 186, 3) := by decide +kernel
theorem dX5_copy_69 : decode cX5_copy 69 = .ok (.ifCond .lt 21, 3) := by decide +kernel
theorem dX5_copy_72 : decode cX5_copy 72 = .ok (.aload_n 0, 1) := by decide +kernel
theorem dX5_copy_73 : decode cX5_copy 73 = .ok (.iload_n 3, 1) := by decide +kernel
theorem dX5_copy_74 : decode cX5_copy 74 = .ok (.aload_n 0, 1) := by decide +kernel
theorem dX5_copy_75 : decode cX5_copy 75 = .ok (.getfield 16, 3) := by decide +kernel
theorem dX5_copy_78 : decode cX5_copy 78 = .ok (.iload_n 3, 1) := by decide +kernel
theorem dX5_copy_79 : decode cX5_copy 79 = .ok (.iaload, 1) := by decide +kernel
theorem dX5_copy_80 : decode cX5_copy 80 = .ok (.iload 4, 2) := by decide +kernel
theorem dX5_copy_82 : decode cX5_copy 82 = .ok (.iload 5, 2) := by decide +kernel
theorem dX5_copy_84 : decode cX5_copy 84 = .ok (.invokevirtual 186, 3) := by decide +kernel
theorem dX5_copy_87 : decode cX5_copy 87 = .ok (.ifCond .ge 6, 3) := by decide +kernel
theorem dX5_copy_90 : decode cX5_copy 90 = .ok (.bipush (-13), 2) := by decide +kernel
theorem dX5_copy_92 : decode cX5_copy 92 = .ok (.ireturn, 1) := by decide +kernel
theorem dX5_copy_93 : decode cX5_copy 93 = .ok (.iconst 0, 1) := by decide +kernel
theorem dX5_copy_94 : decode cX5_copy 94 = .ok (.istore 6, 2) := by decide +kernel
theorem dX5_copy_96 : decode cX5_copy 96 = .ok (.iload 6, 2) := by decide +kernel
theorem dX5_copy_98 : decode cX5_copy 98 = .ok (.iload 5, 2) := by decide +kernel
theorem dX5_copy_100 : decode cX5_copy 100 = .ok (.if_icmp .ge 30, 3) := by decide +kernel
theorem dX5_copy_103 : decode cX5_copy 103 = .ok (.aload_n 0, 1) := by decide +kernel
theorem dX5_copy_104 : decode cX5_copy 104 = .ok (.getfield 32, 3) := by decide +kernel
theorem dX5_copy_107 : decode cX5_copy 107 = .ok (.iload 6, 2) := by decide +kernel
theorem dX5_copy_109 : decode cX5_copy 109 = .ok (.aload_n 0, 1) := by decide +kernel
theorem dX5_copy_110 : decode cX5_copy 110 = .ok (.getfield 22, 3) := by decide +kernel
theorem dX5_copy_113 : decode cX5_copy 113 = .ok (.bipush 24, 2) := by decide +kernel
theorem dX5_copy_115 : decode cX5_copy 115 = .ok (.iload_n 1, 1) := by decide +kernel
theorem dX5_copy_116 : decode cX5_copy 116 = .ok (.imul, 1) := by decide +kernel
theorem dX5_copy_117 : decode cX5_copy 117 = .ok (.iload_n 2, 1) := by decide +kernel
theorem dX5_copy_118 : decode cX5_copy 118 = .ok (.iadd, 1) := by decide +kernel
theorem dX5_copy_119 : decode cX5_copy 119 = .ok (.iload 6, 2) := by decide +kernel
theorem dX5_copy_121 : decode cX5_copy 121 = .ok (.iadd, 1) := by decide +kernel
theorem dX5_copy_122 : decode cX5_copy 122 = .ok (.laload, 1) := by decide +kernel
theorem dX5_copy_123 : decode cX5_copy 123 = .ok (.lastore, 1) := by decide +kernel
theorem dX5_copy_124 : decode cX5_copy 124 = .ok (.iinc 6 1, 3) := by decide +kernel
theorem dX5_copy_127 : decode cX5_copy 127 = .ok (.goto (-31), 3) := by decide +kernel
theorem dX5_copy_130 : decode cX5_copy 130 = .ok (.iconst 0, 1) := by decide +kernel
theorem dX5_copy_131 : decode cX5_copy 131 = .ok (.istore 6, 2) := by decide +kernel
theorem dX5_copy_133 : decode cX5_copy 133 = .ok (.iload 6, 2) := by decide +kernel
theorem dX5_copy_135 : decode cX5_copy 135 = .ok (.iload 5, 2) := by decide +kernel
theorem dX5_copy_137 : decode cX5_copy 137 = .ok (.if_icmp .ge 31, 3) := by decide +kernel
theorem dX5_copy_140 : decode cX5_copy 140 = .ok (.aload_n 0, 1) := by decide +kernel
theorem dX5_copy_141 : decode cX5_copy 141 = .ok (.getfield 22, 3) := by decide +kernel
theorem dX5_copy_144 : decode cX5_copy 144 = .ok (.bipush 24, 2) := by decide +kernel
theorem dX5_copy_146 : decode cX5_copy 146 = .ok (.iload_n 3, 1) := by decide +kernel
theorem dX5_copy_147 : decode cX5_copy 147 = .ok (.imul, 1) := by decide +kernel
theorem dX5_copy_148 : decode cX5_copy 148 = .ok (.iload 4, 2) := by decide +kernel
theorem dX5_copy_150 : decode cX5_copy 150 = .ok (.iadd, 1) := by decide +kernel
theorem dX5_copy_151 : decode cX5_copy 151 = .ok (.iload 6, 2) := by decide +kernel
theorem dX5_copy_153 : decode cX5_copy 153 = .ok (.iadd, 1) := by decide +kernel
theorem dX5_copy_154 : decode cX5_copy 154 = .ok (.aload_n 0, 1) := by decide +kernel
theorem dX5_copy_155 : decode cX5_copy 155 = .ok (.getfield 32, 3) := by decide +kernel
theorem dX5_copy_158 : decode cX5_copy 158 = .ok (.iload 6, 2) := by decide +kernel
theorem dX5_copy_160 : decode cX5_copy 160 = .ok (.laload, 1) := by decide +kernel
theorem dX5_copy_161 : decode cX5_copy 161 = .ok (.lastore, 1) := by decide +kernel
theorem dX5_copy_162 : decode cX5_copy 162 = .ok (.iinc 6 1, 3) := by decide +kernel
theorem dX5_copy_165 : decode cX5_copy 165 = .ok (.goto (-32), 3) := by decide +kernel
theorem dX5_copy_168 : decode cX5_copy 168 = .ok (.iload 5, 2) := by decide +kernel
theorem dX5_copy_170 : decode cX5_copy 170 = .ok (.ireturn, 1) := by decide +kernel
