theorem dX5_init_0 : decode cX5_init 0 = .ok (.aload_n 0, 1) := by decide +kernel
theorem dX5_init_1 : decode cX5_init 1 = .ok (.invokespecial 1, 3) := by decide +kernel
theorem dX5_init_4 : decode cX5_init 4 = .ok (.aload_n 0, 1) := by decide +kernel
theorem dX5_init_5 : decode cX5_init 5 = .ok (.sipush 480, 3) := by decide +kernel
theorem dX5_init_8 : decode cX5_init 8 = .ok (.newarray .int, 2) := by decide +kernel
theorem dX5_init_10 : decode cX5_init 10 = .ok (.putfield 7, 3) := by decide +kernel
theorem dX5_init_13 : decode cX5_init 13 = .ok (.aload_n 0, 1) := by decide +kernel
theorem dX5_init_14 : decode cX5_init 14 = .ok (.bipush 40, 2) := by decide +kernel
theorem dX5_init_16 : decode cX5_init 16 = .ok (.newarray .int, 2) := by decide +kernel
theorem dX5_init_18 : decode cX5_init 18 = .ok (.putfield 13, 3) := by decide +kernel
theorem dX5_init_21 : decode cX5_init 21 = .ok (.aload_n 0, 1) := by decide +kernel
theorem dX5_init_22 : decode cX5_init 22 = .ok (.iconst 4, 1) := by decide +kernel
theorem dX5_init_23 : decode cX5_init 23 = .ok (.newarray .int, 2) := by decide +kernel
theorem dX5_init_25 : decode cX5_init 25 = .ok (.putfield 16, 3) := by decide +kernel
theorem dX5_init_28 : decode cX5_init 28 = .ok (.aload_n 0, 1) := by decide +kernel
theorem dX5_init_29 : decode cX5_init 29 = .ok (.iconst 4, 1) := by decide +kernel
theorem dX5_init_30 : decode cX5_init 30 = .ok (.newarray .int, 2) := by decide +kernel
theorem dX5_init_32 : decode cX5_init 32 = .ok (.putfield 19, 3) := by decide +kernel
theorem dX5_init_35 : decode cX5_init 35 = .ok (.aload_n 0, 1) := by decide +kernel
theorem dX5_init_36 : decode cX5_init 36 = .ok (.bipush 96, 2) := by decide +kernel
theorem dX5_init_38 : decode cX5_init 38 = .ok (.newarray .long, 2) := by decide +kernel
theorem dX5_init_40 : decode cX5_init 40 = .ok (.putfield 22, 3) := by decide +kernel
theorem dX5_init_43 : decode cX5_init 43 = .ok (.aload_n 0, 1) := by decide +kernel
theorem dX5_init_44 : decode cX5_init 44 = .ok (.bipush 6, 2) := by decide +kernel
theorem dX5_init_46 : decode cX5_init 46 = .ok (.newarray .int, 2) := by decide +kernel
theorem dX5_init_48 : decode cX5_init 48 = .ok (.putfield 26, 3) := by decide +kernel
theorem dX5_init_51 : decode cX5_init 51 = .ok (.aload_n 0, 1) := by decide +kernel
theorem dX5_init_52 : decode cX5_init 52 = .ok (.bipush 12, 2) := by decide +kernel
theorem dX5_init_54 : decode cX5_init 54 = .ok (.newarray .int, 2) := by decide +kernel
theorem dX5_init_56 : decode cX5_init 56 = .ok (.putfield 29, 3) := by decide +kernel
theorem dX5_init_59 : decode cX5_init 59 = .ok (.aload_n 0, 1) := by decide +kernel
theorem dX5_init_60 : decode cX5_init 60 = .ok (.bipush 24, 2) := by decide +kernel
theorem dX5_init_62 : decode cX5_init 62 = .ok (.newarray .long, 2) := by decide +kernel
theorem dX5_init_64 : decode cX5_init 64 = .ok (.putfield 32, 3) := by decide +kernel
theorem dX5_init_67 : decode cX5_init 67 = .ok (.aload_n 0, 1) := by decide +kernel
theorem dX5_init_68 : decode cX5_init 68 = .ok (.getfield 7, 3) := by decide +kernel
theorem dX5_init_71 : decode cX5_init 71 = .ok (.bipush 14, 2) := by decide +kernel
theorem dX5_init_73 : decode cX5_init 73 = .ok (.iconst 1, 1) := by decide +kernel
theorem dX5_init_74 : decode cX5_init 74 = .ok (.iastore, 1) := by decide +kernel
theorem dX5_init_75 : decode cX5_init 75 = .ok (.iconst 0, 1) := by decide +kernel
theorem dX5_init_76 : decode cX5_init 76 = .ok (.istore_n 1, 1) := by decide +kernel
theorem dX5_init_77 : decode cX5_init 77 = .ok (.iload_n 1, 1) := by decide +kernel
theorem dX5_init_78 : decode cX5_init 78 = .ok (.iconst 4, 1) := by decide +kernel
theorem dX5_init_79 : decode cX5_init 79 = .ok (.if_icmp .ge 16, 3) := by decide +kernel
theorem dX5_init_82 : decode cX5_init 82 = .ok (.aload_n 0, 1) := by decide +kernel
theorem dX5_init_83 : decode cX5_init 83 = .ok (.getfield 16, 3) := by decide +kernel
theorem dX5_init_86 : decode cX5_init 86 = .ok (.iload_n 1, 1) := by decide +kernel
theorem dX5_init_87 : decode cX5_init 87 = .ok (.iconst (-1), 1) := by decide +kernel
theorem dX5_init_88 : decode cX5_init 88 = .ok (.iastore, 1) := by decide +kernel
theorem dX5_init_89 : decode cX5_init 89 = .ok (.iinc 1 1, 3) := by decide +kernel
theorem dX5_init_92 : decode cX5_init 92 = .ok (.goto (-15), 3) := by decide +kernel
theorem dX5_init_95 : decode cX5_init 95 = .ok (.return_, 1) := by decide +kernel
theorem dX5_in_0 : decode cX5_in 0 = .ok (.lload_n 0, 1) := by decide +kernel
theorem dX5_in_1 : decode cX5_in 1 = .ok (.lload_n 2, 1) := by decide +kernel
theorem dX5_in_2 : decode cX5_in 2 = .ok (.lcmp, 1) := by decide +kernel
theorem dX5_in_3 : decode cX5_in 3 = .ok (.ifCond .lt 14, 3) := by decide +kernel
theorem dX5_in_6 : decode cX5_in 6 = .ok (.lload_n 0, 1) := by decide +kernel
theorem dX5_in_7 : decode cX5_in 7 = .ok (.lload 4, 2) := by decide +kernel
theorem dX5_in_9 : decode cX5_in 9 = .ok (.lcmp, 1) := by decide +kernel
theorem dX5_in_10 : decode cX5_in 10 = .ok (.ifCond .gt 7, 3) := by decide +kernel
theorem dX5_in_13 : decode cX5_in 13 = .ok (.iconst 1, 1) := by decide +kernel
theorem dX5_in_14 : decode cX5_in 14 = .ok (.goto 4, 3) := by decide +kernel
theorem dX5_in_17 : decode cX5_in 17 = .ok (.iconst 0, 1) := by decide +kernel
theorem dX5_in_18 : decode cX5_in 18 = .ok (.ireturn, 1) := by decide +kernel
theorem dX5_has_0 : decode cX5_has 0 = .ok (.iload_n 0, 1) := by decide +kernel
theorem dX5_has_1 : decode cX5_has 1 = .ok (.iload_n 1, 1) := by decide +kernel
theorem dX5_has_2 : decode cX5_has 2 = .ok (.ishr, 1) := by decide +kernel
theorem dX5_has_3 : decode cX5_has 3 = .ok (.iconst 1, 1) := by decide +kernel
theorem dX5_has_4 : decode cX5_has 4 = .ok (.iand, 1) := by decide +kernel
theorem dX5_has_5 : decode cX5_has 5 = .ok (.iconst 1, 1) := by decide +kernel
theorem dX5_has_6 : decode cX5_has 6 = .ok (.if_icmp .ne 7, 3) := by decide +kernel
theorem dX5_has_9 : decode cX5_has 9 = .ok (.iconst 1, 1) := by decide +kernel
theorem dX5_has_10 : decode cX5_has 10 = .ok (.goto 4, 3) := by decide +kernel
theorem dX5_has_13 : decode cX5_has 13 = .ok (.iconst 0, 1) := by decide +kernel
theorem dX5_has_14 : decode cX5_has 14 = .ok (.ireturn, 1) := by decide +kernel
set_option maxRecDepth 20000 in
theorem ggX5_isWheel_X5_in : GoodIn wsX5_isWheel wsX5_in := goodIn_r _ [5] (by decide +kernel) (by decide +kernel)
set_option maxRecDepth 20000 in
theorem gX5_isWheel_X5_in : GoodIn wsX5_isWheel (va_wsS RX5 35 yX5_in wsX5_in) := goodIn_app (goodIn_of _ (by decide +kernel)) ggX5_isWheel_X5_in
theorem dX5_isWheel_0 : decode cX5_isWheel 0 = .ok (.iload_n 1, 1) := by decide +kernel
theorem dX5_isWheel_1 : decode cX5_isWheel 1 = .ok (.i2l, 1) := by decide +kernel
theorem dX5_isWheel_2 : decode cX5_isWheel 2 = .ok (.lconst 0, 1) := by decide +kernel
theorem dX5_isWheel_3 : decode cX5_isWheel 3 = .ok (.aload_n 0, 1) := by decide +kernel
theorem dX5_isWheel_4 : decode cX5_isWheel 4 = .ok (.getfield 7, 3) := by decide +kernel
theorem dX5_isWheel_7 : decode cX5_isWheel 7 = .ok (.iconst 0, 1) := by decide +kernel
theorem dX5_isWheel_8 : decode cX5_isWheel 8 = .ok (.iaload, 1) := by decide +kernel
theorem dX5_isWheel_9 : decode cX5_isWheel 9 = .ok (.iconst 1, 1) := by decide +kernel
theorem dX5_isWheel_10 : decode cX5_isWheel 10 = .ok (.isub, 1) := by decide +kernel
theorem dX5_isWheel_11 : decode cX5_isWheel 11 = .ok (.i2l, 1) := by decide +kernel
theorem dX5_isWheel_12 : decode cX5_isWheel 12 = .ok (.invokestatic 35, 3) := by decide +kernel
theorem dX5_isWheel_15 : decode cX5_isWheel 15 = .ok (.ireturn, 1) := by decide +kernel
set_option maxRecDepth 20000 in
theorem ggX5_isRegister_X5_in : GoodIn wsX5_isRegister wsX5_in := goodIn_r _ [5] (by decide +kernel) (by decide +kernel)
set_option maxRecDepth 20000 in
theorem gX5_isRegister_X5_in : GoodIn wsX5_isRegister (va_wsS RX5 35 yX5_in wsX5_in) := goodIn_app (goodIn_of _ (by decide +kernel)) ggX5_isRegister_X5_in
theorem dX5_isRegister_0 : decode cX5_isRegister 0 = .ok (.iload_n 0, 1) := by decide +kernel
theorem dX5_isRegister_1 : decode cX5_isRegister 1 = .ok (.i2l, 1) := by decide +kernel
theorem dX5_isRegister_2 : decode cX5_isRegister 2 = .ok (.lconst 0, 1) := by decide +kernel
theorem dX5_isRegister_3 : decode cX5_isRegister 3 = .ok (.ldc2_w 39, 3) := by decide +kernel
theorem dX5_isRegister_6 : decode cX5_isRegister 6 = .ok (.invokestatic 35, 3) := by decide +kernel
theorem dX5_isRegister_9 : decode cX5_isRegister 9 = .ok (.ireturn, 1) := by decide +kernel
theorem dX5_plain_0 : decode cX5_plain 0 = .ok (.iload_n 1, 1) := by decide +kernel
theorem dX5_plain_1 : decode cX5_plain 1 = .ok (.iload_n 2, 1) := by decide +kernel
theorem dX5_plain_2 : decode cX5_plain 2 = .ok (.iadd, 1) := by decide +kernel
theorem dX5_plain_3 : decode cX5_plain 3 = .ok (.iload_n 0, 1) := by decide +kernel
theorem dX5_plain_4 : decode cX5_plain 4 = .ok (.irem, 1) := by decide +kernel
theorem dX5_plain_5 : decode cX5_plain 5 = .ok (.ireturn, 1) := by decide +kernel
set_option maxRecDepth 20000 in
theorem ggX5_losing_X5_plain : GoodIn wsX5_losing wsX5_plain := goodIn_r _ [4] (by decide +kernel) (by decide +kernel)
set_option maxRecDepth 20000 in
theorem gX5_losing_X5_plain : GoodIn wsX5_losing (va_wsS RX5 41 yX5_plain wsX5_plain) := goodIn_app (goodIn_of _ (by decide +kernel)) ggX5_losing_X5_plain
theorem dX5_losing_0 : decode cX5_losing 0 = .ok (.iload_n 0, 1) := by decide +kernel
theorem dX5_losing_1 : decode cX5_losing 1 = .ok (.iload_n 1, 1) := by decide +kernel
theorem dX5_losing_2 : decode cX5_losing 2 = .ok (.iload_n 2, 1) := by decide +kernel
theorem dX5_losing_3 : decode cX5_losing 3 = .ok (.invokestatic 41, 3) := by decide +kernel
theorem dX5_losing_6 : decode cX5_losing 6 = .ok (.istore_n 3, 1) := by decide +kernel
theorem dX5_losing_7 : decode cX5_losing 7 = .ok (.iload_n 1, 1) := by decide +kernel
theorem dX5_losing_8 : decode cX5_losing 8 = .ok (.iload_n 2, 1) := by decide +kernel
theorem dX5_losing_9 : decode cX5_losing 9 = .ok (.iadd, 1) := by decide +kernel
theorem dX5_losing_10 : decode cX5_losing 10 = .ok (.iload_n 0, 1) := by decide +kernel
theorem dX5_losing_11 : decode cX5_losing 11 = .ok (.if_icmp .lt 13, 3) := by decide +kernel
theorem dX5_losing_14 : decode cX5_losing 14 = .ok (.iload_n 3, 1) := by decide +kernel
theorem dX5_losing_15 : decode cX5_losing 15 = .ok (.ifCond .le 9, 3) := by decide +kernel
theorem dX5_losing_18 : decode cX5_losing 18 = .ok (.iload_n 3, 1) := by decide +kernel
theorem dX5_losing_19 : decode cX5_losing 19 = .ok (.iconst 1, 1) := by decide +kernel
theorem dX5_losing_20 : decode cX5_losing 20 = .ok (.isub, 1) := by decide +kernel
theorem dX5_losing_21 : decode cX5_losing 21 = .ok (.goto 4, 3) := by decide +kernel
theorem dX5_losing_24 : decode cX5_losing 24 = .ok (.iload_n 3, 1) := by decide +kernel
theorem dX5_losing_25 : decode cX5_losing 25 = .ok (.ireturn, 1) := by decide +kernel
set_option maxRecDepth 20000 in
theorem ggX5_addedBy_X5_losing : GoodIn wsX5_addedBy wsX5_losing := goodIn_r _ [4, 5, 6, 3, 7] (by decide +kernel) (by decide +kernel)
set_option maxRecDepth 20000 in
theorem gX5_addedBy_X5_losing : GoodIn wsX5_addedBy (va_wsS RX5 45 yX5_losing wsX5_losing) := goodIn_app (goodIn_of _ (by decide +kernel)) ggX5_addedBy_X5_losing
set_option maxRecDepth 20000 in
theorem ggX5_addedBy_X5_plain : GoodIn wsX5_addedBy wsX5_plain := goodIn_r _ [7] (by decide +kernel) (by decide +kernel)
set_option maxRecDepth 20000 in
theorem gX5_addedBy_X5_plain : GoodIn wsX5_addedBy (va_wsS RX5 41 yX5_plain wsX5_plain) := goodIn_app (goodIn_of _ (by decide +kernel)) ggX5_addedBy_X5_plain
theorem dX5_addedBy_0 : decode cX5_addedBy 0 = .ok (.iload_n 0, 1) := by decide +kernel
theorem dX5_addedBy_1 : decode cX5_addedBy 1 = .ok (.tableswitch 93 1 4 #[31, 38, 54, 70], 31) := by decide +kernel
theorem dX5_addedBy_32 : decode cX5_addedBy 32 = .ok (.iload_n 1, 1) := by decide +kernel
theorem dX5_addedBy_33 : decode cX5_addedBy 33 = .ok (.iload_n 2, 1) := by decide +kernel
theorem dX5_addedBy_34 : decode cX5_addedBy 34 = .ok (.iload_n 3, 1) := by decide +kernel
theorem dX5_addedBy_35 : decode cX5_addedBy 35 = .ok (.invokestatic 45, 3) := by decide +kernel
theorem dX5_addedBy_38 : decode cX5_addedBy 38 = .ok (.ireturn, 1) := by decide +kernel
theorem dX5_addedBy_39 : decode cX5_addedBy 39 = .ok (.iload_n 3, 1) := by decide +kernel
theorem dX5_addedBy_40 : decode cX5_addedBy 40 = .ok (.iconst 1, 1) := by decide +kernel
theorem dX5_addedBy_41 : decode cX5_addedBy 41 = .ok (.if_icmp .ne 7, 3) := by decide +kernel
theorem dX5_addedBy_44 : decode cX5_addedBy 44 = .ok (.iload_n 2, 1) := by decide +kernel
theorem dX5_addedBy_45 : decode cX5_addedBy 45 = .ok (.goto 9, 3) := by decide +kernel
theorem dX5_addedBy_48 : decode cX5_addedBy 48 = .ok (.iload_n 1, 1) := by decide +kernel
theorem dX5_addedBy_49 : decode cX5_addedBy 49 = .ok (.iload_n 2, 1) := by decide +kernel
theorem dX5_addedBy_50 : decode cX5_addedBy 50 = .ok (.iload_n 3, 1) := by decide +kernel
theorem dX5_addedBy_51 : decode cX5_addedBy 51 = .ok (.invokestatic 41, 3) := by decide +kernel
theorem dX5_addedBy_54 : decode cX5_addedBy 54 = .ok (.ireturn, 1) := by decide +kernel
theorem dX5_addedBy_55 : decode cX5_addedBy 55 = .ok (.iload_n 2, 1) := by decide +kernel
theorem dX5_addedBy_56 : decode cX5_addedBy 56 = .ok (.iload_n 3, 1) := by decide +kernel
theorem dX5_addedBy_57 : decode cX5_addedBy 57 = .ok (.if_icmp .ne 7, 3) := by decide +kernel
theorem dX5_addedBy_60 : decode cX5_addedBy 60 = .ok (.iconst 0, 1) := by decide +kernel
theorem dX5_addedBy_61 : decode cX5_addedBy 61 = .ok (.goto 9, 3) := by decide +kernel
theorem dX5_addedBy_64 : decode cX5_addedBy 64 = .ok (.iload_n 1, 1) := by decide +kernel
theorem dX5_addedBy_65 : decode cX5_addedBy 65 = .ok (.iload_n 2, 1) := by decide +kernel
theorem dX5_addedBy_66 : decode cX5_addedBy 66 = .ok (.iload_n 3, 1) := by decide +kernel
theorem dX5_addedBy_67 : decode cX5_addedBy 67 = .ok (.invokestatic 45, 3) := by decide +kernel
theorem dX5_addedBy_70 : decode cX5_addedBy 70 = .ok (.ireturn, 1) := by decide +kernel
theorem dX5_addedBy_71 : decode cX5_addedBy 71 = .ok (.iload_n 3, 1) := by decide +kernel
theorem dX5_addedBy_72 : decode cX5_addedBy 72 = .ok (.iconst 1, 1) := by decide +kernel
theorem dX5_addedBy_73 : decode cX5_addedBy 73 = .ok (.if_icmp .eq 10, 3) := by decide +kernel
theorem dX5_addedBy_76 : decode cX5_addedBy 76 = .ok (.iconst 2, 1) := by decide +kernel
theorem dX5_addedBy_77 : decode cX5_addedBy 77 = .ok (.iload_n 3, 1) := by decide +kernel
theorem dX5_addedBy_78 : decode cX5_addedBy 78 = .ok (.imul, 1) := by decide +kernel
theorem dX5_addedBy_79 : decode cX5_addedBy 79 = .ok (.iload_n 1, 1) := by decide +kernel
theorem dX5_addedBy_80 : decode cX5_addedBy 80 = .ok (.if_icmp .le 7, 3) := by decide +kernel
theorem dX5_addedBy_83 : decode cX5_addedBy 83 = .ok (.iload_n 2, 1) := by decide +kernel
theorem dX5_addedBy_84 : decode cX5_addedBy 84 = .ok (.goto 9, 3) := by decide +kernel
theorem dX5_addedBy_87 : decode cX5_addedBy 87 = .ok (.iload_n 1, 1) := by decide +kernel
theorem dX5_addedBy_88 : decode cX5_addedBy 88 = .ok (.iload_n 2, 1) := by decide +kernel
theorem dX5_addedBy_89 : decode cX5_addedBy 89 = .ok (.iload_n 3, 1) := by decide +kernel
theorem dX5_addedBy_90 : decode cX5_addedBy 90 = .ok (.invokestatic 41, 3) := by decide +kernel
theorem dX5_addedBy_93 : decode cX5_addedBy 93 = .ok (.ireturn, 1) := by decide +kernel
theorem dX5_addedBy_94 : decode cX5_addedBy 94 = .ok (.iload_n 1, 1) := by decide +kernel
theorem dX5_addedBy_95 : decode cX5_addedBy 95 = .ok (.iload_n 2, 1) := by decide +kernel
theorem dX5_addedBy_96 : decode cX5_addedBy 96 = .ok (.iload_n 3, 1) := by decide +kernel
theorem dX5_addedBy_97 : decode cX5_addedBy 97 = .ok (.invokestatic 41, 3) := by decide +kernel
theorem dX5_addedBy_100 : decode cX5_addedBy 100 = .ok (.ireturn, 1) := by decide +kernel
set_option maxRecDepth 20000 in
theorem ggX5_added_X5_addedBy : GoodIn wsX5_added wsX5_addedBy := goodIn_r _ [5, 6, 7, 4, 8, 9, 10, 11] (by decide +kernel) (by decide +kernel)
set_option maxRecDepth 20000 in
theorem gX5_added_X5_addedBy : GoodIn wsX5_added (va_wsS RX5 48 yX5_addedBy wsX5_addedBy) := goodIn_app (goodIn_of _ (by decide +kernel)) ggX5_added_X5_addedBy
theorem dX5_added_0 : decode cX5_added 0 = .ok (.aload_n 0, 1) := by decide +kernel
theorem dX5_added_1 : decode cX5_added 1 = .ok (.getfield 7, 3) := by decide +kernel
theorem dX5_added_4 : decode cX5_added 4 = .ok (.iconst 2, 1) := by decide +kernel
theorem dX5_added_5 : decode cX5_added 5 = .ok (.iload_n 1, 1) := by decide +kernel
theorem dX5_added_6 : decode cX5_added 6 = .ok (.iadd, 1) := by decide +kernel
theorem dX5_added_7 : decode cX5_added 7 = .ok (.iaload, 1) := by decide +kernel
theorem dX5_added_8 : decode cX5_added 8 = .ok (.aload_n 0, 1) := by decide +kernel
theorem dX5_added_9 : decode cX5_added 9 = .ok (.getfield 7, 3) := by decide +kernel
theorem dX5_added_12 : decode cX5_added 12 = .ok (.bipush 8, 2) := by decide +kernel
theorem dX5_added_14 : decode cX5_added 14 = .ok (.iload_n 1, 1) := by decide +kernel
theorem dX5_added_15 : decode cX5_added 15 = .ok (.iadd, 1) := by decide +kernel
theorem dX5_added_16 : decode cX5_added 16 = .ok (.iaload, 1) := by decide +kernel
theorem dX5_added_17 : decode cX5_added 17 = .ok (.iload_n 2, 1) := by decide +kernel
theorem dX5_added_18 : decode cX5_added 18 = .ok (.iload_n 3, 1) := by decide +kernel
theorem dX5_added_19 : decode cX5_added 19 = .ok (.invokestatic 48, 3) := by decide +kernel
theorem dX5_added_22 : decode cX5_added 22 = .ok (.ireturn, 1) := by decide +kernel
set_option maxRecDepth 20000 in
theorem ggX5_timed_X5_added : GoodIn wsX5_timed wsX5_added := goodIn_r _ [5, 6, 7, 8, 4, 9, 10, 11, 12, 13, 14, 15, 16, 17, 18, 19, 20, 21, 22, 23, 24, 25, 26, 27, 28, 29, 30] (by decide +kernel) (by decide +kernel)
set_option maxRecDepth 20000 in
theorem gX5_timed_X5_added : GoodIn wsX5_timed (wsV RX5 52 RX5 yX5_added wsX5_added) := goodIn_app (goodIn_of _ (by decide +kernel)) ggX5_timed_X5_added
theorem dX5_timed_0 : decode cX5_timed 0 = .ok (.iconst 0, 1) := by decide +kernel
theorem dX5_timed_1 : decode cX5_timed 1 = .ok (.istore 4, 2) := by decide +kernel
theorem dX5_timed_3 : decode cX5_timed 3 = .ok (.iconst 0, 1) := by decide +kernel
theorem dX5_timed_4 : decode cX5_timed 4 = .ok (.istore 5, 2) := by decide +kernel
theorem dX5_timed_6 : decode cX5_timed 6 = .ok (.iload 5, 2) := by decide +kernel
theorem dX5_timed_8 : decode cX5_timed 8 = .ok (.iload_n 3, 1) := by decide +kernel
theorem dX5_timed_9 : decode cX5_timed 9 = .ok (.if_icmp .ge 19, 3) := by decide +kernel
theorem dX5_timed_12 : decode cX5_timed 12 = .ok (.aload_n 0, 1) := by decide +kernel
theorem dX5_timed_13 : decode cX5_timed 13 = .ok (.iload_n 1, 1) := by decide +kernel
theorem dX5_timed_14 : decode cX5_timed 14 = .ok (.iload 4, 2) := by decide +kernel
theorem dX5_timed_16 : decode cX5_timed 16 = .ok (.iload_n 2, 1) := by decide +kernel
theorem dX5_timed_17 : decode cX5_timed 17 = .ok (.invokevirtual 52, 3) := by decide +kernel
theorem dX5_timed_20 : decode cX5_timed 20 = .ok (.istore 4, 2) := by decide +kernel
theorem dX5_timed_22 : decode cX5_timed 22 = .ok (.iinc 5 1, 3) := by decide +kernel
theorem dX5_timed_25 : decode cX5_timed 25 = .ok (.goto (-19), 3) := by decide +kernel
theorem dX5_timed_28 : decode cX5_timed 28 = .ok (.iload 4, 2) := by decide +kernel
theorem dX5_timed_30 : decode cX5_timed 30 = .ok (.ireturn, 1) := by decide +kernel
theorem dX5_product_0 : decode cX5_product 0 = .ok (.iconst 1, 1) := by decide +kernel
theorem dX5_product_1 : decode cX5_product 1 = .ok (.istore_n 2, 1) := by decide +kernel
theorem dX5_product_2 : decode cX5_product 2 = .ok (.iconst 0, 1) := by decide +kernel
theorem dX5_product_3 : decode cX5_product 3 = .ok (.istore_n 3, 1) := by decide +kernel
theorem dX5_product_4 : decode cX5_product 4 = .ok (.iload_n 3, 1) := by decide +kernel
theorem dX5_product_5 : decode cX5_product 5 = .ok (.iload_n 1, 1) := by decide +kernel
theorem dX5_product_6 : decode cX5_product 6 = .ok (.if_icmp .ge 21, 3) := by decide +kernel
theorem dX5_product_9 : decode cX5_product 9 = .ok (.iload_n 2, 1) := by decide +kernel
theorem dX5_product_10 : decode cX5_product 10 = .ok (.aload_n 0, 1) := by decide +kernel
theorem dX5_product_11 : decode cX5_product 11 = .ok (.getfield 7, 3) := by decide +kernel
theorem dX5_product_14 : decode cX5_product 14 = .ok (.bipush 8, 2) := by decide +kernel
theorem dX5_product_16 : decode cX5_product 16 = .ok (.iload_n 3, 1) := by decide +kernel
theorem dX5_product_17 : decode cX5_product 17 = .ok (.iadd, 1) := by decide +kernel
theorem dX5_product_18 : decode cX5_product 18 = .ok (.iaload, 1) := by decide +kernel
theorem dX5_product_19 : decode cX5_product 19 = .ok (.imul, 1) := by decide +kernel
theorem dX5_product_20 : decode cX5_product 20 = .ok (.istore_n 2, 1) := by decide +kernel
theorem dX5_product_21 : decode cX5_product 21 = .ok (.iinc 3 1, 3) := by decide +kernel
theorem dX5_product_24 : decode cX5_product 24 = .ok (.goto (-20), 3) := by decide +kernel
theorem dX5_product_27 : decode cX5_product 27 = .ok (.iload_n 2, 1) := by decide +kernel
theorem dX5_product_28 : decode cX5_product 28 = .ok (.ireturn, 1) := by decide +kernel
set_option maxRecDepth 20000 in
theorem ggX5_range_X5_product : GoodIn wsX5_range wsX5_product := goodIn_r _ [6, 1, 7, 8, 9, 10, 11, 12, 13, 14, 15, 16, 17, 18, 19, 20, 21] (by decide +kernel) (by decide +kernel)
set_option maxRecDepth 20000 in
theorem gX5_range_X5_product : GoodIn wsX5_range (wsV RX5 55 RX5 yX5_product wsX5_product) := goodIn_app (goodIn_of _ (by decide +kernel)) ggX5_range_X5_product
theorem dX5_range_0 : decode cX5_range 0 = .ok (.aload_n 0, 1) := by decide +kernel
theorem dX5_range_1 : decode cX5_range 1 = .ok (.aload_n 0, 1) := by decide +kernel
theorem dX5_range_2 : decode cX5_range 2 = .ok (.getfield 7, 3) := by decide +kernel
theorem dX5_range_5 : decode cX5_range 5 = .ok (.iconst 1, 1) := by decide +kernel
theorem dX5_range_6 : decode cX5_range 6 = .ok (.iaload, 1) := by decide +kernel
theorem dX5_range_7 : decode cX5_range 7 = .ok (.invokevirtual 55, 3) := by decide +kernel
theorem dX5_range_10 : decode cX5_range 10 = .ok (.ireturn, 1) := by decide +kernel
set_option maxRecDepth 20000 in
theorem ggX5_span_X5_product : GoodIn wsX5_span wsX5_product := goodIn_r _ [6, 1, 7, 8, 9, 10, 11, 12, 13, 14, 15, 16, 17, 18, 19, 20, 21] (by decide +kernel) (by decide +kernel)
set_option maxRecDepth 20000 in
theorem gX5_span_X5_product : GoodIn wsX5_span (wsV RX5 55 RX5 yX5_product wsX5_product) := goodIn_app (goodIn_of _ (by decide +kernel)) ggX5_span_X5_product
theorem dX5_span_0 : decode cX5_span 0 = .ok (.aload_n 0, 1) := by decide +kernel
theorem dX5_span_1 : decode cX5_span 1 = .ok (.aload_n 0, 1) := by decide +kernel
theorem dX5_span_2 : decode cX5_span 2 = .ok (.getfield 7, 3) := by decide +kernel
theorem dX5_span_5 : decode cX5_span 5 = .ok (.iconst 0, 1) := by decide +kernel
theorem dX5_span_6 : decode cX5_span 6 = .ok (.iaload, 1) := by decide +kernel
theorem dX5_span_7 : decode cX5_span 7 = .ok (.invokevirtual 55, 3) := by decide +kernel
theorem dX5_span_10 : decode cX5_span 10 = .ok (.ireturn, 1) := by decide +kernel
theorem dX5_valueOf_0 : decode cX5_valueOf 0 = .ok (.iconst 0, 1) := by decide +kernel
theorem dX5_valueOf_1 : decode cX5_valueOf 1 = .ok (.istore_n 1, 1) := by decide +kernel
theorem dX5_valueOf_2 : decode cX5_valueOf 2 = .ok (.iconst 1, 1) := by decide +kernel
theorem dX5_valueOf_3 : decode cX5_valueOf 3 = .ok (.istore_n 2, 1) := by decide +kernel
theorem dX5_valueOf_4 : decode cX5_valueOf 4 = .ok (.iconst 0, 1) := by decide +kernel
theorem dX5_valueOf_5 : decode cX5_valueOf 5 = .ok (.istore_n 3, 1) := by decide +kernel
theorem dX5_valueOf_6 : decode cX5_valueOf 6 = .ok (.iload_n 3, 1) := by decide +kernel
theorem dX5_valueOf_7 : decode cX5_valueOf 7 = .ok (.aload_n 0, 1) := by decide +kernel
theorem dX5_valueOf_8 : decode cX5_valueOf 8 = .ok (.getfield 7, 3) := by decide +kernel
theorem dX5_valueOf_11 : decode cX5_valueOf 11 = .ok (.iconst 0, 1) := by decide +kernel
theorem dX5_valueOf_12 : decode cX5_valueOf 12 = .ok (.iaload, 1) := by decide +kernel
theorem dX5_valueOf_13 : decode cX5_valueOf 13 = .ok (.if_icmp .ge 48, 3) := by decide +kernel
theorem dX5_valueOf_16 : decode cX5_valueOf 16 = .ok (.iload_n 1, 1) := by decide +kernel
theorem dX5_valueOf_17 : decode cX5_valueOf 17 = .ok (.aload_n 0, 1) := by decide +kernel
theorem dX5_valueOf_18 : decode cX5_valueOf 18 = .ok (.getfield 7, 3) := by decide +kernel
theorem dX5_valueOf_21 : decode cX5_valueOf 21 = .ok (.bipush 8, 2) := by decide +kernel
theorem dX5_valueOf_23 : decode cX5_valueOf 23 = .ok (.iload_n 3, 1) := by decide +kernel
theorem dX5_valueOf_24 : decode cX5_valueOf 24 = .ok (.iadd, 1) := by decide +kernel
theorem dX5_valueOf_25 : decode cX5_valueOf 25 = .ok (.iaload, 1) := by decide +kernel
theorem dX5_valueOf_26 : decode cX5_valueOf 26 = .ok (.irem, 1) := by decide +kernel
theorem dX5_valueOf_27 : decode cX5_valueOf 27 = .ok (.aload_n 0, 1) := by decide +kernel
theorem dX5_valueOf_28 : decode cX5_valueOf 28 = .ok (.getfield 26, 3) := by decide +kernel
theorem dX5_valueOf_31 : decode cX5_valueOf 31 = .ok (.iload_n 3, 1) := by decide +kernel
theorem dX5_valueOf_32 : decode cX5_valueOf 32 = .ok (.iaload, 1) := by decide +kernel
theorem dX5_valueOf_33 : decode cX5_valueOf 33 = .ok (.if_icmp .eq 10, 3) := by decide +kernel
theorem dX5_valueOf_36 : decode cX5_valueOf 36 = .ok (.iload_n 1, 1) := by decide +kernel
theorem dX5_valueOf_37 : decode cX5_valueOf 37 = .ok (.iload_n 2, 1) := by decide +kernel
theorem dX5_valueOf_38 : decode cX5_valueOf 38 = .ok (.iadd, 1) := by decide +kernel
theorem dX5_valueOf_39 : decode cX5_valueOf 39 = .ok (.istore_n 1, 1) := by decide +kernel
theorem dX5_valueOf_40 : decode cX5_valueOf 40 = .ok (.goto (-24), 3) := by decide +kernel
theorem dX5_valueOf_43 : decode cX5_valueOf 43 = .ok (.iload_n 2, 1) := by decide +kernel
theorem dX5_valueOf_44 : decode cX5_valueOf 44 = .ok (.aload_n 0, 1) := by decide +kernel
theorem dX5_valueOf_45 : decode cX5_valueOf 45 = .ok (.getfield 7, 3) := by decide +kernel
theorem dX5_valueOf_48 : decode cX5_valueOf 48 = .ok (.bipush 8, 2) := by decide +kernel
theorem dX5_valueOf_50 : decode cX5_valueOf 50 = .ok (.iload_n 3, 1) := by decide +kernel
theorem dX5_valueOf_51 : decode cX5_valueOf 51 = .ok (.iadd, 1) := by decide +kernel
theorem dX5_valueOf_52 : decode cX5_valueOf 52 = .ok (.iaload, 1) := by decide +kernel
theorem dX5_valueOf_53 : decode cX5_valueOf 53 = .ok (.imul, 1) := by decide +kernel
theorem dX5_valueOf_54 : decode cX5_valueOf 54 = .ok (.istore_n 2, 1) := by decide +kernel
theorem dX5_valueOf_55 : decode cX5_valueOf 55 = .ok (.iinc 3 1, 3) := by decide +kernel
theorem dX5_valueOf_58 : decode cX5_valueOf 58 = .ok (.goto (-52), 3) := by decide +kernel
theorem dX5_valueOf_61 : decode cX5_valueOf 61 = .ok (.iload_n 1, 1) := by decide +kernel
theorem dX5_valueOf_62 : decode cX5_valueOf 62 = .ok (.ireturn, 1) := by decide +kernel
theorem dX5_looks_0 : decode cX5_looks 0 = .ok (.iconst 0, 1) := by decide +kernel
theorem dX5_looks_1 : decode cX5_looks 1 = .ok (.istore_n 2, 1) := by decide +kernel
theorem dX5_looks_2 : decode cX5_looks 2 = .ok (.iload_n 2, 1) := by decide +kernel
theorem dX5_looks_3 : decode cX5_looks 3 = .ok (.bipush 6, 2) := by decide +kernel
theorem dX5_looks_5 : decode cX5_looks 5 = .ok (.if_icmp .ge 29, 3) := by decide +kernel
theorem dX5_looks_8 : decode cX5_looks 8 = .ok (.aload_n 0, 1) := by decide +kernel
theorem dX5_looks_9 : decode cX5_looks 9 = .ok (.getfield 26, 3) := by decide +kernel
theorem dX5_looks_12 : decode cX5_looks 12 = .ok (.iload_n 2, 1) := by decide +kernel
theorem dX5_looks_13 : decode cX5_looks 13 = .ok (.aload_n 0, 1) := by decide +kernel
theorem dX5_looks_14 : decode cX5_looks 14 = .ok (.getfield 7, 3) := by decide +kernel
theorem dX5_looks_17 : decode cX5_looks 17 = .ok (.bipush 15, 2) := by decide +kernel
theorem dX5_looks_19 : decode cX5_looks 19 = .ok (.bipush 6, 2) := by decide +kernel
theorem dX5_looks_21 : decode cX5_looks 21 = .ok (.iload_n 1, 1) := by decide +kernel
theorem dX5_looks_22 : decode cX5_looks 22 = .ok (.imul, 1) := by decide +kernel
theorem dX5_looks_23 : decode cX5_looks 23 = .ok (.iadd, 1) := by decide +kernel
theorem dX5_looks_24 : decode cX5_looks 24 = .ok (.iload_n 2, 1) := by decide +kernel
theorem dX5_looks_25 : decode cX5_looks 25 = .ok (.iadd, 1) := by decide +kernel
theorem dX5_looks_26 : decode cX5_looks 26 = .ok (.iaload, 1) := by decide +kernel
theorem dX5_looks_27 : decode cX5_looks 27 = .ok (.iastore, 1) := by decide +kernel
theorem dX5_looks_28 : decode cX5_looks 28 = .ok (.iinc 2 1, 3) := by decide +kernel
theorem dX5_looks_31 : decode cX5_looks 31 = .ok (.goto (-29), 3) := by decide +kernel
theorem dX5_looks_34 : decode cX5_looks 34 = .ok (.return_, 1) := by decide +kernel
set_option maxRecDepth 20000 in
theorem ggX5_value_X5_looks : GoodIn wsX5_value wsX5_looks := goodIn_r _ [5, 6, 7, 12, 13, 14, 15, 16, 17, 18, 19, 20, 21, 22, 23, 24, 25, 26] (by decide +kernel) (by decide +kernel)
set_option maxRecDepth 20000 in
theorem gX5_value_X5_looks : GoodIn wsX5_value (wsV RX5 59 RX5 yX5_looks wsX5_looks) := goodIn_app (goodIn_of _ (by decide +kernel)) ggX5_value_X5_looks
set_option maxRecDepth 20000 in
theorem ggX5_value_X5_valueOf : GoodIn wsX5_value wsX5_valueOf := goodIn_r _ [11, 7, 6, 12, 13, 14, 15, 16, 17, 18, 19, 20, 21, 22, 23, 24, 25, 26] (by decide +kernel) (by decide +kernel)
set_option maxRecDepth 20000 in
theorem gX5_value_X5_valueOf : GoodIn wsX5_value (wsV RX5 63 RX5 yX5_valueOf wsX5_valueOf) := goodIn_app (goodIn_of _ (by decide +kernel)) ggX5_value_X5_valueOf
theorem dX5_value_0 : decode cX5_value 0 = .ok (.aload_n 0, 1) := by decide +kernel
theorem dX5_value_1 : decode cX5_value 1 = .ok (.iload_n 1, 1) := by decide +kernel
theorem dX5_value_2 : decode cX5_value 2 = .ok (.invokevirtual 59, 3) := by decide +kernel
theorem dX5_value_5 : decode cX5_value 5 = .ok (.aload_n 0, 1) := by decide +kernel
theorem dX5_value_6 : decode cX5_value 6 = .ok (.invokevirtual 63, 3) := by decide +kernel
theorem dX5_value_9 : decode cX5_value 9 = .ok (.ireturn, 1) := by decide +kernel
set_option maxRecDepth 20000 in
theorem ggX5_isLegal_X5_value : GoodIn wsX5_isLegal wsX5_value := goodIn_r _ [5, 6, 7, 8, 4, 9, 10, 11, 12, 13, 14, 15, 24, 25, 26, 27, 28, 29, 30, 31, 32, 33, 34, 35, 36, 37, 38] (by decide +kernel) (by decide +kernel)
set_option maxRecDepth 20000 in
theorem gX5_isLegal_X5_value : GoodIn wsX5_isLegal (wsV RX5 67 RX5 yX5_value wsX5_value) := goodIn_app (goodIn_of _ (by decide +kernel)) ggX5_isLegal_X5_value
set_option maxRecDepth 20000 in
theorem ggX5_isLegal_X5_range : GoodIn wsX5_isLegal wsX5_range := goodIn_r _ [19, 11, 20, 21, 22, 4, 23, 24, 25, 26, 27, 28, 29, 30, 31, 32, 33, 34, 35, 36, 37, 38] (by decide +kernel) (by decide +kernel)
set_option maxRecDepth 20000 in
theorem gX5_isLegal_X5_range : GoodIn wsX5_isLegal (wsV RX5 70 RX5 yX5_range wsX5_range) := goodIn_app (goodIn_of _ (by decide +kernel)) ggX5_isLegal_X5_range
theorem dX5_isLegal_0 : decode cX5_isLegal 0 = .ok (.aload_n 0, 1) := by decide +kernel
theorem dX5_isLegal_1 : decode cX5_isLegal 1 = .ok (.iload_n 1, 1) := by decide +kernel
theorem dX5_isLegal_2 : decode cX5_isLegal 2 = .ok (.invokevirtual 67, 3) := by decide +kernel
theorem dX5_isLegal_5 : decode cX5_isLegal 5 = .ok (.aload_n 0, 1) := by decide +kernel
theorem dX5_isLegal_6 : decode cX5_isLegal 6 = .ok (.invokevirtual 70, 3) := by decide +kernel
theorem dX5_isLegal_9 : decode cX5_isLegal 9 = .ok (.if_icmp .ge 7, 3) := by decide +kernel
theorem dX5_isLegal_12 : decode cX5_isLegal 12 = .ok (.iconst 1, 1) := by decide +kernel
theorem dX5_isLegal_13 : decode cX5_isLegal 13 = .ok (.goto 4, 3) := by decide +kernel
theorem dX5_isLegal_16 : decode cX5_isLegal 16 = .ok (.iconst 0, 1) := by decide +kernel
theorem dX5_isLegal_17 : decode cX5_isLegal 17 = .ok (.ireturn, 1) := by decide +kernel
set_option maxRecDepth 20000 in
theorem ggX5_wrongOf_X5_added : GoodIn wsX5_wrongOf wsX5_added := goodIn_r _ [6, 1, 7, 8, 5, 9, 10, 11, 12, 13, 14, 15, 16, 17, 18, 19, 20, 21, 22, 23, 24, 25, 26, 27, 28, 29, 30] (by decide +kernel) (by decide +kernel)
set_option maxRecDepth 20000 in
theorem gX5_wrongOf_X5_added : GoodIn wsX5_wrongOf (wsV RX5 52 RX5 yX5_added wsX5_added) := goodIn_app (goodIn_of _ (by decide +kernel)) ggX5_wrongOf_X5_added
set_option maxRecDepth 20000 in
theorem ggX5_wrongOf_X5_plain : GoodIn wsX5_wrongOf wsX5_plain := goodIn_r _ [15] (by decide +kernel) (by decide +kernel)
set_option maxRecDepth 20000 in
theorem gX5_wrongOf_X5_plain : GoodIn wsX5_wrongOf (va_wsS RX5 41 yX5_plain wsX5_plain) := goodIn_app (goodIn_of _ (by decide +kernel)) ggX5_wrongOf_X5_plain
theorem dX5_wrongOf_0 : decode cX5_wrongOf 0 = .ok (.iconst 0, 1) := by decide +kernel
theorem dX5_wrongOf_1 : decode cX5_wrongOf 1 = .ok (.istore_n 2, 1) := by decide +kernel
theorem dX5_wrongOf_2 : decode cX5_wrongOf 2 = .ok (.aload_n 0, 1) := by decide +kernel
theorem dX5_wrongOf_3 : decode cX5_wrongOf 3 = .ok (.getfield 7, 3) := by decide +kernel
theorem dX5_wrongOf_6 : decode cX5_wrongOf 6 = .ok (.bipush 8, 2) := by decide +kernel
theorem dX5_wrongOf_8 : decode cX5_wrongOf 8 = .ok (.iload_n 1, 1) := by decide +kernel
theorem dX5_wrongOf_9 : decode cX5_wrongOf 9 = .ok (.iadd, 1) := by decide +kernel
theorem dX5_wrongOf_10 : decode cX5_wrongOf 10 = .ok (.iaload, 1) := by decide +kernel
theorem dX5_wrongOf_11 : decode cX5_wrongOf 11 = .ok (.istore_n 3, 1) := by decide +kernel
theorem dX5_wrongOf_12 : decode cX5_wrongOf 12 = .ok (.iconst 0, 1) := by decide +kernel
theorem dX5_wrongOf_13 : decode cX5_wrongOf 13 = .ok (.istore 4, 2) := by decide +kernel
theorem dX5_wrongOf_15 : decode cX5_wrongOf 15 = .ok (.iload 4, 2) := by decide +kernel
theorem dX5_wrongOf_17 : decode cX5_wrongOf 17 = .ok (.iload_n 3, 1) := by decide +kernel
theorem dX5_wrongOf_18 : decode cX5_wrongOf 18 = .ok (.if_icmp .ge 52, 3) := by decide +kernel
theorem dX5_wrongOf_21 : decode cX5_wrongOf 21 = .ok (.iconst 0, 1) := by decide +kernel
theorem dX5_wrongOf_22 : decode cX5_wrongOf 22 = .ok (.istore 5, 2) := by decide +kernel
theorem dX5_wrongOf_24 : decode cX5_wrongOf 24 = .ok (.iload 5, 2) := by decide +kernel
theorem dX5_wrongOf_26 : decode cX5_wrongOf 26 = .ok (.iload_n 3, 1) := by decide +kernel
theorem dX5_wrongOf_27 : decode cX5_wrongOf 27 = .ok (.if_icmp .ge 37, 3) := by decide +kernel
theorem dX5_wrongOf_30 : decode cX5_wrongOf 30 = .ok (.iload_n 2, 1) := by decide +kernel
theorem dX5_wrongOf_31 : decode cX5_wrongOf 31 = .ok (.aload_n 0, 1) := by decide +kernel
theorem dX5_wrongOf_32 : decode cX5_wrongOf 32 = .ok (.iload_n 1, 1) := by decide +kernel
theorem dX5_wrongOf_33 : decode cX5_wrongOf 33 = .ok (.iload 4, 2) := by decide +kernel
theorem dX5_wrongOf_35 : decode cX5_wrongOf 35 = .ok (.iload 5, 2) := by decide +kernel
theorem dX5_wrongOf_37 : decode cX5_wrongOf 37 = .ok (.invokevirtual 52, 3) := by decide +kernel
theorem dX5_wrongOf_40 : decode cX5_wrongOf 40 = .ok (.iload_n 3, 1) := by decide +kernel
theorem dX5_wrongOf_41 : decode cX5_wrongOf 41 = .ok (.iload 4, 2) := by decide +kernel
theorem dX5_wrongOf_43 : decode cX5_wrongOf 43 = .ok (.iload 5, 2) := by decide +kernel
theorem dX5_wrongOf_45 : decode cX5_wrongOf 45 = .ok (.invokestatic 41, 3) := by decide +kernel
theorem dX5_wrongOf_48 : decode cX5_wrongOf 48 = .ok (.if_icmp .ne 7, 3) := by decide +kernel
theorem dX5_wrongOf_51 : decode cX5_wrongOf 51 = .ok (.iconst 0, 1) := by decide +kernel
theorem dX5_wrongOf_52 : decode cX5_wrongOf 52 = .ok (.goto 4, 3) := by decide +kernel
theorem dX5_wrongOf_55 : decode cX5_wrongOf 55 = .ok (.iconst 1, 1) := by decide +kernel
theorem dX5_wrongOf_56 : decode cX5_wrongOf 56 = .ok (.iadd, 1) := by decide +kernel
theorem dX5_wrongOf_57 : decode cX5_wrongOf 57 = .ok (.istore_n 2, 1) := by decide +kernel
theorem dX5_wrongOf_58 : decode cX5_wrongOf 58 = .ok (.iinc 5 1, 3) := by decide +kernel
theorem dX5_wrongOf_61 : decode cX5_wrongOf 61 = .ok (.goto (-37), 3) := by decide +kernel
theorem dX5_wrongOf_64 : decode cX5_wrongOf 64 = .ok (.iinc 4 1, 3) := by decide +kernel
theorem dX5_wrongOf_67 : decode cX5_wrongOf 67 = .ok (.goto (-52), 3) := by decide +kernel
theorem dX5_wrongOf_70 : decode cX5_wrongOf 70 = .ok (.iload_n 2, 1) := by decide +kernel
theorem dX5_wrongOf_71 : decode cX5_wrongOf 71 = .ok (.ireturn, 1) := by decide +kernel
set_option maxRecDepth 20000 in
theorem ggX5_type_X5_in : GoodIn wsX5_type wsX5_in := goodIn_r _ [8] (by decide +kernel) (by decide +kernel)
set_option maxRecDepth 20000 in
theorem gX5_type_X5_in : GoodIn wsX5_type (va_wsS RX5 35 yX5_in wsX5_in) := goodIn_app (goodIn_of _ (by decide +kernel)) ggX5_type_X5_in
theorem dX5_type_0 : decode cX5_type 0 = .ok (.iload_n 1, 1) := by decide +kernel
theorem dX5_type_1 : decode cX5_type 1 = .ok (.i2l, 1) := by decide +kernel
theorem dX5_type_2 : decode cX5_type 2 = .ok (.ldc2_w 73, 3) := by decide +kernel
theorem dX5_type_5 : decode cX5_type 5 = .ok (.ldc2_w 75, 3) := by decide +kernel
theorem dX5_type_8 : decode cX5_type 8 = .ok (.invokestatic 35, 3) := by decide +kernel
theorem dX5_type_11 : decode cX5_type 11 = .ok (.ifCond .ne 5, 3) := by decide +kernel
theorem dX5_type_14 : decode cX5_type 14 = .ok (.iconst (-1), 1) := by decide +kernel
theorem dX5_type_15 : decode cX5_type 15 = .ok (.ireturn, 1) := by decide +kernel
theorem dX5_type_16 : decode cX5_type 16 = .ok (.aload_n 0, 1) := by decide +kernel
theorem dX5_type_17 : decode cX5_type 17 = .ok (.getfield 77, 3) := by decide +kernel
theorem dX5_type_20 : decode cX5_type 20 = .ok (.bipush 40, 2) := by decide +kernel
theorem dX5_type_22 : decode cX5_type 22 = .ok (.if_icmp .ne 6, 3) := by decide +kernel
theorem dX5_type_25 : decode cX5_type 25 = .ok (.bipush (-3), 2) := by decide +kernel
theorem dX5_type_27 : decode cX5_type 27 = .ok (.ireturn, 1) := by decide +kernel
theorem dX5_type_28 : decode cX5_type 28 = .ok (.aload_n 0, 1) := by decide +kernel
theorem dX5_type_29 : decode cX5_type 29 = .ok (.getfield 13, 3) := by decide +kernel
theorem dX5_type_32 : decode cX5_type 32 = .ok (.aload_n 0, 1) := by decide +kernel
theorem dX5_type_33 : decode cX5_type 33 = .ok (.getfield 77, 3) := by decide +kernel
theorem dX5_type_36 : decode cX5_type 36 = .ok (.iload_n 1, 1) := by decide +kernel
theorem dX5_type_37 : decode cX5_type 37 = .ok (.iastore, 1) := by decide +kernel
theorem dX5_type_38 : decode cX5_type 38 = .ok (.aload_n 0, 1) := by decide +kernel
theorem dX5_type_39 : decode cX5_type 39 = .ok (.dup, 1) := by decide +kernel
theorem dX5_type_40 : decode cX5_type 40 = .ok (.getfield 77, 3) := by decide +kernel
theorem dX5_type_43 : decode cX5_type 43 = .ok (.iconst 1, 1) := by decide +kernel
theorem dX5_type_44 : decode cX5_type 44 = .ok (.iadd, 1) := by decide +kernel
theorem dX5_type_45 : decode cX5_type 45 = .ok (.putfield 77, 3) := by decide +kernel
theorem dX5_type_48 : decode cX5_type 48 = .ok (.aload_n 0, 1) := by decide +kernel
theorem dX5_type_49 : decode cX5_type 49 = .ok (.getfield 77, 3) := by decide +kernel
theorem dX5_type_52 : decode cX5_type 52 = .ok (.ireturn, 1) := by decide +kernel
theorem dX5_blanks_0 : decode cX5_blanks 0 = .ok (.aload_n 0, 1) := by decide +kernel
theorem dX5_blanks_1 : decode cX5_blanks 1 = .ok (.getfield 81, 3) := by decide +kernel
theorem dX5_blanks_4 : decode cX5_blanks 4 = .ok (.aload_n 0, 1) := by decide +kernel
theorem dX5_blanks_5 : decode cX5_blanks 5 = .ok (.getfield 77, 3) := by decide +kernel
theorem dX5_blanks_8 : decode cX5_blanks 8 = .ok (.if_icmp .ge 30, 3) := by decide +kernel
theorem dX5_blanks_11 : decode cX5_blanks 11 = .ok (.aload_n 0, 1) := by decide +kernel
theorem dX5_blanks_12 : decode cX5_blanks 12 = .ok (.getfield 13, 3) := by decide +kernel
theorem dX5_blanks_15 : decode cX5_blanks 15 = .ok (.aload_n 0, 1) := by decide +kernel
theorem dX5_blanks_16 : decode cX5_blanks 16 = .ok (.getfield 81, 3) := by decide +kernel
theorem dX5_blanks_19 : decode cX5_blanks 19 = .ok (.iaload, 1) := by decide +kernel
theorem dX5_blanks_20 : decode cX5_blanks 20 = .ok (.bipush 32, 2) := by decide +kernel
theorem dX5_blanks_22 : decode cX5_blanks 22 = .ok (.if_icmp .ne 16, 3) := by decide +kernel
theorem dX5_blanks_25 : decode cX5_blanks 25 = .ok (.aload_n 0, 1) := by decide +kernel
theorem dX5_blanks_26 : decode cX5_blanks 26 = .ok (.dup, 1) := by decide +kernel
theorem dX5_blanks_27 : decode cX5_blanks 27 = .ok (.getfield 81, 3) := by decide +kernel
theorem dX5_blanks_30 : decode cX5_blanks 30 = .ok (.iconst 1, 1) := by decide +kernel
theorem dX5_blanks_31 : decode cX5_blanks 31 = .ok (.iadd, 1) := by decide +kernel
theorem dX5_blanks_32 : decode cX5_blanks 32 = .ok (.putfield 81, 3) := by decide +kernel
theorem dX5_blanks_35 : decode cX5_blanks 35 = .ok (.goto (-35), 3) := by decide +kernel
theorem dX5_blanks_38 : decode cX5_blanks 38 = .ok (.aload_n 0, 1) := by decide +kernel
theorem dX5_blanks_39 : decode cX5_blanks 39 = .ok (.aload_n 0, 1) := by decide +kernel
theorem dX5_blanks_40 : decode cX5_blanks 40 = .ok (.getfield 81, 3) := by decide +kernel
theorem dX5_blanks_43 : decode cX5_blanks 43 = .ok (.putfield 84, 3) := by decide +kernel
theorem dX5_blanks_46 : decode cX5_blanks 46 = .ok (.return_, 1) := by decide +kernel
theorem dX5_here_0 : decode cX5_here 0 = .ok (.aload_n 0, 1) := by decide +kernel
theorem dX5_here_1 : decode cX5_here 1 = .ok (.getfield 81, 3) := by decide +kernel
theorem dX5_here_4 : decode cX5_here 4 = .ok (.aload_n 0, 1) := by decide +kernel
theorem dX5_here_5 : decode cX5_here 5 = .ok (.getfield 77, 3) := by decide +kernel
theorem dX5_here_8 : decode cX5_here 8 = .ok (.if_icmp .ge 15, 3) := by decide +kernel
theorem dX5_here_11 : decode cX5_here 11 = .ok (.aload_n 0, 1) := by decide +kernel
theorem dX5_here_12 : decode cX5_here 12 = .ok (.getfield 13, 3) := by decide +kernel
theorem dX5_here_15 : decode cX5_here 15 = .ok (.aload_n 0, 1) := by decide +kernel
theorem dX5_here_16 : decode cX5_here 16 = .ok (.getfield 81, 3) := by decide +kernel
theorem dX5_here_19 : decode cX5_here 19 = .ok (.iaload, 1) := by decide +kernel
theorem dX5_here_20 : decode cX5_here 20 = .ok (.goto 4, 3) := by decide +kernel
theorem dX5_here_23 : decode cX5_here 23 = .ok (.iconst (-1), 1) := by decide +kernel
theorem dX5_here_24 : decode cX5_here 24 = .ok (.ireturn, 1) := by decide +kernel
theorem dX5_kindOf_0 : decode cX5_kindOf 0 = .ok (.iload_n 0, 1) := by decide +kernel
theorem dX5_kindOf_1 : decode cX5_kindOf 1 = .ok (.bipush 112, 2) := by decide +kernel
theorem dX5_kindOf_3 : decode cX5_kindOf 3 = .ok (.if_icmp .ne 7, 3) := by decide +kernel
theorem dX5_kindOf_6 : decode cX5_kindOf 6 = .ok (.iconst 0, 1) := by decide +kernel
theorem dX5_kindOf_7 : decode cX5_kindOf 7 = .ok (.goto 44, 3) := by decide +kernel
theorem dX5_kindOf_10 : decode cX5_kindOf 10 = .ok (.iload_n 0, 1) := by decide +kernel
theorem dX5_kindOf_11 : decode cX5_kindOf 11 = .ok (.bipush 108, 2) := by decide +kernel
theorem dX5_kindOf_13 : decode cX5_kindOf 13 = .ok (.if_icmp .ne 7, 3) := by decide +kernel
theorem dX5_kindOf_16 : decode cX5_kindOf 16 = .ok (.iconst 1, 1) := by decide +kernel
theorem dX5_kindOf_17 : decode cX5_kindOf 17 = .ok (.goto 34, 3) := by decide +kernel
theorem dX5_kindOf_20 : decode cX5_kindOf 20 = .ok (.iload_n 0, 1) := by decide +kernel
theorem dX5_kindOf_21 : decode cX5_kindOf 21 = .ok (.bipush 115, 2) := by decide +kernel
theorem dX5_kindOf_23 : decode cX5_kindOf 23 = .ok (.if_icmp .ne 7, 3) := by decide +kernel
theorem dX5_kindOf_26 : decode cX5_kindOf 26 = .ok (.iconst 2, 1) := by decide +kernel
theorem dX5_kindOf_27 : decode cX5_kindOf 27 = .ok (.goto 24, 3) := by decide +kernel
theorem dX5_kindOf_30 : decode cX5_kindOf 30 = .ok (.iload_n 0, 1) := by decide +kernel
theorem dX5_kindOf_31 : decode cX5_kindOf 31 = .ok (.bipush 119, 2) := by decide +kernel
theorem dX5_kindOf_33 : decode cX5_kindOf 33 = .ok (.if_icmp .ne 7, 3) := by decide +kernel
theorem dX5_kindOf_36 : decode cX5_kindOf 36 = .ok (.iconst 3, 1) := by decide +kernel
theorem dX5_kindOf_37 : decode cX5_kindOf 37 = .ok (.goto 14, 3) := by decide +kernel
theorem dX5_kindOf_40 : decode cX5_kindOf 40 = .ok (.iload_n 0, 1) := by decide +kernel
theorem dX5_kindOf_41 : decode cX5_kindOf 41 = .ok (.bipush 122, 2) := by decide +kernel
theorem dX5_kindOf_43 : decode cX5_kindOf 43 = .ok (.if_icmp .ne 7, 3) := by decide +kernel
theorem dX5_kindOf_46 : decode cX5_kindOf 46 = .ok (.iconst 4, 1) := by decide +kernel
theorem dX5_kindOf_47 : decode cX5_kindOf 47 = .ok (.goto 4, 3) := by decide +kernel
theorem dX5_kindOf_50 : decode cX5_kindOf 50 = .ok (.iconst (-1), 1) := by decide +kernel
theorem dX5_kindOf_51 : decode cX5_kindOf 51 = .ok (.ireturn, 1) := by decide +kernel
theorem dX5_divisor_0 : decode cX5_divisor 0 = .ok (.iload_n 0, 1) := by decide +kernel
theorem dX5_divisor_1 : decode cX5_divisor 1 = .ok (.istore_n 2, 1) := by decide +kernel
theorem dX5_divisor_2 : decode cX5_divisor 2 = .ok (.iload_n 1, 1) := by decide +kernel
theorem dX5_divisor_3 : decode cX5_divisor 3 = .ok (.istore_n 3, 1) := by decide +kernel
theorem dX5_divisor_4 : decode cX5_divisor 4 = .ok (.iload_n 3, 1) := by decide +kernel
theorem dX5_divisor_5 : decode cX5_divisor 5 = .ok (.ifCond .eq 16, 3) := by decide +kernel
theorem dX5_divisor_8 : decode cX5_divisor 8 = .ok (.iload_n 2, 1) := by decide +kernel
theorem dX5_divisor_9 : decode cX5_divisor 9 = .ok (.iload_n 3, 1) := by decide +kernel
theorem dX5_divisor_10 : decode cX5_divisor 10 = .ok (.irem, 1) := by decide +kernel
theorem dX5_divisor_11 : decode cX5_divisor 11 = .ok (.istore 4, 2) := by decide +kernel
theorem dX5_divisor_13 : decode cX5_divisor 13 = .ok (.iload_n 3, 1) := by decide +kernel
theorem dX5_divisor_14 : decode cX5_divisor 14 = .ok (.istore_n 2, 1) := by decide +kernel
theorem dX5_divisor_15 : decode cX5_divisor 15 = .ok (.iload 4, 2) := by decide +kernel
theorem dX5_divisor_17 : decode cX5_divisor 17 = .ok (.istore_n 3, 1) := by decide +kernel
theorem dX5_divisor_18 : decode cX5_divisor 18 = .ok (.goto (-14), 3) := by decide +kernel
theorem dX5_divisor_21 : decode cX5_divisor 21 = .ok (.iload_n 2, 1) := by decide +kernel
theorem dX5_divisor_22 : decode cX5_divisor 22 = .ok (.ireturn, 1) := by decide +kernel
set_option maxRecDepth 20000 in
theorem ggX5_mayBeWide_X5_in : GoodIn wsX5_mayBeWide wsX5_in := goodIn_r _ [8] (by decide +kernel) (by decide +kernel)
set_option maxRecDepth 20000 in
theorem gX5_mayBeWide_X5_in : GoodIn wsX5_mayBeWide (va_wsS RX5 35 yX5_in wsX5_in) := goodIn_app (goodIn_of _ (by decide +kernel)) ggX5_mayBeWide_X5_in
set_option maxRecDepth 20000 in
theorem ggX5_mayBeWide_X5_divisor : GoodIn wsX5_mayBeWide wsX5_divisor := goodIn_r _ [11] (by decide +kernel) (by decide +kernel)
set_option maxRecDepth 20000 in
theorem gX5_mayBeWide_X5_divisor : GoodIn wsX5_mayBeWide (va_wsS RX5 94 yX5_divisor wsX5_divisor) := goodIn_app (goodIn_of _ (by decide +kernel)) ggX5_mayBeWide_X5_divisor
theorem dX5_mayBeWide_0 : decode cX5_mayBeWide 0 = .ok (.iload_n 1, 1) := by decide +kernel
theorem dX5_mayBeWide_1 : decode cX5_mayBeWide 1 = .ok (.i2l, 1) := by decide +kernel
theorem dX5_mayBeWide_2 : decode cX5_mayBeWide 2 = .ok (.ldc2_w 87, 3) := by decide +kernel
theorem dX5_mayBeWide_5 : decode cX5_mayBeWide 5 = .ok (.ldc2_w 89, 3) := by decide +kernel
theorem dX5_mayBeWide_8 : decode cX5_mayBeWide 8 = .ok (.invokestatic 35, 3) := by decide +kernel
theorem dX5_mayBeWide_11 : decode cX5_mayBeWide 11 = .ok (.istore_n 2, 1) := by decide +kernel
theorem dX5_mayBeWide_12 : decode cX5_mayBeWide 12 = .ok (.iconst 0, 1) := by decide +kernel
theorem dX5_mayBeWide_13 : decode cX5_mayBeWide 13 = .ok (.istore_n 3, 1) := by decide +kernel
theorem dX5_mayBeWide_14 : decode cX5_mayBeWide 14 = .ok (.iload_n 3, 1) := by decide +kernel
theorem dX5_mayBeWide_15 : decode cX5_mayBeWide 15 = .ok (.aload_n 0, 1) := by decide +kernel
theorem dX5_mayBeWide_16 : decode cX5_mayBeWide 16 = .ok (.getfield 91, 3) := by decide +kernel
theorem dX5_mayBeWide_19 : decode cX5_mayBeWide 19 = .ok (.if_icmp .ge 37, 3) := by decide +kernel
theorem dX5_mayBeWide_22 : decode cX5_mayBeWide 22 = .ok (.iload_n 2, 1) := by decide +kernel
theorem dX5_mayBeWide_23 : decode cX5_mayBeWide 23 = .ok (.ifCond .eq 33, 3) := by decide +kernel
theorem dX5_mayBeWide_26 : decode cX5_mayBeWide 26 = .ok (.aload_n 0, 1) := by decide +kernel
theorem dX5_mayBeWide_27 : decode cX5_mayBeWide 27 = .ok (.getfield 29, 3) := by decide +kernel
theorem dX5_mayBeWide_30 : decode cX5_mayBeWide 30 = .ok (.iconst 2, 1) := by decide +kernel
theorem dX5_mayBeWide_31 : decode cX5_mayBeWide 31 = .ok (.iload_n 3, 1) := by decide +kernel
theorem dX5_mayBeWide_32 : decode cX5_mayBeWide 32 = .ok (.imul, 1) := by decide +kernel
theorem dX5_mayBeWide_33 : decode cX5_mayBeWide 33 = .ok (.iconst 1, 1) := by decide +kernel
theorem dX5_mayBeWide_34 : decode cX5_mayBeWide 34 = .ok (.iadd, 1) := by decide +kernel
theorem dX5_mayBeWide_35 : decode cX5_mayBeWide 35 = .ok (.iaload, 1) := by decide +kernel
theorem dX5_mayBeWide_36 : decode cX5_mayBeWide 36 = .ok (.iload_n 1, 1) := by decide +kernel
theorem dX5_mayBeWide_37 : decode cX5_mayBeWide 37 = .ok (.invokestatic 94, 3) := by decide +kernel
theorem dX5_mayBeWide_40 : decode cX5_mayBeWide 40 = .ok (.iconst 1, 1) := by decide +kernel
theorem dX5_mayBeWide_41 : decode cX5_mayBeWide 41 = .ok (.if_icmp .ne 7, 3) := by decide +kernel
theorem dX5_mayBeWide_44 : decode cX5_mayBeWide 44 = .ok (.iconst 1, 1) := by decide +kernel
theorem dX5_mayBeWide_45 : decode cX5_mayBeWide 45 = .ok (.goto 4, 3) := by decide +kernel
theorem dX5_mayBeWide_48 : decode cX5_mayBeWide 48 = .ok (.iconst 0, 1) := by decide +kernel
theorem dX5_mayBeWide_49 : decode cX5_mayBeWide 49 = .ok (.istore_n 2, 1) := by decide +kernel
theorem dX5_mayBeWide_50 : decode cX5_mayBeWide 50 = .ok (.iinc 3 1, 3) := by decide +kernel
theorem dX5_mayBeWide_53 : decode cX5_mayBeWide 53 = .ok (.goto (-39), 3) := by decide +kernel
theorem dX5_mayBeWide_56 : decode cX5_mayBeWide 56 = .ok (.iload_n 2, 1) := by decide +kernel
theorem dX5_mayBeWide_57 : decode cX5_mayBeWide 57 = .ok (.ireturn, 1) := by decide +kernel
set_option maxRecDepth 20000 in
theorem ggX5_takesWheel_X5_blanks : GoodIn wsX5_takesWheel wsX5_blanks := goodIn_r _ [12, 1, 13, 14, 5, 34, 35, 36, 37, 38, 39, 40, 41, 42, 43, 44, 45, 46, 47, 48] (by decide +kernel) (by decide +kernel)
set_option maxRecDepth 20000 in
theorem gX5_takesWheel_X5_blanks : GoodIn wsX5_takesWheel (wsV RX5 98 RX5 yX5_blanks wsX5_blanks) := goodIn_app (goodIn_of _ (by decide +kernel)) ggX5_takesWheel_X5_blanks
set_option maxRecDepth 20000 in
theorem ggX5_takesWheel_X5_here : GoodIn wsX5_takesWheel wsX5_here := goodIn_r _ [18, 1, 13, 14, 34, 35, 36, 37, 38, 39, 40, 41, 42, 43, 44, 45, 46, 47, 48] (by decide +kernel) (by decide +kernel)
set_option maxRecDepth 20000 in
theorem gX5_takesWheel_X5_here : GoodIn wsX5_takesWheel (wsV RX5 101 RX5 yX5_here wsX5_here) := goodIn_app (goodIn_of _ (by decide +kernel)) ggX5_takesWheel_X5_here
set_option maxRecDepth 20000 in
theorem ggX5_takesWheel_X5_kindOf : GoodIn wsX5_takesWheel wsX5_kindOf := goodIn_r _ [21] (by decide +kernel) (by decide +kernel)
set_option maxRecDepth 20000 in
theorem gX5_takesWheel_X5_kindOf : GoodIn wsX5_takesWheel (va_wsS RX5 104 yX5_kindOf wsX5_kindOf) := goodIn_app (goodIn_of _ (by decide +kernel)) ggX5_takesWheel_X5_kindOf
set_option maxRecDepth 20000 in
theorem ggX5_takesWheel_X5_in : GoodIn wsX5_takesWheel wsX5_in := goodIn_r _ [24] (by decide +kernel) (by decide +kernel)
set_option maxRecDepth 20000 in
theorem gX5_takesWheel_X5_in : GoodIn wsX5_takesWheel (va_wsS RX5 35 yX5_in wsX5_in) := goodIn_app (goodIn_of _ (by decide +kernel)) ggX5_takesWheel_X5_in
set_option maxRecDepth 20000 in
theorem ggX5_takesWheel_X5_mayBeWide : GoodIn wsX5_takesWheel wsX5_mayBeWide := goodIn_r _ [28, 29, 30, 7, 6, 22, 23, 11, 24, 31, 32, 33, 34, 35, 36, 37, 38, 39, 40, 41, 42, 43, 44, 45, 46, 47, 48] (by decide +kernel) (by decide +kernel)
set_option maxRecDepth 20000 in
theorem gX5_takesWheel_X5_mayBeWide : GoodIn wsX5_takesWheel (wsV RX5 114 RX5 yX5_mayBeWide wsX5_mayBeWide) := goodIn_app (goodIn_of _ (by decide +kernel)) ggX5_takesWheel_X5_mayBeWide
theorem dX5_takesWheel_0 : decode cX5_takesWheel 0 = .ok (.aload_n 0, 1) := by decide +kernel
theorem dX5_takesWheel_1 : decode cX5_takesWheel 1 = .ok (.invokevirtual 98, 3) := by decide +kernel
theorem dX5_takesWheel_4 : decode cX5_takesWheel 4 = .ok (.aload_n 0, 1) := by decide +kernel
theorem dX5_takesWheel_5 : decode cX5_takesWheel 5 = .ok (.invokevirtual 101, 3) := by decide +kernel
theorem dX5_takesWheel_8 : decode cX5_takesWheel 8 = .ok (.invokestatic 104, 3) := by decide +kernel
theorem dX5_takesWheel_11 : decode cX5_takesWheel 11 = .ok (.istore_n 1, 1) := by decide +kernel
theorem dX5_takesWheel_12 : decode cX5_takesWheel 12 = .ok (.iload_n 1, 1) := by decide +kernel
theorem dX5_takesWheel_13 : decode cX5_takesWheel 13 = .ok (.ifCond .ge 5, 3) := by decide +kernel
theorem dX5_takesWheel_16 : decode cX5_takesWheel 16 = .ok (.iconst 0, 1) := by decide +kernel
theorem dX5_takesWheel_17 : decode cX5_takesWheel 17 = .ok (.ireturn, 1) := by decide +kernel
theorem dX5_takesWheel_18 : decode cX5_takesWheel 18 = .ok (.aload_n 0, 1) := by decide +kernel
theorem dX5_takesWheel_19 : decode cX5_takesWheel 19 = .ok (.dup, 1) := by decide +kernel
theorem dX5_takesWheel_20 : decode cX5_takesWheel 20 = .ok (.getfield 81, 3) := by decide +kernel
theorem dX5_takesWheel_23 : decode cX5_takesWheel 23 = .ok (.iconst 1, 1) := by decide +kernel
theorem dX5_takesWheel_24 : decode cX5_takesWheel 24 = .ok (.iadd, 1) := by decide +kernel
theorem dX5_takesWheel_25 : decode cX5_takesWheel 25 = .ok (.putfield 81, 3) := by decide +kernel
theorem dX5_takesWheel_28 : decode cX5_takesWheel 28 = .ok (.aload_n 0, 1) := by decide +kernel
theorem dX5_takesWheel_29 : decode cX5_takesWheel 29 = .ok (.invokevirtual 98, 3) := by decide +kernel
theorem dX5_takesWheel_32 : decode cX5_takesWheel 32 = .ok (.aload_n 0, 1) := by decide +kernel
theorem dX5_takesWheel_33 : decode cX5_takesWheel 33 = .ok (.iconst 0, 1) := by decide +kernel
theorem dX5_takesWheel_34 : decode cX5_takesWheel 34 = .ok (.putfield 107, 3) := by decide +kernel
theorem dX5_takesWheel_37 : decode cX5_takesWheel 37 = .ok (.iconst 0, 1) := by decide +kernel
theorem dX5_takesWheel_38 : decode cX5_takesWheel 38 = .ok (.istore_n 2, 1) := by decide +kernel
theorem dX5_takesWheel_39 : decode cX5_takesWheel 39 = .ok (.iload_n 2, 1) := by decide +kernel
theorem dX5_takesWheel_40 : decode cX5_takesWheel 40 = .ok (.iconst 2, 1) := by decide +kernel
theorem dX5_takesWheel_41 : decode cX5_takesWheel 41 = .ok (.if_icmp .ge 55, 3) := by decide +kernel
theorem dX5_takesWheel_44 : decode cX5_takesWheel 44 = .ok (.aload_n 0, 1) := by decide +kernel
theorem dX5_takesWheel_45 : decode cX5_takesWheel 45 = .ok (.invokevirtual 101, 3) := by decide +kernel
theorem dX5_takesWheel_48 : decode cX5_takesWheel 48 = .ok (.i2l, 1) := by decide +kernel
theorem dX5_takesWheel_49 : decode cX5_takesWheel 49 = .ok (.ldc2_w 110, 3) := by decide +kernel
theorem dX5_takesWheel_52 : decode cX5_takesWheel 52 = .ok (.ldc2_w 112, 3) := by decide +kernel
theorem dX5_takesWheel_55 : decode cX5_takesWheel 55 = .ok (.invokestatic 35, 3) := by decide +kernel
theorem dX5_takesWheel_58 : decode cX5_takesWheel 58 = .ok (.ifCond .eq 38, 3) := by decide +kernel
theorem dX5_takesWheel_61 : decode cX5_takesWheel 61 = .ok (.aload_n 0, 1) := by decide +kernel
theorem dX5_takesWheel_62 : decode cX5_takesWheel 62 = .ok (.bipush 10, 2) := by decide +kernel
theorem dX5_takesWheel_64 : decode cX5_takesWheel 64 = .ok (.aload_n 0, 1) := by decide +kernel
theorem dX5_takesWheel_65 : decode cX5_takesWheel 65 = .ok (.getfield 107, 3) := by decide +kernel
theorem dX5_takesWheel_68 : decode cX5_takesWheel 68 = .ok (.imul, 1) := by decide +kernel
theorem dX5_takesWheel_69 : decode cX5_takesWheel 69 = .ok (.aload_n 0, 1) := by decide +kernel
theorem dX5_takesWheel_70 : decode cX5_takesWheel 70 = .ok (.invokevirtual 101, 3) := by decide +kernel
theorem dX5_takesWheel_73 : decode cX5_takesWheel 73 = .ok (.iadd, 1) := by decide +kernel
theorem dX5_takesWheel_74 : decode cX5_takesWheel 74 = .ok (.bipush 48, 2) := by decide +kernel
theorem dX5_takesWheel_76 : decode cX5_takesWheel 76 = .ok (.isub, 1) := by decide +kernel
theorem dX5_takesWheel_77 : decode cX5_takesWheel 77 = .ok (.putfield 107, 3) := by decide +kernel
theorem dX5_takesWheel_80 : decode cX5_takesWheel 80 = .ok (.iinc 2 1, 3) := by decide +kernel
theorem dX5_takesWheel_83 : decode cX5_takesWheel 83 = .ok (.aload_n 0, 1) := by decide +kernel
theorem dX5_takesWheel_84 : decode cX5_takesWheel 84 = .ok (.dup, 1) := by decide +kernel
theorem dX5_takesWheel_85 : decode cX5_takesWheel 85 = .ok (.getfield 81, 3) := by decide +kernel
theorem dX5_takesWheel_88 : decode cX5_takesWheel 88 = .ok (.iconst 1, 1) := by decide +kernel
theorem dX5_takesWheel_89 : decode cX5_takesWheel 89 = .ok (.iadd, 1) := by decide +kernel
theorem dX5_takesWheel_90 : decode cX5_takesWheel 90 = .ok (.putfield 81, 3) := by decide +kernel
theorem dX5_takesWheel_93 : decode cX5_takesWheel 93 = .ok (.goto (-54), 3) := by decide +kernel
theorem dX5_takesWheel_96 : decode cX5_takesWheel 96 = .ok (.iload_n 2, 1) := by decide +kernel
theorem dX5_takesWheel_97 : decode cX5_takesWheel 97 = .ok (.ifCond .eq 14, 3) := by decide +kernel
theorem dX5_takesWheel_100 : decode cX5_takesWheel 100 = .ok (.aload_n 0, 1) := by decide +kernel
theorem dX5_takesWheel_101 : decode cX5_takesWheel 101 = .ok (.aload_n 0, 1) := by decide +kernel
theorem dX5_takesWheel_102 : decode cX5_takesWheel 102 = .ok (.getfield 107, 3) := by decide +kernel
theorem dX5_takesWheel_105 : decode cX5_takesWheel 105 = .ok (.invokevirtual 114, 3) := by decide +kernel
theorem dX5_takesWheel_108 : decode cX5_takesWheel 108 = .ok (.ifCond .ne 5, 3) := by decide +kernel
theorem dX5_takesWheel_111 : decode cX5_takesWheel 111 = .ok (.iconst 0, 1) := by decide +kernel
theorem dX5_takesWheel_112 : decode cX5_takesWheel 112 = .ok (.ireturn, 1) := by decide +kernel
theorem dX5_takesWheel_113 : decode cX5_takesWheel 113 = .ok (.aload_n 0, 1) := by decide +kernel
theorem dX5_takesWheel_114 : decode cX5_takesWheel 114 = .ok (.invokevirtual 101, 3) := by decide +kernel
theorem dX5_takesWheel_117 : decode cX5_takesWheel 117 = .ok (.i2l, 1) := by decide +kernel
theorem dX5_takesWheel_118 : decode cX5_takesWheel 118 = .ok (.ldc2_w 110, 3) := by decide +kernel
theorem dX5_takesWheel_121 : decode cX5_takesWheel 121 = .ok (.ldc2_w 112, 3) := by decide +kernel
theorem dX5_takesWheel_124 : decode cX5_takesWheel 124 = .ok (.invokestatic 35, 3) := by decide +kernel
theorem dX5_takesWheel_127 : decode cX5_takesWheel 127 = .ok (.ifCond .eq 13, 3) := by decide +kernel
theorem dX5_takesWheel_130 : decode cX5_takesWheel 130 = .ok (.aload_n 0, 1) := by decide +kernel
theorem dX5_takesWheel_131 : decode cX5_takesWheel 131 = .ok (.aload_n 0, 1) := by decide +kernel
theorem dX5_takesWheel_132 : decode cX5_takesWheel 132 = .ok (.getfield 81, 3) := by decide +kernel
theorem dX5_takesWheel_135 : decode cX5_takesWheel 135 = .ok (.putfield 84, 3) := by decide +kernel
theorem dX5_takesWheel_138 : decode cX5_takesWheel 138 = .ok (.iconst 0, 1) := by decide +kernel
theorem dX5_takesWheel_139 : decode cX5_takesWheel 139 = .ok (.ireturn, 1) := by decide +kernel
theorem dX5_takesWheel_140 : decode cX5_takesWheel 140 = .ok (.aload_n 0, 1) := by decide +kernel
theorem dX5_takesWheel_141 : decode cX5_takesWheel 141 = .ok (.getfield 29, 3) := by decide +kernel
theorem dX5_takesWheel_144 : decode cX5_takesWheel 144 = .ok (.iconst 2, 1) := by decide +kernel
theorem dX5_takesWheel_145 : decode cX5_takesWheel 145 = .ok (.aload_n 0, 1) := by decide +kernel
theorem dX5_takesWheel_146 : decode cX5_takesWheel 146 = .ok (.getfield 91, 3) := by decide +kernel
theorem dX5_takesWheel_149 : decode cX5_takesWheel 149 = .ok (.imul, 1) := by decide +kernel
theorem dX5_takesWheel_150 : decode cX5_takesWheel 150 = .ok (.iload_n 1, 1) := by decide +kernel
theorem dX5_takesWheel_151 : decode cX5_takesWheel 151 = .ok (.iastore, 1) := by decide +kernel
theorem dX5_takesWheel_152 : decode cX5_takesWheel 152 = .ok (.aload_n 0, 1) := by decide +kernel
theorem dX5_takesWheel_153 : decode cX5_takesWheel 153 = .ok (.getfield 29, 3) := by decide +kernel
theorem dX5_takesWheel_156 : decode cX5_takesWheel 156 = .ok (.iconst 2, 1) := by decide +kernel
theorem dX5_takesWheel_157 : decode cX5_takesWheel 157 = .ok (.aload_n 0, 1) := by decide +kernel
theorem dX5_takesWheel_158 : decode cX5_takesWheel 158 = .ok (.getfield 91, 3) := by decide +kernel
theorem dX5_takesWheel_161 : decode cX5_takesWheel 161 = .ok (.imul, 1) := by decide +kernel
theorem dX5_takesWheel_162 : decode cX5_takesWheel 162 = .ok (.iconst 1, 1) := by decide +kernel
theorem dX5_takesWheel_163 : decode cX5_takesWheel 163 = .ok (.iadd, 1) := by decide +kernel
theorem dX5_takesWheel_164 : decode cX5_takesWheel 164 = .ok (.aload_n 0, 1) := by decide +kernel
theorem dX5_takesWheel_165 : decode cX5_takesWheel 165 = .ok (.getfield 107, 3) := by decide +kernel
theorem dX5_takesWheel_168 : decode cX5_takesWheel 168 = .ok (.iastore, 1) := by decide +kernel
theorem dX5_takesWheel_169 : decode cX5_takesWheel 169 = .ok (.aload_n 0, 1) := by decide +kernel
theorem dX5_takesWheel_170 : decode cX5_takesWheel 170 = .ok (.dup, 1) := by decide +kernel
theorem dX5_takesWheel_171 : decode cX5_takesWheel 171 = .ok (.getfield 91, 3) := by decide +kernel
theorem dX5_takesWheel_174 : decode cX5_takesWheel 174 = .ok (.iconst 1, 1) := by decide +kernel
theorem dX5_takesWheel_175 : decode cX5_takesWheel 175 = .ok (.iadd, 1) := by decide +kernel
theorem dX5_takesWheel_176 : decode cX5_takesWheel 176 = .ok (.putfield 91, 3) := by decide +kernel
theorem dX5_takesWheel_179 : decode cX5_takesWheel 179 = .ok (.iconst 1, 1) := by decide +kernel
theorem dX5_takesWheel_180 : decode cX5_takesWheel 180 = .ok (.ireturn, 1) := by decide +kernel
set_option maxRecDepth 20000 in
theorem ggX5_readsAll_X5_takesWheel : GoodIn wsX5_readsAll wsX5_takesWheel := goodIn_r _ [8, 1, 9, 10, 11, 12, 13, 2, 14, 15, 16, 7, 17, 18, 19, 20, 21, 22, 23, 24, 25, 26, 27, 28, 29, 30, 31, 32, 33, 34, 35, 36, 37, 38, 39, 40, 41, 42, 43, 44, 45, 46, 47, 48, 49, 50, 51, 52, 53] (by decide +kernel) (by decide +kernel)
set_option maxRecDepth 20000 in
theorem gX5_readsAll_X5_takesWheel : GoodIn wsX5_readsAll (wsV RX5 121 RX5 yX5_takesWheel wsX5_takesWheel) := goodIn_app (goodIn_of _ (by decide +kernel)) ggX5_readsAll_X5_takesWheel
set_option maxRecDepth 20000 in
theorem ggX5_readsAll_X5_blanks : GoodIn wsX5_readsAll wsX5_blanks := goodIn_r _ [17, 1, 18, 19, 12, 39, 40, 41, 42, 43, 44, 45, 46, 47, 48, 49, 50, 51, 52, 53] (by decide +kernel) (by decide +kernel)
set_option maxRecDepth 20000 in
theorem gX5_readsAll_X5_blanks : GoodIn wsX5_readsAll (wsV RX5 98 RX5 yX5_blanks wsX5_blanks) := goodIn_app (goodIn_of _ (by decide +kernel)) ggX5_readsAll_X5_blanks
set_option maxRecDepth 20000 in
theorem ggX5_readsAll_X5_here : GoodIn wsX5_readsAll wsX5_here := goodIn_r _ [23, 1, 18, 19, 39, 40, 41, 42, 43, 44, 45, 46, 47, 48, 49, 50, 51, 52, 53] (by decide +kernel) (by decide +kernel)
set_option maxRecDepth 20000 in
theorem gX5_readsAll_X5_here : GoodIn wsX5_readsAll (wsV RX5 101 RX5 yX5_here wsX5_here) := goodIn_app (goodIn_of _ (by decide +kernel)) ggX5_readsAll_X5_here
theorem dX5_readsAll_0 : decode cX5_readsAll 0 = .ok (.aload_n 0, 1) := by decide +kernel
theorem dX5_readsAll_1 : decode cX5_readsAll 1 = .ok (.iconst 0, 1) := by decide +kernel
theorem dX5_readsAll_2 : decode cX5_readsAll 2 = .ok (.putfield 81, 3) := by decide +kernel
theorem dX5_readsAll_5 : decode cX5_readsAll 5 = .ok (.aload_n 0, 1) := by decide +kernel
theorem dX5_readsAll_6 : decode cX5_readsAll 6 = .ok (.iconst 0, 1) := by decide +kernel
theorem dX5_readsAll_7 : decode cX5_readsAll 7 = .ok (.putfield 91, 3) := by decide +kernel
theorem dX5_readsAll_10 : decode cX5_readsAll 10 = .ok (.aload_n 0, 1) := by decide +kernel
theorem dX5_readsAll_11 : decode cX5_readsAll 11 = .ok (.iconst 0, 1) := by decide +kernel
theorem dX5_readsAll_12 : decode cX5_readsAll 12 = .ok (.putfield 118, 3) := by decide +kernel
theorem dX5_readsAll_15 : decode cX5_readsAll 15 = .ok (.iconst 0, 1) := by decide +kernel
theorem dX5_readsAll_16 : decode cX5_readsAll 16 = .ok (.istore_n 1, 1) := by decide +kernel
theorem dX5_readsAll_17 : decode cX5_readsAll 17 = .ok (.aload_n 0, 1) := by decide +kernel
theorem dX5_readsAll_18 : decode cX5_readsAll 18 = .ok (.invokevirtual 121, 3) := by decide +kernel
theorem dX5_readsAll_21 : decode cX5_readsAll 21 = .ok (.ifCond .ne 5, 3) := by decide +kernel
theorem dX5_readsAll_24 : decode cX5_readsAll 24 = .ok (.iconst 0, 1) := by decide +kernel
theorem dX5_readsAll_25 : decode cX5_readsAll 25 = .ok (.ireturn, 1) := by decide +kernel
theorem dX5_readsAll_26 : decode cX5_readsAll 26 = .ok (.aload_n 0, 1) := by decide +kernel
theorem dX5_readsAll_27 : decode cX5_readsAll 27 = .ok (.dup, 1) := by decide +kernel
theorem dX5_readsAll_28 : decode cX5_readsAll 28 = .ok (.getfield 118, 3) := by decide +kernel
theorem dX5_readsAll_31 : decode cX5_readsAll 31 = .ok (.iload_n 1, 1) := by decide +kernel
theorem dX5_readsAll_32 : decode cX5_readsAll 32 = .ok (.ifCond .eq 7, 3) := by decide +kernel
theorem dX5_readsAll_35 : decode cX5_readsAll 35 = .ok (.iconst 0, 1) := by decide +kernel
theorem dX5_readsAll_36 : decode cX5_readsAll 36 = .ok (.goto 4, 3) := by decide +kernel
theorem dX5_readsAll_39 : decode cX5_readsAll 39 = .ok (.iconst 1, 1) := by decide +kernel
theorem dX5_readsAll_40 : decode cX5_readsAll 40 = .ok (.iadd, 1) := by decide +kernel
theorem dX5_readsAll_41 : decode cX5_readsAll 41 = .ok (.putfield 118, 3) := by decide +kernel
theorem dX5_readsAll_44 : decode cX5_readsAll 44 = .ok (.aload_n 0, 1) := by decide +kernel
theorem dX5_readsAll_45 : decode cX5_readsAll 45 = .ok (.invokevirtual 98, 3) := by decide +kernel
theorem dX5_readsAll_48 : decode cX5_readsAll 48 = .ok (.aload_n 0, 1) := by decide +kernel
theorem dX5_readsAll_49 : decode cX5_readsAll 49 = .ok (.invokevirtual 101, 3) := by decide +kernel
theorem dX5_readsAll_52 : decode cX5_readsAll 52 = .ok (.istore_n 2, 1) := by decide +kernel
theorem dX5_readsAll_53 : decode cX5_readsAll 53 = .ok (.iload_n 2, 1) := by decide +kernel
theorem dX5_readsAll_54 : decode cX5_readsAll 54 = .ok (.ifCond .ge 5, 3) := by decide +kernel
theorem dX5_readsAll_57 : decode cX5_readsAll 57 = .ok (.iconst 1, 1) := by decide +kernel
theorem dX5_readsAll_58 : decode cX5_readsAll 58 = .ok (.ireturn, 1) := by decide +kernel
theorem dX5_readsAll_59 : decode cX5_readsAll 59 = .ok (.iload_n 2, 1) := by decide +kernel
theorem dX5_readsAll_60 : decode cX5_readsAll 60 = .ok (.bipush 44, 2) := by decide +kernel
theorem dX5_readsAll_62 : decode cX5_readsAll 62 = .ok (.if_icmp .ne 35, 3) := by decide +kernel
theorem dX5_readsAll_65 : decode cX5_readsAll 65 = .ok (.iload_n 1, 1) := by decide +kernel
theorem dX5_readsAll_66 : decode cX5_readsAll 66 = .ok (.ifCond .eq 19, 3) := by decide +kernel
theorem dX5_readsAll_69 : decode cX5_readsAll 69 = .ok (.aload_n 0, 1) := by decide +kernel
theorem dX5_readsAll_70 : decode cX5_readsAll 70 = .ok (.getfield 91, 3) := by decide +kernel
theorem dX5_readsAll_73 : decode cX5_readsAll 73 = .ok (.aload_n 0, 1) := by decide +kernel
theorem dX5_readsAll_74 : decode cX5_readsAll 74 = .ok (.getfield 118, 3) := by decide +kernel
theorem dX5_readsAll_77 : decode cX5_readsAll 77 = .ok (.isub, 1) := by decide +kernel
theorem dX5_readsAll_78 : decode cX5_readsAll 78 = .ok (.iconst 2, 1) := by decide +kernel
theorem dX5_readsAll_79 : decode cX5_readsAll 79 = .ok (.if_icmp .ge 18, 3) := by decide +kernel
theorem dX5_readsAll_82 : decode cX5_readsAll 82 = .ok (.goto 11, 3) := by decide +kernel
theorem dX5_readsAll_85 : decode cX5_readsAll 85 = .ok (.aload_n 0, 1) := by decide +kernel
theorem dX5_readsAll_86 : decode cX5_readsAll 86 = .ok (.getfield 118, 3) := by decide +kernel
theorem dX5_readsAll_89 : decode cX5_readsAll 89 = .ok (.iconst 4, 1) := by decide +kernel
theorem dX5_readsAll_90 : decode cX5_readsAll 90 = .ok (.if_icmp .ge 7, 3) := by decide +kernel
theorem dX5_readsAll_93 : decode cX5_readsAll 93 = .ok (.iconst 1, 1) := by decide +kernel
theorem dX5_readsAll_94 : decode cX5_readsAll 94 = .ok (.goto 4, 3) := by decide +kernel
theorem dX5_readsAll_97 : decode cX5_readsAll 97 = .ok (.iconst 0, 1) := by decide +kernel
theorem dX5_readsAll_98 : decode cX5_readsAll 98 = .ok (.istore_n 3, 1) := by decide +kernel
theorem dX5_readsAll_99 : decode cX5_readsAll 99 = .ok (.iload_n 2, 1) := by decide +kernel
theorem dX5_readsAll_100 : decode cX5_readsAll 100 = .ok (.bipush 59, 2) := by decide +kernel
theorem dX5_readsAll_102 : decode cX5_readsAll 102 = .ok (.if_icmp .ne 11, 3) := by decide +kernel
theorem dX5_readsAll_105 : decode cX5_readsAll 105 = .ok (.iload_n 1, 1) := by decide +kernel
theorem dX5_readsAll_106 : decode cX5_readsAll 106 = .ok (.ifCond .ne 7, 3) := by decide +kernel
theorem dX5_readsAll_109 : decode cX5_readsAll 109 = .ok (.iconst 1, 1) := by decide +kernel
theorem dX5_readsAll_110 : decode cX5_readsAll 110 = .ok (.goto 4, 3) := by decide +kernel
theorem dX5_readsAll_113 : decode cX5_readsAll 113 = .ok (.iconst 0, 1) := by decide +kernel
theorem dX5_readsAll_114 : decode cX5_readsAll 114 = .ok (.istore 4, 2) := by decide +kernel
theorem dX5_readsAll_116 : decode cX5_readsAll 116 = .ok (.iload_n 3, 1) := by decide +kernel
theorem dX5_readsAll_117 : decode cX5_readsAll 117 = .ok (.ifCond .ne 10, 3) := by decide +kernel
theorem dX5_readsAll_120 : decode cX5_readsAll 120 = .ok (.iload 4, 2) := by decide +kernel
theorem dX5_readsAll_122 : decode cX5_readsAll 122 = .ok (.ifCond .ne 5, 3) := by decide +kernel
theorem dX5_readsAll_125 : decode cX5_readsAll 125 = .ok (.iconst 0, 1) := by decide +kernel
theorem dX5_readsAll_126 : decode cX5_readsAll 126 = .ok (.ireturn, 1) := by decide +kernel
theorem dX5_readsAll_127 : decode cX5_readsAll 127 = .ok (.iload_n 1, 1) := by decide +kernel
theorem dX5_readsAll_128 : decode cX5_readsAll 128 = .ok (.ifCond .ne 8, 3) := by decide +kernel
theorem dX5_readsAll_131 : decode cX5_readsAll 131 = .ok (.iload 4, 2) := by decide +kernel
theorem dX5_readsAll_133 : decode cX5_readsAll 133 = .ok (.ifCond .eq 7, 3) := by decide +kernel
theorem dX5_readsAll_136 : decode cX5_readsAll 136 = .ok (.iconst 1, 1) := by decide +kernel
theorem dX5_readsAll_137 : decode cX5_readsAll 137 = .ok (.goto 4, 3) := by decide +kernel
theorem dX5_readsAll_140 : decode cX5_readsAll 140 = .ok (.iconst 0, 1) := by decide +kernel
theorem dX5_readsAll_141 : decode cX5_readsAll 141 = .ok (.istore_n 1, 1) := by decide +kernel
theorem dX5_readsAll_142 : decode cX5_readsAll 142 = .ok (.aload_n 0, 1) := by decide +kernel
theorem dX5_readsAll_143 : decode cX5_readsAll 143 = .ok (.dup, 1) := by decide +kernel
theorem dX5_readsAll_144 : decode cX5_readsAll 144 = .ok (.getfield 81, 3) := by decide +kernel
theorem dX5_readsAll_147 : decode cX5_readsAll 147 = .ok (.iconst 1, 1) := by decide +kernel
theorem dX5_readsAll_148 : decode cX5_readsAll 148 = .ok (.iadd, 1) := by decide +kernel
theorem dX5_readsAll_149 : decode cX5_readsAll 149 = .ok (.putfield 81, 3) := by decide +kernel
theorem dX5_readsAll_152 : decode cX5_readsAll 152 = .ok (.goto (-135), 3) := by decide +kernel
set_option maxRecDepth 20000 in
theorem ggX5_set_X5_readsAll : GoodIn wsX5_set wsX5_readsAll := goodIn_r _ [11, 12, 4, 5, 13, 14, 15, 10, 16, 17, 18, 19, 2, 6, 20, 21, 22, 23, 1, 24, 25, 26, 27, 28, 29, 30, 31, 32, 33, 34, 35, 36, 37, 38, 39, 40, 41, 42, 43, 44, 45, 46, 47, 48, 49, 50, 51, 52, 53, 54, 55, 56, 57, 58] (by decide +kernel) (by decide +kernel)
set_option maxRecDepth 20000 in
theorem gX5_set_X5_readsAll : GoodIn wsX5_set (wsV RX5 125 RX5 yX5_readsAll wsX5_readsAll) := goodIn_app (goodIn_of _ (by decide +kernel)) ggX5_set_X5_readsAll
theorem dX5_set_0 : decode cX5_set 0 = .ok (.aload_n 0, 1) := by decide +kernel
theorem dX5_set_1 : decode cX5_set 1 = .ok (.invokevirtual 125, 3) := by decide +kernel
theorem dX5_set_4 : decode cX5_set 4 = .ok (.istore_n 1, 1) := by decide +kernel
theorem dX5_set_5 : decode cX5_set 5 = .ok (.aload_n 0, 1) := by decide +kernel
theorem dX5_set_6 : decode cX5_set 6 = .ok (.iconst 0, 1) := by decide +kernel
theorem dX5_set_7 : decode cX5_set 7 = .ok (.putfield 77, 3) := by decide +kernel
theorem dX5_set_10 : decode cX5_set 10 = .ok (.iload_n 1, 1) := by decide +kernel
theorem dX5_set_11 : decode cX5_set 11 = .ok (.ifCond .ne 11, 3) := by decide +kernel
theorem dX5_set_14 : decode cX5_set 14 = .ok (.bipush (-20), 2) := by decide +kernel
theorem dX5_set_16 : decode cX5_set 16 = .ok (.aload_n 0, 1) := by decide +kernel
theorem dX5_set_17 : decode cX5_set 17 = .ok (.getfield 84, 3) := by decide +kernel
theorem dX5_set_20 : decode cX5_set 20 = .ok (.isub, 1) := by decide +kernel
theorem dX5_set_21 : decode cX5_set 21 = .ok (.ireturn, 1) := by decide +kernel
theorem dX5_set_22 : decode cX5_set 22 = .ok (.aload_n 0, 1) := by decide +kernel
theorem dX5_set_23 : decode cX5_set 23 = .ok (.getfield 7, 3) := by decide +kernel
theorem dX5_set_26 : decode cX5_set 26 = .ok (.iconst 0, 1) := by decide +kernel
theorem dX5_set_27 : decode cX5_set 27 = .ok (.aload_n 0, 1) := by decide +kernel
theorem dX5_set_28 : decode cX5_set 28 = .ok (.getfield 91, 3) := by decide +kernel
theorem dX5_set_31 : decode cX5_set 31 = .ok (.iastore, 1) := by decide +kernel
theorem dX5_set_32 : decode cX5_set 32 = .ok (.aload_n 0, 1) := by decide +kernel
theorem dX5_set_33 : decode cX5_set 33 = .ok (.getfield 7, 3) := by decide +kernel
theorem dX5_set_36 : decode cX5_set 36 = .ok (.iconst 1, 1) := by decide +kernel
theorem dX5_set_37 : decode cX5_set 37 = .ok (.aload_n 0, 1) := by decide +kernel
theorem dX5_set_38 : decode cX5_set 38 = .ok (.getfield 118, 3) := by decide +kernel
theorem dX5_set_41 : decode cX5_set 41 = .ok (.iastore, 1) := by decide +kernel
theorem dX5_set_42 : decode cX5_set 42 = .ok (.iconst 0, 1) := by decide +kernel
theorem dX5_set_43 : decode cX5_set 43 = .ok (.istore_n 2, 1) := by decide +kernel
theorem dX5_set_44 : decode cX5_set 44 = .ok (.iload_n 2, 1) := by decide +kernel
theorem dX5_set_45 : decode cX5_set 45 = .ok (.aload_n 0, 1) := by decide +kernel
theorem dX5_set_46 : decode cX5_set 46 = .ok (.getfield 91, 3) := by decide +kernel
theorem dX5_set_49 : decode cX5_set 49 = .ok (.if_icmp .ge 44, 3) := by decide +kernel
theorem dX5_set_52 : decode cX5_set 52 = .ok (.aload_n 0, 1) := by decide +kernel
theorem dX5_set_53 : decode cX5_set 53 = .ok (.getfield 7, 3) := by decide +kernel
theorem dX5_set_56 : decode cX5_set 56 = .ok (.iconst 2, 1) := by decide +kernel
theorem dX5_set_57 : decode cX5_set 57 = .ok (.iload_n 2, 1) := by decide +kernel
theorem dX5_set_58 : decode cX5_set 58 = .ok (.iadd, 1) := by decide +kernel
theorem dX5_set_59 : decode cX5_set 59 = .ok (.aload_n 0, 1) := by decide +kernel
theorem dX5_set_60 : decode cX5_set 60 = .ok (.getfield 29, 3) := by decide +kernel
theorem dX5_set_63 : decode cX5_set 63 = .ok (.iconst 2, 1) := by decide +kernel
theorem dX5_set_64 : decode cX5_set 64 = .ok (.iload_n 2, 1) := by decide +kernel
theorem dX5_set_65 : decode cX5_set 65 = .ok (.imul, 1) := by decide +kernel
theorem dX5_set_66 : decode cX5_set 66 = .ok (.iaload, 1) := by decide +kernel
theorem dX5_set_67 : decode cX5_set 67 = .ok (.iastore, 1) := by decide +kernel
theorem dX5_set_68 : decode cX5_set 68 = .ok (.aload_n 0, 1) := by decide +kernel
theorem dX5_set_69 : decode cX5_set 69 = .ok (.getfield 7, 3) := by decide +kernel
theorem dX5_set_72 : decode cX5_set 72 = .ok (.bipush 8, 2) := by decide +kernel
theorem dX5_set_74 : decode cX5_set 74 = .ok (.iload_n 2, 1) := by decide +kernel
theorem dX5_set_75 : decode cX5_set 75 = .ok (.iadd, 1) := by decide +kernel
theorem dX5_set_76 : decode cX5_set 76 = .ok (.aload_n 0, 1) := by decide +kernel
theorem dX5_set_77 : decode cX5_set 77 = .ok (.getfield 29, 3) := by decide +kernel
theorem dX5_set_80 : decode cX5_set 80 = .ok (.iconst 2, 1) := by decide +kernel
theorem dX5_set_81 : decode cX5_set 81 = .ok (.iload_n 2, 1) := by decide +kernel
theorem dX5_set_82 : decode cX5_set 82 = .ok (.imul, 1) := by decide +kernel
theorem dX5_set_83 : decode cX5_set 83 = .ok (.iconst 1, 1) := by decide +kernel
theorem dX5_set_84 : decode cX5_set 84 = .ok (.iadd, 1) := by decide +kernel
theorem dX5_set_85 : decode cX5_set 85 = .ok (.iaload, 1) := by decide +kernel
theorem dX5_set_86 : decode cX5_set 86 = .ok (.iastore, 1) := by decide +kernel
theorem dX5_set_87 : decode cX5_set 87 = .ok (.iinc 2 1, 3) := by decide +kernel
theorem dX5_set_90 : decode cX5_set 90 = .ok (.goto (-46), 3) := by decide +kernel
theorem dX5_set_93 : decode cX5_set 93 = .ok (.iconst 0, 1) := by decide +kernel
theorem dX5_set_94 : decode cX5_set 94 = .ok (.istore_n 2, 1) := by decide +kernel
theorem dX5_set_95 : decode cX5_set 95 = .ok (.iload_n 2, 1) := by decide +kernel
theorem dX5_set_96 : decode cX5_set 96 = .ok (.bipush 24, 2) := by decide +kernel
theorem dX5_set_98 : decode cX5_set 98 = .ok (.if_icmp .ge 19, 3) := by decide +kernel
theorem dX5_set_101 : decode cX5_set 101 = .ok (.aload_n 0, 1) := by decide +kernel
theorem dX5_set_102 : decode cX5_set 102 = .ok (.getfield 7, 3) := by decide +kernel
theorem dX5_set_105 : decode cX5_set 105 = .ok (.bipush 15, 2) := by decide +kernel
theorem dX5_set_107 : decode cX5_set 107 = .ok (.iload_n 2, 1) := by decide +kernel
theorem dX5_set_108 : decode cX5_set 108 = .ok (.iadd, 1) := by decide +kernel
theorem dX5_set_109 : decode cX5_set 109 = .ok (.iconst 0, 1) := by decide +kernel
theorem dX5_set_110 : decode cX5_set 110 = .ok (.iastore, 1) := by decide +kernel
theorem dX5_set_111 : decode cX5_set 111 = .ok (.iinc 2 1, 3) := by decide +kernel
theorem dX5_set_114 : decode cX5_set 114 = .ok (.goto (-19), 3) := by decide +kernel
theorem dX5_set_117 : decode cX5_set 117 = .ok (.aload_n 0, 1) := by decide +kernel
theorem dX5_set_118 : decode cX5_set 118 = .ok (.getfield 7, 3) := by decide +kernel
theorem dX5_set_121 : decode cX5_set 121 = .ok (.bipush 39, 2) := by decide +kernel
theorem dX5_set_123 : decode cX5_set 123 = .ok (.iconst 0, 1) := by decide +kernel
theorem dX5_set_124 : decode cX5_set 124 = .ok (.iastore, 1) := by decide +kernel
theorem dX5_set_125 : decode cX5_set 125 = .ok (.aload_n 0, 1) := by decide +kernel
theorem dX5_set_126 : decode cX5_set 126 = .ok (.getfield 91, 3) := by decide +kernel
theorem dX5_set_129 : decode cX5_set 129 = .ok (.ireturn, 1) := by decide +kernel
set_option maxRecDepth 20000 in
theorem ggX5_of_X5_isWheel : GoodIn wsX5_of wsX5_isWheel := goodIn_r _ [6, 1, 7, 8, 5, 9, 27, 28, 29, 30, 31, 32, 33, 34, 35, 36, 37, 38, 39, 40, 41] (by decide +kernel) (by decide +kernel)
set_option maxRecDepth 20000 in
theorem gX5_of_X5_isWheel : GoodIn wsX5_of (wsV RX5 128 RX5 yX5_isWheel wsX5_isWheel) := goodIn_app (goodIn_of _ (by decide +kernel)) ggX5_of_X5_isWheel
set_option maxRecDepth 20000 in
theorem ggX5_of_X5_wrongOf : GoodIn wsX5_of wsX5_wrongOf := goodIn_r _ [13, 1, 14, 15, 16, 5, 17, 18, 19, 20, 21, 22, 23, 24, 25, 26, 27, 28, 29, 30, 31, 32, 33, 34, 35, 36, 37, 38, 39, 40, 41] (by decide +kernel) (by decide +kernel)
set_option maxRecDepth 20000 in
theorem gX5_of_X5_wrongOf : GoodIn wsX5_of (wsV RX5 131 RX5 yX5_wrongOf wsX5_wrongOf) := goodIn_app (goodIn_of _ (by decide +kernel)) ggX5_of_X5_wrongOf
theorem dX5_of_0 : decode cX5_of 0 = .ok (.aload_n 0, 1) := by decide +kernel
theorem dX5_of_1 : decode cX5_of 1 = .ok (.iload_n 1, 1) := by decide +kernel
theorem dX5_of_2 : decode cX5_of 2 = .ok (.invokevirtual 128, 3) := by decide +kernel
theorem dX5_of_5 : decode cX5_of 5 = .ok (.ifCond .ne 5, 3) := by decide +kernel
theorem dX5_of_8 : decode cX5_of 8 = .ok (.iconst (-1), 1) := by decide +kernel
theorem dX5_of_9 : decode cX5_of 9 = .ok (.ireturn, 1) := by decide +kernel
theorem dX5_of_10 : decode cX5_of 10 = .ok (.iload_n 2, 1) := by decide +kernel
theorem dX5_of_11 : decode cX5_of 11 = .ok (.tableswitch 70 0 3 #[29, 38, 48, 64], 29) := by decide +kernel
theorem dX5_of_40 : decode cX5_of 40 = .ok (.aload_n 0, 1) := by decide +kernel
theorem dX5_of_41 : decode cX5_of 41 = .ok (.getfield 7, 3) := by decide +kernel
theorem dX5_of_44 : decode cX5_of 44 = .ok (.iconst 2, 1) := by decide +kernel
theorem dX5_of_45 : decode cX5_of 45 = .ok (.iload_n 1, 1) := by decide +kernel
theorem dX5_of_46 : decode cX5_of 46 = .ok (.iadd, 1) := by decide +kernel
theorem dX5_of_47 : decode cX5_of 47 = .ok (.iaload, 1) := by decide +kernel
theorem dX5_of_48 : decode cX5_of 48 = .ok (.ireturn, 1) := by decide +kernel
theorem dX5_of_49 : decode cX5_of 49 = .ok (.aload_n 0, 1) := by decide +kernel
theorem dX5_of_50 : decode cX5_of 50 = .ok (.getfield 7, 3) := by decide +kernel
theorem dX5_of_53 : decode cX5_of 53 = .ok (.bipush 8, 2) := by decide +kernel
theorem dX5_of_55 : decode cX5_of 55 = .ok (.iload_n 1, 1) := by decide +kernel
theorem dX5_of_56 : decode cX5_of 56 = .ok (.iadd, 1) := by decide +kernel
theorem dX5_of_57 : decode cX5_of 57 = .ok (.iaload, 1) := by decide +kernel
theorem dX5_of_58 : decode cX5_of 58 = .ok (.ireturn, 1) := by decide +kernel
theorem dX5_of_59 : decode cX5_of 59 = .ok (.iload_n 1, 1) := by decide +kernel
theorem dX5_of_60 : decode cX5_of 60 = .ok (.aload_n 0, 1) := by decide +kernel
theorem dX5_of_61 : decode cX5_of 61 = .ok (.getfield 7, 3) := by decide +kernel
theorem dX5_of_64 : decode cX5_of 64 = .ok (.iconst 1, 1) := by decide +kernel
theorem dX5_of_65 : decode cX5_of 65 = .ok (.iaload, 1) := by decide +kernel
theorem dX5_of_66 : decode cX5_of 66 = .ok (.if_icmp .ge 7, 3) := by decide +kernel
theorem dX5_of_69 : decode cX5_of 69 = .ok (.iconst 0, 1) := by decide +kernel
theorem dX5_of_70 : decode cX5_of 70 = .ok (.goto 4, 3) := by decide +kernel
theorem dX5_of_73 : decode cX5_of 73 = .ok (.iconst 1, 1) := by decide +kernel
theorem dX5_of_74 : decode cX5_of 74 = .ok (.ireturn, 1) := by decide +kernel
theorem dX5_of_75 : decode cX5_of 75 = .ok (.aload_n 0, 1) := by decide +kernel
theorem dX5_of_76 : decode cX5_of 76 = .ok (.iload_n 1, 1) := by decide +kernel
theorem dX5_of_77 : decode cX5_of 77 = .ok (.invokevirtual 131, 3) := by decide +kernel
theorem dX5_of_80 : decode cX5_of 80 = .ok (.ireturn, 1) := by decide +kernel
theorem dX5_of_81 : decode cX5_of 81 = .ok (.iconst (-1), 1) := by decide +kernel
theorem dX5_of_82 : decode cX5_of 82 = .ok (.ireturn, 1) := by decide +kernel
set_option maxRecDepth 20000 in
theorem ggX5_rest_X5_isRegister : GoodIn wsX5_rest wsX5_isRegister := goodIn_r _ [5, 6, 7, 8, 4, 9] (by decide +kernel) (by decide +kernel)
set_option maxRecDepth 20000 in
theorem gX5_rest_X5_isRegister : GoodIn wsX5_rest (va_wsS RX5 134 yX5_isRegister wsX5_isRegister) := goodIn_app (goodIn_of _ (by decide +kernel)) ggX5_rest_X5_isRegister
set_option maxRecDepth 20000 in
theorem ggX5_rest_X5_isWheel : GoodIn wsX5_rest wsX5_isWheel := goodIn_r _ [13, 1, 7, 8, 4, 9, 14, 15, 16, 17, 18, 19, 20, 21, 22, 23, 24, 25, 26, 27, 28] (by decide +kernel) (by decide +kernel)
set_option maxRecDepth 20000 in
theorem gX5_rest_X5_isWheel : GoodIn wsX5_rest (wsV RX5 128 RX5 yX5_isWheel wsX5_isWheel) := goodIn_app (goodIn_of _ (by decide +kernel)) ggX5_rest_X5_isWheel
theorem dX5_rest_0 : decode cX5_rest 0 = .ok (.iload_n 1, 1) := by decide +kernel
theorem dX5_rest_1 : decode cX5_rest 1 = .ok (.invokestatic 134, 3) := by decide +kernel
theorem dX5_rest_4 : decode cX5_rest 4 = .ok (.ifCond .eq 28, 3) := by decide +kernel
theorem dX5_rest_7 : decode cX5_rest 7 = .ok (.aload_n 0, 1) := by decide +kernel
theorem dX5_rest_8 : decode cX5_rest 8 = .ok (.iload_n 2, 1) := by decide +kernel
theorem dX5_rest_9 : decode cX5_rest 9 = .ok (.invokevirtual 128, 3) := by decide +kernel
theorem dX5_rest_12 : decode cX5_rest 12 = .ok (.ifCond .eq 20, 3) := by decide +kernel
theorem dX5_rest_15 : decode cX5_rest 15 = .ok (.aload_n 0, 1) := by decide +kernel
theorem dX5_rest_16 : decode cX5_rest 16 = .ok (.getfield 7, 3) := by decide +kernel
theorem dX5_rest_19 : decode cX5_rest 19 = .ok (.bipush 15, 2) := by decide +kernel
theorem dX5_rest_21 : decode cX5_rest 21 = .ok (.bipush 6, 2) := by decide +kernel
theorem dX5_rest_23 : decode cX5_rest 23 = .ok (.iload_n 1, 1) := by decide +kernel
theorem dX5_rest_24 : decode cX5_rest 24 = .ok (.imul, 1) := by decide +kernel
theorem dX5_rest_25 : decode cX5_rest 25 = .ok (.iadd, 1) := by decide +kernel
theorem dX5_rest_26 : decode cX5_rest 26 = .ok (.iload_n 2, 1) := by decide +kernel
theorem dX5_rest_27 : decode cX5_rest 27 = .ok (.iadd, 1) := by decide +kernel
theorem dX5_rest_28 : decode cX5_rest 28 = .ok (.iaload, 1) := by decide +kernel
theorem dX5_rest_29 : decode cX5_rest 29 = .ok (.goto 4, 3) := by decide +kernel
theorem dX5_rest_32 : decode cX5_rest 32 = .ok (.iconst (-1), 1) := by decide +kernel
theorem dX5_rest_33 : decode cX5_rest 33 = .ok (.ireturn, 1) := by decide +kernel
set_option maxRecDepth 20000 in
theorem ggX5_at_X5_isRegister : GoodIn wsX5_at wsX5_isRegister := goodIn_r _ [4, 5, 6, 7, 3, 8] (by decide +kernel) (by decide +kernel)
set_option maxRecDepth 20000 in
theorem gX5_at_X5_isRegister : GoodIn wsX5_at (va_wsS RX5 134 yX5_isRegister wsX5_isRegister) := goodIn_app (goodIn_of _ (by decide +kernel)) ggX5_at_X5_isRegister
set_option maxRecDepth 20000 in
theorem ggX5_at_X5_in : GoodIn wsX5_at wsX5_in := goodIn_r _ [8] (by decide +kernel) (by decide +kernel)
set_option maxRecDepth 20000 in
theorem gX5_at_X5_in : GoodIn wsX5_at (va_wsS RX5 35 yX5_in wsX5_in) := goodIn_app (goodIn_of _ (by decide +kernel)) ggX5_at_X5_in
set_option maxRecDepth 20000 in
theorem ggX5_at_X5_value : GoodIn wsX5_at wsX5_value := goodIn_r _ [12, 13, 14, 15, 3, 16, 17, 18, 19, 20, 21, 22, 35, 36, 37, 38, 39, 40, 41, 42, 43, 44, 45, 46, 47, 48, 49] (by decide +kernel) (by decide +kernel)
set_option maxRecDepth 20000 in
theorem gX5_at_X5_value : GoodIn wsX5_at (wsV RX5 67 RX5 yX5_value wsX5_value) := goodIn_app (goodIn_of _ (by decide +kernel)) ggX5_at_X5_value
set_option maxRecDepth 20000 in
theorem ggX5_at_X5_isLegal : GoodIn wsX5_at wsX5_isLegal := goodIn_r _ [26, 9, 10, 11, 3, 12, 13, 14, 15, 16, 17, 18, 19, 20, 21, 22, 27, 28, 29, 30, 31, 32, 33, 34, 35, 36, 37, 38, 39, 40, 41, 42, 43, 44, 45, 46, 47, 48, 49] (by decide +kernel) (by decide +kernel)
set_option maxRecDepth 20000 in
theorem gX5_at_X5_isLegal : GoodIn wsX5_at (wsV RX5 137 RX5 yX5_isLegal wsX5_isLegal) := goodIn_app (goodIn_of _ (by decide +kernel)) ggX5_at_X5_isLegal
theorem dX5_at_0 : decode cX5_at 0 = .ok (.iload_n 1, 1) := by decide +kernel
theorem dX5_at_1 : decode cX5_at 1 = .ok (.invokestatic 134, 3) := by decide +kernel
theorem dX5_at_4 : decode cX5_at 4 = .ok (.ifCond .eq 13, 3) := by decide +kernel
theorem dX5_at_7 : decode cX5_at 7 = .ok (.iload_n 2, 1) := by decide +kernel
theorem dX5_at_8 : decode cX5_at 8 = .ok (.i2l, 1) := by decide +kernel
theorem dX5_at_9 : decode cX5_at 9 = .ok (.lconst 0, 1) := by decide +kernel
theorem dX5_at_10 : decode cX5_at 10 = .ok (.lconst 1, 1) := by decide +kernel
theorem dX5_at_11 : decode cX5_at 11 = .ok (.invokestatic 35, 3) := by decide +kernel
theorem dX5_at_14 : decode cX5_at 14 = .ok (.ifCond .ne 5, 3) := by decide +kernel
theorem dX5_at_17 : decode cX5_at 17 = .ok (.iconst (-1), 1) := by decide +kernel
theorem dX5_at_18 : decode cX5_at 18 = .ok (.ireturn, 1) := by decide +kernel
theorem dX5_at_19 : decode cX5_at 19 = .ok (.iload_n 2, 1) := by decide +kernel
theorem dX5_at_20 : decode cX5_at 20 = .ok (.ifCond .ne 11, 3) := by decide +kernel
theorem dX5_at_23 : decode cX5_at 23 = .ok (.aload_n 0, 1) := by decide +kernel
theorem dX5_at_24 : decode cX5_at 24 = .ok (.iload_n 1, 1) := by decide +kernel
theorem dX5_at_25 : decode cX5_at 25 = .ok (.invokevirtual 67, 3) := by decide +kernel
theorem dX5_at_28 : decode cX5_at 28 = .ok (.goto 16, 3) := by decide +kernel
theorem dX5_at_31 : decode cX5_at 31 = .ok (.aload_n 0, 1) := by decide +kernel
theorem dX5_at_32 : decode cX5_at 32 = .ok (.iload_n 1, 1) := by decide +kernel
theorem dX5_at_33 : decode cX5_at 33 = .ok (.invokevirtual 137, 3) := by decide +kernel
theorem dX5_at_36 : decode cX5_at 36 = .ok (.ifCond .eq 7, 3) := by decide +kernel
theorem dX5_at_39 : decode cX5_at 39 = .ok (.iconst 1, 1) := by decide +kernel
theorem dX5_at_40 : decode cX5_at 40 = .ok (.goto 4, 3) := by decide +kernel
theorem dX5_at_43 : decode cX5_at 43 = .ok (.iconst 0, 1) := by decide +kernel
theorem dX5_at_44 : decode cX5_at 44 = .ok (.ireturn, 1) := by decide +kernel
set_option maxRecDepth 20000 in
theorem ggX5_shows_X5_isWheel : GoodIn wsX5_shows wsX5_isWheel := goodIn_r _ [6, 1, 7, 8, 5, 9, 27, 28, 29, 30, 31, 32, 33, 34, 35, 36, 37, 38, 39, 40, 41] (by decide +kernel) (by decide +kernel)
set_option maxRecDepth 20000 in
theorem gX5_shows_X5_isWheel : GoodIn wsX5_shows (wsV RX5 128 RX5 yX5_isWheel wsX5_isWheel) := goodIn_app (goodIn_of _ (by decide +kernel)) ggX5_shows_X5_isWheel
set_option maxRecDepth 20000 in
theorem ggX5_shows_X5_in : GoodIn wsX5_shows wsX5_in := goodIn_r _ [9] (by decide +kernel) (by decide +kernel)
set_option maxRecDepth 20000 in
theorem gX5_shows_X5_in : GoodIn wsX5_shows (va_wsS RX5 35 yX5_in wsX5_in) := goodIn_app (goodIn_of _ (by decide +kernel)) ggX5_shows_X5_in
set_option maxRecDepth 20000 in
theorem ggX5_shows_X5_added : GoodIn wsX5_shows wsX5_added := goodIn_r _ [13, 1, 14, 15, 5, 16, 17, 18, 19, 20, 21, 22, 27, 28, 29, 30, 31, 32, 33, 34, 35, 36, 37, 38, 39, 40, 41] (by decide +kernel) (by decide +kernel)
set_option maxRecDepth 20000 in
theorem gX5_shows_X5_added : GoodIn wsX5_shows (wsV RX5 52 RX5 yX5_added wsX5_added) := goodIn_app (goodIn_of _ (by decide +kernel)) ggX5_shows_X5_added
set_option maxRecDepth 20000 in
theorem ggX5_shows_X5_timed : GoodIn wsX5_shows wsX5_timed := goodIn_r _ [26, 10, 11, 12, 5, 13, 1, 14, 15, 16, 17, 18, 19, 20, 21, 22, 27, 28, 29, 30, 31, 32, 33, 34, 35, 36, 37, 38, 39, 40, 41] (by decide +kernel) (by decide +kernel)
set_option maxRecDepth 20000 in
theorem gX5_shows_X5_timed : GoodIn wsX5_shows (wsV RX5 140 RX5 yX5_timed wsX5_timed) := goodIn_app (goodIn_of _ (by decide +kernel)) ggX5_shows_X5_timed
theorem dX5_shows_0 : decode cX5_shows 0 = .ok (.aload_n 0, 1) := by decide +kernel
theorem dX5_shows_1 : decode cX5_shows 1 = .ok (.iload_n 1, 1) := by decide +kernel
theorem dX5_shows_2 : decode cX5_shows 2 = .ok (.invokevirtual 128, 3) := by decide +kernel
theorem dX5_shows_5 : decode cX5_shows 5 = .ok (.ifCond .eq 56, 3) := by decide +kernel
theorem dX5_shows_8 : decode cX5_shows 8 = .ok (.iload_n 2, 1) := by decide +kernel
theorem dX5_shows_9 : decode cX5_shows 9 = .ok (.i2l, 1) := by decide +kernel
theorem dX5_shows_10 : decode cX5_shows 10 = .ok (.lconst 0, 1) := by decide +kernel
theorem dX5_shows_11 : decode cX5_shows 11 = .ok (.aload_n 0, 1) := by decide +kernel
theorem dX5_shows_12 : decode cX5_shows 12 = .ok (.getfield 7, 3) := by decide +kernel
theorem dX5_shows_15 : decode cX5_shows 15 = .ok (.bipush 8, 2) := by decide +kernel
theorem dX5_shows_17 : decode cX5_shows 17 = .ok (.iload_n 1, 1) := by decide +kernel
theorem dX5_shows_18 : decode cX5_shows 18 = .ok (.iadd, 1) := by decide +kernel
theorem dX5_shows_19 : decode cX5_shows 19 = .ok (.iaload, 1) := by decide +kernel
theorem dX5_shows_20 : decode cX5_shows 20 = .ok (.iconst 1, 1) := by decide +kernel
theorem dX5_shows_21 : decode cX5_shows 21 = .ok (.isub, 1) := by decide +kernel
theorem dX5_shows_22 : decode cX5_shows 22 = .ok (.i2l, 1) := by decide +kernel
theorem dX5_shows_23 : decode cX5_shows 23 = .ok (.invokestatic 35, 3) := by decide +kernel
theorem dX5_shows_26 : decode cX5_shows 26 = .ok (.ifCond .eq 35, 3) := by decide +kernel
theorem dX5_shows_29 : decode cX5_shows 29 = .ok (.iload_n 3, 1) := by decide +kernel
theorem dX5_shows_30 : decode cX5_shows 30 = .ok (.i2l, 1) := by decide +kernel
theorem dX5_shows_31 : decode cX5_shows 31 = .ok (.lconst 0, 1) := by decide +kernel
theorem dX5_shows_32 : decode cX5_shows 32 = .ok (.aload_n 0, 1) := by decide +kernel
theorem dX5_shows_33 : decode cX5_shows 33 = .ok (.getfield 7, 3) := by decide +kernel
theorem dX5_shows_36 : decode cX5_shows 36 = .ok (.bipush 8, 2) := by decide +kernel
theorem dX5_shows_38 : decode cX5_shows 38 = .ok (.iload_n 1, 1) := by decide +kernel
theorem dX5_shows_39 : decode cX5_shows 39 = .ok (.iadd, 1) := by decide +kernel
theorem dX5_shows_40 : decode cX5_shows 40 = .ok (.iaload, 1) := by decide +kernel
theorem dX5_shows_41 : decode cX5_shows 41 = .ok (.iconst 1, 1) := by decide +kernel
theorem dX5_shows_42 : decode cX5_shows 42 = .ok (.isub, 1) := by decide +kernel
theorem dX5_shows_43 : decode cX5_shows 43 = .ok (.i2l, 1) := by decide +kernel
theorem dX5_shows_44 : decode cX5_shows 44 = .ok (.invokestatic 35, 3) := by decide +kernel
theorem dX5_shows_47 : decode cX5_shows 47 = .ok (.ifCond .eq 14, 3) := by decide +kernel
theorem dX5_shows_50 : decode cX5_shows 50 = .ok (.iload 4, 2) := by decide +kernel
theorem dX5_shows_52 : decode cX5_shows 52 = .ok (.i2l, 1) := by decide +kernel
theorem dX5_shows_53 : decode cX5_shows 53 = .ok (.lconst 0, 1) := by decide +kernel
theorem dX5_shows_54 : decode cX5_shows 54 = .ok (.lconst 1, 1) := by decide +kernel
theorem dX5_shows_55 : decode cX5_shows 55 = .ok (.invokestatic 35, 3) := by decide +kernel
theorem dX5_shows_58 : decode cX5_shows 58 = .ok (.ifCond .ne 5, 3) := by decide +kernel
theorem dX5_shows_61 : decode cX5_shows 61 = .ok (.iconst (-1), 1) := by decide +kernel
theorem dX5_shows_62 : decode cX5_shows 62 = .ok (.ireturn, 1) := by decide +kernel
theorem dX5_shows_63 : decode cX5_shows 63 = .ok (.iload 4, 2) := by decide +kernel
theorem dX5_shows_65 : decode cX5_shows 65 = .ok (.ifCond .ne 13, 3) := by decide +kernel
theorem dX5_shows_68 : decode cX5_shows 68 = .ok (.aload_n 0, 1) := by decide +kernel
theorem dX5_shows_69 : decode cX5_shows 69 = .ok (.iload_n 1, 1) := by decide +kernel
theorem dX5_shows_70 : decode cX5_shows 70 = .ok (.iload_n 2, 1) := by decide +kernel
theorem dX5_shows_71 : decode cX5_shows 71 = .ok (.iload_n 3, 1) := by decide +kernel
theorem dX5_shows_72 : decode cX5_shows 72 = .ok (.invokevirtual 52, 3) := by decide +kernel
theorem dX5_shows_75 : decode cX5_shows 75 = .ok (.goto 10, 3) := by decide +kernel
theorem dX5_shows_78 : decode cX5_shows 78 = .ok (.aload_n 0, 1) := by decide +kernel
theorem dX5_shows_79 : decode cX5_shows 79 = .ok (.iload_n 1, 1) := by decide +kernel
theorem dX5_shows_80 : decode cX5_shows 80 = .ok (.iload_n 2, 1) := by decide +kernel
theorem dX5_shows_81 : decode cX5_shows 81 = .ok (.iload_n 3, 1) := by decide +kernel
theorem dX5_shows_82 : decode cX5_shows 82 = .ok (.invokevirtual 140, 3) := by decide +kernel
theorem dX5_shows_85 : decode cX5_shows 85 = .ok (.ireturn, 1) := by decide +kernel
set_option maxRecDepth 20000 in
theorem ggX5_legals_X5_isLegal : GoodIn wsX5_legals wsX5_isLegal := goodIn_r _ [5, 6, 7, 8, 4, 9, 10, 11, 12, 13, 14, 15, 16, 17, 18, 19, 20, 21, 22, 23, 24, 25, 26, 27, 28, 29, 30, 31, 32, 33, 34, 35, 36, 37, 38, 39, 40, 41, 42] (by decide +kernel) (by decide +kernel)
set_option maxRecDepth 20000 in
theorem gX5_legals_X5_isLegal : GoodIn wsX5_legals (wsV RX5 137 RX5 yX5_isLegal wsX5_isLegal) := goodIn_app (goodIn_of _ (by decide +kernel)) ggX5_legals_X5_isLegal
theorem dX5_legals_0 : decode cX5_legals 0 = .ok (.iconst 0, 1) := by decide +kernel
theorem dX5_legals_1 : decode cX5_legals 1 = .ok (.istore_n 1, 1) := by decide +kernel
theorem dX5_legals_2 : decode cX5_legals 2 = .ok (.iconst 0, 1) := by decide +kernel
theorem dX5_legals_3 : decode cX5_legals 3 = .ok (.istore_n 2, 1) := by decide +kernel
theorem dX5_legals_4 : decode cX5_legals 4 = .ok (.iload_n 2, 1) := by decide +kernel
theorem dX5_legals_5 : decode cX5_legals 5 = .ok (.iconst 4, 1) := by decide +kernel
theorem dX5_legals_6 : decode cX5_legals 6 = .ok (.if_icmp .ge 27, 3) := by decide +kernel
theorem dX5_legals_9 : decode cX5_legals 9 = .ok (.iload_n 1, 1) := by decide +kernel
theorem dX5_legals_10 : decode cX5_legals 10 = .ok (.aload_n 0, 1) := by decide +kernel
theorem dX5_legals_11 : decode cX5_legals 11 = .ok (.iload_n 2, 1) := by decide +kernel
theorem dX5_legals_12 : decode cX5_legals 12 = .ok (.invokevirtual 137, 3) := by decide +kernel
theorem dX5_legals_15 : decode cX5_legals 15 = .ok (.ifCond .eq 9, 3) := by decide +kernel
theorem dX5_legals_18 : decode cX5_legals 18 = .ok (.iconst 1, 1) := by decide +kernel
theorem dX5_legals_19 : decode cX5_legals 19 = .ok (.iload_n 2, 1) := by decide +kernel
theorem dX5_legals_20 : decode cX5_legals 20 = .ok (.ishl, 1) := by decide +kernel
theorem dX5_legals_21 : decode cX5_legals 21 = .ok (.goto 4, 3) := by decide +kernel
theorem dX5_legals_24 : decode cX5_legals 24 = .ok (.iconst 0, 1) := by decide +kernel
theorem dX5_legals_25 : decode cX5_legals 25 = .ok (.ior, 1) := by decide +kernel
theorem dX5_legals_26 : decode cX5_legals 26 = .ok (.istore_n 1, 1) := by decide +kernel
theorem dX5_legals_27 : decode cX5_legals 27 = .ok (.iinc 2 1, 3) := by decide +kernel
theorem dX5_legals_30 : decode cX5_legals 30 = .ok (.goto (-26), 3) := by decide +kernel
theorem dX5_legals_33 : decode cX5_legals 33 = .ok (.iload_n 1, 1) := by decide +kernel
theorem dX5_legals_34 : decode cX5_legals 34 = .ok (.ireturn, 1) := by decide +kernel
theorem dX5_plains_0 : decode cX5_plains 0 = .ok (.iconst 0, 1) := by decide +kernel
theorem dX5_plains_1 : decode cX5_plains 1 = .ok (.istore_n 1, 1) := by decide +kernel
theorem dX5_plains_2 : decode cX5_plains 2 = .ok (.iconst 0, 1) := by decide +kernel
theorem dX5_plains_3 : decode cX5_plains 3 = .ok (.istore_n 2, 1) := by decide +kernel
theorem dX5_plains_4 : decode cX5_plains 4 = .ok (.iload_n 2, 1) := by decide +kernel
theorem dX5_plains_5 : decode cX5_plains 5 = .ok (.aload_n 0, 1) := by decide +kernel
theorem dX5_plains_6 : decode cX5_plains 6 = .ok (.getfield 7, 3) := by decide +kernel
theorem dX5_plains_9 : decode cX5_plains 9 = .ok (.iconst 0, 1) := by decide +kernel
theorem dX5_plains_10 : decode cX5_plains 10 = .ok (.iaload, 1) := by decide +kernel
theorem dX5_plains_11 : decode cX5_plains 11 = .ok (.if_icmp .ge 30, 3) := by decide +kernel
theorem dX5_plains_14 : decode cX5_plains 14 = .ok (.iload_n 1, 1) := by decide +kernel
theorem dX5_plains_15 : decode cX5_plains 15 = .ok (.aload_n 0, 1) := by decide +kernel
theorem dX5_plains_16 : decode cX5_plains 16 = .ok (.getfield 7, 3) := by decide +kernel
theorem dX5_plains_19 : decode cX5_plains 19 = .ok (.iconst 2, 1) := by decide +kernel
theorem dX5_plains_20 : decode cX5_plains 20 = .ok (.iload_n 2, 1) := by decide +kernel
theorem dX5_plains_21 : decode cX5_plains 21 = .ok (.iadd, 1) := by decide +kernel
theorem dX5_plains_22 : decode cX5_plains 22 = .ok (.iaload, 1) := by decide +kernel
theorem dX5_plains_23 : decode cX5_plains 23 = .ok (.ifCond .ne 9, 3) := by decide +kernel
theorem dX5_plains_26 : decode cX5_plains 26 = .ok (.iconst 1, 1) := by decide +kernel
theorem dX5_plains_27 : decode cX5_plains 27 = .ok (.iload_n 2, 1) := by decide +kernel
theorem dX5_plains_28 : decode cX5_plains 28 = .ok (.ishl, 1) := by decide +kernel
theorem dX5_plains_29 : decode cX5_plains 29 = .ok (.goto 4, 3) := by decide +kernel
theorem dX5_plains_32 : decode cX5_plains 32 = .ok (.iconst 0, 1) := by decide +kernel
theorem dX5_plains_33 : decode cX5_plains 33 = .ok (.ior, 1) := by decide +kernel
theorem dX5_plains_34 : decode cX5_plains 34 = .ok (.istore_n 1, 1) := by decide +kernel
theorem dX5_plains_35 : decode cX5_plains 35 = .ok (.iinc 2 1, 3) := by decide +kernel
theorem dX5_plains_38 : decode cX5_plains 38 = .ok (.goto (-34), 3) := by decide +kernel
theorem dX5_plains_41 : decode cX5_plains 41 = .ok (.iload_n 1, 1) := by decide +kernel
theorem dX5_plains_42 : decode cX5_plains 42 = .ok (.ireturn, 1) := by decide +kernel
set_option maxRecDepth 20000 in
theorem ggX5_count_X5_range : GoodIn wsX5_count wsX5_range := goodIn_r _ [6, 1, 7, 8, 9, 5, 10, 40, 41, 42, 43, 44, 45, 46, 47, 48, 49, 50, 51, 52, 53, 54] (by decide +kernel) (by decide +kernel)
set_option maxRecDepth 20000 in
theorem gX5_count_X5_range : GoodIn wsX5_count (wsV RX5 70 RX5 yX5_range wsX5_range) := goodIn_app (goodIn_of _ (by decide +kernel)) ggX5_count_X5_range
set_option maxRecDepth 20000 in
theorem ggX5_count_X5_span : GoodIn wsX5_count wsX5_span := goodIn_r _ [14, 1, 7, 8, 9, 5, 10, 40, 41, 42, 43, 44, 45, 46, 47, 48, 49, 50, 51, 52, 53, 54] (by decide +kernel) (by decide +kernel)
set_option maxRecDepth 20000 in
theorem gX5_count_X5_span : GoodIn wsX5_count (wsV RX5 143 RX5 yX5_span wsX5_span) := goodIn_app (goodIn_of _ (by decide +kernel)) ggX5_count_X5_span
set_option maxRecDepth 20000 in
theorem ggX5_count_X5_legals : GoodIn wsX5_count wsX5_legals := goodIn_r _ [18, 19, 20, 21, 5, 22, 23, 24, 25, 26, 27, 28, 29, 30, 31, 1, 32, 33, 34, 35, 2, 3, 4, 6, 7, 8, 9, 10, 40, 41, 42, 43, 44, 45, 46, 47, 48, 49, 50, 51, 52, 53, 54] (by decide +kernel) (by decide +kernel)
set_option maxRecDepth 20000 in
theorem gX5_count_X5_legals : GoodIn wsX5_count (wsV RX5 146 RX5 yX5_legals wsX5_legals) := goodIn_app (goodIn_of _ (by decide +kernel)) ggX5_count_X5_legals
set_option maxRecDepth 20000 in
theorem ggX5_count_X5_plains : GoodIn wsX5_count wsX5_plains := goodIn_r _ [39, 1, 40, 41, 42, 43, 44, 45, 46, 47, 48, 49, 50, 51, 52, 53, 54] (by decide +kernel) (by decide +kernel)
set_option maxRecDepth 20000 in
theorem gX5_count_X5_plains : GoodIn wsX5_count (wsV RX5 149 RX5 yX5_plains wsX5_plains) := goodIn_app (goodIn_of _ (by decide +kernel)) ggX5_count_X5_plains
theorem dX5_count_0 : decode cX5_count 0 = .ok (.iload_n 1, 1) := by decide +kernel
theorem dX5_count_1 : decode cX5_count 1 = .ok (.tableswitch 85 0 6 #[43, 50, 57, 62, 67, 72, 77], 43) := by decide +kernel
theorem dX5_count_44 : decode cX5_count 44 = .ok (.aload_n 0, 1) := by decide +kernel
theorem dX5_count_45 : decode cX5_count 45 = .ok (.getfield 7, 3) := by decide +kernel
theorem dX5_count_48 : decode cX5_count 48 = .ok (.iconst 0, 1) := by decide +kernel
theorem dX5_count_49 : decode cX5_count 49 = .ok (.iaload, 1) := by decide +kernel
theorem dX5_count_50 : decode cX5_count 50 = .ok (.ireturn, 1) := by decide +kernel
theorem dX5_count_51 : decode cX5_count 51 = .ok (.aload_n 0, 1) := by decide +kernel
theorem dX5_count_52 : decode cX5_count 52 = .ok (.getfield 7, 3) := by decide +kernel
theorem dX5_count_55 : decode cX5_count 55 = .ok (.iconst 1, 1) := by decide +kernel
theorem dX5_count_56 : decode cX5_count 56 = .ok (.iaload, 1) := by decide +kernel
theorem dX5_count_57 : decode cX5_count 57 = .ok (.ireturn, 1) := by decide +kernel
theorem dX5_count_58 : decode cX5_count 58 = .ok (.aload_n 0, 1) := by decide +kernel
theorem dX5_count_59 : decode cX5_count 59 = .ok (.invokevirtual 70, 3) := by decide +kernel
theorem dX5_count_62 : decode cX5_count 62 = .ok (.ireturn, 1) := by decide +kernel
theorem dX5_count_63 : decode cX5_count 63 = .ok (.aload_n 0, 1) := by decide +kernel
theorem dX5_count_64 : decode cX5_count 64 = .ok (.invokevirtual 143, 3) := by decide +kernel
theorem dX5_count_67 : decode cX5_count 67 = .ok (.ireturn, 1) := by decide +kernel
theorem dX5_count_68 : decode cX5_count 68 = .ok (.aload_n 0, 1) := by decide +kernel
theorem dX5_count_69 : decode cX5_count 69 = .ok (.invokevirtual 146, 3) := by decide +kernel
theorem dX5_count_72 : decode cX5_count 72 = .ok (.ireturn, 1) := by decide +kernel
theorem dX5_count_73 : decode cX5_count 73 = .ok (.aload_n 0, 1) := by decide +kernel
theorem dX5_count_74 : decode cX5_count 74 = .ok (.invokevirtual 149, 3) := by decide +kernel
theorem dX5_count_77 : decode cX5_count 77 = .ok (.ireturn, 1) := by decide +kernel
theorem dX5_count_78 : decode cX5_count 78 = .ok (.aload_n 0, 1) := by decide +kernel
theorem dX5_count_79 : decode cX5_count 79 = .ok (.getfield 7, 3) := by decide +kernel
theorem dX5_count_82 : decode cX5_count 82 = .ok (.bipush 39, 2) := by decide +kernel
theorem dX5_count_84 : decode cX5_count 84 = .ok (.iaload, 1) := by decide +kernel
theorem dX5_count_85 : decode cX5_count 85 = .ok (.ireturn, 1) := by decide +kernel
theorem dX5_count_86 : decode cX5_count 86 = .ok (.iconst (-1), 1) := by decide +kernel
theorem dX5_count_87 : decode cX5_count 87 = .ok (.ireturn, 1) := by decide +kernel
theorem dX5_minds_0 : decode cX5_minds 0 = .ok (.aload_n 0, 1) := by decide +kernel
theorem dX5_minds_1 : decode cX5_minds 1 = .ok (.getfield 7, 3) := by decide +kernel
theorem dX5_minds_4 : decode cX5_minds 4 = .ok (.bipush 39, 2) := by decide +kernel
theorem dX5_minds_6 : decode cX5_minds 6 = .ok (.iaload, 1) := by decide +kernel
theorem dX5_minds_7 : decode cX5_minds 7 = .ok (.bipush 8, 2) := by decide +kernel
theorem dX5_minds_9 : decode cX5_minds 9 = .ok (.if_icmp .ne 50, 3) := by decide +kernel
theorem dX5_minds_12 : decode cX5_minds 12 = .ok (.iconst 0, 1) := by decide +kernel
theorem dX5_minds_13 : decode cX5_minds 13 = .ok (.istore_n 1, 1) := by decide +kernel
theorem dX5_minds_14 : decode cX5_minds 14 = .ok (.iload_n 1, 1) := by decide +kernel
theorem dX5_minds_15 : decode cX5_minds 15 = .ok (.sipush 175, 3) := by decide +kernel
theorem dX5_minds_18 : decode cX5_minds 18 = .ok (.if_icmp .ge 30, 3) := by decide +kernel
theorem dX5_minds_21 : decode cX5_minds 21 = .ok (.aload_n 0, 1) := by decide +kernel
theorem dX5_minds_22 : decode cX5_minds 22 = .ok (.getfield 7, 3) := by decide +kernel
theorem dX5_minds_25 : decode cX5_minds 25 = .ok (.bipush 40, 2) := by decide +kernel
theorem dX5_minds_27 : decode cX5_minds 27 = .ok (.iload_n 1, 1) := by decide +kernel
theorem dX5_minds_28 : decode cX5_minds 28 = .ok (.iadd, 1) := by decide +kernel
theorem dX5_minds_29 : decode cX5_minds 29 = .ok (.aload_n 0, 1) := by decide +kernel
theorem dX5_minds_30 : decode cX5_minds 30 = .ok (.getfield 7, 3) := by decide +kernel
theorem dX5_minds_33 : decode cX5_minds 33 = .ok (.bipush 40, 2) := by decide +kernel
theorem dX5_minds_35 : decode cX5_minds 35 = .ok (.iload_n 1, 1) := by decide +kernel
theorem dX5_minds_36 : decode cX5_minds 36 = .ok (.iadd, 1) := by decide +kernel
theorem dX5_minds_37 : decode cX5_minds 37 = .ok (.bipush 25, 2) := by decide +kernel
theorem dX5_minds_39 : decode cX5_minds 39 = .ok (.iadd, 1) := by decide +kernel
theorem dX5_minds_40 : decode cX5_minds 40 = .ok (.iaload, 1) := by decide +kernel
theorem dX5_minds_41 : decode cX5_minds 41 = .ok (.iastore, 1) := by decide +kernel
theorem dX5_minds_42 : decode cX5_minds 42 = .ok (.iinc 1 1, 3) := by decide +kernel
theorem dX5_minds_45 : decode cX5_minds 45 = .ok (.goto (-31), 3) := by decide +kernel
theorem dX5_minds_48 : decode cX5_minds 48 = .ok (.aload_n 0, 1) := by decide +kernel
theorem dX5_minds_49 : decode cX5_minds 49 = .ok (.getfield 7, 3) := by decide +kernel
theorem dX5_minds_52 : decode cX5_minds 52 = .ok (.bipush 39, 2) := by decide +kernel
theorem dX5_minds_54 : decode cX5_minds 54 = .ok (.dup2, 1) := by decide +kernel
theorem dX5_minds_55 : decode cX5_minds 55 = .ok (.iaload, 1) := by decide +kernel
theorem dX5_minds_56 : decode cX5_minds 56 = .ok (.iconst 1, 1) := by decide +kernel
theorem dX5_minds_57 : decode cX5_minds 57 = .ok (.isub, 1) := by decide +kernel
theorem dX5_minds_58 : decode cX5_minds 58 = .ok (.iastore, 1) := by decide +kernel
theorem dX5_minds_59 : decode cX5_minds 59 = .ok (.iconst 0, 1) := by decide +kernel
theorem dX5_minds_60 : decode cX5_minds 60 = .ok (.istore_n 1, 1) := by decide +kernel
theorem dX5_minds_61 : decode cX5_minds 61 = .ok (.iload_n 1, 1) := by decide +kernel
theorem dX5_minds_62 : decode cX5_minds 62 = .ok (.bipush 25, 2) := by decide +kernel
theorem dX5_minds_64 : decode cX5_minds 64 = .ok (.if_icmp .ge 38, 3) := by decide +kernel
theorem dX5_minds_67 : decode cX5_minds 67 = .ok (.aload_n 0, 1) := by decide +kernel
theorem dX5_minds_68 : decode cX5_minds 68 = .ok (.getfield 7, 3) := by decide +kernel
theorem dX5_minds_71 : decode cX5_minds 71 = .ok (.bipush 40, 2) := by decide +kernel
theorem dX5_minds_73 : decode cX5_minds 73 = .ok (.bipush 25, 2) := by decide +kernel
theorem dX5_minds_75 : decode cX5_minds 75 = .ok (.aload_n 0, 1) := by decide +kernel
theorem dX5_minds_76 : decode cX5_minds 76 = .ok (.getfield 7, 3) := by decide +kernel
theorem dX5_minds_79 : decode cX5_minds 79 = .ok (.bipush 39, 2) := by decide +kernel
theorem dX5_minds_81 : decode cX5_minds 81 = .ok (.iaload, 1) := by decide +kernel
theorem dX5_minds_82 : decode cX5_minds 82 = .ok (.imul, 1) := by decide +kernel
theorem dX5_minds_83 : decode cX5_minds 83 = .ok (.iadd, 1) := by decide +kernel
theorem dX5_minds_84 : decode cX5_minds 84 = .ok (.iload_n 1, 1) := by decide +kernel
theorem dX5_minds_85 : decode cX5_minds 85 = .ok (.iadd, 1) := by decide +kernel
theorem dX5_minds_86 : decode cX5_minds 86 = .ok (.aload_n 0, 1) := by decide +kernel
theorem dX5_minds_87 : decode cX5_minds 87 = .ok (.getfield 7, 3) := by decide +kernel
theorem dX5_minds_90 : decode cX5_minds 90 = .ok (.bipush 14, 2) := by decide +kernel
theorem dX5_minds_92 : decode cX5_minds 92 = .ok (.iload_n 1, 1) := by decide +kernel
theorem dX5_minds_93 : decode cX5_minds 93 = .ok (.iadd, 1) := by decide +kernel
theorem dX5_minds_94 : decode cX5_minds 94 = .ok (.iaload, 1) := by decide +kernel
theorem dX5_minds_95 : decode cX5_minds 95 = .ok (.iastore, 1) := by decide +kernel
theorem dX5_minds_96 : decode cX5_minds 96 = .ok (.iinc 1 1, 3) := by decide +kernel
theorem dX5_minds_99 : decode cX5_minds 99 = .ok (.goto (-38), 3) := by decide +kernel
theorem dX5_minds_102 : decode cX5_minds 102 = .ok (.aload_n 0, 1) := by decide +kernel
theorem dX5_minds_103 : decode cX5_minds 103 = .ok (.getfield 7, 3) := by decide +kernel
theorem dX5_minds_106 : decode cX5_minds 106 = .ok (.bipush 39, 2) := by decide +kernel
theorem dX5_minds_108 : decode cX5_minds 108 = .ok (.dup2, 1) := by decide +kernel
theorem dX5_minds_109 : decode cX5_minds 109 = .ok (.iaload, 1) := by decide +kernel
theorem dX5_minds_110 : decode cX5_minds 110 = .ok (.iconst 1, 1) := by decide +kernel
theorem dX5_minds_111 : decode cX5_minds 111 = .ok (.iadd, 1) := by decide +kernel
theorem dX5_minds_112 : decode cX5_minds 112 = .ok (.iastore, 1) := by decide +kernel
theorem dX5_minds_113 : decode cX5_minds 113 = .ok (.return_, 1) := by decide +kernel
theorem dX5_lays_0 : decode cX5_lays 0 = .ok (.iconst 0, 1) := by decide +kernel
theorem dX5_lays_1 : decode cX5_lays 1 = .ok (.istore_n 3, 1) := by decide +kernel
theorem dX5_lays_2 : decode cX5_lays 2 = .ok (.iload_n 3, 1) := by decide +kernel
theorem dX5_lays_3 : decode cX5_lays 3 = .ok (.aload_n 0, 1) := by decide +kernel
theorem dX5_lays_4 : decode cX5_lays 4 = .ok (.getfield 7, 3) := by decide +kernel
theorem dX5_lays_7 : decode cX5_lays 7 = .ok (.iconst 0, 1) := by decide +kernel
theorem dX5_lays_8 : decode cX5_lays 8 = .ok (.iaload, 1) := by decide +kernel
theorem dX5_lays_9 : decode cX5_lays 9 = .ok (.if_icmp .ge 34, 3) := by decide +kernel
theorem dX5_lays_12 : decode cX5_lays 12 = .ok (.aload_n 0, 1) := by decide +kernel
theorem dX5_lays_13 : decode cX5_lays 13 = .ok (.getfield 7, 3) := by decide +kernel
theorem dX5_lays_16 : decode cX5_lays 16 = .ok (.bipush 15, 2) := by decide +kernel
theorem dX5_lays_18 : decode cX5_lays 18 = .ok (.bipush 6, 2) := by decide +kernel
theorem dX5_lays_20 : decode cX5_lays 20 = .ok (.iload_n 1, 1) := by decide +kernel
theorem dX5_lays_21 : decode cX5_lays 21 = .ok (.imul, 1) := by decide +kernel
theorem dX5_lays_22 : decode cX5_lays 22 = .ok (.iadd, 1) := by decide +kernel
theorem dX5_lays_23 : decode cX5_lays 23 = .ok (.iload_n 3, 1) := by decide +kernel
theorem dX5_lays_24 : decode cX5_lays 24 = .ok (.iadd, 1) := by decide +kernel
theorem dX5_lays_25 : decode cX5_lays 25 = .ok (.iload_n 2, 1) := by decide +kernel
theorem dX5_lays_26 : decode cX5_lays 26 = .ok (.aload_n 0, 1) := by decide +kernel
theorem dX5_lays_27 : decode cX5_lays 27 = .ok (.getfield 7, 3) := by decide +kernel
theorem dX5_lays_30 : decode cX5_lays 30 = .ok (.bipush 8, 2) := by decide +kernel
theorem dX5_lays_32 : decode cX5_lays 32 = .ok (.iload_n 3, 1) := by decide +kernel
theorem dX5_lays_33 : decode cX5_lays 33 = .ok (.iadd, 1) := by decide +kernel
theorem dX5_lays_34 : decode cX5_lays 34 = .ok (.iaload, 1) := by decide +kernel
theorem dX5_lays_35 : decode cX5_lays 35 = .ok (.irem, 1) := by decide +kernel
theorem dX5_lays_36 : decode cX5_lays 36 = .ok (.iastore, 1) := by decide +kernel
theorem dX5_lays_37 : decode cX5_lays 37 = .ok (.iinc 3 1, 3) := by decide +kernel
theorem dX5_lays_40 : decode cX5_lays 40 = .ok (.goto (-38), 3) := by decide +kernel
theorem dX5_lays_43 : decode cX5_lays 43 = .ok (.return_, 1) := by decide +kernel
set_option maxRecDepth 20000 in
theorem ggX5_adds_X5_added : GoodIn wsX5_adds wsX5_added := goodIn_r _ [6, 1, 7, 8, 5, 9, 10, 11, 12, 13, 14, 15, 16, 17, 18, 19, 20, 21, 22, 23, 24, 25, 26, 27, 28, 29, 30] (by decide +kernel) (by decide +kernel)
set_option maxRecDepth 20000 in
theorem gX5_adds_X5_added : GoodIn wsX5_adds (wsV RX5 52 RX5 yX5_added wsX5_added) := goodIn_app (goodIn_of _ (by decide +kernel)) ggX5_adds_X5_added
theorem dX5_adds_0 : decode cX5_adds 0 = .ok (.iconst 0, 1) := by decide +kernel
theorem dX5_adds_1 : decode cX5_adds 1 = .ok (.istore_n 3, 1) := by decide +kernel
theorem dX5_adds_2 : decode cX5_adds 2 = .ok (.iload_n 3, 1) := by decide +kernel
theorem dX5_adds_3 : decode cX5_adds 3 = .ok (.aload_n 0, 1) := by decide +kernel
theorem dX5_adds_4 : decode cX5_adds 4 = .ok (.getfield 7, 3) := by decide +kernel
theorem dX5_adds_7 : decode cX5_adds 7 = .ok (.iconst 0, 1) := by decide +kernel
theorem dX5_adds_8 : decode cX5_adds 8 = .ok (.iaload, 1) := by decide +kernel
theorem dX5_adds_9 : decode cX5_adds 9 = .ok (.if_icmp .ge 56, 3) := by decide +kernel
theorem dX5_adds_12 : decode cX5_adds 12 = .ok (.aload_n 0, 1) := by decide +kernel
theorem dX5_adds_13 : decode cX5_adds 13 = .ok (.getfield 7, 3) := by decide +kernel
theorem dX5_adds_16 : decode cX5_adds 16 = .ok (.bipush 15, 2) := by decide +kernel
theorem dX5_adds_18 : decode cX5_adds 18 = .ok (.bipush 6, 2) := by decide +kernel
theorem dX5_adds_20 : decode cX5_adds 20 = .ok (.iload_n 1, 1) := by decide +kernel
theorem dX5_adds_21 : decode cX5_adds 21 = .ok (.imul, 1) := by decide +kernel
theorem dX5_adds_22 : decode cX5_adds 22 = .ok (.iadd, 1) := by decide +kernel
theorem dX5_adds_23 : decode cX5_adds 23 = .ok (.iload_n 3, 1) := by decide +kernel
theorem dX5_adds_24 : decode cX5_adds 24 = .ok (.iadd, 1) := by decide +kernel
theorem dX5_adds_25 : decode cX5_adds 25 = .ok (.aload_n 0, 1) := by decide +kernel
theorem dX5_adds_26 : decode cX5_adds 26 = .ok (.iload_n 3, 1) := by decide +kernel
theorem dX5_adds_27 : decode cX5_adds 27 = .ok (.aload_n 0, 1) := by decide +kernel
theorem dX5_adds_28 : decode cX5_adds 28 = .ok (.getfield 7, 3) := by decide +kernel
theorem dX5_adds_31 : decode cX5_adds 31 = .ok (.bipush 15, 2) := by decide +kernel
theorem dX5_adds_33 : decode cX5_adds 33 = .ok (.bipush 6, 2) := by decide +kernel
theorem dX5_adds_35 : decode cX5_adds 35 = .ok (.iload_n 1, 1) := by decide +kernel
theorem dX5_adds_36 : decode cX5_adds 36 = .ok (.imul, 1) := by decide +kernel
theorem dX5_adds_37 : decode cX5_adds 37 = .ok (.iadd, 1) := by decide +kernel
theorem dX5_adds_38 : decode cX5_adds 38 = .ok (.iload_n 3, 1) := by decide +kernel
theorem dX5_adds_39 : decode cX5_adds 39 = .ok (.iadd, 1) := by decide +kernel
theorem dX5_adds_40 : decode cX5_adds 40 = .ok (.iaload, 1) := by decide +kernel
theorem dX5_adds_41 : decode cX5_adds 41 = .ok (.aload_n 0, 1) := by decide +kernel
theorem dX5_adds_42 : decode cX5_adds 42 = .ok (.getfield 7, 3) := by decide +kernel
theorem dX5_adds_45 : decode cX5_adds 45 = .ok (.bipush 15, 2) := by decide +kernel
theorem dX5_adds_47 : decode cX5_adds 47 = .ok (.bipush 6, 2) := by decide +kernel
theorem dX5_adds_49 : decode cX5_adds 49 = .ok (.iload_n 2, 1) := by decide +kernel
theorem dX5_adds_50 : decode cX5_adds 50 = .ok (.imul, 1) := by decide +kernel
theorem dX5_adds_51 : decode cX5_adds 51 = .ok (.iadd, 1) := by decide +kernel
theorem dX5_adds_52 : decode cX5_adds 52 = .ok (.iload_n 3, 1) := by decide +kernel
theorem dX5_adds_53 : decode cX5_adds 53 = .ok (.iadd, 1) := by decide +kernel
theorem dX5_adds_54 : decode cX5_adds 54 = .ok (.iaload, 1) := by decide +kernel
theorem dX5_adds_55 : decode cX5_adds 55 = .ok (.invokevirtual 52, 3) := by decide +kernel
theorem dX5_adds_58 : decode cX5_adds 58 = .ok (.iastore, 1) := by decide +kernel
theorem dX5_adds_59 : decode cX5_adds 59 = .ok (.iinc 3 1, 3) := by decide +kernel
theorem dX5_adds_62 : decode cX5_adds 62 = .ok (.goto (-60), 3) := by decide +kernel
theorem dX5_adds_65 : decode cX5_adds 65 = .ok (.return_, 1) := by decide +kernel
set_option maxRecDepth 20000 in
theorem ggX5_lay_X5_isRegister : GoodIn wsX5_lay wsX5_isRegister := goodIn_r _ [4, 5, 6, 7, 3, 8] (by decide +kernel) (by decide +kernel)
set_option maxRecDepth 20000 in
theorem gX5_lay_X5_isRegister : GoodIn wsX5_lay (va_wsS RX5 134 yX5_isRegister wsX5_isRegister) := goodIn_app (goodIn_of _ (by decide +kernel)) ggX5_lay_X5_isRegister
set_option maxRecDepth 20000 in
theorem ggX5_lay_X5_span : GoodIn wsX5_lay wsX5_span := goodIn_r _ [12, 13, 14, 15, 16, 3, 17, 39, 40, 41, 42, 43, 44, 45, 46, 47, 48, 49, 50, 51, 52, 53] (by decide +kernel) (by decide +kernel)
set_option maxRecDepth 20000 in
theorem gX5_lay_X5_span : GoodIn wsX5_lay (wsV RX5 143 RX5 yX5_span wsX5_span) := goodIn_app (goodIn_of _ (by decide +kernel)) ggX5_lay_X5_span
set_option maxRecDepth 20000 in
theorem ggX5_lay_X5_in : GoodIn wsX5_lay wsX5_in := goodIn_r _ [8] (by decide +kernel) (by decide +kernel)
set_option maxRecDepth 20000 in
theorem gX5_lay_X5_in : GoodIn wsX5_lay (va_wsS RX5 35 yX5_in wsX5_in) := goodIn_app (goodIn_of _ (by decide +kernel)) ggX5_lay_X5_in
set_option maxRecDepth 20000 in
theorem ggX5_lay_X5_value : GoodIn wsX5_lay wsX5_value := goodIn_r _ [21, 22, 23, 24, 3, 25, 26, 13, 27, 28, 29, 30, 39, 40, 41, 42, 43, 44, 45, 46, 47, 48, 49, 50, 51, 52, 53] (by decide +kernel) (by decide +kernel)
set_option maxRecDepth 20000 in
theorem gX5_lay_X5_value : GoodIn wsX5_lay (wsV RX5 67 RX5 yX5_value wsX5_value) := goodIn_app (goodIn_of _ (by decide +kernel)) ggX5_lay_X5_value
set_option maxRecDepth 20000 in
theorem ggX5_lay_X5_minds : GoodIn wsX5_lay wsX5_minds := goodIn_r _ [34, 13, 39, 40, 41, 42, 43, 44, 45, 46, 47, 48, 49, 50, 51, 52, 53] (by decide +kernel) (by decide +kernel)
set_option maxRecDepth 20000 in
theorem gX5_lay_X5_minds : GoodIn wsX5_lay (wsV RX5 152 RX5 yX5_minds wsX5_minds) := goodIn_app (goodIn_of _ (by decide +kernel)) ggX5_lay_X5_minds
set_option maxRecDepth 20000 in
theorem ggX5_lay_X5_lays : GoodIn wsX5_lay wsX5_lays := goodIn_r _ [38, 13, 39, 40, 41, 42, 43, 44, 45, 46, 47, 48, 49, 50, 51, 52, 53] (by decide +kernel) (by decide +kernel)
set_option maxRecDepth 20000 in
theorem gX5_lay_X5_lays : GoodIn wsX5_lay (wsV RX5 155 RX5 yX5_lays wsX5_lays) := goodIn_app (goodIn_of _ (by decide +kernel)) ggX5_lay_X5_lays
theorem dX5_lay_0 : decode cX5_lay 0 = .ok (.iload_n 1, 1) := by decide +kernel
theorem dX5_lay_1 : decode cX5_lay 1 = .ok (.invokestatic 134, 3) := by decide +kernel
theorem dX5_lay_4 : decode cX5_lay 4 = .ok (.ifCond .eq 19, 3) := by decide +kernel
theorem dX5_lay_7 : decode cX5_lay 7 = .ok (.iload_n 2, 1) := by decide +kernel
theorem dX5_lay_8 : decode cX5_lay 8 = .ok (.i2l, 1) := by decide +kernel
theorem dX5_lay_9 : decode cX5_lay 9 = .ok (.lconst 0, 1) := by decide +kernel
theorem dX5_lay_10 : decode cX5_lay 10 = .ok (.aload_n 0, 1) := by decide +kernel
theorem dX5_lay_11 : decode cX5_lay 11 = .ok (.invokevirtual 143, 3) := by decide +kernel
theorem dX5_lay_14 : decode cX5_lay 14 = .ok (.iconst 1, 1) := by decide +kernel
theorem dX5_lay_15 : decode cX5_lay 15 = .ok (.isub, 1) := by decide +kernel
theorem dX5_lay_16 : decode cX5_lay 16 = .ok (.i2l, 1) := by decide +kernel
theorem dX5_lay_17 : decode cX5_lay 17 = .ok (.invokestatic 35, 3) := by decide +kernel
theorem dX5_lay_20 : decode cX5_lay 20 = .ok (.ifCond .ne 5, 3) := by decide +kernel
theorem dX5_lay_23 : decode cX5_lay 23 = .ok (.iconst (-1), 1) := by decide +kernel
theorem dX5_lay_24 : decode cX5_lay 24 = .ok (.ireturn, 1) := by decide +kernel
theorem dX5_lay_25 : decode cX5_lay 25 = .ok (.aload_n 0, 1) := by decide +kernel
theorem dX5_lay_26 : decode cX5_lay 26 = .ok (.iload_n 1, 1) := by decide +kernel
theorem dX5_lay_27 : decode cX5_lay 27 = .ok (.invokevirtual 67, 3) := by decide +kernel
theorem dX5_lay_30 : decode cX5_lay 30 = .ok (.istore_n 3, 1) := by decide +kernel
theorem dX5_lay_31 : decode cX5_lay 31 = .ok (.aload_n 0, 1) := by decide +kernel
theorem dX5_lay_32 : decode cX5_lay 32 = .ok (.invokevirtual 152, 3) := by decide +kernel
theorem dX5_lay_35 : decode cX5_lay 35 = .ok (.aload_n 0, 1) := by decide +kernel
theorem dX5_lay_36 : decode cX5_lay 36 = .ok (.iload_n 1, 1) := by decide +kernel
theorem dX5_lay_37 : decode cX5_lay 37 = .ok (.iload_n 2, 1) := by decide +kernel
theorem dX5_lay_38 : decode cX5_lay 38 = .ok (.invokevirtual 155, 3) := by decide +kernel
theorem dX5_lay_41 : decode cX5_lay 41 = .ok (.iload_n 3, 1) := by decide +kernel
theorem dX5_lay_42 : decode cX5_lay 42 = .ok (.ireturn, 1) := by decide +kernel
set_option maxRecDepth 20000 in
theorem ggX5_add_X5_isRegister : GoodIn wsX5_add wsX5_isRegister := goodIn_r _ [4, 5, 6, 7, 3, 8] (by decide +kernel) (by decide +kernel)
set_option maxRecDepth 20000 in
theorem gX5_add_X5_isRegister : GoodIn wsX5_add (va_wsS RX5 134 yX5_isRegister wsX5_isRegister) := goodIn_app (goodIn_of _ (by decide +kernel)) ggX5_add_X5_isRegister
set_option maxRecDepth 20000 in
theorem ggX5_add_X5_minds : GoodIn wsX5_add wsX5_minds := goodIn_r _ [12, 13, 44, 45, 46, 47, 48, 49, 50, 51, 52, 53, 54, 55, 56, 57, 58] (by decide +kernel) (by decide +kernel)
set_option maxRecDepth 20000 in
theorem gX5_add_X5_minds : GoodIn wsX5_add (wsV RX5 152 RX5 yX5_minds wsX5_minds) := goodIn_app (goodIn_of _ (by decide +kernel)) ggX5_add_X5_minds
set_option maxRecDepth 20000 in
theorem ggX5_add_X5_adds : GoodIn wsX5_add wsX5_adds := goodIn_r _ [17, 13, 18, 19, 20, 3, 21, 22, 23, 24, 25, 26, 27, 28, 29, 30, 44, 45, 46, 47, 48, 49, 50, 51, 52, 53, 54, 55, 56, 57, 58] (by decide +kernel) (by decide +kernel)
set_option maxRecDepth 20000 in
theorem gX5_add_X5_adds : GoodIn wsX5_add (wsV RX5 159 RX5 yX5_adds wsX5_adds) := goodIn_app (goodIn_of _ (by decide +kernel)) ggX5_add_X5_adds
set_option maxRecDepth 20000 in
theorem ggX5_add_X5_value : GoodIn wsX5_add wsX5_value := goodIn_r _ [34, 35, 36, 37, 3, 38, 39, 13, 40, 41, 42, 43, 44, 45, 46, 47, 48, 49, 50, 51, 52, 53, 54, 55, 56, 57, 58] (by decide +kernel) (by decide +kernel)
set_option maxRecDepth 20000 in
theorem gX5_add_X5_value : GoodIn wsX5_add (wsV RX5 67 RX5 yX5_value wsX5_value) := goodIn_app (goodIn_of _ (by decide +kernel)) ggX5_add_X5_value
theorem dX5_add_0 : decode cX5_add 0 = .ok (.iload_n 1, 1) := by decide +kernel
theorem dX5_add_1 : decode cX5_add 1 = .ok (.invokestatic 134, 3) := by decide +kernel
theorem dX5_add_4 : decode cX5_add 4 = .ok (.ifCond .eq 10, 3) := by decide +kernel
theorem dX5_add_7 : decode cX5_add 7 = .ok (.iload_n 2, 1) := by decide +kernel
theorem dX5_add_8 : decode cX5_add 8 = .ok (.invokestatic 134, 3) := by decide +kernel
theorem dX5_add_11 : decode cX5_add 11 = .ok (.ifCond .ne 5, 3) := by decide +kernel
theorem dX5_add_14 : decode cX5_add 14 = .ok (.iconst (-1), 1) := by decide +kernel
theorem dX5_add_15 : decode cX5_add 15 = .ok (.ireturn, 1) := by decide +kernel
theorem dX5_add_16 : decode cX5_add 16 = .ok (.aload_n 0, 1) := by decide +kernel
theorem dX5_add_17 : decode cX5_add 17 = .ok (.invokevirtual 152, 3) := by decide +kernel
theorem dX5_add_20 : decode cX5_add 20 = .ok (.aload_n 0, 1) := by decide +kernel
theorem dX5_add_21 : decode cX5_add 21 = .ok (.iload_n 1, 1) := by decide +kernel
theorem dX5_add_22 : decode cX5_add 22 = .ok (.iload_n 2, 1) := by decide +kernel
theorem dX5_add_23 : decode cX5_add 23 = .ok (.invokevirtual 159, 3) := by decide +kernel
theorem dX5_add_26 : decode cX5_add 26 = .ok (.aload_n 0, 1) := by decide +kernel
theorem dX5_add_27 : decode cX5_add 27 = .ok (.iload_n 1, 1) := by decide +kernel
theorem dX5_add_28 : decode cX5_add 28 = .ok (.invokevirtual 67, 3) := by decide +kernel
theorem dX5_add_31 : decode cX5_add 31 = .ok (.ireturn, 1) := by decide +kernel
set_option maxRecDepth 20000 in
theorem ggX5_times_X5_isRegister : GoodIn wsX5_times wsX5_isRegister := goodIn_r _ [5, 6, 7, 8, 4, 9] (by decide +kernel) (by decide +kernel)
set_option maxRecDepth 20000 in
theorem gX5_times_X5_isRegister : GoodIn wsX5_times (va_wsS RX5 134 yX5_isRegister wsX5_isRegister) := goodIn_app (goodIn_of _ (by decide +kernel)) ggX5_times_X5_isRegister
set_option maxRecDepth 20000 in
theorem ggX5_times_X5_minds : GoodIn wsX5_times wsX5_minds := goodIn_r _ [13, 1, 44, 45, 46, 47, 48, 49, 50, 51, 52, 53, 54, 55, 56, 57, 58] (by decide +kernel) (by decide +kernel)
set_option maxRecDepth 20000 in
theorem gX5_times_X5_minds : GoodIn wsX5_times (wsV RX5 152 RX5 yX5_minds wsX5_minds) := goodIn_app (goodIn_of _ (by decide +kernel)) ggX5_times_X5_minds
set_option maxRecDepth 20000 in
theorem ggX5_times_X5_timed : GoodIn wsX5_times wsX5_timed := goodIn_r _ [17, 18, 19, 20, 4, 21, 1, 22, 23, 24, 25, 26, 27, 28, 29, 30, 44, 45, 46, 47, 48, 49, 50, 51, 52, 53, 54, 55, 56, 57, 58] (by decide +kernel) (by decide +kernel)
set_option maxRecDepth 20000 in
theorem gX5_times_X5_timed : GoodIn wsX5_times (wsV RX5 140 RX5 yX5_timed wsX5_timed) := goodIn_app (goodIn_of _ (by decide +kernel)) ggX5_times_X5_timed
set_option maxRecDepth 20000 in
theorem ggX5_times_X5_value : GoodIn wsX5_times wsX5_value := goodIn_r _ [34, 35, 36, 37, 4, 38, 39, 1, 40, 41, 42, 43, 44, 45, 46, 47, 48, 49, 50, 51, 52, 53, 54, 55, 56, 57, 58] (by decide +kernel) (by decide +kernel)
set_option maxRecDepth 20000 in
theorem gX5_times_X5_value : GoodIn wsX5_times (wsV RX5 67 RX5 yX5_value wsX5_value) := goodIn_app (goodIn_of _ (by decide +kernel)) ggX5_times_X5_value
theorem dX5_times_0 : decode cX5_times 0 = .ok (.iload_n 1, 1) := by decide +kernel
theorem dX5_times_1 : decode cX5_times 1 = .ok (.invokestatic 134, 3) := by decide +kernel
theorem dX5_times_4 : decode cX5_times 4 = .ok (.ifCond .eq 10, 3) := by decide +kernel
theorem dX5_times_7 : decode cX5_times 7 = .ok (.iload_n 2, 1) := by decide +kernel
theorem dX5_times_8 : decode cX5_times 8 = .ok (.invokestatic 134, 3) := by decide +kernel
theorem dX5_times_11 : decode cX5_times 11 = .ok (.ifCond .ne 5, 3) := by decide +kernel
theorem dX5_times_14 : decode cX5_times 14 = .ok (.iconst (-1), 1) := by decide +kernel
theorem dX5_times_15 : decode cX5_times 15 = .ok (.ireturn, 1) := by decide +kernel
theorem dX5_times_16 : decode cX5_times 16 = .ok (.aload_n 0, 1) := by decide +kernel
theorem dX5_times_17 : decode cX5_times 17 = .ok (.invokevirtual 152, 3) := by decide +kernel
theorem dX5_times_20 : decode cX5_times 20 = .ok (.iconst 0, 1) := by decide +kernel
theorem dX5_times_21 : decode cX5_times 21 = .ok (.istore_n 3, 1) := by decide +kernel
theorem dX5_times_22 : decode cX5_times 22 = .ok (.iload_n 3, 1) := by decide +kernel
theorem dX5_times_23 : decode cX5_times 23 = .ok (.aload_n 0, 1) := by decide +kernel
theorem dX5_times_24 : decode cX5_times 24 = .ok (.getfield 7, 3) := by decide +kernel
theorem dX5_times_27 : decode cX5_times 27 = .ok (.iconst 0, 1) := by decide +kernel
theorem dX5_times_28 : decode cX5_times 28 = .ok (.iaload, 1) := by decide +kernel
theorem dX5_times_29 : decode cX5_times 29 = .ok (.if_icmp .ge 56, 3) := by decide +kernel
theorem dX5_times_32 : decode cX5_times 32 = .ok (.aload_n 0, 1) := by decide +kernel
theorem dX5_times_33 : decode cX5_times 33 = .ok (.getfield 7, 3) := by decide +kernel
theorem dX5_times_36 : decode cX5_times 36 = .ok (.bipush 15, 2) := by decide +kernel
theorem dX5_times_38 : decode cX5_times 38 = .ok (.bipush 6, 2) := by decide +kernel
theorem dX5_times_40 : decode cX5_times 40 = .ok (.iload_n 1, 1) := by decide +kernel
theorem dX5_times_41 : decode cX5_times 41 = .ok (.imul, 1) := by decide +kernel
theorem dX5_times_42 : decode cX5_times 42 = .ok (.iadd, 1) := by decide +kernel
theorem dX5_times_43 : decode cX5_times 43 = .ok (.iload_n 3, 1) := by decide +kernel
theorem dX5_times_44 : decode cX5_times 44 = .ok (.iadd, 1) := by decide +kernel
theorem dX5_times_45 : decode cX5_times 45 = .ok (.aload_n 0, 1) := by decide +kernel
theorem dX5_times_46 : decode cX5_times 46 = .ok (.iload_n 3, 1) := by decide +kernel
theorem dX5_times_47 : decode cX5_times 47 = .ok (.aload_n 0, 1) := by decide +kernel
theorem dX5_times_48 : decode cX5_times 48 = .ok (.getfield 7, 3) := by decide +kernel
theorem dX5_times_51 : decode cX5_times 51 = .ok (.bipush 15, 2) := by decide +kernel
theorem dX5_times_53 : decode cX5_times 53 = .ok (.bipush 6, 2) := by decide +kernel
theorem dX5_times_55 : decode cX5_times 55 = .ok (.iload_n 1, 1) := by decide +kernel
theorem dX5_times_56 : decode cX5_times 56 = .ok (.imul, 1) := by decide +kernel
theorem dX5_times_57 : decode cX5_times 57 = .ok (.iadd, 1) := by decide +kernel
theorem dX5_times_58 : decode cX5_times 58 = .ok (.iload_n 3, 1) := by decide +kernel
theorem dX5_times_59 : decode cX5_times 59 = .ok (.iadd, 1) := by decide +kernel
theorem dX5_times_60 : decode cX5_times 60 = .ok (.iaload, 1) := by decide +kernel
theorem dX5_times_61 : decode cX5_times 61 = .ok (.aload_n 0, 1) := by decide +kernel
theorem dX5_times_62 : decode cX5_times 62 = .ok (.getfield 7, 3) := by decide +kernel
theorem dX5_times_65 : decode cX5_times 65 = .ok (.bipush 15, 2) := by decide +kernel
theorem dX5_times_67 : decode cX5_times 67 = .ok (.bipush 6, 2) := by decide +kernel
theorem dX5_times_69 : decode cX5_times 69 = .ok (.iload_n 2, 1) := by decide +kernel
theorem dX5_times_70 : decode cX5_times 70 = .ok (.imul, 1) := by decide +kernel
theorem dX5_times_71 : decode cX5_times 71 = .ok (.iadd, 1) := by decide +kernel
theorem dX5_times_72 : decode cX5_times 72 = .ok (.iload_n 3, 1) := by decide +kernel
theorem dX5_times_73 : decode cX5_times 73 = .ok (.iadd, 1) := by decide +kernel
theorem dX5_times_74 : decode cX5_times 74 = .ok (.iaload, 1) := by decide +kernel
theorem dX5_times_75 : decode cX5_times 75 = .ok (.invokevirtual 140, 3) := by decide +kernel
theorem dX5_times_78 : decode cX5_times 78 = .ok (.iastore, 1) := by decide +kernel
theorem dX5_times_79 : decode cX5_times 79 = .ok (.iinc 3 1, 3) := by decide +kernel
theorem dX5_times_82 : decode cX5_times 82 = .ok (.goto (-60), 3) := by decide +kernel
theorem dX5_times_85 : decode cX5_times 85 = .ok (.aload_n 0, 1) := by decide +kernel
theorem dX5_times_86 : decode cX5_times 86 = .ok (.iload_n 1, 1) := by decide +kernel
theorem dX5_times_87 : decode cX5_times 87 = .ok (.invokevirtual 67, 3) := by decide +kernel
theorem dX5_times_90 : decode cX5_times 90 = .ok (.ireturn, 1) := by decide +kernel
set_option maxRecDepth 20000 in
theorem ggX5_negate_X5_isRegister : GoodIn wsX5_negate wsX5_isRegister := goodIn_r _ [5, 6, 7, 8, 4, 9] (by decide +kernel) (by decide +kernel)
set_option maxRecDepth 20000 in
theorem gX5_negate_X5_isRegister : GoodIn wsX5_negate (va_wsS RX5 134 yX5_isRegister wsX5_isRegister) := goodIn_app (goodIn_of _ (by decide +kernel)) ggX5_negate_X5_isRegister
set_option maxRecDepth 20000 in
theorem ggX5_negate_X5_minds : GoodIn wsX5_negate wsX5_minds := goodIn_r _ [13, 1, 27, 28, 29, 30, 31, 32, 33, 34, 35, 36, 37, 38, 39, 40, 41] (by decide +kernel) (by decide +kernel)
set_option maxRecDepth 20000 in
theorem gX5_negate_X5_minds : GoodIn wsX5_negate (wsV RX5 152 RX5 yX5_minds wsX5_minds) := goodIn_app (goodIn_of _ (by decide +kernel)) ggX5_negate_X5_minds
set_option maxRecDepth 20000 in
theorem ggX5_negate_X5_value : GoodIn wsX5_negate wsX5_value := goodIn_r _ [17, 18, 19, 20, 4, 21, 22, 1, 23, 24, 25, 26, 27, 28, 29, 30, 31, 32, 33, 34, 35, 36, 37, 38, 39, 40, 41] (by decide +kernel) (by decide +kernel)
set_option maxRecDepth 20000 in
theorem gX5_negate_X5_value : GoodIn wsX5_negate (wsV RX5 67 RX5 yX5_value wsX5_value) := goodIn_app (goodIn_of _ (by decide +kernel)) ggX5_negate_X5_value
theorem dX5_negate_0 : decode cX5_negate 0 = .ok (.iload_n 1, 1) := by decide +kernel
theorem dX5_negate_1 : decode cX5_negate 1 = .ok (.invokestatic 134, 3) := by decide +kernel
theorem dX5_negate_4 : decode cX5_negate 4 = .ok (.ifCond .ne 5, 3) := by decide +kernel
theorem dX5_negate_7 : decode cX5_negate 7 = .ok (.iconst (-1), 1) := by decide +kernel
theorem dX5_negate_8 : decode cX5_negate 8 = .ok (.ireturn, 1) := by decide +kernel
theorem dX5_negate_9 : decode cX5_negate 9 = .ok (.aload_n 0, 1) := by decide +kernel
theorem dX5_negate_10 : decode cX5_negate 10 = .ok (.invokevirtual 152, 3) := by decide +kernel
theorem dX5_negate_13 : decode cX5_negate 13 = .ok (.iconst 0, 1) := by decide +kernel
theorem dX5_negate_14 : decode cX5_negate 14 = .ok (.istore_n 2, 1) := by decide +kernel
theorem dX5_negate_15 : decode cX5_negate 15 = .ok (.iload_n 2, 1) := by decide +kernel
theorem dX5_negate_16 : decode cX5_negate 16 = .ok (.aload_n 0, 1) := by decide +kernel
theorem dX5_negate_17 : decode cX5_negate 17 = .ok (.getfield 7, 3) := by decide +kernel
theorem dX5_negate_20 : decode cX5_negate 20 = .ok (.iconst 0, 1) := by decide +kernel
theorem dX5_negate_21 : decode cX5_negate 21 = .ok (.iaload, 1) := by decide +kernel
theorem dX5_negate_22 : decode cX5_negate 22 = .ok (.if_icmp .ge 57, 3) := by decide +kernel
theorem dX5_negate_25 : decode cX5_negate 25 = .ok (.aload_n 0, 1) := by decide +kernel
theorem dX5_negate_26 : decode cX5_negate 26 = .ok (.getfield 7, 3) := by decide +kernel
theorem dX5_negate_29 : decode cX5_negate 29 = .ok (.bipush 15, 2) := by decide +kernel
theorem dX5_negate_31 : decode cX5_negate 31 = .ok (.bipush 6, 2) := by decide +kernel
theorem dX5_negate_33 : decode cX5_negate 33 = .ok (.iload_n 1, 1) := by decide +kernel
theorem dX5_negate_34 : decode cX5_negate 34 = .ok (.imul, 1) := by decide +kernel
theorem dX5_negate_35 : decode cX5_negate 35 = .ok (.iadd, 1) := by decide +kernel
theorem dX5_negate_36 : decode cX5_negate 36 = .ok (.iload_n 2, 1) := by decide +kernel
theorem dX5_negate_37 : decode cX5_negate 37 = .ok (.iadd, 1) := by decide +kernel
theorem dX5_negate_38 : decode cX5_negate 38 = .ok (.iaload, 1) := by decide +kernel
theorem dX5_negate_39 : decode cX5_negate 39 = .ok (.istore_n 3, 1) := by decide +kernel
theorem dX5_negate_40 : decode cX5_negate 40 = .ok (.aload_n 0, 1) := by decide +kernel
theorem dX5_negate_41 : decode cX5_negate 41 = .ok (.getfield 7, 3) := by decide +kernel
theorem dX5_negate_44 : decode cX5_negate 44 = .ok (.bipush 15, 2) := by decide +kernel
theorem dX5_negate_46 : decode cX5_negate 46 = .ok (.bipush 6, 2) := by decide +kernel
theorem dX5_negate_48 : decode cX5_negate 48 = .ok (.iload_n 1, 1) := by decide +kernel
theorem dX5_negate_49 : decode cX5_negate 49 = .ok (.imul, 1) := by decide +kernel
theorem dX5_negate_50 : decode cX5_negate 50 = .ok (.iadd, 1) := by decide +kernel
theorem dX5_negate_51 : decode cX5_negate 51 = .ok (.iload_n 2, 1) := by decide +kernel
theorem dX5_negate_52 : decode cX5_negate 52 = .ok (.iadd, 1) := by decide +kernel
theorem dX5_negate_53 : decode cX5_negate 53 = .ok (.iload_n 3, 1) := by decide +kernel
theorem dX5_negate_54 : decode cX5_negate 54 = .ok (.ifCond .ne 7, 3) := by decide +kernel
theorem dX5_negate_57 : decode cX5_negate 57 = .ok (.iconst 0, 1) := by decide +kernel
theorem dX5_negate_58 : decode cX5_negate 58 = .ok (.goto 14, 3) := by decide +kernel
theorem dX5_negate_61 : decode cX5_negate 61 = .ok (.aload_n 0, 1) := by decide +kernel
theorem dX5_negate_62 : decode cX5_negate 62 = .ok (.getfield 7, 3) := by decide +kernel
theorem dX5_negate_65 : decode cX5_negate 65 = .ok (.bipush 8, 2) := by decide +kernel
theorem dX5_negate_67 : decode cX5_negate 67 = .ok (.iload_n 2, 1) := by decide +kernel
theorem dX5_negate_68 : decode cX5_negate 68 = .ok (.iadd, 1) := by decide +kernel
theorem dX5_negate_69 : decode cX5_negate 69 = .ok (.iaload, 1) := by decide +kernel
theorem dX5_negate_70 : decode cX5_negate 70 = .ok (.iload_n 3, 1) := by decide +kernel
theorem dX5_negate_71 : decode cX5_negate 71 = .ok (.isub, 1) := by decide +kernel
theorem dX5_negate_72 : decode cX5_negate 72 = .ok (.iastore, 1) := by decide +kernel
theorem dX5_negate_73 : decode cX5_negate 73 = .ok (.iinc 2 1, 3) := by decide +kernel
theorem dX5_negate_76 : decode cX5_negate 76 = .ok (.goto (-61), 3) := by decide +kernel
theorem dX5_negate_79 : decode cX5_negate 79 = .ok (.aload_n 0, 1) := by decide +kernel
theorem dX5_negate_80 : decode cX5_negate 80 = .ok (.iload_n 1, 1) := by decide +kernel
theorem dX5_negate_81 : decode cX5_negate 81 = .ok (.invokevirtual 67, 3) := by decide +kernel
theorem dX5_negate_84 : decode cX5_negate 84 = .ok (.ireturn, 1) := by decide +kernel
