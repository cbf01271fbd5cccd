set_option maxRecDepth 20000 in
theorem ggX0_init_X3_init : GoodIn wsX0_init wsX3_init := goodIn_r _ [14, 15, 2, 3, 16, 17, 8, 18, 19, 20, 21, 22, 23, 24, 25, 26, 27] (by decide +kernel) (by decide +kernel)
set_option maxRecDepth 20000 in
theorem gX0_init_X3_init_n11 : GoodIn wsX0_init (wsX3_init) := ggX0_init_X3_init
theorem dX0_init_0 : decode cX0_init 0 = .ok (.aload_n 0, 1) := by decide +kernel
theorem dX0_init_1 : decode cX0_init 1 = .ok (.invokespecial 5, 3) := by decide +kernel
theorem dX0_init_4 : decode cX0_init 4 = .ok (.aload_n 0, 1) := by decide +kernel
theorem dX0_init_5 : decode cX0_init 5 = .ok (.new 1, 3) := by decide +kernel
theorem dX0_init_8 : decode cX0_init 8 = .ok (.dup, 1) := by decide +kernel
theorem dX0_init_9 : decode cX0_init 9 = .ok (.invokespecial 11, 3) := by decide +kernel
theorem dX0_init_12 : decode cX0_init 12 = .ok (.putfield 12, 3) := by decide +kernel
theorem dX0_init_15 : decode cX0_init 15 = .ok (.aload_n 0, 1) := by decide +kernel
theorem dX0_init_16 : decode cX0_init 16 = .ok (.bipush 24, 2) := by decide +kernel
theorem dX0_init_18 : decode cX0_init 18 = .ok (.newarray .int, 2) := by decide +kernel
theorem dX0_init_20 : decode cX0_init 20 = .ok (.putfield 18, 3) := by decide +kernel
theorem dX0_init_23 : decode cX0_init 23 = .ok (.aload_n 0, 1) := by decide +kernel
theorem dX0_init_24 : decode cX0_init 24 = .ok (.iconst 1, 1) := by decide +kernel
theorem dX0_init_25 : decode cX0_init 25 = .ok (.putfield 22, 3) := by decide +kernel
theorem dX0_init_28 : decode cX0_init 28 = .ok (.aload_n 0, 1) := by decide +kernel
theorem dX0_init_29 : decode cX0_init 29 = .ok (.sipush 192, 3) := by decide +kernel
theorem dX0_init_32 : decode cX0_init 32 = .ok (.newarray .int, 2) := by decide +kernel
theorem dX0_init_34 : decode cX0_init 34 = .ok (.putfield 26, 3) := by decide +kernel
theorem dX0_init_37 : decode cX0_init 37 = .ok (.aload_n 0, 1) := by decide +kernel
theorem dX0_init_38 : decode cX0_init 38 = .ok (.bipush 8, 2) := by decide +kernel
theorem dX0_init_40 : decode cX0_init 40 = .ok (.newarray .int, 2) := by decide +kernel
theorem dX0_init_42 : decode cX0_init 42 = .ok (.putfield 29, 3) := by decide +kernel
theorem dX0_init_45 : decode cX0_init 45 = .ok (.return_, 1) := by decide +kernel
set_option maxRecDepth 20000 in
theorem ggX0_begin_X3_becomeLike : GoodIn wsX0_begin wsX3_becomeLike := goodIn_r _ [8, 9, 10, 11, 12, 13, 14, 15, 16, 17, 18, 19, 27, 28, 29, 30, 31, 32, 33] (by decide +kernel) (by decide +kernel)
set_option maxRecDepth 20000 in
theorem gX0_begin_X3_becomeLike : GoodIn wsX0_begin (wsV RX0 32 RX3 yX3_becomeLike wsX3_becomeLike) := goodIn_app (goodIn_of _ (by decide +kernel)) ggX0_begin_X3_becomeLike
theorem dX0_begin_0 : decode cX0_begin 0 = .ok (.aload_n 0, 1) := by decide +kernel
theorem dX0_begin_1 : decode cX0_begin 1 = .ok (.getfield 12, 3) := by decide +kernel
theorem dX0_begin_4 : decode cX0_begin 4 = .ok (.aload_n 1, 1) := by decide +kernel
theorem dX0_begin_5 : decode cX0_begin 5 = .ok (.invokevirtual 32, 3) := by decide +kernel
theorem dX0_begin_8 : decode cX0_begin 8 = .ok (.iconst 0, 1) := by decide +kernel
theorem dX0_begin_9 : decode cX0_begin 9 = .ok (.istore_n 2, 1) := by decide +kernel
theorem dX0_begin_10 : decode cX0_begin 10 = .ok (.iload_n 2, 1) := by decide +kernel
theorem dX0_begin_11 : decode cX0_begin 11 = .ok (.bipush 24, 2) := by decide +kernel
theorem dX0_begin_13 : decode cX0_begin 13 = .ok (.if_icmp .ge 16, 3) := by decide +kernel
theorem dX0_begin_16 : decode cX0_begin 16 = .ok (.aload_n 0, 1) := by decide +kernel
theorem dX0_begin_17 : decode cX0_begin 17 = .ok (.getfield 18, 3) := by decide +kernel
theorem dX0_begin_20 : decode cX0_begin 20 = .ok (.iload_n 2, 1) := by decide +kernel
theorem dX0_begin_21 : decode cX0_begin 21 = .ok (.iconst 0, 1) := by decide +kernel
theorem dX0_begin_22 : decode cX0_begin 22 = .ok (.iastore, 1) := by decide +kernel
theorem dX0_begin_23 : decode cX0_begin 23 = .ok (.iinc 2 1, 3) := by decide +kernel
theorem dX0_begin_26 : decode cX0_begin 26 = .ok (.goto (-16), 3) := by decide +kernel
theorem dX0_begin_29 : decode cX0_begin 29 = .ok (.aload_n 0, 1) := by decide +kernel
theorem dX0_begin_30 : decode cX0_begin 30 = .ok (.iconst 0, 1) := by decide +kernel
theorem dX0_begin_31 : decode cX0_begin 31 = .ok (.putfield 36, 3) := by decide +kernel
theorem dX0_begin_34 : decode cX0_begin 34 = .ok (.return_, 1) := by decide +kernel
set_option maxRecDepth 20000 in
theorem ggX0_becomeLike_X3_becomeLike : GoodIn wsX0_becomeLike wsX3_becomeLike := goodIn_r _ [16, 17, 18, 19, 20, 21, 22, 7, 8, 9, 23, 24, 32, 33, 34, 35, 36, 37, 38] (by decide +kernel) (by decide +kernel)
set_option maxRecDepth 20000 in
theorem gX0_becomeLike_X3_becomeLike : GoodIn wsX0_becomeLike (wsV RX0 32 RX3 yX3_becomeLike wsX3_becomeLike) := goodIn_app (goodIn_of _ (by decide +kernel)) ggX0_becomeLike_X3_becomeLike
theorem dX0_becomeLike_0 : decode cX0_becomeLike 0 = .ok (.aload_n 0, 1) := by decide +kernel
theorem dX0_becomeLike_1 : decode cX0_becomeLike 1 = .ok (.getfield 12, 3) := by decide +kernel
theorem dX0_becomeLike_4 : decode cX0_becomeLike 4 = .ok (.aload_n 1, 1) := by decide +kernel
theorem dX0_becomeLike_5 : decode cX0_becomeLike 5 = .ok (.getfield 12, 3) := by decide +kernel
theorem dX0_becomeLike_8 : decode cX0_becomeLike 8 = .ok (.invokevirtual 32, 3) := by decide +kernel
theorem dX0_becomeLike_11 : decode cX0_becomeLike 11 = .ok (.aload_n 0, 1) := by decide +kernel
theorem dX0_becomeLike_12 : decode cX0_becomeLike 12 = .ok (.aload_n 1, 1) := by decide +kernel
theorem dX0_becomeLike_13 : decode cX0_becomeLike 13 = .ok (.getfield 22, 3) := by decide +kernel
theorem dX0_becomeLike_16 : decode cX0_becomeLike 16 = .ok (.putfield 22, 3) := by decide +kernel
theorem dX0_becomeLike_19 : decode cX0_becomeLike 19 = .ok (.aload_n 0, 1) := by decide +kernel
theorem dX0_becomeLike_20 : decode cX0_becomeLike 20 = .ok (.aload_n 1, 1) := by decide +kernel
theorem dX0_becomeLike_21 : decode cX0_becomeLike 21 = .ok (.getfield 36, 3) := by decide +kernel
theorem dX0_becomeLike_24 : decode cX0_becomeLike 24 = .ok (.putfield 36, 3) := by decide +kernel
theorem dX0_becomeLike_27 : decode cX0_becomeLike 27 = .ok (.aload_n 0, 1) := by decide +kernel
theorem dX0_becomeLike_28 : decode cX0_becomeLike 28 = .ok (.aload_n 1, 1) := by decide +kernel
theorem dX0_becomeLike_29 : decode cX0_becomeLike 29 = .ok (.getfield 39, 3) := by decide +kernel
theorem dX0_becomeLike_32 : decode cX0_becomeLike 32 = .ok (.putfield 39, 3) := by decide +kernel
theorem dX0_becomeLike_35 : decode cX0_becomeLike 35 = .ok (.aload_n 1, 1) := by decide +kernel
theorem dX0_becomeLike_36 : decode cX0_becomeLike 36 = .ok (.getfield 18, 3) := by decide +kernel
theorem dX0_becomeLike_39 : decode cX0_becomeLike 39 = .ok (.iconst 0, 1) := by decide +kernel
theorem dX0_becomeLike_40 : decode cX0_becomeLike 40 = .ok (.aload_n 0, 1) := by decide +kernel
theorem dX0_becomeLike_41 : decode cX0_becomeLike 41 = .ok (.getfield 18, 3) := by decide +kernel
theorem dX0_becomeLike_44 : decode cX0_becomeLike 44 = .ok (.iconst 0, 1) := by decide +kernel
theorem dX0_becomeLike_45 : decode cX0_becomeLike 45 = .ok (.bipush 24, 2) := by decide +kernel
theorem dX0_becomeLike_47 : decode cX0_becomeLike 47 = .ok (.invokestatic 42, 3) := by decide +kernel
theorem dX0_becomeLike_50 : decode cX0_becomeLike 50 = .ok (.aload_n 1, 1) := by decide +kernel
theorem dX0_becomeLike_51 : decode cX0_becomeLike 51 = .ok (.getfield 26, 3) := by decide +kernel
theorem dX0_becomeLike_54 : decode cX0_becomeLike 54 = .ok (.iconst 0, 1) := by decide +kernel
theorem dX0_becomeLike_55 : decode cX0_becomeLike 55 = .ok (.aload_n 0, 1) := by decide +kernel
theorem dX0_becomeLike_56 : decode cX0_becomeLike 56 = .ok (.getfield 26, 3) := by decide +kernel
theorem dX0_becomeLike_59 : decode cX0_becomeLike 59 = .ok (.iconst 0, 1) := by decide +kernel
theorem dX0_becomeLike_60 : decode cX0_becomeLike 60 = .ok (.sipush 192, 3) := by decide +kernel
theorem dX0_becomeLike_63 : decode cX0_becomeLike 63 = .ok (.invokestatic 42, 3) := by decide +kernel
theorem dX0_becomeLike_66 : decode cX0_becomeLike 66 = .ok (.aload_n 1, 1) := by decide +kernel
theorem dX0_becomeLike_67 : decode cX0_becomeLike 67 = .ok (.getfield 29, 3) := by decide +kernel
theorem dX0_becomeLike_70 : decode cX0_becomeLike 70 = .ok (.iconst 0, 1) := by decide +kernel
theorem dX0_becomeLike_71 : decode cX0_becomeLike 71 = .ok (.aload_n 0, 1) := by decide +kernel
theorem dX0_becomeLike_72 : decode cX0_becomeLike 72 = .ok (.getfield 29, 3) := by decide +kernel
theorem dX0_becomeLike_75 : decode cX0_becomeLike 75 = .ok (.iconst 0, 1) := by decide +kernel
theorem dX0_becomeLike_76 : decode cX0_becomeLike 76 = .ok (.bipush 8, 2) := by decide +kernel
theorem dX0_becomeLike_78 : decode cX0_becomeLike 78 = .ok (.invokestatic 42, 3) := by decide +kernel
theorem dX0_becomeLike_81 : decode cX0_becomeLike 81 = .ok (.return_, 1) := by decide +kernel
theorem dX0_remember_0 : decode cX0_remember 0 = .ok (.aload_n 0, 1) := by decide +kernel
theorem dX0_remember_1 : decode cX0_remember 1 = .ok (.getfield 18, 3) := by decide +kernel
theorem dX0_remember_4 : decode cX0_remember 4 = .ok (.iconst 0, 1) := by decide +kernel
theorem dX0_remember_5 : decode cX0_remember 5 = .ok (.aload_n 0, 1) := by decide +kernel
theorem dX0_remember_6 : decode cX0_remember 6 = .ok (.getfield 26, 3) := by decide +kernel
theorem dX0_remember_9 : decode cX0_remember 9 = .ok (.aload_n 0, 1) := by decide +kernel
theorem dX0_remember_10 : decode cX0_remember 10 = .ok (.getfield 39, 3) := by decide +kernel
theorem dX0_remember_13 : decode cX0_remember 13 = .ok (.bipush 24, 2) := by decide +kernel
theorem dX0_remember_15 : decode cX0_remember 15 = .ok (.imul, 1) := by decide +kernel
theorem dX0_remember_16 : decode cX0_remember 16 = .ok (.bipush 24, 2) := by decide +kernel
theorem dX0_remember_18 : decode cX0_remember 18 = .ok (.invokestatic 42, 3) := by decide +kernel
theorem dX0_remember_21 : decode cX0_remember 21 = .ok (.aload_n 0, 1) := by decide +kernel
theorem dX0_remember_22 : decode cX0_remember 22 = .ok (.getfield 29, 3) := by decide +kernel
theorem dX0_remember_25 : decode cX0_remember 25 = .ok (.aload_n 0, 1) := by decide +kernel
theorem dX0_remember_26 : decode cX0_remember 26 = .ok (.getfield 39, 3) := by decide +kernel
theorem dX0_remember_29 : decode cX0_remember 29 = .ok (.aload_n 0, 1) := by decide +kernel
theorem dX0_remember_30 : decode cX0_remember 30 = .ok (.getfield 22, 3) := by decide +kernel
theorem dX0_remember_33 : decode cX0_remember 33 = .ok (.iastore, 1) := by decide +kernel
theorem dX0_remember_34 : decode cX0_remember 34 = .ok (.aload_n 0, 1) := by decide +kernel
theorem dX0_remember_35 : decode cX0_remember 35 = .ok (.aload_n 0, 1) := by decide +kernel
theorem dX0_remember_36 : decode cX0_remember 36 = .ok (.getfield 39, 3) := by decide +kernel
theorem dX0_remember_39 : decode cX0_remember 39 = .ok (.iconst 1, 1) := by decide +kernel
theorem dX0_remember_40 : decode cX0_remember 40 = .ok (.iadd, 1) := by decide +kernel
theorem dX0_remember_41 : decode cX0_remember 41 = .ok (.bipush 8, 2) := by decide +kernel
theorem dX0_remember_43 : decode cX0_remember 43 = .ok (.irem, 1) := by decide +kernel
theorem dX0_remember_44 : decode cX0_remember 44 = .ok (.putfield 39, 3) := by decide +kernel
theorem dX0_remember_47 : decode cX0_remember 47 = .ok (.aload_n 0, 1) := by decide +kernel
theorem dX0_remember_48 : decode cX0_remember 48 = .ok (.aload_n 0, 1) := by decide +kernel
theorem dX0_remember_49 : decode cX0_remember 49 = .ok (.getfield 36, 3) := by decide +kernel
theorem dX0_remember_52 : decode cX0_remember 52 = .ok (.iconst 1, 1) := by decide +kernel
theorem dX0_remember_53 : decode cX0_remember 53 = .ok (.iadd, 1) := by decide +kernel
theorem dX0_remember_54 : decode cX0_remember 54 = .ok (.bipush 8, 2) := by decide +kernel
theorem dX0_remember_56 : decode cX0_remember 56 = .ok (.invokestatic 48, 3) := by decide +kernel
theorem dX0_remember_59 : decode cX0_remember 59 = .ok (.putfield 36, 3) := by decide +kernel
theorem dX0_remember_62 : decode cX0_remember 62 = .ok (.return_, 1) := by decide +kernel
theorem dX0_goBack_0 : decode cX0_goBack 0 = .ok (.aload_n 0, 1) := by decide +kernel
theorem dX0_goBack_1 : decode cX0_goBack 1 = .ok (.getfield 36, 3) := by decide +kernel
theorem dX0_goBack_4 : decode cX0_goBack 4 = .ok (.ifCond .ne 5, 3) := by decide +kernel
theorem dX0_goBack_7 : decode cX0_goBack 7 = .ok (.iconst 0, 1) := by decide +kernel
theorem dX0_goBack_8 : decode cX0_goBack 8 = .ok (.ireturn, 1) := by decide +kernel
theorem dX0_goBack_9 : decode cX0_goBack 9 = .ok (.aload_n 0, 1) := by decide +kernel
theorem dX0_goBack_10 : decode cX0_goBack 10 = .ok (.dup, 1) := by decide +kernel
theorem dX0_goBack_11 : decode cX0_goBack 11 = .ok (.getfield 36, 3) := by decide +kernel
theorem dX0_goBack_14 : decode cX0_goBack 14 = .ok (.iconst 1, 1) := by decide +kernel
theorem dX0_goBack_15 : decode cX0_goBack 15 = .ok (.isub, 1) := by decide +kernel
theorem dX0_goBack_16 : decode cX0_goBack 16 = .ok (.putfield 36, 3) := by decide +kernel
theorem dX0_goBack_19 : decode cX0_goBack 19 = .ok (.aload_n 0, 1) := by decide +kernel
theorem dX0_goBack_20 : decode cX0_goBack 20 = .ok (.aload_n 0, 1) := by decide +kernel
theorem dX0_goBack_21 : decode cX0_goBack 21 = .ok (.getfield 39, 3) := by decide +kernel
theorem dX0_goBack_24 : decode cX0_goBack 24 = .ok (.bipush 8, 2) := by decide +kernel
theorem dX0_goBack_26 : decode cX0_goBack 26 = .ok (.iadd, 1) := by decide +kernel
theorem dX0_goBack_27 : decode cX0_goBack 27 = .ok (.iconst 1, 1) := by decide +kernel
theorem dX0_goBack_28 : decode cX0_goBack 28 = .ok (.isub, 1) := by decide +kernel
theorem dX0_goBack_29 : decode cX0_goBack 29 = .ok (.bipush 8, 2) := by decide +kernel
theorem dX0_goBack_31 : decode cX0_goBack 31 = .ok (.irem, 1) := by decide +kernel
theorem dX0_goBack_32 : decode cX0_goBack 32 = .ok (.putfield 39, 3) := by decide +kernel
theorem dX0_goBack_35 : decode cX0_goBack 35 = .ok (.aload_n 0, 1) := by decide +kernel
theorem dX0_goBack_36 : decode cX0_goBack 36 = .ok (.getfield 26, 3) := by decide +kernel
theorem dX0_goBack_39 : decode cX0_goBack 39 = .ok (.aload_n 0, 1) := by decide +kernel
theorem dX0_goBack_40 : decode cX0_goBack 40 = .ok (.getfield 39, 3) := by decide +kernel
theorem dX0_goBack_43 : decode cX0_goBack 43 = .ok (.bipush 24, 2) := by decide +kernel
theorem dX0_goBack_45 : decode cX0_goBack 45 = .ok (.imul, 1) := by decide +kernel
theorem dX0_goBack_46 : decode cX0_goBack 46 = .ok (.aload_n 0, 1) := by decide +kernel
theorem dX0_goBack_47 : decode cX0_goBack 47 = .ok (.getfield 18, 3) := by decide +kernel
theorem dX0_goBack_50 : decode cX0_goBack 50 = .ok (.iconst 0, 1) := by decide +kernel
theorem dX0_goBack_51 : decode cX0_goBack 51 = .ok (.bipush 24, 2) := by decide +kernel
theorem dX0_goBack_53 : decode cX0_goBack 53 = .ok (.invokestatic 42, 3) := by decide +kernel
theorem dX0_goBack_56 : decode cX0_goBack 56 = .ok (.aload_n 0, 1) := by decide +kernel
theorem dX0_goBack_57 : decode cX0_goBack 57 = .ok (.aload_n 0, 1) := by decide +kernel
theorem dX0_goBack_58 : decode cX0_goBack 58 = .ok (.getfield 29, 3) := by decide +kernel
theorem dX0_goBack_61 : decode cX0_goBack 61 = .ok (.aload_n 0, 1) := by decide +kernel
theorem dX0_goBack_62 : decode cX0_goBack 62 = .ok (.getfield 39, 3) := by decide +kernel
theorem dX0_goBack_65 : decode cX0_goBack 65 = .ok (.iaload, 1) := by decide +kernel
theorem dX0_goBack_66 : decode cX0_goBack 66 = .ok (.putfield 22, 3) := by decide +kernel
theorem dX0_goBack_69 : decode cX0_goBack 69 = .ok (.iconst 1, 1) := by decide +kernel
theorem dX0_goBack_70 : decode cX0_goBack 70 = .ok (.ireturn, 1) := by decide +kernel
theorem dX0_shown_0 : decode cX0_shown 0 = .ok (.aload_n 0, 1) := by decide +kernel
theorem dX0_shown_1 : decode cX0_shown 1 = .ok (.getfield 18, 3) := by decide +kernel
theorem dX0_shown_4 : decode cX0_shown 4 = .ok (.iload_n 1, 1) := by decide +kernel
theorem dX0_shown_5 : decode cX0_shown 5 = .ok (.bipush 6, 2) := by decide +kernel
theorem dX0_shown_7 : decode cX0_shown 7 = .ok (.imul, 1) := by decide +kernel
theorem dX0_shown_8 : decode cX0_shown 8 = .ok (.iload_n 2, 1) := by decide +kernel
theorem dX0_shown_9 : decode cX0_shown 9 = .ok (.iadd, 1) := by decide +kernel
theorem dX0_shown_10 : decode cX0_shown 10 = .ok (.iaload, 1) := by decide +kernel
theorem dX0_shown_11 : decode cX0_shown 11 = .ok (.ireturn, 1) := by decide +kernel
theorem dX0_show_0 : decode cX0_show 0 = .ok (.aload_n 0, 1) := by decide +kernel
theorem dX0_show_1 : decode cX0_show 1 = .ok (.getfield 18, 3) := by decide +kernel
theorem dX0_show_4 : decode cX0_show 4 = .ok (.iload_n 1, 1) := by decide +kernel
theorem dX0_show_5 : decode cX0_show 5 = .ok (.bipush 6, 2) := by decide +kernel
theorem dX0_show_7 : decode cX0_show 7 = .ok (.imul, 1) := by decide +kernel
theorem dX0_show_8 : decode cX0_show 8 = .ok (.iload_n 2, 1) := by decide +kernel
theorem dX0_show_9 : decode cX0_show 9 = .ok (.iadd, 1) := by decide +kernel
theorem dX0_show_10 : decode cX0_show 10 = .ok (.iload_n 3, 1) := by decide +kernel
theorem dX0_show_11 : decode cX0_show 11 = .ok (.iastore, 1) := by decide +kernel
theorem dX0_show_12 : decode cX0_show 12 = .ok (.return_, 1) := by decide +kernel
set_option maxRecDepth 20000 in
theorem ggX0_value_X0_shown : GoodIn wsX0_value wsX0_shown := goodIn_r _ [9, 10, 11, 12, 13, 14, 15, 16, 17] (by decide +kernel) (by decide +kernel)
set_option maxRecDepth 20000 in
theorem gX0_value_X0_shown : GoodIn wsX0_value (wsV RX0 57 RX0 yX0_shown wsX0_shown) := goodIn_app (goodIn_of _ (by decide +kernel)) ggX0_value_X0_shown
theorem dX0_value_0 : decode cX0_value 0 = .ok (.iconst 0, 1) := by decide +kernel
theorem dX0_value_1 : decode cX0_value 1 = .ok (.istore_n 2, 1) := by decide +kernel
theorem dX0_value_2 : decode cX0_value 2 = .ok (.iconst 0, 1) := by decide +kernel
theorem dX0_value_3 : decode cX0_value 3 = .ok (.istore_n 3, 1) := by decide +kernel
theorem dX0_value_4 : decode cX0_value 4 = .ok (.iload_n 3, 1) := by decide +kernel
theorem dX0_value_5 : decode cX0_value 5 = .ok (.aload_n 0, 1) := by decide +kernel
theorem dX0_value_6 : decode cX0_value 6 = .ok (.getfield 12, 3) := by decide +kernel
theorem dX0_value_9 : decode cX0_value 9 = .ok (.getfield 54, 3) := by decide +kernel
theorem dX0_value_12 : decode cX0_value 12 = .ok (.if_icmp .ge 36, 3) := by decide +kernel
theorem dX0_value_15 : decode cX0_value 15 = .ok (.iload_n 2, 1) := by decide +kernel
theorem dX0_value_16 : decode cX0_value 16 = .ok (.aload_n 0, 1) := by decide +kernel
theorem dX0_value_17 : decode cX0_value 17 = .ok (.iload_n 1, 1) := by decide +kernel
theorem dX0_value_18 : decode cX0_value 18 = .ok (.iload_n 3, 1) := by decide +kernel
theorem dX0_value_19 : decode cX0_value 19 = .ok (.invokevirtual 57, 3) := by decide +kernel
theorem dX0_value_22 : decode cX0_value 22 = .ok (.aload_n 0, 1) := by decide +kernel
theorem dX0_value_23 : decode cX0_value 23 = .ok (.getfield 12, 3) := by decide +kernel
theorem dX0_value_26 : decode cX0_value 26 = .ok (.getfield 60, 3) := by decide +kernel
theorem dX0_value_29 : decode cX0_value 29 = .ok (.iload_n 3, 1) := by decide +kernel
theorem dX0_value_30 : decode cX0_value 30 = .ok (.iaload, 1) := by decide +kernel
theorem dX0_value_31 : decode cX0_value 31 = .ok (.imul, 1) := by decide +kernel
theorem dX0_value_32 : decode cX0_value 32 = .ok (.iadd, 1) := by decide +kernel
theorem dX0_value_33 : decode cX0_value 33 = .ok (.aload_n 0, 1) := by decide +kernel
theorem dX0_value_34 : decode cX0_value 34 = .ok (.getfield 12, 3) := by decide +kernel
theorem dX0_value_37 : decode cX0_value 37 = .ok (.getfield 63, 3) := by decide +kernel
theorem dX0_value_40 : decode cX0_value 40 = .ok (.irem, 1) := by decide +kernel
theorem dX0_value_41 : decode cX0_value 41 = .ok (.istore_n 2, 1) := by decide +kernel
theorem dX0_value_42 : decode cX0_value 42 = .ok (.iinc 3 1, 3) := by decide +kernel
theorem dX0_value_45 : decode cX0_value 45 = .ok (.goto (-41), 3) := by decide +kernel
theorem dX0_value_48 : decode cX0_value 48 = .ok (.iload_n 2, 1) := by decide +kernel
theorem dX0_value_49 : decode cX0_value 49 = .ok (.ireturn, 1) := by decide +kernel
set_option maxRecDepth 20000 in
theorem ggX0_isLegal_X0_value : GoodIn wsX0_isLegal wsX0_value := goodIn_r _ [7, 1, 8, 9, 10, 11, 12, 13, 6, 14, 15, 16, 17, 18, 19, 20, 21, 22, 23, 24, 25, 26, 27, 28, 29] (by decide +kernel) (by decide +kernel)
set_option maxRecDepth 20000 in
theorem gX0_isLegal_X0_value : GoodIn wsX0_isLegal (wsV RX0 66 RX0 yX0_value wsX0_value) := goodIn_app (goodIn_of _ (by decide +kernel)) ggX0_isLegal_X0_value
theorem dX0_isLegal_0 : decode cX0_isLegal 0 = .ok (.aload_n 0, 1) := by decide +kernel
theorem dX0_isLegal_1 : decode cX0_isLegal 1 = .ok (.iload_n 1, 1) := by decide +kernel
theorem dX0_isLegal_2 : decode cX0_isLegal 2 = .ok (.invokevirtual 66, 3) := by decide +kernel
theorem dX0_isLegal_5 : decode cX0_isLegal 5 = .ok (.aload_n 0, 1) := by decide +kernel
theorem dX0_isLegal_6 : decode cX0_isLegal 6 = .ok (.getfield 12, 3) := by decide +kernel
theorem dX0_isLegal_9 : decode cX0_isLegal 9 = .ok (.getfield 70, 3) := by decide +kernel
theorem dX0_isLegal_12 : decode cX0_isLegal 12 = .ok (.if_icmp .ge 7, 3) := by decide +kernel
theorem dX0_isLegal_15 : decode cX0_isLegal 15 = .ok (.iconst 1, 1) := by decide +kernel
theorem dX0_isLegal_16 : decode cX0_isLegal 16 = .ok (.goto 4, 3) := by decide +kernel
theorem dX0_isLegal_19 : decode cX0_isLegal 19 = .ok (.iconst 0, 1) := by decide +kernel
theorem dX0_isLegal_20 : decode cX0_isLegal 20 = .ok (.ireturn, 1) := by decide +kernel
set_option maxRecDepth 20000 in
theorem ggX0_legalOnes_X0_isLegal : GoodIn wsX0_legalOnes wsX0_isLegal := goodIn_r _ [5, 6, 7, 8, 9, 10, 4, 11, 12, 13, 14, 15, 16, 17, 18, 19, 20, 21, 22, 23, 24, 25, 26, 27, 28, 29, 30, 31, 32, 33] (by decide +kernel) (by decide +kernel)
set_option maxRecDepth 20000 in
theorem gX0_legalOnes_X0_isLegal : GoodIn wsX0_legalOnes (wsV RX0 73 RX0 yX0_isLegal wsX0_isLegal) := goodIn_app (goodIn_of _ (by decide +kernel)) ggX0_legalOnes_X0_isLegal
theorem dX0_legalOnes_0 : decode cX0_legalOnes 0 = .ok (.iconst 0, 1) := by decide +kernel
theorem dX0_legalOnes_1 : decode cX0_legalOnes 1 = .ok (.istore_n 1, 1) := by decide +kernel
theorem dX0_legalOnes_2 : decode cX0_legalOnes 2 = .ok (.iconst 0, 1) := by decide +kernel
theorem dX0_legalOnes_3 : decode cX0_legalOnes 3 = .ok (.istore_n 2, 1) := by decide +kernel
theorem dX0_legalOnes_4 : decode cX0_legalOnes 4 = .ok (.iload_n 2, 1) := by decide +kernel
theorem dX0_legalOnes_5 : decode cX0_legalOnes 5 = .ok (.iconst 4, 1) := by decide +kernel
theorem dX0_legalOnes_6 : decode cX0_legalOnes 6 = .ok (.if_icmp .ge 27, 3) := by decide +kernel
theorem dX0_legalOnes_9 : decode cX0_legalOnes 9 = .ok (.iload_n 1, 1) := by decide +kernel
theorem dX0_legalOnes_10 : decode cX0_legalOnes 10 = .ok (.aload_n 0, 1) := by decide +kernel
theorem dX0_legalOnes_11 : decode cX0_legalOnes 11 = .ok (.iload_n 2, 1) := by decide +kernel
theorem dX0_legalOnes_12 : decode cX0_legalOnes 12 = .ok (.invokevirtual 73, 3) := by decide +kernel
theorem dX0_legalOnes_15 : decode cX0_legalOnes 15 = .ok (.ifCond .eq 9, 3) := by decide +kernel
theorem dX0_legalOnes_18 : decode cX0_legalOnes 18 = .ok (.iconst 1, 1) := by decide +kernel
theorem dX0_legalOnes_19 : decode cX0_legalOnes 19 = .ok (.iload_n 2, 1) := by decide +kernel
theorem dX0_legalOnes_20 : decode cX0_legalOnes 20 = .ok (.ishl, 1) := by decide +kernel
theorem dX0_legalOnes_21 : decode cX0_legalOnes 21 = .ok (.goto 4, 3) := by decide +kernel
theorem dX0_legalOnes_24 : decode cX0_legalOnes 24 = .ok (.iconst 0, 1) := by decide +kernel
theorem dX0_legalOnes_25 : decode cX0_legalOnes 25 = .ok (.ior, 1) := by decide +kernel
theorem dX0_legalOnes_26 : decode cX0_legalOnes 26 = .ok (.istore_n 1, 1) := by decide +kernel
theorem dX0_legalOnes_27 : decode cX0_legalOnes 27 = .ok (.iinc 2 1, 3) := by decide +kernel
theorem dX0_legalOnes_30 : decode cX0_legalOnes 30 = .ok (.goto (-26), 3) := by decide +kernel
theorem dX0_legalOnes_33 : decode cX0_legalOnes 33 = .ok (.iload_n 1, 1) := by decide +kernel
theorem dX0_legalOnes_34 : decode cX0_legalOnes 34 = .ok (.ireturn, 1) := by decide +kernel
set_option maxRecDepth 20000 in
theorem ggX0_wrongOnes_X0_shown : GoodIn wsX0_wrongOnes wsX0_shown := goodIn_r _ [7, 8, 33, 34, 35, 36, 37, 38, 39] (by decide +kernel) (by decide +kernel)
set_option maxRecDepth 20000 in
theorem gX0_wrongOnes_X0_shown : GoodIn wsX0_wrongOnes (wsV RX0 57 RX0 yX0_shown wsX0_shown) := goodIn_app (goodIn_of _ (by decide +kernel)) ggX0_wrongOnes_X0_shown
set_option maxRecDepth 20000 in
theorem ggX0_wrongOnes_X3_isWrong : GoodIn wsX0_wrongOnes wsX3_isWrong := goodIn_r _ [13, 14, 15, 16, 17, 12, 18, 19, 20, 21, 22, 23, 24, 25, 26, 27, 28, 29, 30, 31, 32, 40, 41, 42, 43, 44, 45, 46] (by decide +kernel) (by decide +kernel)
set_option maxRecDepth 20000 in
theorem gX0_wrongOnes_X3_isWrong : GoodIn wsX0_wrongOnes (wsV RX0 77 RX3 yX3_isWrong wsX3_isWrong) := goodIn_app (goodIn_of _ (by decide +kernel)) ggX0_wrongOnes_X3_isWrong
theorem dX0_wrongOnes_0 : decode cX0_wrongOnes 0 = .ok (.iconst 0, 1) := by decide +kernel
theorem dX0_wrongOnes_1 : decode cX0_wrongOnes 1 = .ok (.istore_n 3, 1) := by decide +kernel
theorem dX0_wrongOnes_2 : decode cX0_wrongOnes 2 = .ok (.iconst 0, 1) := by decide +kernel
theorem dX0_wrongOnes_3 : decode cX0_wrongOnes 3 = .ok (.istore 4, 2) := by decide +kernel
theorem dX0_wrongOnes_5 : decode cX0_wrongOnes 5 = .ok (.iload 4, 2) := by decide +kernel
theorem dX0_wrongOnes_7 : decode cX0_wrongOnes 7 = .ok (.aload_n 0, 1) := by decide +kernel
theorem dX0_wrongOnes_8 : decode cX0_wrongOnes 8 = .ok (.getfield 12, 3) := by decide +kernel
theorem dX0_wrongOnes_11 : decode cX0_wrongOnes 11 = .ok (.getfield 54, 3) := by decide +kernel
theorem dX0_wrongOnes_14 : decode cX0_wrongOnes 14 = .ok (.if_icmp .ge 46, 3) := by decide +kernel
theorem dX0_wrongOnes_17 : decode cX0_wrongOnes 17 = .ok (.iload_n 3, 1) := by decide +kernel
theorem dX0_wrongOnes_18 : decode cX0_wrongOnes 18 = .ok (.aload_n 0, 1) := by decide +kernel
theorem dX0_wrongOnes_19 : decode cX0_wrongOnes 19 = .ok (.getfield 12, 3) := by decide +kernel
theorem dX0_wrongOnes_22 : decode cX0_wrongOnes 22 = .ok (.iload 4, 2) := by decide +kernel
theorem dX0_wrongOnes_24 : decode cX0_wrongOnes 24 = .ok (.aload_n 0, 1) := by decide +kernel
theorem dX0_wrongOnes_25 : decode cX0_wrongOnes 25 = .ok (.iload_n 1, 1) := by decide +kernel
theorem dX0_wrongOnes_26 : decode cX0_wrongOnes 26 = .ok (.iload 4, 2) := by decide +kernel
theorem dX0_wrongOnes_28 : decode cX0_wrongOnes 28 = .ok (.invokevirtual 57, 3) := by decide +kernel
theorem dX0_wrongOnes_31 : decode cX0_wrongOnes 31 = .ok (.aload_n 0, 1) := by decide +kernel
theorem dX0_wrongOnes_32 : decode cX0_wrongOnes 32 = .ok (.iload_n 2, 1) := by decide +kernel
theorem dX0_wrongOnes_33 : decode cX0_wrongOnes 33 = .ok (.iload 4, 2) := by decide +kernel
theorem dX0_wrongOnes_35 : decode cX0_wrongOnes 35 = .ok (.invokevirtual 57, 3) := by decide +kernel
theorem dX0_wrongOnes_38 : decode cX0_wrongOnes 38 = .ok (.invokevirtual 77, 3) := by decide +kernel
theorem dX0_wrongOnes_41 : decode cX0_wrongOnes 41 = .ok (.ifCond .eq 10, 3) := by decide +kernel
theorem dX0_wrongOnes_44 : decode cX0_wrongOnes 44 = .ok (.iconst 1, 1) := by decide +kernel
theorem dX0_wrongOnes_45 : decode cX0_wrongOnes 45 = .ok (.iload 4, 2) := by decide +kernel
theorem dX0_wrongOnes_47 : decode cX0_wrongOnes 47 = .ok (.ishl, 1) := by decide +kernel
theorem dX0_wrongOnes_48 : decode cX0_wrongOnes 48 = .ok (.goto 4, 3) := by decide +kernel
theorem dX0_wrongOnes_51 : decode cX0_wrongOnes 51 = .ok (.iconst 0, 1) := by decide +kernel
theorem dX0_wrongOnes_52 : decode cX0_wrongOnes 52 = .ok (.ior, 1) := by decide +kernel
theorem dX0_wrongOnes_53 : decode cX0_wrongOnes 53 = .ok (.istore_n 3, 1) := by decide +kernel
theorem dX0_wrongOnes_54 : decode cX0_wrongOnes 54 = .ok (.iinc 4 1, 3) := by decide +kernel
theorem dX0_wrongOnes_57 : decode cX0_wrongOnes 57 = .ok (.goto (-52), 3) := by decide +kernel
theorem dX0_wrongOnes_60 : decode cX0_wrongOnes 60 = .ok (.iload_n 3, 1) := by decide +kernel
theorem dX0_wrongOnes_61 : decode cX0_wrongOnes 61 = .ok (.ireturn, 1) := by decide +kernel
set_option maxRecDepth 20000 in
theorem ggX0_put_X0_show : GoodIn wsX0_put wsX0_show := goodIn_r _ [8, 9, 10, 11, 12, 13, 14, 15, 16] (by decide +kernel) (by decide +kernel)
set_option maxRecDepth 20000 in
theorem gX0_put_X0_show : GoodIn wsX0_put (wsV RX0 84 RX0 yX0_show wsX0_show) := goodIn_app (goodIn_of _ (by decide +kernel)) ggX0_put_X0_show
theorem dX0_put_0 : decode cX0_put 0 = .ok (.iconst 0, 1) := by decide +kernel
theorem dX0_put_1 : decode cX0_put 1 = .ok (.istore_n 3, 1) := by decide +kernel
theorem dX0_put_2 : decode cX0_put 2 = .ok (.iload_n 3, 1) := by decide +kernel
theorem dX0_put_3 : decode cX0_put 3 = .ok (.aload_n 0, 1) := by decide +kernel
theorem dX0_put_4 : decode cX0_put 4 = .ok (.getfield 12, 3) := by decide +kernel
theorem dX0_put_7 : decode cX0_put 7 = .ok (.getfield 54, 3) := by decide +kernel
theorem dX0_put_10 : decode cX0_put 10 = .ok (.if_icmp .ge 26, 3) := by decide +kernel
theorem dX0_put_13 : decode cX0_put 13 = .ok (.aload_n 0, 1) := by decide +kernel
theorem dX0_put_14 : decode cX0_put 14 = .ok (.iload_n 1, 1) := by decide +kernel
theorem dX0_put_15 : decode cX0_put 15 = .ok (.iload_n 3, 1) := by decide +kernel
theorem dX0_put_16 : decode cX0_put 16 = .ok (.iload_n 2, 1) := by decide +kernel
theorem dX0_put_17 : decode cX0_put 17 = .ok (.aload_n 0, 1) := by decide +kernel
theorem dX0_put_18 : decode cX0_put 18 = .ok (.getfield 12, 3) := by decide +kernel
theorem dX0_put_21 : decode cX0_put 21 = .ok (.getfield 81, 3) := by decide +kernel
theorem dX0_put_24 : decode cX0_put 24 = .ok (.iload_n 3, 1) := by decide +kernel
theorem dX0_put_25 : decode cX0_put 25 = .ok (.iaload, 1) := by decide +kernel
theorem dX0_put_26 : decode cX0_put 26 = .ok (.irem, 1) := by decide +kernel
theorem dX0_put_27 : decode cX0_put 27 = .ok (.invokevirtual 84, 3) := by decide +kernel
theorem dX0_put_30 : decode cX0_put 30 = .ok (.iinc 3 1, 3) := by decide +kernel
theorem dX0_put_33 : decode cX0_put 33 = .ok (.goto (-31), 3) := by decide +kernel
theorem dX0_put_36 : decode cX0_put 36 = .ok (.return_, 1) := by decide +kernel
set_option maxRecDepth 20000 in
theorem ggX0_addTo_X0_shown : GoodIn wsX0_addTo wsX0_shown := goodIn_r _ [7, 8, 33, 34, 35, 36, 37, 38, 39] (by decide +kernel) (by decide +kernel)
set_option maxRecDepth 20000 in
theorem gX0_addTo_X0_shown : GoodIn wsX0_addTo (wsV RX0 57 RX0 yX0_shown wsX0_shown) := goodIn_app (goodIn_of _ (by decide +kernel)) ggX0_addTo_X0_shown
set_option maxRecDepth 20000 in
theorem ggX0_addTo_X3_added : GoodIn wsX0_addTo wsX3_added := goodIn_r _ [13, 14, 15, 16, 17, 12, 18, 19, 20, 21, 22, 23, 24, 25, 26, 27, 28, 40, 41, 42, 43, 44, 45, 46] (by decide +kernel) (by decide +kernel)
set_option maxRecDepth 20000 in
theorem gX0_addTo_X3_added : GoodIn wsX0_addTo (wsV RX0 88 RX3 yX3_added wsX3_added) := goodIn_app (goodIn_of _ (by decide +kernel)) ggX0_addTo_X3_added
set_option maxRecDepth 20000 in
theorem ggX0_addTo_X0_show : GoodIn wsX0_addTo wsX0_show := goodIn_r _ [32, 8, 33, 34, 35, 36, 37, 38, 39] (by decide +kernel) (by decide +kernel)
set_option maxRecDepth 20000 in
theorem gX0_addTo_X0_show : GoodIn wsX0_addTo (wsV RX0 84 RX0 yX0_show wsX0_show) := goodIn_app (goodIn_of _ (by decide +kernel)) ggX0_addTo_X0_show
theorem dX0_addTo_0 : decode cX0_addTo 0 = .ok (.iconst 0, 1) := by decide +kernel
theorem dX0_addTo_1 : decode cX0_addTo 1 = .ok (.istore_n 3, 1) := by decide +kernel
theorem dX0_addTo_2 : decode cX0_addTo 2 = .ok (.iload_n 3, 1) := by decide +kernel
theorem dX0_addTo_3 : decode cX0_addTo 3 = .ok (.aload_n 0, 1) := by decide +kernel
theorem dX0_addTo_4 : decode cX0_addTo 4 = .ok (.getfield 12, 3) := by decide +kernel
theorem dX0_addTo_7 : decode cX0_addTo 7 = .ok (.getfield 54, 3) := by decide +kernel
theorem dX0_addTo_10 : decode cX0_addTo 10 = .ok (.if_icmp .ge 35, 3) := by decide +kernel
theorem dX0_addTo_13 : decode cX0_addTo 13 = .ok (.aload_n 0, 1) := by decide +kernel
theorem dX0_addTo_14 : decode cX0_addTo 14 = .ok (.iload_n 1, 1) := by decide +kernel
theorem dX0_addTo_15 : decode cX0_addTo 15 = .ok (.iload_n 3, 1) := by decide +kernel
theorem dX0_addTo_16 : decode cX0_addTo 16 = .ok (.aload_n 0, 1) := by decide +kernel
theorem dX0_addTo_17 : decode cX0_addTo 17 = .ok (.getfield 12, 3) := by decide +kernel
theorem dX0_addTo_20 : decode cX0_addTo 20 = .ok (.iload_n 3, 1) := by decide +kernel
theorem dX0_addTo_21 : decode cX0_addTo 21 = .ok (.aload_n 0, 1) := by decide +kernel
theorem dX0_addTo_22 : decode cX0_addTo 22 = .ok (.iload_n 1, 1) := by decide +kernel
theorem dX0_addTo_23 : decode cX0_addTo 23 = .ok (.iload_n 3, 1) := by decide +kernel
theorem dX0_addTo_24 : decode cX0_addTo 24 = .ok (.invokevirtual 57, 3) := by decide +kernel
theorem dX0_addTo_27 : decode cX0_addTo 27 = .ok (.aload_n 0, 1) := by decide +kernel
theorem dX0_addTo_28 : decode cX0_addTo 28 = .ok (.iload_n 2, 1) := by decide +kernel
theorem dX0_addTo_29 : decode cX0_addTo 29 = .ok (.iload_n 3, 1) := by decide +kernel
theorem dX0_addTo_30 : decode cX0_addTo 30 = .ok (.invokevirtual 57, 3) := by decide +kernel
theorem dX0_addTo_33 : decode cX0_addTo 33 = .ok (.invokevirtual 88, 3) := by decide +kernel
theorem dX0_addTo_36 : decode cX0_addTo 36 = .ok (.invokevirtual 84, 3) := by decide +kernel
theorem dX0_addTo_39 : decode cX0_addTo 39 = .ok (.iinc 3 1, 3) := by decide +kernel
theorem dX0_addTo_42 : decode cX0_addTo 42 = .ok (.goto (-40), 3) := by decide +kernel
theorem dX0_addTo_45 : decode cX0_addTo 45 = .ok (.return_, 1) := by decide +kernel
set_option maxRecDepth 20000 in
theorem ggX0_multiplyBy_X0_shown : GoodIn wsX0_multiplyBy wsX0_shown := goodIn_r _ [7, 8, 41, 42, 43, 44, 45, 46, 47] (by decide +kernel) (by decide +kernel)
set_option maxRecDepth 20000 in
theorem gX0_multiplyBy_X0_shown : GoodIn wsX0_multiplyBy (wsV RX0 57 RX0 yX0_shown wsX0_shown) := goodIn_app (goodIn_of _ (by decide +kernel)) ggX0_multiplyBy_X0_shown
set_option maxRecDepth 20000 in
theorem ggX0_multiplyBy_X3_multiplied : GoodIn wsX0_multiplyBy wsX3_multiplied := goodIn_r _ [13, 14, 15, 16, 12, 17, 18, 19, 20, 21, 22, 23, 24, 25, 26, 27, 28, 29, 30, 31, 32, 33, 34, 35, 36, 48, 49, 50, 51, 52, 53, 54] (by decide +kernel) (by decide +kernel)
set_option maxRecDepth 20000 in
theorem gX0_multiplyBy_X3_multiplied : GoodIn wsX0_multiplyBy (wsV RX0 92 RX3 yX3_multiplied wsX3_multiplied) := goodIn_app (goodIn_of _ (by decide +kernel)) ggX0_multiplyBy_X3_multiplied
set_option maxRecDepth 20000 in
theorem ggX0_multiplyBy_X0_show : GoodIn wsX0_multiplyBy wsX0_show := goodIn_r _ [40, 8, 41, 42, 43, 44, 45, 46, 47] (by decide +kernel) (by decide +kernel)
set_option maxRecDepth 20000 in
theorem gX0_multiplyBy_X0_show : GoodIn wsX0_multiplyBy (wsV RX0 84 RX0 yX0_show wsX0_show) := goodIn_app (goodIn_of _ (by decide +kernel)) ggX0_multiplyBy_X0_show
theorem dX0_multiplyBy_0 : decode cX0_multiplyBy 0 = .ok (.iconst 0, 1) := by decide +kernel
theorem dX0_multiplyBy_1 : decode cX0_multiplyBy 1 = .ok (.istore_n 3, 1) := by decide +kernel
theorem dX0_multiplyBy_2 : decode cX0_multiplyBy 2 = .ok (.iload_n 3, 1) := by decide +kernel
theorem dX0_multiplyBy_3 : decode cX0_multiplyBy 3 = .ok (.aload_n 0, 1) := by decide +kernel
theorem dX0_multiplyBy_4 : decode cX0_multiplyBy 4 = .ok (.getfield 12, 3) := by decide +kernel
theorem dX0_multiplyBy_7 : decode cX0_multiplyBy 7 = .ok (.getfield 54, 3) := by decide +kernel
theorem dX0_multiplyBy_10 : decode cX0_multiplyBy 10 = .ok (.if_icmp .ge 35, 3) := by decide +kernel
theorem dX0_multiplyBy_13 : decode cX0_multiplyBy 13 = .ok (.aload_n 0, 1) := by decide +kernel
theorem dX0_multiplyBy_14 : decode cX0_multiplyBy 14 = .ok (.iload_n 1, 1) := by decide +kernel
theorem dX0_multiplyBy_15 : decode cX0_multiplyBy 15 = .ok (.iload_n 3, 1) := by decide +kernel
theorem dX0_multiplyBy_16 : decode cX0_multiplyBy 16 = .ok (.aload_n 0, 1) := by decide +kernel
theorem dX0_multiplyBy_17 : decode cX0_multiplyBy 17 = .ok (.getfield 12, 3) := by decide +kernel
theorem dX0_multiplyBy_20 : decode cX0_multiplyBy 20 = .ok (.iload_n 3, 1) := by decide +kernel
theorem dX0_multiplyBy_21 : decode cX0_multiplyBy 21 = .ok (.aload_n 0, 1) := by decide +kernel
theorem dX0_multiplyBy_22 : decode cX0_multiplyBy 22 = .ok (.iload_n 1, 1) := by decide +kernel
theorem dX0_multiplyBy_23 : decode cX0_multiplyBy 23 = .ok (.iload_n 3, 1) := by decide +kernel
theorem dX0_multiplyBy_24 : decode cX0_multiplyBy 24 = .ok (.invokevirtual 57, 3) := by decide +kernel
theorem dX0_multiplyBy_27 : decode cX0_multiplyBy 27 = .ok (.aload_n 0, 1) := by decide +kernel
theorem dX0_multiplyBy_28 : decode cX0_multiplyBy 28 = .ok (.iload_n 2, 1) := by decide +kernel
theorem dX0_multiplyBy_29 : decode cX0_multiplyBy 29 = .ok (.iload_n 3, 1) := by decide +kernel
theorem dX0_multiplyBy_30 : decode cX0_multiplyBy 30 = .ok (.invokevirtual 57, 3) := by decide +kernel
theorem dX0_multiplyBy_33 : decode cX0_multiplyBy 33 = .ok (.invokevirtual 92, 3) := by decide +kernel
theorem dX0_multiplyBy_36 : decode cX0_multiplyBy 36 = .ok (.invokevirtual 84, 3) := by decide +kernel
theorem dX0_multiplyBy_39 : decode cX0_multiplyBy 39 = .ok (.iinc 3 1, 3) := by decide +kernel
theorem dX0_multiplyBy_42 : decode cX0_multiplyBy 42 = .ok (.goto (-40), 3) := by decide +kernel
theorem dX0_multiplyBy_45 : decode cX0_multiplyBy 45 = .ok (.return_, 1) := by decide +kernel
set_option maxRecDepth 20000 in
theorem ggX0_turnAbout_X0_shown : GoodIn wsX0_turnAbout wsX0_shown := goodIn_r _ [8, 9, 14, 15, 16, 17, 18, 19, 20] (by decide +kernel) (by decide +kernel)
set_option maxRecDepth 20000 in
theorem gX0_turnAbout_X0_shown : GoodIn wsX0_turnAbout (wsV RX0 57 RX0 yX0_shown wsX0_shown) := goodIn_app (goodIn_of _ (by decide +kernel)) ggX0_turnAbout_X0_shown
set_option maxRecDepth 20000 in
theorem ggX0_turnAbout_X0_show : GoodIn wsX0_turnAbout wsX0_show := goodIn_r _ [13, 9, 14, 15, 16, 17, 18, 19, 20] (by decide +kernel) (by decide +kernel)
set_option maxRecDepth 20000 in
theorem gX0_turnAbout_X0_show : GoodIn wsX0_turnAbout (wsV RX0 84 RX0 yX0_show wsX0_show) := goodIn_app (goodIn_of _ (by decide +kernel)) ggX0_turnAbout_X0_show
theorem dX0_turnAbout_0 : decode cX0_turnAbout 0 = .ok (.iconst 0, 1) := by decide +kernel
theorem dX0_turnAbout_1 : decode cX0_turnAbout 1 = .ok (.istore_n 2, 1) := by decide +kernel
theorem dX0_turnAbout_2 : decode cX0_turnAbout 2 = .ok (.iload_n 2, 1) := by decide +kernel
theorem dX0_turnAbout_3 : decode cX0_turnAbout 3 = .ok (.aload_n 0, 1) := by decide +kernel
theorem dX0_turnAbout_4 : decode cX0_turnAbout 4 = .ok (.getfield 12, 3) := by decide +kernel
theorem dX0_turnAbout_7 : decode cX0_turnAbout 7 = .ok (.getfield 54, 3) := by decide +kernel
theorem dX0_turnAbout_10 : decode cX0_turnAbout 10 = .ok (.if_icmp .ge 41, 3) := by decide +kernel
theorem dX0_turnAbout_13 : decode cX0_turnAbout 13 = .ok (.aload_n 0, 1) := by decide +kernel
theorem dX0_turnAbout_14 : decode cX0_turnAbout 14 = .ok (.iload_n 1, 1) := by decide +kernel
theorem dX0_turnAbout_15 : decode cX0_turnAbout 15 = .ok (.iload_n 2, 1) := by decide +kernel
theorem dX0_turnAbout_16 : decode cX0_turnAbout 16 = .ok (.invokevirtual 57, 3) := by decide +kernel
theorem dX0_turnAbout_19 : decode cX0_turnAbout 19 = .ok (.istore_n 3, 1) := by decide +kernel
theorem dX0_turnAbout_20 : decode cX0_turnAbout 20 = .ok (.aload_n 0, 1) := by decide +kernel
theorem dX0_turnAbout_21 : decode cX0_turnAbout 21 = .ok (.iload_n 1, 1) := by decide +kernel
theorem dX0_turnAbout_22 : decode cX0_turnAbout 22 = .ok (.iload_n 2, 1) := by decide +kernel
theorem dX0_turnAbout_23 : decode cX0_turnAbout 23 = .ok (.iload_n 3, 1) := by decide +kernel
theorem dX0_turnAbout_24 : decode cX0_turnAbout 24 = .ok (.ifCond .ne 7, 3) := by decide +kernel
theorem dX0_turnAbout_27 : decode cX0_turnAbout 27 = .ok (.iconst 0, 1) := by decide +kernel
theorem dX0_turnAbout_28 : decode cX0_turnAbout 28 = .ok (.goto 14, 3) := by decide +kernel
theorem dX0_turnAbout_31 : decode cX0_turnAbout 31 = .ok (.aload_n 0, 1) := by decide +kernel
theorem dX0_turnAbout_32 : decode cX0_turnAbout 32 = .ok (.getfield 12, 3) := by decide +kernel
theorem dX0_turnAbout_35 : decode cX0_turnAbout 35 = .ok (.getfield 81, 3) := by decide +kernel
theorem dX0_turnAbout_38 : decode cX0_turnAbout 38 = .ok (.iload_n 2, 1) := by decide +kernel
theorem dX0_turnAbout_39 : decode cX0_turnAbout 39 = .ok (.iaload, 1) := by decide +kernel
theorem dX0_turnAbout_40 : decode cX0_turnAbout 40 = .ok (.iload_n 3, 1) := by decide +kernel
theorem dX0_turnAbout_41 : decode cX0_turnAbout 41 = .ok (.isub, 1) := by decide +kernel
theorem dX0_turnAbout_42 : decode cX0_turnAbout 42 = .ok (.invokevirtual 84, 3) := by decide +kernel
theorem dX0_turnAbout_45 : decode cX0_turnAbout 45 = .ok (.iinc 2 1, 3) := by decide +kernel
theorem dX0_turnAbout_48 : decode cX0_turnAbout 48 = .ok (.goto (-46), 3) := by decide +kernel
theorem dX0_turnAbout_51 : decode cX0_turnAbout 51 = .ok (.return_, 1) := by decide +kernel
set_option maxRecDepth 20000 in
theorem ggX0_takeOver_X0_shown : GoodIn wsX0_takeOver wsX0_shown := goodIn_r _ [7, 8, 13, 14, 15, 16, 17, 18, 19] (by decide +kernel) (by decide +kernel)
set_option maxRecDepth 20000 in
theorem gX0_takeOver_X0_shown : GoodIn wsX0_takeOver (wsV RX0 57 RX0 yX0_shown wsX0_shown) := goodIn_app (goodIn_of _ (by decide +kernel)) ggX0_takeOver_X0_shown
set_option maxRecDepth 20000 in
theorem ggX0_takeOver_X0_show : GoodIn wsX0_takeOver wsX0_show := goodIn_r _ [12, 8, 13, 14, 15, 16, 17, 18, 19] (by decide +kernel) (by decide +kernel)
set_option maxRecDepth 20000 in
theorem gX0_takeOver_X0_show : GoodIn wsX0_takeOver (wsV RX0 84 RX0 yX0_show wsX0_show) := goodIn_app (goodIn_of _ (by decide +kernel)) ggX0_takeOver_X0_show
theorem dX0_takeOver_0 : decode cX0_takeOver 0 = .ok (.iconst 0, 1) := by decide +kernel
theorem dX0_takeOver_1 : decode cX0_takeOver 1 = .ok (.istore_n 3, 1) := by decide +kernel
theorem dX0_takeOver_2 : decode cX0_takeOver 2 = .ok (.iload_n 3, 1) := by decide +kernel
theorem dX0_takeOver_3 : decode cX0_takeOver 3 = .ok (.aload_n 0, 1) := by decide +kernel
theorem dX0_takeOver_4 : decode cX0_takeOver 4 = .ok (.getfield 12, 3) := by decide +kernel
theorem dX0_takeOver_7 : decode cX0_takeOver 7 = .ok (.getfield 54, 3) := by decide +kernel
theorem dX0_takeOver_10 : decode cX0_takeOver 10 = .ok (.if_icmp .ge 21, 3) := by decide +kernel
theorem dX0_takeOver_13 : decode cX0_takeOver 13 = .ok (.aload_n 0, 1) := by decide +kernel
theorem dX0_takeOver_14 : decode cX0_takeOver 14 = .ok (.iload_n 1, 1) := by decide +kernel
theorem dX0_takeOver_15 : decode cX0_takeOver 15 = .ok (.iload_n 3, 1) := by decide +kernel
theorem dX0_takeOver_16 : decode cX0_takeOver 16 = .ok (.aload_n 0, 1) := by decide +kernel
theorem dX0_takeOver_17 : decode cX0_takeOver 17 = .ok (.iload_n 2, 1) := by decide +kernel
theorem dX0_takeOver_18 : decode cX0_takeOver 18 = .ok (.iload_n 3, 1) := by decide +kernel
theorem dX0_takeOver_19 : decode cX0_takeOver 19 = .ok (.invokevirtual 57, 3) := by decide +kernel
theorem dX0_takeOver_22 : decode cX0_takeOver 22 = .ok (.invokevirtual 84, 3) := by decide +kernel
theorem dX0_takeOver_25 : decode cX0_takeOver 25 = .ok (.iinc 3 1, 3) := by decide +kernel
theorem dX0_takeOver_28 : decode cX0_takeOver 28 = .ok (.goto (-26), 3) := by decide +kernel
theorem dX0_takeOver_31 : decode cX0_takeOver 31 = .ok (.return_, 1) := by decide +kernel
set_option maxRecDepth 20000 in
theorem ggX0_driftOnce_X0_addTo : GoodIn wsX0_driftOnce wsX0_addTo := goodIn_r _ [12, 5, 6, 13, 14, 15, 11, 16, 17, 18, 19, 20, 21, 22, 23, 24, 25, 26, 27, 28, 29, 30, 31, 32, 33, 34, 35, 36, 37, 38, 39, 40, 41, 42, 43, 44, 45, 46, 47, 48, 49, 50, 51, 52, 53, 54, 55] (by decide +kernel) (by decide +kernel)
set_option maxRecDepth 20000 in
theorem gX0_driftOnce_X0_addTo : GoodIn wsX0_driftOnce (wsV RX0 98 RX0 yX0_addTo wsX0_addTo) := goodIn_app (goodIn_of _ (by decide +kernel)) ggX0_driftOnce_X0_addTo
set_option maxRecDepth 20000 in
theorem ggX0_driftOnce_X0_shown : GoodIn wsX0_driftOnce wsX0_shown := goodIn_r _ [16, 17, 42, 43, 44, 45, 46, 47, 48] (by decide +kernel) (by decide +kernel)
set_option maxRecDepth 20000 in
theorem gX0_driftOnce_X0_shown : GoodIn wsX0_driftOnce (wsV RX0 57 RX0 yX0_shown wsX0_shown) := goodIn_app (goodIn_of _ (by decide +kernel)) ggX0_driftOnce_X0_shown
set_option maxRecDepth 20000 in
theorem ggX0_driftOnce_X0_show : GoodIn wsX0_driftOnce wsX0_show := goodIn_r _ [41, 17, 42, 43, 44, 45, 46, 47, 48] (by decide +kernel) (by decide +kernel)
set_option maxRecDepth 20000 in
theorem gX0_driftOnce_X0_show : GoodIn wsX0_driftOnce (wsV RX0 84 RX0 yX0_show wsX0_show) := goodIn_app (goodIn_of _ (by decide +kernel)) ggX0_driftOnce_X0_show
theorem dX0_driftOnce_0 : decode cX0_driftOnce 0 = .ok (.aload_n 0, 1) := by decide +kernel
theorem dX0_driftOnce_1 : decode cX0_driftOnce 1 = .ok (.aload_n 0, 1) := by decide +kernel
theorem dX0_driftOnce_2 : decode cX0_driftOnce 2 = .ok (.getfield 22, 3) := by decide +kernel
theorem dX0_driftOnce_5 : decode cX0_driftOnce 5 = .ok (.ldc 95, 2) := by decide +kernel
theorem dX0_driftOnce_7 : decode cX0_driftOnce 7 = .ok (.imul, 1) := by decide +kernel
theorem dX0_driftOnce_8 : decode cX0_driftOnce 8 = .ok (.sipush 12345, 3) := by decide +kernel
theorem dX0_driftOnce_11 : decode cX0_driftOnce 11 = .ok (.iadd, 1) := by decide +kernel
theorem dX0_driftOnce_12 : decode cX0_driftOnce 12 = .ok (.ldc 96, 2) := by decide +kernel
theorem dX0_driftOnce_14 : decode cX0_driftOnce 14 = .ok (.iand, 1) := by decide +kernel
theorem dX0_driftOnce_15 : decode cX0_driftOnce 15 = .ok (.putfield 22, 3) := by decide +kernel
theorem dX0_driftOnce_18 : decode cX0_driftOnce 18 = .ok (.aload_n 0, 1) := by decide +kernel
theorem dX0_driftOnce_19 : decode cX0_driftOnce 19 = .ok (.getfield 22, 3) := by decide +kernel
theorem dX0_driftOnce_22 : decode cX0_driftOnce 22 = .ok (.ldc 97, 2) := by decide +kernel
theorem dX0_driftOnce_24 : decode cX0_driftOnce 24 = .ok (.idiv, 1) := by decide +kernel
theorem dX0_driftOnce_25 : decode cX0_driftOnce 25 = .ok (.iconst 4, 1) := by decide +kernel
theorem dX0_driftOnce_26 : decode cX0_driftOnce 26 = .ok (.irem, 1) := by decide +kernel
theorem dX0_driftOnce_27 : decode cX0_driftOnce 27 = .ok (.istore_n 1, 1) := by decide +kernel
theorem dX0_driftOnce_28 : decode cX0_driftOnce 28 = .ok (.aload_n 0, 1) := by decide +kernel
theorem dX0_driftOnce_29 : decode cX0_driftOnce 29 = .ok (.iload_n 1, 1) := by decide +kernel
theorem dX0_driftOnce_30 : decode cX0_driftOnce 30 = .ok (.aload_n 0, 1) := by decide +kernel
theorem dX0_driftOnce_31 : decode cX0_driftOnce 31 = .ok (.getfield 22, 3) := by decide +kernel
theorem dX0_driftOnce_34 : decode cX0_driftOnce 34 = .ok (.sipush 128, 3) := by decide +kernel
theorem dX0_driftOnce_37 : decode cX0_driftOnce 37 = .ok (.idiv, 1) := by decide +kernel
theorem dX0_driftOnce_38 : decode cX0_driftOnce 38 = .ok (.iconst 4, 1) := by decide +kernel
theorem dX0_driftOnce_39 : decode cX0_driftOnce 39 = .ok (.irem, 1) := by decide +kernel
theorem dX0_driftOnce_40 : decode cX0_driftOnce 40 = .ok (.invokevirtual 98, 3) := by decide +kernel
theorem dX0_driftOnce_43 : decode cX0_driftOnce 43 = .ok (.aload_n 0, 1) := by decide +kernel
theorem dX0_driftOnce_44 : decode cX0_driftOnce 44 = .ok (.getfield 12, 3) := by decide +kernel
theorem dX0_driftOnce_47 : decode cX0_driftOnce 47 = .ok (.getfield 54, 3) := by decide +kernel
theorem dX0_driftOnce_50 : decode cX0_driftOnce 50 = .ok (.ifCond .le 57, 3) := by decide +kernel
theorem dX0_driftOnce_53 : decode cX0_driftOnce 53 = .ok (.aload_n 0, 1) := by decide +kernel
theorem dX0_driftOnce_54 : decode cX0_driftOnce 54 = .ok (.getfield 22, 3) := by decide +kernel
theorem dX0_driftOnce_57 : decode cX0_driftOnce 57 = .ok (.sipush 2048, 3) := by decide +kernel
theorem dX0_driftOnce_60 : decode cX0_driftOnce 60 = .ok (.idiv, 1) := by decide +kernel
theorem dX0_driftOnce_61 : decode cX0_driftOnce 61 = .ok (.iconst 5, 1) := by decide +kernel
theorem dX0_driftOnce_62 : decode cX0_driftOnce 62 = .ok (.irem, 1) := by decide +kernel
theorem dX0_driftOnce_63 : decode cX0_driftOnce 63 = .ok (.ifCond .ne 44, 3) := by decide +kernel
theorem dX0_driftOnce_66 : decode cX0_driftOnce 66 = .ok (.aload_n 0, 1) := by decide +kernel
theorem dX0_driftOnce_67 : decode cX0_driftOnce 67 = .ok (.getfield 22, 3) := by decide +kernel
theorem dX0_driftOnce_70 : decode cX0_driftOnce 70 = .ok (.sipush 256, 3) := by decide +kernel
theorem dX0_driftOnce_73 : decode cX0_driftOnce 73 = .ok (.idiv, 1) := by decide +kernel
theorem dX0_driftOnce_74 : decode cX0_driftOnce 74 = .ok (.aload_n 0, 1) := by decide +kernel
theorem dX0_driftOnce_75 : decode cX0_driftOnce 75 = .ok (.getfield 12, 3) := by decide +kernel
theorem dX0_driftOnce_78 : decode cX0_driftOnce 78 = .ok (.getfield 54, 3) := by decide +kernel
theorem dX0_driftOnce_81 : decode cX0_driftOnce 81 = .ok (.irem, 1) := by decide +kernel
theorem dX0_driftOnce_82 : decode cX0_driftOnce 82 = .ok (.istore_n 2, 1) := by decide +kernel
theorem dX0_driftOnce_83 : decode cX0_driftOnce 83 = .ok (.aload_n 0, 1) := by decide +kernel
theorem dX0_driftOnce_84 : decode cX0_driftOnce 84 = .ok (.iload_n 1, 1) := by decide +kernel
theorem dX0_driftOnce_85 : decode cX0_driftOnce 85 = .ok (.iload_n 2, 1) := by decide +kernel
theorem dX0_driftOnce_86 : decode cX0_driftOnce 86 = .ok (.aload_n 0, 1) := by decide +kernel
theorem dX0_driftOnce_87 : decode cX0_driftOnce 87 = .ok (.iload_n 1, 1) := by decide +kernel
theorem dX0_driftOnce_88 : decode cX0_driftOnce 88 = .ok (.iload_n 2, 1) := by decide +kernel
theorem dX0_driftOnce_89 : decode cX0_driftOnce 89 = .ok (.invokevirtual 57, 3) := by decide +kernel
theorem dX0_driftOnce_92 : decode cX0_driftOnce 92 = .ok (.iconst 1, 1) := by decide +kernel
theorem dX0_driftOnce_93 : decode cX0_driftOnce 93 = .ok (.iadd, 1) := by decide +kernel
theorem dX0_driftOnce_94 : decode cX0_driftOnce 94 = .ok (.aload_n 0, 1) := by decide +kernel
theorem dX0_driftOnce_95 : decode cX0_driftOnce 95 = .ok (.getfield 12, 3) := by decide +kernel
theorem dX0_driftOnce_98 : decode cX0_driftOnce 98 = .ok (.getfield 81, 3) := by decide +kernel
theorem dX0_driftOnce_101 : decode cX0_driftOnce 101 = .ok (.iload_n 2, 1) := by decide +kernel
theorem dX0_driftOnce_102 : decode cX0_driftOnce 102 = .ok (.iaload, 1) := by decide +kernel
theorem dX0_driftOnce_103 : decode cX0_driftOnce 103 = .ok (.irem, 1) := by decide +kernel
theorem dX0_driftOnce_104 : decode cX0_driftOnce 104 = .ok (.invokevirtual 84, 3) := by decide +kernel
theorem dX0_driftOnce_107 : decode cX0_driftOnce 107 = .ok (.return_, 1) := by decide +kernel
theorem dX1_init_0 : decode cX1_init 0 = .ok (.aload_n 0, 1) := by decide +kernel
theorem dX1_init_1 : decode cX1_init 1 = .ok (.invokespecial 3, 3) := by decide +kernel
theorem dX1_init_4 : decode cX1_init 4 = .ok (.aload_n 0, 1) := by decide +kernel
theorem dX1_init_5 : decode cX1_init 5 = .ok (.bipush 24, 2) := by decide +kernel
theorem dX1_init_7 : decode cX1_init 7 = .ok (.newarray .long, 2) := by decide +kernel
theorem dX1_init_9 : decode cX1_init 9 = .ok (.putfield 11, 3) := by decide +kernel
theorem dX1_init_12 : decode cX1_init 12 = .ok (.return_, 1) := by decide +kernel
theorem dX1_hold_0 : decode cX1_hold 0 = .ok (.aload_n 0, 1) := by decide +kernel
theorem dX1_hold_1 : decode cX1_hold 1 = .ok (.iconst 1, 1) := by decide +kernel
theorem dX1_hold_2 : decode cX1_hold 2 = .ok (.putfield 15, 3) := by decide +kernel
theorem dX1_hold_5 : decode cX1_hold 5 = .ok (.aload_n 0, 1) := by decide +kernel
theorem dX1_hold_6 : decode cX1_hold 6 = .ok (.iload_n 1, 1) := by decide +kernel
theorem dX1_hold_7 : decode cX1_hold 7 = .ok (.putfield 19, 3) := by decide +kernel
theorem dX1_hold_10 : decode cX1_hold 10 = .ok (.aload_n 0, 1) := by decide +kernel
theorem dX1_hold_11 : decode cX1_hold 11 = .ok (.iload_n 2, 1) := by decide +kernel
theorem dX1_hold_12 : decode cX1_hold 12 = .ok (.putfield 23, 3) := by decide +kernel
theorem dX1_hold_15 : decode cX1_hold 15 = .ok (.iconst 0, 1) := by decide +kernel
theorem dX1_hold_16 : decode cX1_hold 16 = .ok (.istore_n 3, 1) := by decide +kernel
theorem dX1_hold_17 : decode cX1_hold 17 = .ok (.iload_n 3, 1) := by decide +kernel
theorem dX1_hold_18 : decode cX1_hold 18 = .ok (.bipush 24, 2) := by decide +kernel
theorem dX1_hold_20 : decode cX1_hold 20 = .ok (.if_icmp .ge 16, 3) := by decide +kernel
theorem dX1_hold_23 : decode cX1_hold 23 = .ok (.aload_n 0, 1) := by decide +kernel
theorem dX1_hold_24 : decode cX1_hold 24 = .ok (.getfield 11, 3) := by decide +kernel
theorem dX1_hold_27 : decode cX1_hold 27 = .ok (.iload_n 3, 1) := by decide +kernel
theorem dX1_hold_28 : decode cX1_hold 28 = .ok (.lconst 0, 1) := by decide +kernel
theorem dX1_hold_29 : decode cX1_hold 29 = .ok (.lastore, 1) := by decide +kernel
theorem dX1_hold_30 : decode cX1_hold 30 = .ok (.iinc 3 1, 3) := by decide +kernel
theorem dX1_hold_33 : decode cX1_hold 33 = .ok (.goto (-16), 3) := by decide +kernel
theorem dX1_hold_36 : decode cX1_hold 36 = .ok (.return_, 1) := by decide +kernel
set_option maxRecDepth 20000 in
theorem ggX1_refusal_X1_has : GoodIn wsX1_refusal wsX1_has := goodIn_r _ [7, 8, 9, 10, 11, 12] (by decide +kernel) (by decide +kernel)
set_option maxRecDepth 20000 in
theorem gX1_refusal_X1_has : GoodIn wsX1_refusal (wsV RX1 26 RX1 yX1_has wsX1_has) := goodIn_app (goodIn_of _ (by decide +kernel)) ggX1_refusal_X1_has
theorem dX1_refusal_0 : decode cX1_refusal 0 = .ok (.aload_n 0, 1) := by decide +kernel
theorem dX1_refusal_1 : decode cX1_refusal 1 = .ok (.getfield 15, 3) := by decide +kernel
theorem dX1_refusal_4 : decode cX1_refusal 4 = .ok (.ifCond .ne 6, 3) := by decide +kernel
theorem dX1_refusal_7 : decode cX1_refusal 7 = .ok (.bipush (-11), 2) := by decide +kernel
theorem dX1_refusal_9 : decode cX1_refusal 9 = .ok (.ireturn, 1) := by decide +kernel
theorem dX1_refusal_10 : decode cX1_refusal 10 = .ok (.aload_n 0, 1) := by decide +kernel
theorem dX1_refusal_11 : decode cX1_refusal 11 = .ok (.getfield 19, 3) := by decide +kernel
theorem dX1_refusal_14 : decode cX1_refusal 14 = .ok (.iload_n 1, 1) := by decide +kernel
theorem dX1_refusal_15 : decode cX1_refusal 15 = .ok (.if_icmp .eq 6, 3) := by decide +kernel
theorem dX1_refusal_18 : decode cX1_refusal 18 = .ok (.bipush (-12), 2) := by decide +kernel
theorem dX1_refusal_20 : decode cX1_refusal 20 = .ok (.ireturn, 1) := by decide +kernel
theorem dX1_refusal_21 : decode cX1_refusal 21 = .ok (.aload_n 0, 1) := by decide +kernel
theorem dX1_refusal_22 : decode cX1_refusal 22 = .ok (.iload_n 2, 1) := by decide +kernel
theorem dX1_refusal_23 : decode cX1_refusal 23 = .ok (.iload_n 3, 1) := by decide +kernel
theorem dX1_refusal_24 : decode cX1_refusal 24 = .ok (.invokevirtual 26, 3) := by decide +kernel
theorem dX1_refusal_27 : decode cX1_refusal 27 = .ok (.ifCond .eq 7, 3) := by decide +kernel
theorem dX1_refusal_30 : decode cX1_refusal 30 = .ok (.iconst 0, 1) := by decide +kernel
theorem dX1_refusal_31 : decode cX1_refusal 31 = .ok (.goto 5, 3) := by decide +kernel
theorem dX1_refusal_34 : decode cX1_refusal 34 = .ok (.bipush (-13), 2) := by decide +kernel
theorem dX1_refusal_36 : decode cX1_refusal 36 = .ok (.ireturn, 1) := by decide +kernel
theorem dX1_has_0 : decode cX1_has 0 = .ok (.iload_n 1, 1) := by decide +kernel
theorem dX1_has_1 : decode cX1_has 1 = .ok (.ifCond .lt 29, 3) := by decide +kernel
theorem dX1_has_4 : decode cX1_has 4 = .ok (.iload_n 2, 1) := by decide +kernel
theorem dX1_has_5 : decode cX1_has 5 = .ok (.ifCond .lt 25, 3) := by decide +kernel
theorem dX1_has_8 : decode cX1_has 8 = .ok (.iload_n 2, 1) := by decide +kernel
theorem dX1_has_9 : decode cX1_has 9 = .ok (.aload_n 0, 1) := by decide +kernel
theorem dX1_has_10 : decode cX1_has 10 = .ok (.getfield 23, 3) := by decide +kernel
theorem dX1_has_13 : decode cX1_has 13 = .ok (.if_icmp .gt 17, 3) := by decide +kernel
theorem dX1_has_16 : decode cX1_has 16 = .ok (.iload_n 1, 1) := by decide +kernel
theorem dX1_has_17 : decode cX1_has 17 = .ok (.aload_n 0, 1) := by decide +kernel
theorem dX1_has_18 : decode cX1_has 18 = .ok (.getfield 23, 3) := by decide +kernel
theorem dX1_has_21 : decode cX1_has 21 = .ok (.iload_n 2, 1) := by decide +kernel
theorem dX1_has_22 : decode cX1_has 22 = .ok (.isub, 1) := by decide +kernel
theorem dX1_has_23 : decode cX1_has 23 = .ok (.if_icmp .gt 7, 3) := by decide +kernel
theorem dX1_has_26 : decode cX1_has 26 = .ok (.iconst 1, 1) := by decide +kernel
theorem dX1_has_27 : decode cX1_has 27 = .ok (.goto 4, 3) := by decide +kernel
theorem dX1_has_30 : decode cX1_has 30 = .ok (.iconst 0, 1) := by decide +kernel
theorem dX1_has_31 : decode cX1_has 31 = .ok (.ireturn, 1) := by decide +kernel
theorem dX1_lowestBits_0 : decode cX1_lowestBits 0 = .ok (.iload_n 0, 1) := by decide +kernel
theorem dX1_lowestBits_1 : decode cX1_lowestBits 1 = .ok (.tableswitch 41 0 2 #[27, 32, 37], 27) := by decide +kernel
theorem dX1_lowestBits_28 : decode cX1_lowestBits 28 = .ok (.lload_n 1, 1) := by decide +kernel
theorem dX1_lowestBits_29 : decode cX1_lowestBits 29 = .ok (.l2i, 1) := by decide +kernel
theorem dX1_lowestBits_30 : decode cX1_lowestBits 30 = .ok (.i2b, 1) := by decide +kernel
theorem dX1_lowestBits_31 : decode cX1_lowestBits 31 = .ok (.i2l, 1) := by decide +kernel
theorem dX1_lowestBits_32 : decode cX1_lowestBits 32 = .ok (.lreturn, 1) := by decide +kernel
theorem dX1_lowestBits_33 : decode cX1_lowestBits 33 = .ok (.lload_n 1, 1) := by decide +kernel
theorem dX1_lowestBits_34 : decode cX1_lowestBits 34 = .ok (.l2i, 1) := by decide +kernel
theorem dX1_lowestBits_35 : decode cX1_lowestBits 35 = .ok (.i2s, 1) := by decide +kernel
theorem dX1_lowestBits_36 : decode cX1_lowestBits 36 = .ok (.i2l, 1) := by decide +kernel
theorem dX1_lowestBits_37 : decode cX1_lowestBits 37 = .ok (.lreturn, 1) := by decide +kernel
theorem dX1_lowestBits_38 : decode cX1_lowestBits 38 = .ok (.lload_n 1, 1) := by decide +kernel
theorem dX1_lowestBits_39 : decode cX1_lowestBits 39 = .ok (.l2i, 1) := by decide +kernel
theorem dX1_lowestBits_40 : decode cX1_lowestBits 40 = .ok (.i2l, 1) := by decide +kernel
theorem dX1_lowestBits_41 : decode cX1_lowestBits 41 = .ok (.lreturn, 1) := by decide +kernel
theorem dX1_lowestBits_42 : decode cX1_lowestBits 42 = .ok (.lload_n 1, 1) := by decide +kernel
theorem dX1_lowestBits_43 : decode cX1_lowestBits 43 = .ok (.lreturn, 1) := by decide +kernel
set_option maxRecDepth 20000 in
theorem ggX2_init_X3_init : GoodIn wsX2_init wsX3_init := goodIn_r _ [11, 12, 2, 3, 13, 14, 4, 15, 16, 17, 22, 23, 24, 25, 26, 27, 28] (by decide +kernel) (by decide +kernel)
set_option maxRecDepth 20000 in
theorem gX2_init_X3_init_n17 : GoodIn wsX2_init (wsX3_init) := ggX2_init_X3_init
theorem dX2_init_0 : decode cX2_init 0 = .ok (.aload_n 0, 1) := by decide +kernel
theorem dX2_init_1 : decode cX2_init 1 = .ok (.invokespecial 3, 3) := by decide +kernel
theorem dX2_init_4 : decode cX2_init 4 = .ok (.aload_n 0, 1) := by decide +kernel
theorem dX2_init_5 : decode cX2_init 5 = .ok (.bipush 40, 2) := by decide +kernel
theorem dX2_init_7 : decode cX2_init 7 = .ok (.newarray .int, 2) := by decide +kernel
theorem dX2_init_9 : decode cX2_init 9 = .ok (.putfield 11, 3) := by decide +kernel
theorem dX2_init_12 : decode cX2_init 12 = .ok (.aload_n 0, 1) := by decide +kernel
theorem dX2_init_13 : decode cX2_init 13 = .ok (.new 15, 3) := by decide +kernel
theorem dX2_init_16 : decode cX2_init 16 = .ok (.dup, 1) := by decide +kernel
theorem dX2_init_17 : decode cX2_init 17 = .ok (.invokespecial 17, 3) := by decide +kernel
theorem dX2_init_20 : decode cX2_init 20 = .ok (.putfield 18, 3) := by decide +kernel
theorem dX2_init_23 : decode cX2_init 23 = .ok (.return_, 1) := by decide +kernel
theorem dX2_isFull_0 : decode cX2_isFull 0 = .ok (.aload_n 0, 1) := by decide +kernel
theorem dX2_isFull_1 : decode cX2_isFull 1 = .ok (.getfield 22, 3) := by decide +kernel
theorem dX2_isFull_4 : decode cX2_isFull 4 = .ok (.bipush 40, 2) := by decide +kernel
theorem dX2_isFull_6 : decode cX2_isFull 6 = .ok (.if_icmp .lt 7, 3) := by decide +kernel
theorem dX2_isFull_9 : decode cX2_isFull 9 = .ok (.iconst 1, 1) := by decide +kernel
theorem dX2_isFull_10 : decode cX2_isFull 10 = .ok (.goto 4, 3) := by decide +kernel
theorem dX2_isFull_13 : decode cX2_isFull 13 = .ok (.iconst 0, 1) := by decide +kernel
theorem dX2_isFull_14 : decode cX2_isFull 14 = .ok (.ireturn, 1) := by decide +kernel
theorem dX2_append_0 : decode cX2_append 0 = .ok (.aload_n 0, 1) := by decide +kernel
theorem dX2_append_1 : decode cX2_append 1 = .ok (.getfield 11, 3) := by decide +kernel
theorem dX2_append_4 : decode cX2_append 4 = .ok (.aload_n 0, 1) := by decide +kernel
theorem dX2_append_5 : decode cX2_append 5 = .ok (.getfield 22, 3) := by decide +kernel
theorem dX2_append_8 : decode cX2_append 8 = .ok (.iload_n 1, 1) := by decide +kernel
theorem dX2_append_9 : decode cX2_append 9 = .ok (.iastore, 1) := by decide +kernel
theorem dX2_append_10 : decode cX2_append 10 = .ok (.aload_n 0, 1) := by decide +kernel
theorem dX2_append_11 : decode cX2_append 11 = .ok (.dup, 1) := by decide +kernel
theorem dX2_append_12 : decode cX2_append 12 = .ok (.getfield 22, 3) := by decide +kernel
theorem dX2_append_15 : decode cX2_append 15 = .ok (.iconst 1, 1) := by decide +kernel
theorem dX2_append_16 : decode cX2_append 16 = .ok (.iadd, 1) := by decide +kernel
theorem dX2_append_17 : decode cX2_append 17 = .ok (.putfield 22, 3) := by decide +kernel
theorem dX2_append_20 : decode cX2_append 20 = .ok (.return_, 1) := by decide +kernel
set_option maxRecDepth 20000 in
theorem ggX2_parse_X3_clear : GoodIn wsX2_parse wsX3_clear := goodIn_r _ [8, 9, 10, 11, 12, 150, 151, 152, 153, 154, 155, 156] (by decide +kernel) (by decide +kernel)
set_option maxRecDepth 20000 in
theorem gX2_parse_X3_clear : GoodIn wsX2_parse (wsV RX2 29 RX3 yX3_clear wsX3_clear) := goodIn_app (goodIn_of _ (by decide +kernel)) ggX2_parse_X3_clear
set_option maxRecDepth 20000 in
theorem ggX2_parse_X2_parseGroup : GoodIn wsX2_parse wsX2_parseGroup := goodIn_r _ [17, 1, 18, 19, 20, 16, 21, 2, 22, 23, 24, 25, 26, 27, 28, 29, 30, 31, 32, 33, 34, 35, 36, 37, 38, 39, 40, 41, 42, 43, 44, 45, 46, 47, 48, 49, 50, 51, 52, 53, 54, 55, 56, 57, 58, 59, 60, 61, 62, 63, 64, 65, 66, 67, 68, 69, 70, 71, 72, 73, 74, 75, 76, 77, 78, 79, 80, 81, 82, 83, 84, 85, 86, 87, 88, 89, 90, 91, 92, 93, 94, 95, 96, 97, 98, 99, 100, 101, 102, 103, 104, 105, 106, 107, 108, 109, 110, 111, 112, 113, 114, 115, 116, 117, 118, 119, 120, 121, 122, 123, 124, 125, 126, 127, 128, 129, 130, 7, 131, 9, 132, 133, 134, 135, 136, 137, 138, 139, 140, 12, 10, 11, 146, 147, 148, 149, 150, 151, 152, 153, 154, 155, 156] (by decide +kernel) (by decide +kernel)
set_option maxRecDepth 20000 in
theorem gX2_parse_X2_parseGroup : GoodIn wsX2_parse (wsV RX2 32 RX2 yX2_parseGroup wsX2_parseGroup) := goodIn_app (goodIn_of _ (by decide +kernel)) ggX2_parse_X2_parseGroup
set_option maxRecDepth 20000 in
theorem ggX2_parse_X2_ahead : GoodIn wsX2_parse wsX2_ahead := goodIn_r _ [25, 1, 26, 27, 146, 147, 148, 149] (by decide +kernel) (by decide +kernel)
set_option maxRecDepth 20000 in
theorem gX2_parse_X2_ahead : GoodIn wsX2_parse (wsV RX2 36 RX2 yX2_ahead wsX2_ahead) := goodIn_app (goodIn_of _ (by decide +kernel)) ggX2_parse_X2_ahead
set_option maxRecDepth 20000 in
theorem ggX2_parse_X2_faultAt : GoodIn wsX2_parse wsX2_faultAt := goodIn_r _ [119] (by decide +kernel) (by decide +kernel)
set_option maxRecDepth 20000 in
theorem gX2_parse_X2_faultAt : GoodIn wsX2_parse (va_wsS RX2 40 yX2_faultAt wsX2_faultAt) := goodIn_app (goodIn_of _ (by decide +kernel)) ggX2_parse_X2_faultAt
set_option maxRecDepth 20000 in
theorem ggX2_parse_X3_findShares : GoodIn wsX2_parse wsX3_findShares := goodIn_r _ [144, 9, 132, 12, 145, 150, 151, 152, 153, 154, 155, 156] (by decide +kernel) (by decide +kernel)
set_option maxRecDepth 20000 in
theorem gX2_parse_X3_findShares : GoodIn wsX2_parse (wsV RX2 44 RX3 yX3_findShares wsX3_findShares) := goodIn_app (goodIn_of _ (by decide +kernel)) ggX2_parse_X3_findShares
theorem dX2_parse_0 : decode cX2_parse 0 = .ok (.aload_n 0, 1) := by decide +kernel
theorem dX2_parse_1 : decode cX2_parse 1 = .ok (.iconst 0, 1) := by decide +kernel
theorem dX2_parse_2 : decode cX2_parse 2 = .ok (.putfield 26, 3) := by decide +kernel
theorem dX2_parse_5 : decode cX2_parse 5 = .ok (.aload_n 0, 1) := by decide +kernel
theorem dX2_parse_6 : decode cX2_parse 6 = .ok (.getfield 18, 3) := by decide +kernel
theorem dX2_parse_9 : decode cX2_parse 9 = .ok (.invokevirtual 29, 3) := by decide +kernel
theorem dX2_parse_12 : decode cX2_parse 12 = .ok (.aload_n 0, 1) := by decide +kernel
theorem dX2_parse_13 : decode cX2_parse 13 = .ok (.iconst 4, 1) := by decide +kernel
theorem dX2_parse_14 : decode cX2_parse 14 = .ok (.iconst 0, 1) := by decide +kernel
theorem dX2_parse_15 : decode cX2_parse 15 = .ok (.invokevirtual 32, 3) := by decide +kernel
theorem dX2_parse_18 : decode cX2_parse 18 = .ok (.istore_n 1, 1) := by decide +kernel
theorem dX2_parse_19 : decode cX2_parse 19 = .ok (.iload_n 1, 1) := by decide +kernel
theorem dX2_parse_20 : decode cX2_parse 20 = .ok (.ifCond .ne 29, 3) := by decide +kernel
theorem dX2_parse_23 : decode cX2_parse 23 = .ok (.aload_n 0, 1) := by decide +kernel
theorem dX2_parse_24 : decode cX2_parse 24 = .ok (.invokevirtual 36, 3) := by decide +kernel
theorem dX2_parse_27 : decode cX2_parse 27 = .ok (.bipush 59, 2) := by decide +kernel
theorem dX2_parse_29 : decode cX2_parse 29 = .ok (.if_icmp .ne 20, 3) := by decide +kernel
theorem dX2_parse_32 : decode cX2_parse 32 = .ok (.aload_n 0, 1) := by decide +kernel
theorem dX2_parse_33 : decode cX2_parse 33 = .ok (.dup, 1) := by decide +kernel
theorem dX2_parse_34 : decode cX2_parse 34 = .ok (.getfield 26, 3) := by decide +kernel
theorem dX2_parse_37 : decode cX2_parse 37 = .ok (.iconst 1, 1) := by decide +kernel
theorem dX2_parse_38 : decode cX2_parse 38 = .ok (.iadd, 1) := by decide +kernel
theorem dX2_parse_39 : decode cX2_parse 39 = .ok (.putfield 26, 3) := by decide +kernel
theorem dX2_parse_42 : decode cX2_parse 42 = .ok (.aload_n 0, 1) := by decide +kernel
theorem dX2_parse_43 : decode cX2_parse 43 = .ok (.iconst 2, 1) := by decide +kernel
theorem dX2_parse_44 : decode cX2_parse 44 = .ok (.iconst 1, 1) := by decide +kernel
theorem dX2_parse_45 : decode cX2_parse 45 = .ok (.invokevirtual 32, 3) := by decide +kernel
theorem dX2_parse_48 : decode cX2_parse 48 = .ok (.istore_n 1, 1) := by decide +kernel
theorem dX2_parse_49 : decode cX2_parse 49 = .ok (.iload_n 1, 1) := by decide +kernel
theorem dX2_parse_50 : decode cX2_parse 50 = .ok (.ifCond .ne 19, 3) := by decide +kernel
theorem dX2_parse_53 : decode cX2_parse 53 = .ok (.aload_n 0, 1) := by decide +kernel
theorem dX2_parse_54 : decode cX2_parse 54 = .ok (.invokevirtual 36, 3) := by decide +kernel
theorem dX2_parse_57 : decode cX2_parse 57 = .ok (.iconst (-1), 1) := by decide +kernel
theorem dX2_parse_58 : decode cX2_parse 58 = .ok (.if_icmp .eq 11, 3) := by decide +kernel
theorem dX2_parse_61 : decode cX2_parse 61 = .ok (.aload_n 0, 1) := by decide +kernel
theorem dX2_parse_62 : decode cX2_parse 62 = .ok (.getfield 26, 3) := by decide +kernel
theorem dX2_parse_65 : decode cX2_parse 65 = .ok (.invokestatic 40, 3) := by decide +kernel
theorem dX2_parse_68 : decode cX2_parse 68 = .ok (.istore_n 1, 1) := by decide +kernel
theorem dX2_parse_69 : decode cX2_parse 69 = .ok (.iload_n 1, 1) := by decide +kernel
theorem dX2_parse_70 : decode cX2_parse 70 = .ok (.ifCond .eq 5, 3) := by decide +kernel
theorem dX2_parse_73 : decode cX2_parse 73 = .ok (.iload_n 1, 1) := by decide +kernel
theorem dX2_parse_74 : decode cX2_parse 74 = .ok (.ireturn, 1) := by decide +kernel
theorem dX2_parse_75 : decode cX2_parse 75 = .ok (.aload_n 0, 1) := by decide +kernel
theorem dX2_parse_76 : decode cX2_parse 76 = .ok (.getfield 18, 3) := by decide +kernel
theorem dX2_parse_79 : decode cX2_parse 79 = .ok (.invokevirtual 44, 3) := by decide +kernel
theorem dX2_parse_82 : decode cX2_parse 82 = .ok (.aload_n 0, 1) := by decide +kernel
theorem dX2_parse_83 : decode cX2_parse 83 = .ok (.getfield 18, 3) := by decide +kernel
theorem dX2_parse_86 : decode cX2_parse 86 = .ok (.getfield 47, 3) := by decide +kernel
theorem dX2_parse_89 : decode cX2_parse 89 = .ok (.ireturn, 1) := by decide +kernel
set_option maxRecDepth 20000 in
theorem ggX2_parseGroup_X2_parseWheel : GoodIn wsX2_parseGroup wsX2_parseWheel := goodIn_r _ [6, 1, 7, 8, 9, 10, 5, 11, 12, 13, 14, 15, 16, 17, 18, 19, 20, 21, 22, 23, 24, 25, 26, 27, 28, 29, 30, 31, 32, 33, 34, 35, 36, 37, 38, 39, 40, 41, 42, 43, 44, 45, 46, 47, 48, 49, 50, 51, 52, 53, 54, 55, 56, 57, 58, 59, 60, 61, 62, 63, 64, 65, 66, 67, 68, 69, 70, 71, 72, 73, 74, 75, 76, 77, 78, 79, 80, 81, 82, 83, 84, 85, 86, 87, 88, 89, 90, 91, 92, 93, 94, 95, 96, 97, 98, 99, 100, 101, 102, 103, 104, 105, 106, 107, 108, 109, 110, 111, 112, 113, 114, 115, 116, 117, 118, 119, 120, 121, 122, 123, 124, 125, 126, 127, 128, 129, 130, 131, 132, 133, 134, 135, 136, 137, 138, 139, 140, 141, 142] (by decide +kernel) (by decide +kernel)
set_option maxRecDepth 20000 in
theorem gX2_parseGroup_X2_parseWheel : GoodIn wsX2_parseGroup (wsV RX2 50 RX2 yX2_parseWheel wsX2_parseWheel) := goodIn_app (goodIn_of _ (by decide +kernel)) ggX2_parseGroup_X2_parseWheel
set_option maxRecDepth 20000 in
theorem ggX2_parseGroup_X2_ahead : GoodIn wsX2_parseGroup wsX2_ahead := goodIn_r _ [11, 1, 12, 13, 132, 133, 134, 135] (by decide +kernel) (by decide +kernel)
set_option maxRecDepth 20000 in
theorem gX2_parseGroup_X2_ahead : GoodIn wsX2_parseGroup (wsV RX2 36 RX2 yX2_ahead wsX2_ahead) := goodIn_app (goodIn_of _ (by decide +kernel)) ggX2_parseGroup_X2_ahead
theorem dX2_parseGroup_0 : decode cX2_parseGroup 0 = .ok (.iconst 1, 1) := by decide +kernel
theorem dX2_parseGroup_1 : decode cX2_parseGroup 1 = .ok (.istore_n 3, 1) := by decide +kernel
theorem dX2_parseGroup_2 : decode cX2_parseGroup 2 = .ok (.iload_n 3, 1) := by decide +kernel
theorem dX2_parseGroup_3 : decode cX2_parseGroup 3 = .ok (.iload_n 1, 1) := by decide +kernel
theorem dX2_parseGroup_4 : decode cX2_parseGroup 4 = .ok (.if_icmp .gt 48, 3) := by decide +kernel
theorem dX2_parseGroup_7 : decode cX2_parseGroup 7 = .ok (.aload_n 0, 1) := by decide +kernel
theorem dX2_parseGroup_8 : decode cX2_parseGroup 8 = .ok (.iload_n 2, 1) := by decide +kernel
theorem dX2_parseGroup_9 : decode cX2_parseGroup 9 = .ok (.invokevirtual 50, 3) := by decide +kernel
theorem dX2_parseGroup_12 : decode cX2_parseGroup 12 = .ok (.istore 4, 2) := by decide +kernel
theorem dX2_parseGroup_14 : decode cX2_parseGroup 14 = .ok (.iload 4, 2) := by decide +kernel
theorem dX2_parseGroup_16 : decode cX2_parseGroup 16 = .ok (.ifCond .ne 17, 3) := by decide +kernel
theorem dX2_parseGroup_19 : decode cX2_parseGroup 19 = .ok (.iload_n 3, 1) := by decide +kernel
theorem dX2_parseGroup_20 : decode cX2_parseGroup 20 = .ok (.iload_n 1, 1) := by decide +kernel
theorem dX2_parseGroup_21 : decode cX2_parseGroup 21 = .ok (.if_icmp .eq 12, 3) := by decide +kernel
theorem dX2_parseGroup_24 : decode cX2_parseGroup 24 = .ok (.aload_n 0, 1) := by decide +kernel
theorem dX2_parseGroup_25 : decode cX2_parseGroup 25 = .ok (.invokevirtual 36, 3) := by decide +kernel
theorem dX2_parseGroup_28 : decode cX2_parseGroup 28 = .ok (.bipush 44, 2) := by decide +kernel
theorem dX2_parseGroup_30 : decode cX2_parseGroup 30 = .ok (.if_icmp .eq 6, 3) := by decide +kernel
theorem dX2_parseGroup_33 : decode cX2_parseGroup 33 = .ok (.iload 4, 2) := by decide +kernel
theorem dX2_parseGroup_35 : decode cX2_parseGroup 35 = .ok (.ireturn, 1) := by decide +kernel
theorem dX2_parseGroup_36 : decode cX2_parseGroup 36 = .ok (.aload_n 0, 1) := by decide +kernel
theorem dX2_parseGroup_37 : decode cX2_parseGroup 37 = .ok (.dup, 1) := by decide +kernel
theorem dX2_parseGroup_38 : decode cX2_parseGroup 38 = .ok (.getfield 26, 3) := by decide +kernel
theorem dX2_parseGroup_41 : decode cX2_parseGroup 41 = .ok (.iconst 1, 1) := by decide +kernel
theorem dX2_parseGroup_42 : decode cX2_parseGroup 42 = .ok (.iadd, 1) := by decide +kernel
theorem dX2_parseGroup_43 : decode cX2_parseGroup 43 = .ok (.putfield 26, 3) := by decide +kernel
theorem dX2_parseGroup_46 : decode cX2_parseGroup 46 = .ok (.iinc 3 1, 3) := by decide +kernel
theorem dX2_parseGroup_49 : decode cX2_parseGroup 49 = .ok (.goto (-47), 3) := by decide +kernel
theorem dX2_parseGroup_52 : decode cX2_parseGroup 52 = .ok (.iconst 0, 1) := by decide +kernel
theorem dX2_parseGroup_53 : decode cX2_parseGroup 53 = .ok (.ireturn, 1) := by decide +kernel
set_option maxRecDepth 20000 in
theorem ggX2_parseWheel_X2_ahead : GoodIn wsX2_parseWheel wsX2_ahead := goodIn_r _ [7, 1, 8, 9, 128, 129, 130, 131] (by decide +kernel) (by decide +kernel)
set_option maxRecDepth 20000 in
theorem gX2_parseWheel_X2_ahead : GoodIn wsX2_parseWheel (wsV RX2 36 RX2 yX2_ahead wsX2_ahead) := goodIn_app (goodIn_of _ (by decide +kernel)) ggX2_parseWheel_X2_ahead
set_option maxRecDepth 20000 in
theorem ggX2_parseWheel_J0_indexOf_0f7a4 : GoodIn wsX2_parseWheel wsJ0_indexOf_0f7a4 := goodIn_r _ [14, 15, 16, 17, 13, 18, 19, 20, 21, 22, 23, 24, 25, 26, 27, 28, 29, 30, 31, 32, 33, 34, 35, 36, 37, 38, 39, 40, 41, 42, 43, 44, 45, 46, 47, 48, 49, 50, 51, 52, 53, 54, 55, 56, 57, 58, 59, 60, 61, 62, 63, 64, 65, 66, 67, 68, 69, 70, 71, 72, 73, 74, 75, 76, 77, 78, 79, 80, 81, 82, 83, 84, 85, 86, 87, 88, 89, 90, 91, 92, 93, 94, 95, 96, 97, 98] (by decide +kernel) (by decide +kernel)
set_option maxRecDepth 20000 in
theorem gX2_parseWheel_J0_indexOf_0f7a4 : GoodIn wsX2_parseWheel (wsV RX2 56 RJ0 yJ0_indexOf_0f7a4 wsJ0_indexOf_0f7a4) := goodIn_app (goodIn_of _ (by decide +kernel)) ggX2_parseWheel_J0_indexOf_0f7a4
set_option maxRecDepth 20000 in
theorem ggX2_parseWheel_X2_faultAt : GoodIn wsX2_parseWheel wsX2_faultAt := goodIn_r _ [101] (by decide +kernel) (by decide +kernel)
set_option maxRecDepth 20000 in
theorem gX2_parseWheel_X2_faultAt : GoodIn wsX2_parseWheel (va_wsS RX2 40 yX2_faultAt wsX2_faultAt) := goodIn_app (goodIn_of _ (by decide +kernel)) ggX2_parseWheel_X2_faultAt
set_option maxRecDepth 20000 in
theorem ggX2_parseWheel_X2_isDigit : GoodIn wsX2_parseWheel wsX2_isDigit := goodIn_r _ [104] (by decide +kernel) (by decide +kernel)
set_option maxRecDepth 20000 in
theorem gX2_parseWheel_X2_isDigit : GoodIn wsX2_parseWheel (va_wsS RX2 61 yX2_isDigit wsX2_isDigit) := goodIn_app (goodIn_of _ (by decide +kernel)) ggX2_parseWheel_X2_isDigit
set_option maxRecDepth 20000 in
theorem ggX2_parseWheel_X2_parseNumber : GoodIn wsX2_parseWheel wsX2_parseNumber := goodIn_r _ [108, 1, 8, 109, 43, 40, 44, 9, 102, 103, 6, 104, 128, 129, 130, 131] (by decide +kernel) (by decide +kernel)
set_option maxRecDepth 20000 in
theorem gX2_parseWheel_X2_parseNumber : GoodIn wsX2_parseWheel (wsV RX2 65 RX2 yX2_parseNumber wsX2_parseNumber) := goodIn_app (goodIn_of _ (by decide +kernel)) ggX2_parseWheel_X2_parseNumber
set_option maxRecDepth 20000 in
theorem ggX2_parseWheel_X3_mayHave : GoodIn wsX2_parseWheel wsX3_mayHave := goodIn_r _ [114, 115, 116, 117, 118, 119, 132, 133, 134, 135, 136, 137, 138] (by decide +kernel) (by decide +kernel)
set_option maxRecDepth 20000 in
theorem gX2_parseWheel_X3_mayHave : GoodIn wsX2_parseWheel (wsV RX2 68 RX3 yX3_mayHave wsX3_mayHave) := goodIn_app (goodIn_of _ (by decide +kernel)) ggX2_parseWheel_X3_mayHave
set_option maxRecDepth 20000 in
theorem ggX2_parseWheel_X3_append : GoodIn wsX2_parseWheel wsX3_append := goodIn_r _ [123, 124, 115, 116, 125, 126, 127, 132, 133, 134, 135, 136, 137, 138] (by decide +kernel) (by decide +kernel)
set_option maxRecDepth 20000 in
theorem gX2_parseWheel_X3_append : GoodIn wsX2_parseWheel (wsV RX2 71 RX3 yX3_append wsX3_append) := goodIn_app (goodIn_of _ (by decide +kernel)) ggX2_parseWheel_X3_append
theorem dX2_parseWheel_0 : decode cX2_parseWheel 0 = .ok (.aload_n 0, 1) := by decide +kernel
theorem dX2_parseWheel_1 : decode cX2_parseWheel 1 = .ok (.invokevirtual 36, 3) := by decide +kernel
theorem dX2_parseWheel_4 : decode cX2_parseWheel 4 = .ok (.istore_n 2, 1) := by decide +kernel
theorem dX2_parseWheel_5 : decode cX2_parseWheel 5 = .ok (.iload_n 2, 1) := by decide +kernel
theorem dX2_parseWheel_6 : decode cX2_parseWheel 6 = .ok (.iconst (-1), 1) := by decide +kernel
theorem dX2_parseWheel_7 : decode cX2_parseWheel 7 = .ok (.if_icmp .ne 7, 3) := by decide +kernel
theorem dX2_parseWheel_10 : decode cX2_parseWheel 10 = .ok (.iconst (-1), 1) := by decide +kernel
theorem dX2_parseWheel_11 : decode cX2_parseWheel 11 = .ok (.goto 10, 3) := by decide +kernel
theorem dX2_parseWheel_14 : decode cX2_parseWheel 14 = .ok (.ldc 54, 2) := by decide +kernel
theorem dX2_parseWheel_16 : decode cX2_parseWheel 16 = .ok (.iload_n 2, 1) := by decide +kernel
theorem dX2_parseWheel_17 : decode cX2_parseWheel 17 = .ok (.i2c, 1) := by decide +kernel
theorem dX2_parseWheel_18 : decode cX2_parseWheel 18 = .ok (.invokevirtual 56, 3) := by decide +kernel
theorem dX2_parseWheel_21 : decode cX2_parseWheel 21 = .ok (.istore_n 3, 1) := by decide +kernel
theorem dX2_parseWheel_22 : decode cX2_parseWheel 22 = .ok (.iload_n 3, 1) := by decide +kernel
theorem dX2_parseWheel_23 : decode cX2_parseWheel 23 = .ok (.ifCond .ge 11, 3) := by decide +kernel
theorem dX2_parseWheel_26 : decode cX2_parseWheel 26 = .ok (.aload_n 0, 1) := by decide +kernel
theorem dX2_parseWheel_27 : decode cX2_parseWheel 27 = .ok (.getfield 26, 3) := by decide +kernel
theorem dX2_parseWheel_30 : decode cX2_parseWheel 30 = .ok (.invokestatic 40, 3) := by decide +kernel
theorem dX2_parseWheel_33 : decode cX2_parseWheel 33 = .ok (.ireturn, 1) := by decide +kernel
theorem dX2_parseWheel_34 : decode cX2_parseWheel 34 = .ok (.aload_n 0, 1) := by decide +kernel
theorem dX2_parseWheel_35 : decode cX2_parseWheel 35 = .ok (.dup, 1) := by decide +kernel
theorem dX2_parseWheel_36 : decode cX2_parseWheel 36 = .ok (.getfield 26, 3) := by decide +kernel
theorem dX2_parseWheel_39 : decode cX2_parseWheel 39 = .ok (.iconst 1, 1) := by decide +kernel
theorem dX2_parseWheel_40 : decode cX2_parseWheel 40 = .ok (.iadd, 1) := by decide +kernel
theorem dX2_parseWheel_41 : decode cX2_parseWheel 41 = .ok (.putfield 26, 3) := by decide +kernel
theorem dX2_parseWheel_44 : decode cX2_parseWheel 44 = .ok (.aload_n 0, 1) := by decide +kernel
theorem dX2_parseWheel_45 : decode cX2_parseWheel 45 = .ok (.invokevirtual 36, 3) := by decide +kernel
theorem dX2_parseWheel_48 : decode cX2_parseWheel 48 = .ok (.invokestatic 61, 3) := by decide +kernel
theorem dX2_parseWheel_51 : decode cX2_parseWheel 51 = .ok (.ifCond .ne 11, 3) := by decide +kernel
theorem dX2_parseWheel_54 : decode cX2_parseWheel 54 = .ok (.aload_n 0, 1) := by decide +kernel
theorem dX2_parseWheel_55 : decode cX2_parseWheel 55 = .ok (.getfield 26, 3) := by decide +kernel
theorem dX2_parseWheel_58 : decode cX2_parseWheel 58 = .ok (.invokestatic 40, 3) := by decide +kernel
theorem dX2_parseWheel_61 : decode cX2_parseWheel 61 = .ok (.ireturn, 1) := by decide +kernel
theorem dX2_parseWheel_62 : decode cX2_parseWheel 62 = .ok (.aload_n 0, 1) := by decide +kernel
theorem dX2_parseWheel_63 : decode cX2_parseWheel 63 = .ok (.getfield 26, 3) := by decide +kernel
theorem dX2_parseWheel_66 : decode cX2_parseWheel 66 = .ok (.istore 4, 2) := by decide +kernel
theorem dX2_parseWheel_68 : decode cX2_parseWheel 68 = .ok (.aload_n 0, 1) := by decide +kernel
theorem dX2_parseWheel_69 : decode cX2_parseWheel 69 = .ok (.invokevirtual 65, 3) := by decide +kernel
theorem dX2_parseWheel_72 : decode cX2_parseWheel 72 = .ok (.istore 5, 2) := by decide +kernel
theorem dX2_parseWheel_74 : decode cX2_parseWheel 74 = .ok (.aload_n 0, 1) := by decide +kernel
theorem dX2_parseWheel_75 : decode cX2_parseWheel 75 = .ok (.getfield 18, 3) := by decide +kernel
theorem dX2_parseWheel_78 : decode cX2_parseWheel 78 = .ok (.iload 5, 2) := by decide +kernel
theorem dX2_parseWheel_80 : decode cX2_parseWheel 80 = .ok (.invokevirtual 68, 3) := by decide +kernel
theorem dX2_parseWheel_83 : decode cX2_parseWheel 83 = .ok (.ifCond .ne 9, 3) := by decide +kernel
theorem dX2_parseWheel_86 : decode cX2_parseWheel 86 = .ok (.iload 4, 2) := by decide +kernel
theorem dX2_parseWheel_88 : decode cX2_parseWheel 88 = .ok (.invokestatic 40, 3) := by decide +kernel
theorem dX2_parseWheel_91 : decode cX2_parseWheel 91 = .ok (.ireturn, 1) := by decide +kernel
theorem dX2_parseWheel_92 : decode cX2_parseWheel 92 = .ok (.aload_n 0, 1) := by decide +kernel
theorem dX2_parseWheel_93 : decode cX2_parseWheel 93 = .ok (.getfield 18, 3) := by decide +kernel
theorem dX2_parseWheel_96 : decode cX2_parseWheel 96 = .ok (.iload_n 3, 1) := by decide +kernel
theorem dX2_parseWheel_97 : decode cX2_parseWheel 97 = .ok (.iload 5, 2) := by decide +kernel
theorem dX2_parseWheel_99 : decode cX2_parseWheel 99 = .ok (.iload_n 1, 1) := by decide +kernel
theorem dX2_parseWheel_100 : decode cX2_parseWheel 100 = .ok (.invokevirtual 71, 3) := by decide +kernel
theorem dX2_parseWheel_103 : decode cX2_parseWheel 103 = .ok (.iconst 0, 1) := by decide +kernel
theorem dX2_parseWheel_104 : decode cX2_parseWheel 104 = .ok (.ireturn, 1) := by decide +kernel
set_option maxRecDepth 20000 in
theorem ggX2_parseNumber_X2_isDigit : GoodIn wsX2_parseNumber wsX2_isDigit := goodIn_r _ [11] (by decide +kernel) (by decide +kernel)
set_option maxRecDepth 20000 in
theorem gX2_parseNumber_X2_isDigit : GoodIn wsX2_parseNumber (va_wsS RX2 61 yX2_isDigit wsX2_isDigit) := goodIn_app (goodIn_of _ (by decide +kernel)) ggX2_parseNumber_X2_isDigit
theorem dX2_parseNumber_0 : decode cX2_parseNumber 0 = .ok (.iconst 0, 1) := by decide +kernel
theorem dX2_parseNumber_1 : decode cX2_parseNumber 1 = .ok (.istore_n 1, 1) := by decide +kernel
theorem dX2_parseNumber_2 : decode cX2_parseNumber 2 = .ok (.aload_n 0, 1) := by decide +kernel
theorem dX2_parseNumber_3 : decode cX2_parseNumber 3 = .ok (.getfield 26, 3) := by decide +kernel
theorem dX2_parseNumber_6 : decode cX2_parseNumber 6 = .ok (.iconst 2, 1) := by decide +kernel
theorem dX2_parseNumber_7 : decode cX2_parseNumber 7 = .ok (.iadd, 1) := by decide +kernel
theorem dX2_parseNumber_8 : decode cX2_parseNumber 8 = .ok (.aload_n 0, 1) := by decide +kernel
theorem dX2_parseNumber_9 : decode cX2_parseNumber 9 = .ok (.getfield 22, 3) := by decide +kernel
theorem dX2_parseNumber_12 : decode cX2_parseNumber 12 = .ok (.invokestatic 75, 3) := by decide +kernel
theorem dX2_parseNumber_15 : decode cX2_parseNumber 15 = .ok (.istore_n 2, 1) := by decide +kernel
theorem dX2_parseNumber_16 : decode cX2_parseNumber 16 = .ok (.aload_n 0, 1) := by decide +kernel
theorem dX2_parseNumber_17 : decode cX2_parseNumber 17 = .ok (.getfield 26, 3) := by decide +kernel
theorem dX2_parseNumber_20 : decode cX2_parseNumber 20 = .ok (.iload_n 2, 1) := by decide +kernel
theorem dX2_parseNumber_21 : decode cX2_parseNumber 21 = .ok (.if_icmp .ge 49, 3) := by decide +kernel
theorem dX2_parseNumber_24 : decode cX2_parseNumber 24 = .ok (.aload_n 0, 1) := by decide +kernel
theorem dX2_parseNumber_25 : decode cX2_parseNumber 25 = .ok (.getfield 11, 3) := by decide +kernel
theorem dX2_parseNumber_28 : decode cX2_parseNumber 28 = .ok (.aload_n 0, 1) := by decide +kernel
theorem dX2_parseNumber_29 : decode cX2_parseNumber 29 = .ok (.getfield 26, 3) := by decide +kernel
theorem dX2_parseNumber_32 : decode cX2_parseNumber 32 = .ok (.iaload, 1) := by decide +kernel
theorem dX2_parseNumber_33 : decode cX2_parseNumber 33 = .ok (.invokestatic 61, 3) := by decide +kernel
theorem dX2_parseNumber_36 : decode cX2_parseNumber 36 = .ok (.ifCond .eq 34, 3) := by decide +kernel
theorem dX2_parseNumber_39 : decode cX2_parseNumber 39 = .ok (.iload_n 1, 1) := by decide +kernel
theorem dX2_parseNumber_40 : decode cX2_parseNumber 40 = .ok (.bipush 10, 2) := by decide +kernel
theorem dX2_parseNumber_42 : decode cX2_parseNumber 42 = .ok (.imul, 1) := by decide +kernel
theorem dX2_parseNumber_43 : decode cX2_parseNumber 43 = .ok (.aload_n 0, 1) := by decide +kernel
theorem dX2_parseNumber_44 : decode cX2_parseNumber 44 = .ok (.getfield 11, 3) := by decide +kernel
theorem dX2_parseNumber_47 : decode cX2_parseNumber 47 = .ok (.aload_n 0, 1) := by decide +kernel
theorem dX2_parseNumber_48 : decode cX2_parseNumber 48 = .ok (.getfield 26, 3) := by decide +kernel
theorem dX2_parseNumber_51 : decode cX2_parseNumber 51 = .ok (.iaload, 1) := by decide +kernel
theorem dX2_parseNumber_52 : decode cX2_parseNumber 52 = .ok (.iadd, 1) := by decide +kernel
theorem dX2_parseNumber_53 : decode cX2_parseNumber 53 = .ok (.bipush 48, 2) := by decide +kernel
theorem dX2_parseNumber_55 : decode cX2_parseNumber 55 = .ok (.isub, 1) := by decide +kernel
theorem dX2_parseNumber_56 : decode cX2_parseNumber 56 = .ok (.istore_n 1, 1) := by decide +kernel
theorem dX2_parseNumber_57 : decode cX2_parseNumber 57 = .ok (.aload_n 0, 1) := by decide +kernel
theorem dX2_parseNumber_58 : decode cX2_parseNumber 58 = .ok (.dup, 1) := by decide +kernel
theorem dX2_parseNumber_59 : decode cX2_parseNumber 59 = .ok (.getfield 26, 3) := by decide +kernel
theorem dX2_parseNumber_62 : decode cX2_parseNumber 62 = .ok (.iconst 1, 1) := by decide +kernel
theorem dX2_parseNumber_63 : decode cX2_parseNumber 63 = .ok (.iadd, 1) := by decide +kernel
theorem dX2_parseNumber_64 : decode cX2_parseNumber 64 = .ok (.putfield 26, 3) := by decide +kernel
theorem dX2_parseNumber_67 : decode cX2_parseNumber 67 = .ok (.goto (-51), 3) := by decide +kernel
theorem dX2_parseNumber_70 : decode cX2_parseNumber 70 = .ok (.iload_n 1, 1) := by decide +kernel
theorem dX2_parseNumber_71 : decode cX2_parseNumber 71 = .ok (.ireturn, 1) := by decide +kernel
theorem dX2_ahead_0 : decode cX2_ahead 0 = .ok (.aload_n 0, 1) := by decide +kernel
theorem dX2_ahead_1 : decode cX2_ahead 1 = .ok (.getfield 26, 3) := by decide +kernel
theorem dX2_ahead_4 : decode cX2_ahead 4 = .ok (.aload_n 0, 1) := by decide +kernel
theorem dX2_ahead_5 : decode cX2_ahead 5 = .ok (.getfield 22, 3) := by decide +kernel
theorem dX2_ahead_8 : decode cX2_ahead 8 = .ok (.if_icmp .ge 30, 3) := by decide +kernel
theorem dX2_ahead_11 : decode cX2_ahead 11 = .ok (.aload_n 0, 1) := by decide +kernel
theorem dX2_ahead_12 : decode cX2_ahead 12 = .ok (.getfield 11, 3) := by decide +kernel
theorem dX2_ahead_15 : decode cX2_ahead 15 = .ok (.aload_n 0, 1) := by decide +kernel
theorem dX2_ahead_16 : decode cX2_ahead 16 = .ok (.getfield 26, 3) := by decide +kernel
theorem dX2_ahead_19 : decode cX2_ahead 19 = .ok (.iaload, 1) := by decide +kernel
theorem dX2_ahead_20 : decode cX2_ahead 20 = .ok (.bipush 32, 2) := by decide +kernel
theorem dX2_ahead_22 : decode cX2_ahead 22 = .ok (.if_icmp .ne 16, 3) := by decide +kernel
theorem dX2_ahead_25 : decode cX2_ahead 25 = .ok (.aload_n 0, 1) := by decide +kernel
theorem dX2_ahead_26 : decode cX2_ahead 26 = .ok (.dup, 1) := by decide +kernel
theorem dX2_ahead_27 : decode cX2_ahead 27 = .ok (.getfield 26, 3) := by decide +kernel
theorem dX2_ahead_30 : decode cX2_ahead 30 = .ok (.iconst 1, 1) := by decide +kernel
theorem dX2_ahead_31 : decode cX2_ahead 31 = .ok (.iadd, 1) := by decide +kernel
theorem dX2_ahead_32 : decode cX2_ahead 32 = .ok (.putfield 26, 3) := by decide +kernel
theorem dX2_ahead_35 : decode cX2_ahead 35 = .ok (.goto (-35), 3) := by decide +kernel
theorem dX2_ahead_38 : decode cX2_ahead 38 = .ok (.aload_n 0, 1) := by decide +kernel
theorem dX2_ahead_39 : decode cX2_ahead 39 = .ok (.getfield 26, 3) := by decide +kernel
theorem dX2_ahead_42 : decode cX2_ahead 42 = .ok (.aload_n 0, 1) := by decide +kernel
theorem dX2_ahead_43 : decode cX2_ahead 43 = .ok (.getfield 22, 3) := by decide +kernel
theorem dX2_ahead_46 : decode cX2_ahead 46 = .ok (.if_icmp .ge 15, 3) := by decide +kernel
theorem dX2_ahead_49 : decode cX2_ahead 49 = .ok (.aload_n 0, 1) := by decide +kernel
theorem dX2_ahead_50 : decode cX2_ahead 50 = .ok (.getfield 11, 3) := by decide +kernel
theorem dX2_ahead_53 : decode cX2_ahead 53 = .ok (.aload_n 0, 1) := by decide +kernel
theorem dX2_ahead_54 : decode cX2_ahead 54 = .ok (.getfield 26, 3) := by decide +kernel
theorem dX2_ahead_57 : decode cX2_ahead 57 = .ok (.iaload, 1) := by decide +kernel
theorem dX2_ahead_58 : decode cX2_ahead 58 = .ok (.goto 4, 3) := by decide +kernel
theorem dX2_ahead_61 : decode cX2_ahead 61 = .ok (.iconst (-1), 1) := by decide +kernel
theorem dX2_ahead_62 : decode cX2_ahead 62 = .ok (.ireturn, 1) := by decide +kernel
theorem dX2_isDigit_0 : decode cX2_isDigit 0 = .ok (.iload_n 0, 1) := by decide +kernel
theorem dX2_isDigit_1 : decode cX2_isDigit 1 = .ok (.bipush 48, 2) := by decide +kernel
theorem dX2_isDigit_3 : decode cX2_isDigit 3 = .ok (.if_icmp .lt 13, 3) := by decide +kernel
theorem dX2_isDigit_6 : decode cX2_isDigit 6 = .ok (.iload_n 0, 1) := by decide +kernel
theorem dX2_isDigit_7 : decode cX2_isDigit 7 = .ok (.bipush 57, 2) := by decide +kernel
theorem dX2_isDigit_9 : decode cX2_isDigit 9 = .ok (.if_icmp .gt 7, 3) := by decide +kernel
theorem dX2_isDigit_12 : decode cX2_isDigit 12 = .ok (.iconst 1, 1) := by decide +kernel
theorem dX2_isDigit_13 : decode cX2_isDigit 13 = .ok (.goto 4, 3) := by decide +kernel
theorem dX2_isDigit_16 : decode cX2_isDigit 16 = .ok (.iconst 0, 1) := by decide +kernel
theorem dX2_isDigit_17 : decode cX2_isDigit 17 = .ok (.ireturn, 1) := by decide +kernel
theorem dX2_faultAt_0 : decode cX2_faultAt 0 = .ok (.bipush (-20), 2) := by decide +kernel
theorem dX2_faultAt_2 : decode cX2_faultAt 2 = .ok (.iload_n 0, 1) := by decide +kernel
theorem dX2_faultAt_3 : decode cX2_faultAt 3 = .ok (.isub, 1) := by decide +kernel
theorem dX2_faultAt_4 : decode cX2_faultAt 4 = .ok (.ireturn, 1) := by decide +kernel
theorem dX3_init_0 : decode cX3_init 0 = .ok (.aload_n 0, 1) := by decide +kernel
theorem dX3_init_1 : decode cX3_init 1 = .ok (.invokespecial 3, 3) := by decide +kernel
theorem dX3_init_4 : decode cX3_init 4 = .ok (.aload_n 0, 1) := by decide +kernel
theorem dX3_init_5 : decode cX3_init 5 = .ok (.iconst 1, 1) := by decide +kernel
theorem dX3_init_6 : decode cX3_init 6 = .ok (.putfield 9, 3) := by decide +kernel
theorem dX3_init_9 : decode cX3_init 9 = .ok (.aload_n 0, 1) := by decide +kernel
theorem dX3_init_10 : decode cX3_init 10 = .ok (.iconst 1, 1) := by decide +kernel
theorem dX3_init_11 : decode cX3_init 11 = .ok (.putfield 15, 3) := by decide +kernel
theorem dX3_init_14 : decode cX3_init 14 = .ok (.aload_n 0, 1) := by decide +kernel
theorem dX3_init_15 : decode cX3_init 15 = .ok (.bipush 6, 2) := by decide +kernel
theorem dX3_init_17 : decode cX3_init 17 = .ok (.newarray .int, 2) := by decide +kernel
theorem dX3_init_19 : decode cX3_init 19 = .ok (.putfield 18, 3) := by decide +kernel
theorem dX3_init_22 : decode cX3_init 22 = .ok (.aload_n 0, 1) := by decide +kernel
theorem dX3_init_23 : decode cX3_init 23 = .ok (.bipush 6, 2) := by decide +kernel
theorem dX3_init_25 : decode cX3_init 25 = .ok (.newarray .int, 2) := by decide +kernel
theorem dX3_init_27 : decode cX3_init 27 = .ok (.putfield 22, 3) := by decide +kernel
theorem dX3_init_30 : decode cX3_init 30 = .ok (.aload_n 0, 1) := by decide +kernel
theorem dX3_init_31 : decode cX3_init 31 = .ok (.bipush 6, 2) := by decide +kernel
theorem dX3_init_33 : decode cX3_init 33 = .ok (.newarray .int, 2) := by decide +kernel
theorem dX3_init_35 : decode cX3_init 35 = .ok (.putfield 25, 3) := by decide +kernel
theorem dX3_init_38 : decode cX3_init 38 = .ok (.return_, 1) := by decide +kernel
theorem dX3_clear_0 : decode cX3_clear 0 = .ok (.aload_n 0, 1) := by decide +kernel
theorem dX3_clear_1 : decode cX3_clear 1 = .ok (.iconst 0, 1) := by decide +kernel
theorem dX3_clear_2 : decode cX3_clear 2 = .ok (.putfield 28, 3) := by decide +kernel
theorem dX3_clear_5 : decode cX3_clear 5 = .ok (.aload_n 0, 1) := by decide +kernel
theorem dX3_clear_6 : decode cX3_clear 6 = .ok (.iconst 0, 1) := by decide +kernel
theorem dX3_clear_7 : decode cX3_clear 7 = .ok (.putfield 31, 3) := by decide +kernel
theorem dX3_clear_10 : decode cX3_clear 10 = .ok (.aload_n 0, 1) := by decide +kernel
theorem dX3_clear_11 : decode cX3_clear 11 = .ok (.iconst 1, 1) := by decide +kernel
theorem dX3_clear_12 : decode cX3_clear 12 = .ok (.putfield 9, 3) := by decide +kernel
theorem dX3_clear_15 : decode cX3_clear 15 = .ok (.aload_n 0, 1) := by decide +kernel
theorem dX3_clear_16 : decode cX3_clear 16 = .ok (.iconst 1, 1) := by decide +kernel
theorem dX3_clear_17 : decode cX3_clear 17 = .ok (.putfield 15, 3) := by decide +kernel
theorem dX3_clear_20 : decode cX3_clear 20 = .ok (.return_, 1) := by decide +kernel
set_option maxRecDepth 20000 in
theorem ggX3_mayHave_X4_commonPart : GoodIn wsX3_mayHave wsX4_commonPart := goodIn_r _ [5] (by decide +kernel) (by decide +kernel)
set_option maxRecDepth 20000 in
theorem gX3_mayHave_X4_commonPart_n34 : GoodIn wsX3_mayHave (wsX4_commonPart) := ggX3_mayHave_X4_commonPart
theorem dX3_mayHave_0 : decode cX3_mayHave 0 = .ok (.iload_n 1, 1) := by decide +kernel
theorem dX3_mayHave_1 : decode cX3_mayHave 1 = .ok (.iconst 2, 1) := by decide +kernel
theorem dX3_mayHave_2 : decode cX3_mayHave 2 = .ok (.if_icmp .lt 18, 3) := by decide +kernel
theorem dX3_mayHave_5 : decode cX3_mayHave 5 = .ok (.iload_n 1, 1) := by decide +kernel
theorem dX3_mayHave_6 : decode cX3_mayHave 6 = .ok (.bipush 19, 2) := by decide +kernel
theorem dX3_mayHave_8 : decode cX3_mayHave 8 = .ok (.if_icmp .gt 12, 3) := by decide +kernel
theorem dX3_mayHave_11 : decode cX3_mayHave 11 = .ok (.aload_n 0, 1) := by decide +kernel
theorem dX3_mayHave_12 : decode cX3_mayHave 12 = .ok (.getfield 28, 3) := by decide +kernel
theorem dX3_mayHave_15 : decode cX3_mayHave 15 = .ok (.bipush 6, 2) := by decide +kernel
theorem dX3_mayHave_17 : decode cX3_mayHave 17 = .ok (.if_icmp .lt 5, 3) := by decide +kernel
theorem dX3_mayHave_20 : decode cX3_mayHave 20 = .ok (.iconst 0, 1) := by decide +kernel
theorem dX3_mayHave_21 : decode cX3_mayHave 21 = .ok (.ireturn, 1) := by decide +kernel
theorem dX3_mayHave_22 : decode cX3_mayHave 22 = .ok (.iconst 0, 1) := by decide +kernel
theorem dX3_mayHave_23 : decode cX3_mayHave 23 = .ok (.istore_n 2, 1) := by decide +kernel
theorem dX3_mayHave_24 : decode cX3_mayHave 24 = .ok (.iload_n 2, 1) := by decide +kernel
theorem dX3_mayHave_25 : decode cX3_mayHave 25 = .ok (.aload_n 0, 1) := by decide +kernel
theorem dX3_mayHave_26 : decode cX3_mayHave 26 = .ok (.getfield 28, 3) := by decide +kernel
theorem dX3_mayHave_29 : decode cX3_mayHave 29 = .ok (.if_icmp .ge 25, 3) := by decide +kernel
theorem dX3_mayHave_32 : decode cX3_mayHave 32 = .ok (.aload_n 0, 1) := by decide +kernel
theorem dX3_mayHave_33 : decode cX3_mayHave 33 = .ok (.getfield 22, 3) := by decide +kernel
theorem dX3_mayHave_36 : decode cX3_mayHave 36 = .ok (.iload_n 2, 1) := by decide +kernel
theorem dX3_mayHave_37 : decode cX3_mayHave 37 = .ok (.iaload, 1) := by decide +kernel
theorem dX3_mayHave_38 : decode cX3_mayHave 38 = .ok (.iload_n 1, 1) := by decide +kernel
theorem dX3_mayHave_39 : decode cX3_mayHave 39 = .ok (.invokestatic 34, 3) := by decide +kernel
theorem dX3_mayHave_42 : decode cX3_mayHave 42 = .ok (.iconst 1, 1) := by decide +kernel
theorem dX3_mayHave_43 : decode cX3_mayHave 43 = .ok (.if_icmp .eq 5, 3) := by decide +kernel
theorem dX3_mayHave_46 : decode cX3_mayHave 46 = .ok (.iconst 0, 1) := by decide +kernel
theorem dX3_mayHave_47 : decode cX3_mayHave 47 = .ok (.ireturn, 1) := by decide +kernel
theorem dX3_mayHave_48 : decode cX3_mayHave 48 = .ok (.iinc 2 1, 3) := by decide +kernel
theorem dX3_mayHave_51 : decode cX3_mayHave 51 = .ok (.goto (-27), 3) := by decide +kernel
theorem dX3_mayHave_54 : decode cX3_mayHave 54 = .ok (.iconst 1, 1) := by decide +kernel
theorem dX3_mayHave_55 : decode cX3_mayHave 55 = .ok (.ireturn, 1) := by decide +kernel
theorem dX3_append_0 : decode cX3_append 0 = .ok (.aload_n 0, 1) := by decide +kernel
theorem dX3_append_1 : decode cX3_append 1 = .ok (.getfield 18, 3) := by decide +kernel
theorem dX3_append_4 : decode cX3_append 4 = .ok (.aload_n 0, 1) := by decide +kernel
theorem dX3_append_5 : decode cX3_append 5 = .ok (.getfield 28, 3) := by decide +kernel
theorem dX3_append_8 : decode cX3_append 8 = .ok (.iload_n 1, 1) := by decide +kernel
theorem dX3_append_9 : decode cX3_append 9 = .ok (.iastore, 1) := by decide +kernel
theorem dX3_append_10 : decode cX3_append 10 = .ok (.aload_n 0, 1) := by decide +kernel
theorem dX3_append_11 : decode cX3_append 11 = .ok (.getfield 22, 3) := by decide +kernel
theorem dX3_append_14 : decode cX3_append 14 = .ok (.aload_n 0, 1) := by decide +kernel
theorem dX3_append_15 : decode cX3_append 15 = .ok (.getfield 28, 3) := by decide +kernel
theorem dX3_append_18 : decode cX3_append 18 = .ok (.iload_n 2, 1) := by decide +kernel
theorem dX3_append_19 : decode cX3_append 19 = .ok (.iastore, 1) := by decide +kernel
theorem dX3_append_20 : decode cX3_append 20 = .ok (.aload_n 0, 1) := by decide +kernel
theorem dX3_append_21 : decode cX3_append 21 = .ok (.dup, 1) := by decide +kernel
theorem dX3_append_22 : decode cX3_append 22 = .ok (.getfield 28, 3) := by decide +kernel
theorem dX3_append_25 : decode cX3_append 25 = .ok (.iconst 1, 1) := by decide +kernel
theorem dX3_append_26 : decode cX3_append 26 = .ok (.iadd, 1) := by decide +kernel
theorem dX3_append_27 : decode cX3_append 27 = .ok (.putfield 28, 3) := by decide +kernel
theorem dX3_append_30 : decode cX3_append 30 = .ok (.aload_n 0, 1) := by decide +kernel
theorem dX3_append_31 : decode cX3_append 31 = .ok (.dup, 1) := by decide +kernel
theorem dX3_append_32 : decode cX3_append 32 = .ok (.getfield 15, 3) := by decide +kernel
theorem dX3_append_35 : decode cX3_append 35 = .ok (.iload_n 2, 1) := by decide +kernel
theorem dX3_append_36 : decode cX3_append 36 = .ok (.imul, 1) := by decide +kernel
theorem dX3_append_37 : decode cX3_append 37 = .ok (.putfield 15, 3) := by decide +kernel
theorem dX3_append_40 : decode cX3_append 40 = .ok (.iload_n 3, 1) := by decide +kernel
theorem dX3_append_41 : decode cX3_append 41 = .ok (.ifCond .ne 23, 3) := by decide +kernel
theorem dX3_append_44 : decode cX3_append 44 = .ok (.aload_n 0, 1) := by decide +kernel
theorem dX3_append_45 : decode cX3_append 45 = .ok (.dup, 1) := by decide +kernel
theorem dX3_append_46 : decode cX3_append 46 = .ok (.getfield 31, 3) := by decide +kernel
theorem dX3_append_49 : decode cX3_append 49 = .ok (.iconst 1, 1) := by decide +kernel
theorem dX3_append_50 : decode cX3_append 50 = .ok (.iadd, 1) := by decide +kernel
theorem dX3_append_51 : decode cX3_append 51 = .ok (.putfield 31, 3) := by decide +kernel
theorem dX3_append_54 : decode cX3_append 54 = .ok (.aload_n 0, 1) := by decide +kernel
theorem dX3_append_55 : decode cX3_append 55 = .ok (.dup, 1) := by decide +kernel
theorem dX3_append_56 : decode cX3_append 56 = .ok (.getfield 9, 3) := by decide +kernel
theorem dX3_append_59 : decode cX3_append 59 = .ok (.iload_n 2, 1) := by decide +kernel
theorem dX3_append_60 : decode cX3_append 60 = .ok (.imul, 1) := by decide +kernel
theorem dX3_append_61 : decode cX3_append 61 = .ok (.putfield 9, 3) := by decide +kernel
theorem dX3_append_64 : decode cX3_append 64 = .ok (.return_, 1) := by decide +kernel
theorem dX3_becomeLike_0 : decode cX3_becomeLike 0 = .ok (.aload_n 0, 1) := by decide +kernel
theorem dX3_becomeLike_1 : decode cX3_becomeLike 1 = .ok (.aload_n 1, 1) := by decide +kernel
theorem dX3_becomeLike_2 : decode cX3_becomeLike 2 = .ok (.getfield 28, 3) := by decide +kernel
theorem dX3_becomeLike_5 : decode cX3_becomeLike 5 = .ok (.putfield 28, 3) := by decide +kernel
theorem dX3_becomeLike_8 : decode cX3_becomeLike 8 = .ok (.aload_n 0, 1) := by decide +kernel
theorem dX3_becomeLike_9 : decode cX3_becomeLike 9 = .ok (.aload_n 1, 1) := by decide +kernel
theorem dX3_becomeLike_10 : decode cX3_becomeLike 10 = .ok (.getfield 31, 3) := by decide +kernel
theorem dX3_becomeLike_13 : decode cX3_becomeLike 13 = .ok (.putfield 31, 3) := by decide +kernel
theorem dX3_becomeLike_16 : decode cX3_becomeLike 16 = .ok (.aload_n 0, 1) := by decide +kernel
theorem dX3_becomeLike_17 : decode cX3_becomeLike 17 = .ok (.aload_n 1, 1) := by decide +kernel
theorem dX3_becomeLike_18 : decode cX3_becomeLike 18 = .ok (.getfield 9, 3) := by decide +kernel
theorem dX3_becomeLike_21 : decode cX3_becomeLike 21 = .ok (.putfield 9, 3) := by decide +kernel
theorem dX3_becomeLike_24 : decode cX3_becomeLike 24 = .ok (.aload_n 0, 1) := by decide +kernel
theorem dX3_becomeLike_25 : decode cX3_becomeLike 25 = .ok (.aload_n 1, 1) := by decide +kernel
theorem dX3_becomeLike_26 : decode cX3_becomeLike 26 = .ok (.getfield 15, 3) := by decide +kernel
theorem dX3_becomeLike_29 : decode cX3_becomeLike 29 = .ok (.putfield 15, 3) := by decide +kernel
theorem dX3_becomeLike_32 : decode cX3_becomeLike 32 = .ok (.aload_n 1, 1) := by decide +kernel
theorem dX3_becomeLike_33 : decode cX3_becomeLike 33 = .ok (.getfield 18, 3) := by decide +kernel
theorem dX3_becomeLike_36 : decode cX3_becomeLike 36 = .ok (.iconst 0, 1) := by decide +kernel
theorem dX3_becomeLike_37 : decode cX3_becomeLike 37 = .ok (.aload_n 0, 1) := by decide +kernel
theorem dX3_becomeLike_38 : decode cX3_becomeLike 38 = .ok (.getfield 18, 3) := by decide +kernel
theorem dX3_becomeLike_41 : decode cX3_becomeLike 41 = .ok (.iconst 0, 1) := by decide +kernel
theorem dX3_becomeLike_42 : decode cX3_becomeLike 42 = .ok (.bipush 6, 2) := by decide +kernel
theorem dX3_becomeLike_44 : decode cX3_becomeLike 44 = .ok (.invokestatic 38, 3) := by decide +kernel
theorem dX3_becomeLike_47 : decode cX3_becomeLike 47 = .ok (.aload_n 1, 1) := by decide +kernel
theorem dX3_becomeLike_48 : decode cX3_becomeLike 48 = .ok (.getfield 22, 3) := by decide +kernel
theorem dX3_becomeLike_51 : decode cX3_becomeLike 51 = .ok (.iconst 0, 1) := by decide +kernel
theorem dX3_becomeLike_52 : decode cX3_becomeLike 52 = .ok (.aload_n 0, 1) := by decide +kernel
theorem dX3_becomeLike_53 : decode cX3_becomeLike 53 = .ok (.getfield 22, 3) := by decide +kernel
theorem dX3_becomeLike_56 : decode cX3_becomeLike 56 = .ok (.iconst 0, 1) := by decide +kernel
theorem dX3_becomeLike_57 : decode cX3_becomeLike 57 = .ok (.bipush 6, 2) := by decide +kernel
theorem dX3_becomeLike_59 : decode cX3_becomeLike 59 = .ok (.invokestatic 38, 3) := by decide +kernel
theorem dX3_becomeLike_62 : decode cX3_becomeLike 62 = .ok (.aload_n 1, 1) := by decide +kernel
theorem dX3_becomeLike_63 : decode cX3_becomeLike 63 = .ok (.getfield 25, 3) := by decide +kernel
theorem dX3_becomeLike_66 : decode cX3_becomeLike 66 = .ok (.iconst 0, 1) := by decide +kernel
theorem dX3_becomeLike_67 : decode cX3_becomeLike 67 = .ok (.aload_n 0, 1) := by decide +kernel
theorem dX3_becomeLike_68 : decode cX3_becomeLike 68 = .ok (.getfield 25, 3) := by decide +kernel
theorem dX3_becomeLike_71 : decode cX3_becomeLike 71 = .ok (.iconst 0, 1) := by decide +kernel
theorem dX3_becomeLike_72 : decode cX3_becomeLike 72 = .ok (.bipush 6, 2) := by decide +kernel
theorem dX3_becomeLike_74 : decode cX3_becomeLike 74 = .ok (.invokestatic 38, 3) := by decide +kernel
theorem dX3_becomeLike_77 : decode cX3_becomeLike 77 = .ok (.return_, 1) := by decide +kernel
theorem dX3_findShares_0 : decode cX3_findShares 0 = .ok (.iconst 0, 1) := by decide +kernel
theorem dX3_findShares_1 : decode cX3_findShares 1 = .ok (.istore_n 1, 1) := by decide +kernel
theorem dX3_findShares_2 : decode cX3_findShares 2 = .ok (.iload_n 1, 1) := by decide +kernel
theorem dX3_findShares_3 : decode cX3_findShares 3 = .ok (.aload_n 0, 1) := by decide +kernel
theorem dX3_findShares_4 : decode cX3_findShares 4 = .ok (.getfield 28, 3) := by decide +kernel
theorem dX3_findShares_7 : decode cX3_findShares 7 = .ok (.if_icmp .ge 58, 3) := by decide +kernel
theorem dX3_findShares_10 : decode cX3_findShares 10 = .ok (.aload_n 0, 1) := by decide +kernel
theorem dX3_findShares_11 : decode cX3_findShares 11 = .ok (.getfield 22, 3) := by decide +kernel
theorem dX3_findShares_14 : decode cX3_findShares 14 = .ok (.iload_n 1, 1) := by decide +kernel
theorem dX3_findShares_15 : decode cX3_findShares 15 = .ok (.iaload, 1) := by decide +kernel
theorem dX3_findShares_16 : decode cX3_findShares 16 = .ok (.istore_n 2, 1) := by decide +kernel
theorem dX3_findShares_17 : decode cX3_findShares 17 = .ok (.aload_n 0, 1) := by decide +kernel
theorem dX3_findShares_18 : decode cX3_findShares 18 = .ok (.getfield 15, 3) := by decide +kernel
theorem dX3_findShares_21 : decode cX3_findShares 21 = .ok (.iload_n 2, 1) := by decide +kernel
theorem dX3_findShares_22 : decode cX3_findShares 22 = .ok (.idiv, 1) := by decide +kernel
theorem dX3_findShares_23 : decode cX3_findShares 23 = .ok (.istore_n 3, 1) := by decide +kernel
theorem dX3_findShares_24 : decode cX3_findShares 24 = .ok (.iconst 1, 1) := by decide +kernel
theorem dX3_findShares_25 : decode cX3_findShares 25 = .ok (.istore 4, 2) := by decide +kernel
theorem dX3_findShares_27 : decode cX3_findShares 27 = .ok (.iload 4, 2) := by decide +kernel
theorem dX3_findShares_29 : decode cX3_findShares 29 = .ok (.iload_n 2, 1) := by decide +kernel
theorem dX3_findShares_30 : decode cX3_findShares 30 = .ok (.if_icmp .ge 29, 3) := by decide +kernel
theorem dX3_findShares_33 : decode cX3_findShares 33 = .ok (.iload_n 3, 1) := by decide +kernel
theorem dX3_findShares_34 : decode cX3_findShares 34 = .ok (.iload 4, 2) := by decide +kernel
theorem dX3_findShares_36 : decode cX3_findShares 36 = .ok (.imul, 1) := by decide +kernel
theorem dX3_findShares_37 : decode cX3_findShares 37 = .ok (.iload_n 2, 1) := by decide +kernel
theorem dX3_findShares_38 : decode cX3_findShares 38 = .ok (.irem, 1) := by decide +kernel
theorem dX3_findShares_39 : decode cX3_findShares 39 = .ok (.iconst 1, 1) := by decide +kernel
theorem dX3_findShares_40 : decode cX3_findShares 40 = .ok (.if_icmp .ne 13, 3) := by decide +kernel
theorem dX3_findShares_43 : decode cX3_findShares 43 = .ok (.aload_n 0, 1) := by decide +kernel
theorem dX3_findShares_44 : decode cX3_findShares 44 = .ok (.getfield 25, 3) := by decide +kernel
theorem dX3_findShares_47 : decode cX3_findShares 47 = .ok (.iload_n 1, 1) := by decide +kernel
theorem dX3_findShares_48 : decode cX3_findShares 48 = .ok (.iload_n 3, 1) := by decide +kernel
theorem dX3_findShares_49 : decode cX3_findShares 49 = .ok (.iload 4, 2) := by decide +kernel
theorem dX3_findShares_51 : decode cX3_findShares 51 = .ok (.imul, 1) := by decide +kernel
theorem dX3_findShares_52 : decode cX3_findShares 52 = .ok (.iastore, 1) := by decide +kernel
theorem dX3_findShares_53 : decode cX3_findShares 53 = .ok (.iinc 4 1, 3) := by decide +kernel
theorem dX3_findShares_56 : decode cX3_findShares 56 = .ok (.goto (-29), 3) := by decide +kernel
theorem dX3_findShares_59 : decode cX3_findShares 59 = .ok (.iinc 1 1, 3) := by decide +kernel
theorem dX3_findShares_62 : decode cX3_findShares 62 = .ok (.goto (-60), 3) := by decide +kernel
theorem dX3_findShares_65 : decode cX3_findShares 65 = .ok (.return_, 1) := by decide +kernel
theorem dX3_addedPlain_0 : decode cX3_addedPlain 0 = .ok (.iload_n 1, 1) := by decide +kernel
theorem dX3_addedPlain_1 : decode cX3_addedPlain 1 = .ok (.iload_n 2, 1) := by decide +kernel
theorem dX3_addedPlain_2 : decode cX3_addedPlain 2 = .ok (.iadd, 1) := by decide +kernel
theorem dX3_addedPlain_3 : decode cX3_addedPlain 3 = .ok (.iload_n 0, 1) := by decide +kernel
theorem dX3_addedPlain_4 : decode cX3_addedPlain 4 = .ok (.irem, 1) := by decide +kernel
theorem dX3_addedPlain_5 : decode cX3_addedPlain 5 = .ok (.ireturn, 1) := by decide +kernel
theorem dX3_addedLosing_0 : decode cX3_addedLosing 0 = .ok (.iload_n 1, 1) := by decide +kernel
theorem dX3_addedLosing_1 : decode cX3_addedLosing 1 = .ok (.iload_n 2, 1) := by decide +kernel
theorem dX3_addedLosing_2 : decode cX3_addedLosing 2 = .ok (.iadd, 1) := by decide +kernel
theorem dX3_addedLosing_3 : decode cX3_addedLosing 3 = .ok (.iload_n 0, 1) := by decide +kernel
theorem dX3_addedLosing_4 : decode cX3_addedLosing 4 = .ok (.if_icmp .ge 9, 3) := by decide +kernel
theorem dX3_addedLosing_7 : decode cX3_addedLosing 7 = .ok (.iload_n 1, 1) := by decide +kernel
theorem dX3_addedLosing_8 : decode cX3_addedLosing 8 = .ok (.iload_n 2, 1) := by decide +kernel
theorem dX3_addedLosing_9 : decode cX3_addedLosing 9 = .ok (.iadd, 1) := by decide +kernel
theorem dX3_addedLosing_10 : decode cX3_addedLosing 10 = .ok (.goto 14, 3) := by decide +kernel
theorem dX3_addedLosing_13 : decode cX3_addedLosing 13 = .ok (.iload_n 1, 1) := by decide +kernel
theorem dX3_addedLosing_14 : decode cX3_addedLosing 14 = .ok (.iload_n 2, 1) := by decide +kernel
theorem dX3_addedLosing_15 : decode cX3_addedLosing 15 = .ok (.iadd, 1) := by decide +kernel
theorem dX3_addedLosing_16 : decode cX3_addedLosing 16 = .ok (.iload_n 0, 1) := by decide +kernel
theorem dX3_addedLosing_17 : decode cX3_addedLosing 17 = .ok (.isub, 1) := by decide +kernel
theorem dX3_addedLosing_18 : decode cX3_addedLosing 18 = .ok (.iconst 1, 1) := by decide +kernel
theorem dX3_addedLosing_19 : decode cX3_addedLosing 19 = .ok (.isub, 1) := by decide +kernel
theorem dX3_addedLosing_20 : decode cX3_addedLosing 20 = .ok (.iconst 0, 1) := by decide +kernel
theorem dX3_addedLosing_21 : decode cX3_addedLosing 21 = .ok (.invokestatic 44, 3) := by decide +kernel
theorem dX3_addedLosing_24 : decode cX3_addedLosing 24 = .ok (.ireturn, 1) := by decide +kernel
set_option maxRecDepth 20000 in
theorem ggX3_addedByKind_X3_addedLosing : GoodIn wsX3_addedByKind wsX3_addedLosing := goodIn_r _ [4, 5, 6, 7, 8] (by decide +kernel) (by decide +kernel)
set_option maxRecDepth 20000 in
theorem gX3_addedByKind_X3_addedLosing : GoodIn wsX3_addedByKind (va_wsS RX3 49 yX3_addedLosing wsX3_addedLosing) := goodIn_app (goodIn_of _ (by decide +kernel)) ggX3_addedByKind_X3_addedLosing
set_option maxRecDepth 20000 in
theorem ggX3_addedByKind_X3_addedPlain : GoodIn wsX3_addedByKind wsX3_addedPlain := goodIn_r _ [11] (by decide +kernel) (by decide +kernel)
set_option maxRecDepth 20000 in
theorem gX3_addedByKind_X3_addedPlain : GoodIn wsX3_addedByKind (va_wsS RX3 53 yX3_addedPlain wsX3_addedPlain) := goodIn_app (goodIn_of _ (by decide +kernel)) ggX3_addedByKind_X3_addedPlain
theorem dX3_addedByKind_0 : decode cX3_addedByKind 0 = .ok (.iload_n 0, 1) := by decide +kernel
theorem dX3_addedByKind_1 : decode cX3_addedByKind 1 = .ok (.tableswitch 93 1 4 #[31, 38, 54, 70], 31) := by decide +kernel
theorem dX3_addedByKind_32 : decode cX3_addedByKind 32 = .ok (.iload_n 1, 1) := by decide +kernel
theorem dX3_addedByKind_33 : decode cX3_addedByKind 33 = .ok (.iload_n 2, 1) := by decide +kernel
theorem dX3_addedByKind_34 : decode cX3_addedByKind 34 = .ok (.iload_n 3, 1) := by decide +kernel
theorem dX3_addedByKind_35 : decode cX3_addedByKind 35 = .ok (.invokestatic 49, 3) := by decide +kernel
theorem dX3_addedByKind_38 : decode cX3_addedByKind 38 = .ok (.ireturn, 1) := by decide +kernel
theorem dX3_addedByKind_39 : decode cX3_addedByKind 39 = .ok (.iload_n 3, 1) := by decide +kernel
theorem dX3_addedByKind_40 : decode cX3_addedByKind 40 = .ok (.iconst 1, 1) := by decide +kernel
theorem dX3_addedByKind_41 : decode cX3_addedByKind 41 = .ok (.if_icmp .ne 7, 3) := by decide +kernel
theorem dX3_addedByKind_44 : decode cX3_addedByKind 44 = .ok (.iload_n 2, 1) := by decide +kernel
theorem dX3_addedByKind_45 : decode cX3_addedByKind 45 = .ok (.goto 9, 3) := by decide +kernel
theorem dX3_addedByKind_48 : decode cX3_addedByKind 48 = .ok (.iload_n 1, 1) := by decide +kernel
theorem dX3_addedByKind_49 : decode cX3_addedByKind 49 = .ok (.iload_n 2, 1) := by decide +kernel
theorem dX3_addedByKind_50 : decode cX3_addedByKind 50 = .ok (.iload_n 3, 1) := by decide +kernel
theorem dX3_addedByKind_51 : decode cX3_addedByKind 51 = .ok (.invokestatic 53, 3) := by decide +kernel
theorem dX3_addedByKind_54 : decode cX3_addedByKind 54 = .ok (.ireturn, 1) := by decide +kernel
theorem dX3_addedByKind_55 : decode cX3_addedByKind 55 = .ok (.iload_n 2, 1) := by decide +kernel
theorem dX3_addedByKind_56 : decode cX3_addedByKind 56 = .ok (.iload_n 3, 1) := by decide +kernel
theorem dX3_addedByKind_57 : decode cX3_addedByKind 57 = .ok (.if_icmp .ne 7, 3) := by decide +kernel
theorem dX3_addedByKind_60 : decode cX3_addedByKind 60 = .ok (.iconst 0, 1) := by decide +kernel
theorem dX3_addedByKind_61 : decode cX3_addedByKind 61 = .ok (.goto 9, 3) := by decide +kernel
theorem dX3_addedByKind_64 : decode cX3_addedByKind 64 = .ok (.iload_n 1, 1) := by decide +kernel
theorem dX3_addedByKind_65 : decode cX3_addedByKind 65 = .ok (.iload_n 2, 1) := by decide +kernel
theorem dX3_addedByKind_66 : decode cX3_addedByKind 66 = .ok (.iload_n 3, 1) := by decide +kernel
theorem dX3_addedByKind_67 : decode cX3_addedByKind 67 = .ok (.invokestatic 49, 3) := by decide +kernel
theorem dX3_addedByKind_70 : decode cX3_addedByKind 70 = .ok (.ireturn, 1) := by decide +kernel
theorem dX3_addedByKind_71 : decode cX3_addedByKind 71 = .ok (.iload_n 3, 1) := by decide +kernel
theorem dX3_addedByKind_72 : decode cX3_addedByKind 72 = .ok (.iconst 1, 1) := by decide +kernel
theorem dX3_addedByKind_73 : decode cX3_addedByKind 73 = .ok (.if_icmp .eq 10, 3) := by decide +kernel
theorem dX3_addedByKind_76 : decode cX3_addedByKind 76 = .ok (.iload_n 3, 1) := by decide +kernel
theorem dX3_addedByKind_77 : decode cX3_addedByKind 77 = .ok (.iload_n 1, 1) := by decide +kernel
theorem dX3_addedByKind_78 : decode cX3_addedByKind 78 = .ok (.iconst 2, 1) := by decide +kernel
theorem dX3_addedByKind_79 : decode cX3_addedByKind 79 = .ok (.idiv, 1) := by decide +kernel
theorem dX3_addedByKind_80 : decode cX3_addedByKind 80 = .ok (.if_icmp .le 7, 3) := by decide +kernel
theorem dX3_addedByKind_83 : decode cX3_addedByKind 83 = .ok (.iload_n 2, 1) := by decide +kernel
theorem dX3_addedByKind_84 : decode cX3_addedByKind 84 = .ok (.goto 9, 3) := by decide +kernel
theorem dX3_addedByKind_87 : decode cX3_addedByKind 87 = .ok (.iload_n 1, 1) := by decide +kernel
theorem dX3_addedByKind_88 : decode cX3_addedByKind 88 = .ok (.iload_n 2, 1) := by decide +kernel
theorem dX3_addedByKind_89 : decode cX3_addedByKind 89 = .ok (.iload_n 3, 1) := by decide +kernel
theorem dX3_addedByKind_90 : decode cX3_addedByKind 90 = .ok (.invokestatic 53, 3) := by decide +kernel
theorem dX3_addedByKind_93 : decode cX3_addedByKind 93 = .ok (.ireturn, 1) := by decide +kernel
theorem dX3_addedByKind_94 : decode cX3_addedByKind 94 = .ok (.iload_n 1, 1) := by decide +kernel
theorem dX3_addedByKind_95 : decode cX3_addedByKind 95 = .ok (.iload_n 2, 1) := by decide +kernel
theorem dX3_addedByKind_96 : decode cX3_addedByKind 96 = .ok (.iload_n 3, 1) := by decide +kernel
theorem dX3_addedByKind_97 : decode cX3_addedByKind 97 = .ok (.invokestatic 53, 3) := by decide +kernel
theorem dX3_addedByKind_100 : decode cX3_addedByKind 100 = .ok (.ireturn, 1) := by decide +kernel
set_option maxRecDepth 20000 in
theorem ggX3_added_X3_addedByKind : GoodIn wsX3_added wsX3_addedByKind := goodIn_r _ [6, 7, 8, 5, 9, 10, 11, 12, 13, 14, 15, 16] (by decide +kernel) (by decide +kernel)
set_option maxRecDepth 20000 in
theorem gX3_added_X3_addedByKind : GoodIn wsX3_added (va_wsS RX3 56 yX3_addedByKind wsX3_addedByKind) := goodIn_app (goodIn_of _ (by decide +kernel)) ggX3_added_X3_addedByKind
theorem dX3_added_0 : decode cX3_added 0 = .ok (.aload_n 0, 1) := by decide +kernel
theorem dX3_added_1 : decode cX3_added 1 = .ok (.getfield 18, 3) := by decide +kernel
theorem dX3_added_4 : decode cX3_added 4 = .ok (.iload_n 1, 1) := by decide +kernel
theorem dX3_added_5 : decode cX3_added 5 = .ok (.iaload, 1) := by decide +kernel
theorem dX3_added_6 : decode cX3_added 6 = .ok (.aload_n 0, 1) := by decide +kernel
theorem dX3_added_7 : decode cX3_added 7 = .ok (.getfield 22, 3) := by decide +kernel
theorem dX3_added_10 : decode cX3_added 10 = .ok (.iload_n 1, 1) := by decide +kernel
theorem dX3_added_11 : decode cX3_added 11 = .ok (.iaload, 1) := by decide +kernel
theorem dX3_added_12 : decode cX3_added 12 = .ok (.iload_n 2, 1) := by decide +kernel
theorem dX3_added_13 : decode cX3_added 13 = .ok (.iload_n 3, 1) := by decide +kernel
theorem dX3_added_14 : decode cX3_added 14 = .ok (.invokestatic 56, 3) := by decide +kernel
theorem dX3_added_17 : decode cX3_added 17 = .ok (.ireturn, 1) := by decide +kernel
set_option maxRecDepth 20000 in
theorem ggX3_addedOften_X3_added : GoodIn wsX3_addedOften wsX3_added := goodIn_r _ [5, 6, 7, 8, 9, 4, 10, 11, 12, 13, 14, 15, 16, 17, 18, 19, 20, 21, 22, 23, 24, 25, 26, 27] (by decide +kernel) (by decide +kernel)
set_option maxRecDepth 20000 in
theorem gX3_addedOften_X3_added : GoodIn wsX3_addedOften (wsV RX3 60 RX3 yX3_added wsX3_added) := goodIn_app (goodIn_of _ (by decide +kernel)) ggX3_addedOften_X3_added
theorem dX3_addedOften_0 : decode cX3_addedOften 0 = .ok (.iload_n 2, 1) := by decide +kernel
theorem dX3_addedOften_1 : decode cX3_addedOften 1 = .ok (.istore 5, 2) := by decide +kernel
theorem dX3_addedOften_3 : decode cX3_addedOften 3 = .ok (.iconst 0, 1) := by decide +kernel
theorem dX3_addedOften_4 : decode cX3_addedOften 4 = .ok (.istore 6, 2) := by decide +kernel
theorem dX3_addedOften_6 : decode cX3_addedOften 6 = .ok (.iload 6, 2) := by decide +kernel
theorem dX3_addedOften_8 : decode cX3_addedOften 8 = .ok (.iload 4, 2) := by decide +kernel
theorem dX3_addedOften_10 : decode cX3_addedOften 10 = .ok (.if_icmp .ge 19, 3) := by decide +kernel
theorem dX3_addedOften_13 : decode cX3_addedOften 13 = .ok (.aload_n 0, 1) := by decide +kernel
theorem dX3_addedOften_14 : decode cX3_addedOften 14 = .ok (.iload_n 1, 1) := by decide +kernel
theorem dX3_addedOften_15 : decode cX3_addedOften 15 = .ok (.iload 5, 2) := by decide +kernel
theorem dX3_addedOften_17 : decode cX3_addedOften 17 = .ok (.iload_n 3, 1) := by decide +kernel
theorem dX3_addedOften_18 : decode cX3_addedOften 18 = .ok (.invokevirtual 60, 3) := by decide +kernel
theorem dX3_addedOften_21 : decode cX3_addedOften 21 = .ok (.istore 5, 2) := by decide +kernel
theorem dX3_addedOften_23 : decode cX3_addedOften 23 = .ok (.iinc 6 1, 3) := by decide +kernel
theorem dX3_addedOften_26 : decode cX3_addedOften 26 = .ok (.goto (-20), 3) := by decide +kernel
theorem dX3_addedOften_29 : decode cX3_addedOften 29 = .ok (.iload 5, 2) := by decide +kernel
theorem dX3_addedOften_31 : decode cX3_addedOften 31 = .ok (.ireturn, 1) := by decide +kernel
set_option maxRecDepth 20000 in
theorem ggX3_multiplied_X3_addedOften : GoodIn wsX3_multiplied wsX3_addedOften := goodIn_r _ [5, 6, 7, 8, 4, 9, 10, 11, 12, 13, 14, 15, 16, 17, 18, 19, 20, 21, 22, 23, 24, 25, 26, 27, 28, 29, 30, 31] (by decide +kernel) (by decide +kernel)
set_option maxRecDepth 20000 in
theorem gX3_multiplied_X3_addedOften : GoodIn wsX3_multiplied (wsV RX3 63 RX3 yX3_addedOften wsX3_addedOften) := goodIn_app (goodIn_of _ (by decide +kernel)) ggX3_multiplied_X3_addedOften
theorem dX3_multiplied_0 : decode cX3_multiplied 0 = .ok (.aload_n 0, 1) := by decide +kernel
theorem dX3_multiplied_1 : decode cX3_multiplied 1 = .ok (.iload_n 1, 1) := by decide +kernel
theorem dX3_multiplied_2 : decode cX3_multiplied 2 = .ok (.iconst 0, 1) := by decide +kernel
theorem dX3_multiplied_3 : decode cX3_multiplied 3 = .ok (.iload_n 2, 1) := by decide +kernel
theorem dX3_multiplied_4 : decode cX3_multiplied 4 = .ok (.iload_n 3, 1) := by decide +kernel
theorem dX3_multiplied_5 : decode cX3_multiplied 5 = .ok (.invokevirtual 63, 3) := by decide +kernel
theorem dX3_multiplied_8 : decode cX3_multiplied 8 = .ok (.ireturn, 1) := by decide +kernel
set_option maxRecDepth 20000 in
theorem ggX3_isWrong_X3_added : GoodIn wsX3_isWrong wsX3_added := goodIn_r _ [6, 7, 1, 8, 9, 5, 10, 11, 12, 13, 14, 15, 16, 17, 18, 19, 20, 21, 22, 23, 24, 25, 26, 27] (by decide +kernel) (by decide +kernel)
set_option maxRecDepth 20000 in
theorem gX3_isWrong_X3_added : GoodIn wsX3_isWrong (wsV RX3 60 RX3 yX3_added wsX3_added) := goodIn_app (goodIn_of _ (by decide +kernel)) ggX3_isWrong_X3_added
set_option maxRecDepth 20000 in
theorem ggX3_isWrong_X3_addedPlain : GoodIn wsX3_isWrong wsX3_addedPlain := goodIn_r _ [20] (by decide +kernel) (by decide +kernel)
set_option maxRecDepth 20000 in
theorem gX3_isWrong_X3_addedPlain : GoodIn wsX3_isWrong (va_wsS RX3 53 yX3_addedPlain wsX3_addedPlain) := goodIn_app (goodIn_of _ (by decide +kernel)) ggX3_isWrong_X3_addedPlain
theorem dX3_isWrong_0 : decode cX3_isWrong 0 = .ok (.aload_n 0, 1) := by decide +kernel
theorem dX3_isWrong_1 : decode cX3_isWrong 1 = .ok (.iload_n 1, 1) := by decide +kernel
theorem dX3_isWrong_2 : decode cX3_isWrong 2 = .ok (.iload_n 2, 1) := by decide +kernel
theorem dX3_isWrong_3 : decode cX3_isWrong 3 = .ok (.iload_n 3, 1) := by decide +kernel
theorem dX3_isWrong_4 : decode cX3_isWrong 4 = .ok (.invokevirtual 60, 3) := by decide +kernel
theorem dX3_isWrong_7 : decode cX3_isWrong 7 = .ok (.aload_n 0, 1) := by decide +kernel
theorem dX3_isWrong_8 : decode cX3_isWrong 8 = .ok (.getfield 22, 3) := by decide +kernel
theorem dX3_isWrong_11 : decode cX3_isWrong 11 = .ok (.iload_n 1, 1) := by decide +kernel
theorem dX3_isWrong_12 : decode cX3_isWrong 12 = .ok (.iaload, 1) := by decide +kernel
theorem dX3_isWrong_13 : decode cX3_isWrong 13 = .ok (.iload_n 2, 1) := by decide +kernel
theorem dX3_isWrong_14 : decode cX3_isWrong 14 = .ok (.iload_n 3, 1) := by decide +kernel
theorem dX3_isWrong_15 : decode cX3_isWrong 15 = .ok (.invokestatic 53, 3) := by decide +kernel
theorem dX3_isWrong_18 : decode cX3_isWrong 18 = .ok (.if_icmp .eq 7, 3) := by decide +kernel
theorem dX3_isWrong_21 : decode cX3_isWrong 21 = .ok (.iconst 1, 1) := by decide +kernel
theorem dX3_isWrong_22 : decode cX3_isWrong 22 = .ok (.goto 4, 3) := by decide +kernel
theorem dX3_isWrong_25 : decode cX3_isWrong 25 = .ok (.iconst 0, 1) := by decide +kernel
theorem dX3_isWrong_26 : decode cX3_isWrong 26 = .ok (.ireturn, 1) := by decide +kernel
set_option maxRecDepth 20000 in
theorem ggX3_wrongSums_X3_isWrong : GoodIn wsX3_wrongSums wsX3_isWrong := goodIn_r _ [6, 1, 7, 8, 9, 5, 10, 11, 12, 13, 14, 15, 16, 17, 18, 19, 20, 21, 22, 23, 24, 25, 26, 27, 28, 29, 30, 31] (by decide +kernel) (by decide +kernel)
set_option maxRecDepth 20000 in
theorem gX3_wrongSums_X3_isWrong : GoodIn wsX3_wrongSums (wsV RX3 66 RX3 yX3_isWrong wsX3_isWrong) := goodIn_app (goodIn_of _ (by decide +kernel)) ggX3_wrongSums_X3_isWrong
theorem dX3_wrongSums_0 : decode cX3_wrongSums 0 = .ok (.iconst 0, 1) := by decide +kernel
theorem dX3_wrongSums_1 : decode cX3_wrongSums 1 = .ok (.istore_n 2, 1) := by decide +kernel
theorem dX3_wrongSums_2 : decode cX3_wrongSums 2 = .ok (.iconst 0, 1) := by decide +kernel
theorem dX3_wrongSums_3 : decode cX3_wrongSums 3 = .ok (.istore_n 3, 1) := by decide +kernel
theorem dX3_wrongSums_4 : decode cX3_wrongSums 4 = .ok (.iload_n 3, 1) := by decide +kernel
theorem dX3_wrongSums_5 : decode cX3_wrongSums 5 = .ok (.aload_n 0, 1) := by decide +kernel
theorem dX3_wrongSums_6 : decode cX3_wrongSums 6 = .ok (.getfield 22, 3) := by decide +kernel
theorem dX3_wrongSums_9 : decode cX3_wrongSums 9 = .ok (.iload_n 1, 1) := by decide +kernel
theorem dX3_wrongSums_10 : decode cX3_wrongSums 10 = .ok (.iaload, 1) := by decide +kernel
theorem dX3_wrongSums_11 : decode cX3_wrongSums 11 = .ok (.if_icmp .ge 48, 3) := by decide +kernel
theorem dX3_wrongSums_14 : decode cX3_wrongSums 14 = .ok (.iconst 0, 1) := by decide +kernel
theorem dX3_wrongSums_15 : decode cX3_wrongSums 15 = .ok (.istore 4, 2) := by decide +kernel
theorem dX3_wrongSums_17 : decode cX3_wrongSums 17 = .ok (.iload 4, 2) := by decide +kernel
theorem dX3_wrongSums_19 : decode cX3_wrongSums 19 = .ok (.aload_n 0, 1) := by decide +kernel
theorem dX3_wrongSums_20 : decode cX3_wrongSums 20 = .ok (.getfield 22, 3) := by decide +kernel
theorem dX3_wrongSums_23 : decode cX3_wrongSums 23 = .ok (.iload_n 1, 1) := by decide +kernel
theorem dX3_wrongSums_24 : decode cX3_wrongSums 24 = .ok (.iaload, 1) := by decide +kernel
theorem dX3_wrongSums_25 : decode cX3_wrongSums 25 = .ok (.if_icmp .ge 28, 3) := by decide +kernel
theorem dX3_wrongSums_28 : decode cX3_wrongSums 28 = .ok (.iload_n 2, 1) := by decide +kernel
theorem dX3_wrongSums_29 : decode cX3_wrongSums 29 = .ok (.aload_n 0, 1) := by decide +kernel
theorem dX3_wrongSums_30 : decode cX3_wrongSums 30 = .ok (.iload_n 1, 1) := by decide +kernel
theorem dX3_wrongSums_31 : decode cX3_wrongSums 31 = .ok (.iload_n 3, 1) := by decide +kernel
theorem dX3_wrongSums_32 : decode cX3_wrongSums 32 = .ok (.iload 4, 2) := by decide +kernel
theorem dX3_wrongSums_34 : decode cX3_wrongSums 34 = .ok (.invokevirtual 66, 3) := by decide +kernel
theorem dX3_wrongSums_37 : decode cX3_wrongSums 37 = .ok (.ifCond .eq 7, 3) := by decide +kernel
theorem dX3_wrongSums_40 : decode cX3_wrongSums 40 = .ok (.iconst 1, 1) := by decide +kernel
theorem dX3_wrongSums_41 : decode cX3_wrongSums 41 = .ok (.goto 4, 3) := by decide +kernel
theorem dX3_wrongSums_44 : decode cX3_wrongSums 44 = .ok (.iconst 0, 1) := by decide +kernel
theorem dX3_wrongSums_45 : decode cX3_wrongSums 45 = .ok (.iadd, 1) := by decide +kernel
theorem dX3_wrongSums_46 : decode cX3_wrongSums 46 = .ok (.istore_n 2, 1) := by decide +kernel
theorem dX3_wrongSums_47 : decode cX3_wrongSums 47 = .ok (.iinc 4 1, 3) := by decide +kernel
theorem dX3_wrongSums_50 : decode cX3_wrongSums 50 = .ok (.goto (-33), 3) := by decide +kernel
theorem dX3_wrongSums_53 : decode cX3_wrongSums 53 = .ok (.iinc 3 1, 3) := by decide +kernel
theorem dX3_wrongSums_56 : decode cX3_wrongSums 56 = .ok (.goto (-52), 3) := by decide +kernel
theorem dX3_wrongSums_59 : decode cX3_wrongSums 59 = .ok (.iload_n 2, 1) := by decide +kernel
theorem dX3_wrongSums_60 : decode cX3_wrongSums 60 = .ok (.ireturn, 1) := by decide +kernel
set_option maxRecDepth 20000 in
theorem ggX3_round_X3_added : GoodIn wsX3_round wsX3_added := goodIn_r _ [6, 7, 1, 8, 9, 5, 10, 11, 12, 13, 14, 15, 16, 17, 18, 19, 20, 21, 22, 23, 24, 25, 26, 27] (by decide +kernel) (by decide +kernel)
set_option maxRecDepth 20000 in
theorem gX3_round_X3_added : GoodIn wsX3_round (wsV RX3 60 RX3 yX3_added wsX3_added) := goodIn_app (goodIn_of _ (by decide +kernel)) ggX3_round_X3_added
theorem dX3_round_0 : decode cX3_round 0 = .ok (.iload_n 2, 1) := by decide +kernel
theorem dX3_round_1 : decode cX3_round 1 = .ok (.istore 4, 2) := by decide +kernel
theorem dX3_round_3 : decode cX3_round 3 = .ok (.iconst 1, 1) := by decide +kernel
theorem dX3_round_4 : decode cX3_round 4 = .ok (.istore 5, 2) := by decide +kernel
theorem dX3_round_6 : decode cX3_round 6 = .ok (.iload 5, 2) := by decide +kernel
theorem dX3_round_8 : decode cX3_round 8 = .ok (.aload_n 0, 1) := by decide +kernel
theorem dX3_round_9 : decode cX3_round 9 = .ok (.getfield 22, 3) := by decide +kernel
theorem dX3_round_12 : decode cX3_round 12 = .ok (.iload_n 1, 1) := by decide +kernel
theorem dX3_round_13 : decode cX3_round 13 = .ok (.iaload, 1) := by decide +kernel
theorem dX3_round_14 : decode cX3_round 14 = .ok (.if_icmp .gt 28, 3) := by decide +kernel
theorem dX3_round_17 : decode cX3_round 17 = .ok (.aload_n 0, 1) := by decide +kernel
theorem dX3_round_18 : decode cX3_round 18 = .ok (.iload_n 1, 1) := by decide +kernel
theorem dX3_round_19 : decode cX3_round 19 = .ok (.iload 4, 2) := by decide +kernel
theorem dX3_round_21 : decode cX3_round 21 = .ok (.iload_n 3, 1) := by decide +kernel
theorem dX3_round_22 : decode cX3_round 22 = .ok (.invokevirtual 60, 3) := by decide +kernel
theorem dX3_round_25 : decode cX3_round 25 = .ok (.istore 4, 2) := by decide +kernel
theorem dX3_round_27 : decode cX3_round 27 = .ok (.iload 4, 2) := by decide +kernel
theorem dX3_round_29 : decode cX3_round 29 = .ok (.iload_n 2, 1) := by decide +kernel
theorem dX3_round_30 : decode cX3_round 30 = .ok (.if_icmp .ne 6, 3) := by decide +kernel
theorem dX3_round_33 : decode cX3_round 33 = .ok (.iload 5, 2) := by decide +kernel
theorem dX3_round_35 : decode cX3_round 35 = .ok (.ireturn, 1) := by decide +kernel
theorem dX3_round_36 : decode cX3_round 36 = .ok (.iinc 5 1, 3) := by decide +kernel
theorem dX3_round_39 : decode cX3_round 39 = .ok (.goto (-33), 3) := by decide +kernel
theorem dX3_round_42 : decode cX3_round 42 = .ok (.iconst 0, 1) := by decide +kernel
theorem dX3_round_43 : decode cX3_round 43 = .ok (.ireturn, 1) := by decide +kernel
theorem dX3_plainOnes_0 : decode cX3_plainOnes 0 = .ok (.iconst 0, 1) := by decide +kernel
theorem dX3_plainOnes_1 : decode cX3_plainOnes 1 = .ok (.istore_n 1, 1) := by decide +kernel
theorem dX3_plainOnes_2 : decode cX3_plainOnes 2 = .ok (.iconst 0, 1) := by decide +kernel
theorem dX3_plainOnes_3 : decode cX3_plainOnes 3 = .ok (.istore_n 2, 1) := by decide +kernel
theorem dX3_plainOnes_4 : decode cX3_plainOnes 4 = .ok (.iload_n 2, 1) := by decide +kernel
theorem dX3_plainOnes_5 : decode cX3_plainOnes 5 = .ok (.aload_n 0, 1) := by decide +kernel
theorem dX3_plainOnes_6 : decode cX3_plainOnes 6 = .ok (.getfield 28, 3) := by decide +kernel
theorem dX3_plainOnes_9 : decode cX3_plainOnes 9 = .ok (.if_icmp .ge 28, 3) := by decide +kernel
theorem dX3_plainOnes_12 : decode cX3_plainOnes 12 = .ok (.iload_n 1, 1) := by decide +kernel
theorem dX3_plainOnes_13 : decode cX3_plainOnes 13 = .ok (.aload_n 0, 1) := by decide +kernel
theorem dX3_plainOnes_14 : decode cX3_plainOnes 14 = .ok (.getfield 18, 3) := by decide +kernel
theorem dX3_plainOnes_17 : decode cX3_plainOnes 17 = .ok (.iload_n 2, 1) := by decide +kernel
theorem dX3_plainOnes_18 : decode cX3_plainOnes 18 = .ok (.iaload, 1) := by decide +kernel
theorem dX3_plainOnes_19 : decode cX3_plainOnes 19 = .ok (.ifCond .ne 9, 3) := by decide +kernel
theorem dX3_plainOnes_22 : decode cX3_plainOnes 22 = .ok (.iconst 1, 1) := by decide +kernel
theorem dX3_plainOnes_23 : decode cX3_plainOnes 23 = .ok (.iload_n 2, 1) := by decide +kernel
theorem dX3_plainOnes_24 : decode cX3_plainOnes 24 = .ok (.ishl, 1) := by decide +kernel
theorem dX3_plainOnes_25 : decode cX3_plainOnes 25 = .ok (.goto 4, 3) := by decide +kernel
theorem dX3_plainOnes_28 : decode cX3_plainOnes 28 = .ok (.iconst 0, 1) := by decide +kernel
theorem dX3_plainOnes_29 : decode cX3_plainOnes 29 = .ok (.ior, 1) := by decide +kernel
theorem dX3_plainOnes_30 : decode cX3_plainOnes 30 = .ok (.istore_n 1, 1) := by decide +kernel
theorem dX3_plainOnes_31 : decode cX3_plainOnes 31 = .ok (.iinc 2 1, 3) := by decide +kernel
theorem dX3_plainOnes_34 : decode cX3_plainOnes 34 = .ok (.goto (-30), 3) := by decide +kernel
theorem dX3_plainOnes_37 : decode cX3_plainOnes 37 = .ok (.iload_n 1, 1) := by decide +kernel
theorem dX3_plainOnes_38 : decode cX3_plainOnes 38 = .ok (.ireturn, 1) := by decide +kernel
theorem dX3_mixedFigure_0 : decode cX3_mixedFigure 0 = .ok (.iload_n 1, 1) := by decide +kernel
theorem dX3_mixedFigure_1 : decode cX3_mixedFigure 1 = .ok (.istore_n 3, 1) := by decide +kernel
theorem dX3_mixedFigure_2 : decode cX3_mixedFigure 2 = .ok (.iconst 0, 1) := by decide +kernel
theorem dX3_mixedFigure_3 : decode cX3_mixedFigure 3 = .ok (.istore 4, 2) := by decide +kernel
theorem dX3_mixedFigure_5 : decode cX3_mixedFigure 5 = .ok (.iload 4, 2) := by decide +kernel
theorem dX3_mixedFigure_7 : decode cX3_mixedFigure 7 = .ok (.iload_n 2, 1) := by decide +kernel
theorem dX3_mixedFigure_8 : decode cX3_mixedFigure 8 = .ok (.if_icmp .ge 19, 3) := by decide +kernel
theorem dX3_mixedFigure_11 : decode cX3_mixedFigure 11 = .ok (.iload_n 3, 1) := by decide +kernel
theorem dX3_mixedFigure_12 : decode cX3_mixedFigure 12 = .ok (.aload_n 0, 1) := by decide +kernel
theorem dX3_mixedFigure_13 : decode cX3_mixedFigure 13 = .ok (.getfield 22, 3) := by decide +kernel
theorem dX3_mixedFigure_16 : decode cX3_mixedFigure 16 = .ok (.iload 4, 2) := by decide +kernel
theorem dX3_mixedFigure_18 : decode cX3_mixedFigure 18 = .ok (.iaload, 1) := by decide +kernel
theorem dX3_mixedFigure_19 : decode cX3_mixedFigure 19 = .ok (.idiv, 1) := by decide +kernel
theorem dX3_mixedFigure_20 : decode cX3_mixedFigure 20 = .ok (.istore_n 3, 1) := by decide +kernel
theorem dX3_mixedFigure_21 : decode cX3_mixedFigure 21 = .ok (.iinc 4 1, 3) := by decide +kernel
theorem dX3_mixedFigure_24 : decode cX3_mixedFigure 24 = .ok (.goto (-19), 3) := by decide +kernel
theorem dX3_mixedFigure_27 : decode cX3_mixedFigure 27 = .ok (.iload_n 3, 1) := by decide +kernel
theorem dX3_mixedFigure_28 : decode cX3_mixedFigure 28 = .ok (.aload_n 0, 1) := by decide +kernel
theorem dX3_mixedFigure_29 : decode cX3_mixedFigure 29 = .ok (.getfield 22, 3) := by decide +kernel
theorem dX3_mixedFigure_32 : decode cX3_mixedFigure 32 = .ok (.iload_n 2, 1) := by decide +kernel
theorem dX3_mixedFigure_33 : decode cX3_mixedFigure 33 = .ok (.iaload, 1) := by decide +kernel
theorem dX3_mixedFigure_34 : decode cX3_mixedFigure 34 = .ok (.irem, 1) := by decide +kernel
theorem dX3_mixedFigure_35 : decode cX3_mixedFigure 35 = .ok (.ireturn, 1) := by decide +kernel
theorem dX3_isIn_0 : decode cX3_isIn 0 = .ok (.iload_n 0, 1) := by decide +kernel
theorem dX3_isIn_1 : decode cX3_isIn 1 = .ok (.iload_n 1, 1) := by decide +kernel
theorem dX3_isIn_2 : decode cX3_isIn 2 = .ok (.ishr, 1) := by decide +kernel
theorem dX3_isIn_3 : decode cX3_isIn 3 = .ok (.iconst 1, 1) := by decide +kernel
theorem dX3_isIn_4 : decode cX3_isIn 4 = .ok (.iand, 1) := by decide +kernel
theorem dX3_isIn_5 : decode cX3_isIn 5 = .ok (.iconst 1, 1) := by decide +kernel
theorem dX3_isIn_6 : decode cX3_isIn 6 = .ok (.if_icmp .ne 7, 3) := by decide +kernel
theorem dX3_isIn_9 : decode cX3_isIn 9 = .ok (.iconst 1, 1) := by decide +kernel
theorem dX3_isIn_10 : decode cX3_isIn 10 = .ok (.goto 4, 3) := by decide +kernel
theorem dX3_isIn_13 : decode cX3_isIn 13 = .ok (.iconst 0, 1) := by decide +kernel
theorem dX3_isIn_14 : decode cX3_isIn 14 = .ok (.ireturn, 1) := by decide +kernel
set_option maxRecDepth 20000 in
theorem ggX3_product_X3_isIn : GoodIn wsX3_product wsX3_isIn := goodIn_r _ [6] (by decide +kernel) (by decide +kernel)
set_option maxRecDepth 20000 in
theorem gX3_product_X3_isIn : GoodIn wsX3_product (va_wsS RX3 70 yX3_isIn wsX3_isIn) := goodIn_app (goodIn_of _ (by decide +kernel)) ggX3_product_X3_isIn
theorem dX3_product_0 : decode cX3_product 0 = .ok (.iconst 1, 1) := by decide +kernel
theorem dX3_product_1 : decode cX3_product 1 = .ok (.istore_n 2, 1) := by decide +kernel
theorem dX3_product_2 : decode cX3_product 2 = .ok (.iconst 0, 1) := by decide +kernel
theorem dX3_product_3 : decode cX3_product 3 = .ok (.istore_n 3, 1) := by decide +kernel
theorem dX3_product_4 : decode cX3_product 4 = .ok (.iload_n 3, 1) := by decide +kernel
theorem dX3_product_5 : decode cX3_product 5 = .ok (.aload_n 0, 1) := by decide +kernel
theorem dX3_product_6 : decode cX3_product 6 = .ok (.getfield 28, 3) := by decide +kernel
theorem dX3_product_9 : decode cX3_product 9 = .ok (.if_icmp .ge 30, 3) := by decide +kernel
theorem dX3_product_12 : decode cX3_product 12 = .ok (.iload_n 2, 1) := by decide +kernel
theorem dX3_product_13 : decode cX3_product 13 = .ok (.iload_n 1, 1) := by decide +kernel
theorem dX3_product_14 : decode cX3_product 14 = .ok (.iload_n 3, 1) := by decide +kernel
theorem dX3_product_15 : decode cX3_product 15 = .ok (.invokestatic 70, 3) := by decide +kernel
theorem dX3_product_18 : decode cX3_product 18 = .ok (.ifCond .eq 12, 3) := by decide +kernel
theorem dX3_product_21 : decode cX3_product 21 = .ok (.aload_n 0, 1) := by decide +kernel
theorem dX3_product_22 : decode cX3_product 22 = .ok (.getfield 22, 3) := by decide +kernel
theorem dX3_product_25 : decode cX3_product 25 = .ok (.iload_n 3, 1) := by decide +kernel
theorem dX3_product_26 : decode cX3_product 26 = .ok (.iaload, 1) := by decide +kernel
theorem dX3_product_27 : decode cX3_product 27 = .ok (.goto 4, 3) := by decide +kernel
theorem dX3_product_30 : decode cX3_product 30 = .ok (.iconst 1, 1) := by decide +kernel
theorem dX3_product_31 : decode cX3_product 31 = .ok (.imul, 1) := by decide +kernel
theorem dX3_product_32 : decode cX3_product 32 = .ok (.istore_n 2, 1) := by decide +kernel
theorem dX3_product_33 : decode cX3_product 33 = .ok (.iinc 3 1, 3) := by decide +kernel
theorem dX3_product_36 : decode cX3_product 36 = .ok (.goto (-32), 3) := by decide +kernel
theorem dX3_product_39 : decode cX3_product 39 = .ok (.iload_n 2, 1) := by decide +kernel
theorem dX3_product_40 : decode cX3_product 40 = .ok (.ireturn, 1) := by decide +kernel
theorem dX3_blamed_0 : decode cX3_blamed 0 = .ok (.iconst 0, 1) := by decide +kernel
theorem dX3_blamed_1 : decode cX3_blamed 1 = .ok (.istore_n 2, 1) := by decide +kernel
theorem dX3_blamed_2 : decode cX3_blamed 2 = .ok (.iload_n 1, 1) := by decide +kernel
theorem dX3_blamed_3 : decode cX3_blamed 3 = .ok (.aload_n 0, 1) := by decide +kernel
theorem dX3_blamed_4 : decode cX3_blamed 4 = .ok (.getfield 9, 3) := by decide +kernel
theorem dX3_blamed_7 : decode cX3_blamed 7 = .ok (.if_icmp .lt 49, 3) := by decide +kernel
theorem dX3_blamed_10 : decode cX3_blamed 10 = .ok (.iconst 0, 1) := by decide +kernel
theorem dX3_blamed_11 : decode cX3_blamed 11 = .ok (.istore_n 3, 1) := by decide +kernel
theorem dX3_blamed_12 : decode cX3_blamed 12 = .ok (.iload_n 3, 1) := by decide +kernel
theorem dX3_blamed_13 : decode cX3_blamed 13 = .ok (.aload_n 0, 1) := by decide +kernel
theorem dX3_blamed_14 : decode cX3_blamed 14 = .ok (.getfield 28, 3) := by decide +kernel
theorem dX3_blamed_17 : decode cX3_blamed 17 = .ok (.if_icmp .ge 39, 3) := by decide +kernel
theorem dX3_blamed_20 : decode cX3_blamed 20 = .ok (.iload_n 2, 1) := by decide +kernel
theorem dX3_blamed_21 : decode cX3_blamed 21 = .ok (.iload_n 1, 1) := by decide +kernel
theorem dX3_blamed_22 : decode cX3_blamed 22 = .ok (.aload_n 0, 1) := by decide +kernel
theorem dX3_blamed_23 : decode cX3_blamed 23 = .ok (.getfield 15, 3) := by decide +kernel
theorem dX3_blamed_26 : decode cX3_blamed 26 = .ok (.aload_n 0, 1) := by decide +kernel
theorem dX3_blamed_27 : decode cX3_blamed 27 = .ok (.getfield 22, 3) := by decide +kernel
theorem dX3_blamed_30 : decode cX3_blamed 30 = .ok (.iload_n 3, 1) := by decide +kernel
theorem dX3_blamed_31 : decode cX3_blamed 31 = .ok (.iaload, 1) := by decide +kernel
theorem dX3_blamed_32 : decode cX3_blamed 32 = .ok (.idiv, 1) := by decide +kernel
theorem dX3_blamed_33 : decode cX3_blamed 33 = .ok (.irem, 1) := by decide +kernel
theorem dX3_blamed_34 : decode cX3_blamed 34 = .ok (.aload_n 0, 1) := by decide +kernel
theorem dX3_blamed_35 : decode cX3_blamed 35 = .ok (.getfield 9, 3) := by decide +kernel
theorem dX3_blamed_38 : decode cX3_blamed 38 = .ok (.if_icmp .ge 9, 3) := by decide +kernel
theorem dX3_blamed_41 : decode cX3_blamed 41 = .ok (.iconst 1, 1) := by decide +kernel
theorem dX3_blamed_42 : decode cX3_blamed 42 = .ok (.iload_n 3, 1) := by decide +kernel
theorem dX3_blamed_43 : decode cX3_blamed 43 = .ok (.ishl, 1) := by decide +kernel
theorem dX3_blamed_44 : decode cX3_blamed 44 = .ok (.goto 4, 3) := by decide +kernel
theorem dX3_blamed_47 : decode cX3_blamed 47 = .ok (.iconst 0, 1) := by decide +kernel
theorem dX3_blamed_48 : decode cX3_blamed 48 = .ok (.ior, 1) := by decide +kernel
theorem dX3_blamed_49 : decode cX3_blamed 49 = .ok (.istore_n 2, 1) := by decide +kernel
theorem dX3_blamed_50 : decode cX3_blamed 50 = .ok (.iinc 3 1, 3) := by decide +kernel
theorem dX3_blamed_53 : decode cX3_blamed 53 = .ok (.goto (-41), 3) := by decide +kernel
theorem dX3_blamed_56 : decode cX3_blamed 56 = .ok (.iload_n 2, 1) := by decide +kernel
theorem dX3_blamed_57 : decode cX3_blamed 57 = .ok (.ireturn, 1) := by decide +kernel
set_option maxRecDepth 20000 in
theorem ggX3_mostAlike_X3_product : GoodIn wsX3_mostAlike wsX3_product := goodIn_r _ [11, 1, 12, 13, 14, 10, 15, 23, 24, 25, 26, 27, 28, 29] (by decide +kernel) (by decide +kernel)
set_option maxRecDepth 20000 in
theorem gX3_mostAlike_X3_product : GoodIn wsX3_mostAlike (wsV RX3 74 RX3 yX3_product wsX3_product) := goodIn_app (goodIn_of _ (by decide +kernel)) ggX3_mostAlike_X3_product
set_option maxRecDepth 20000 in
theorem ggX3_mostAlike_J6_bitCount_0f7a4 : GoodIn wsX3_mostAlike wsJ6_bitCount_0f7a4 := goodIn_r _ [19, 20, 21, 22] (by decide +kernel) (by decide +kernel)
set_option maxRecDepth 20000 in
theorem gX3_mostAlike_J6_bitCount_0f7a4 : GoodIn wsX3_mostAlike (va_wsS RX3 78 yJ6_bitCount_0f7a4 wsJ6_bitCount_0f7a4) := goodIn_app (goodIn_of _ (by decide +kernel)) ggX3_mostAlike_J6_bitCount_0f7a4
theorem dX3_mostAlike_0 : decode cX3_mostAlike 0 = .ok (.iconst 0, 1) := by decide +kernel
theorem dX3_mostAlike_1 : decode cX3_mostAlike 1 = .ok (.istore_n 2, 1) := by decide +kernel
theorem dX3_mostAlike_2 : decode cX3_mostAlike 2 = .ok (.iconst 0, 1) := by decide +kernel
theorem dX3_mostAlike_3 : decode cX3_mostAlike 3 = .ok (.istore_n 3, 1) := by decide +kernel
theorem dX3_mostAlike_4 : decode cX3_mostAlike 4 = .ok (.iload_n 3, 1) := by decide +kernel
theorem dX3_mostAlike_5 : decode cX3_mostAlike 5 = .ok (.iconst 1, 1) := by decide +kernel
theorem dX3_mostAlike_6 : decode cX3_mostAlike 6 = .ok (.aload_n 0, 1) := by decide +kernel
theorem dX3_mostAlike_7 : decode cX3_mostAlike 7 = .ok (.getfield 28, 3) := by decide +kernel
theorem dX3_mostAlike_10 : decode cX3_mostAlike 10 = .ok (.ishl, 1) := by decide +kernel
theorem dX3_mostAlike_11 : decode cX3_mostAlike 11 = .ok (.if_icmp .ge 32, 3) := by decide +kernel
theorem dX3_mostAlike_14 : decode cX3_mostAlike 14 = .ok (.iload_n 1, 1) := by decide +kernel
theorem dX3_mostAlike_15 : decode cX3_mostAlike 15 = .ok (.aload_n 0, 1) := by decide +kernel
theorem dX3_mostAlike_16 : decode cX3_mostAlike 16 = .ok (.iload_n 3, 1) := by decide +kernel
theorem dX3_mostAlike_17 : decode cX3_mostAlike 17 = .ok (.invokevirtual 74, 3) := by decide +kernel
theorem dX3_mostAlike_20 : decode cX3_mostAlike 20 = .ok (.irem, 1) := by decide +kernel
theorem dX3_mostAlike_21 : decode cX3_mostAlike 21 = .ok (.aload_n 0, 1) := by decide +kernel
theorem dX3_mostAlike_22 : decode cX3_mostAlike 22 = .ok (.getfield 9, 3) := by decide +kernel
theorem dX3_mostAlike_25 : decode cX3_mostAlike 25 = .ok (.if_icmp .ge 12, 3) := by decide +kernel
theorem dX3_mostAlike_28 : decode cX3_mostAlike 28 = .ok (.iload_n 2, 1) := by decide +kernel
theorem dX3_mostAlike_29 : decode cX3_mostAlike 29 = .ok (.iload_n 3, 1) := by decide +kernel
theorem dX3_mostAlike_30 : decode cX3_mostAlike 30 = .ok (.invokestatic 78, 3) := by decide +kernel
theorem dX3_mostAlike_33 : decode cX3_mostAlike 33 = .ok (.invokestatic 44, 3) := by decide +kernel
theorem dX3_mostAlike_36 : decode cX3_mostAlike 36 = .ok (.istore_n 2, 1) := by decide +kernel
theorem dX3_mostAlike_37 : decode cX3_mostAlike 37 = .ok (.iinc 3 1, 3) := by decide +kernel
theorem dX3_mostAlike_40 : decode cX3_mostAlike 40 = .ok (.goto (-36), 3) := by decide +kernel
theorem dX3_mostAlike_43 : decode cX3_mostAlike 43 = .ok (.iload_n 2, 1) := by decide +kernel
theorem dX3_mostAlike_44 : decode cX3_mostAlike 44 = .ok (.ireturn, 1) := by decide +kernel
set_option maxRecDepth 20000 in
theorem ggX3_leastAlike_J6_bitCount_0f7a4 : GoodIn wsX3_leastAlike wsJ6_bitCount_0f7a4 := goodIn_r _ [10, 11, 12, 13] (by decide +kernel) (by decide +kernel)
set_option maxRecDepth 20000 in
theorem gX3_leastAlike_J6_bitCount_0f7a4 : GoodIn wsX3_leastAlike (va_wsS RX3 78 yJ6_bitCount_0f7a4 wsJ6_bitCount_0f7a4) := goodIn_app (goodIn_of _ (by decide +kernel)) ggX3_leastAlike_J6_bitCount_0f7a4
set_option maxRecDepth 20000 in
theorem ggX3_leastAlike_X3_product : GoodIn wsX3_leastAlike wsX3_product := goodIn_r _ [18, 2, 19, 20, 21, 17, 22, 23, 24, 25, 26, 27, 28, 29] (by decide +kernel) (by decide +kernel)
set_option maxRecDepth 20000 in
theorem gX3_leastAlike_X3_product : GoodIn wsX3_leastAlike (wsV RX3 74 RX3 yX3_product wsX3_product) := goodIn_app (goodIn_of _ (by decide +kernel)) ggX3_leastAlike_X3_product
theorem dX3_leastAlike_0 : decode cX3_leastAlike 0 = .ok (.aload_n 0, 1) := by decide +kernel
theorem dX3_leastAlike_1 : decode cX3_leastAlike 1 = .ok (.getfield 9, 3) := by decide +kernel
theorem dX3_leastAlike_4 : decode cX3_leastAlike 4 = .ok (.istore_n 3, 1) := by decide +kernel
theorem dX3_leastAlike_5 : decode cX3_leastAlike 5 = .ok (.iconst 0, 1) := by decide +kernel
theorem dX3_leastAlike_6 : decode cX3_leastAlike 6 = .ok (.istore 4, 2) := by decide +kernel
theorem dX3_leastAlike_8 : decode cX3_leastAlike 8 = .ok (.iload 4, 2) := by decide +kernel
theorem dX3_leastAlike_10 : decode cX3_leastAlike 10 = .ok (.iconst 1, 1) := by decide +kernel
theorem dX3_leastAlike_11 : decode cX3_leastAlike 11 = .ok (.aload_n 0, 1) := by decide +kernel
theorem dX3_leastAlike_12 : decode cX3_leastAlike 12 = .ok (.getfield 28, 3) := by decide +kernel
theorem dX3_leastAlike_15 : decode cX3_leastAlike 15 = .ok (.ishl, 1) := by decide +kernel
theorem dX3_leastAlike_16 : decode cX3_leastAlike 16 = .ok (.if_icmp .ge 31, 3) := by decide +kernel
theorem dX3_leastAlike_19 : decode cX3_leastAlike 19 = .ok (.iload 4, 2) := by decide +kernel
theorem dX3_leastAlike_21 : decode cX3_leastAlike 21 = .ok (.invokestatic 78, 3) := by decide +kernel
theorem dX3_leastAlike_24 : decode cX3_leastAlike 24 = .ok (.iload_n 2, 1) := by decide +kernel
theorem dX3_leastAlike_25 : decode cX3_leastAlike 25 = .ok (.if_icmp .ne 16, 3) := by decide +kernel
theorem dX3_leastAlike_28 : decode cX3_leastAlike 28 = .ok (.iload_n 3, 1) := by decide +kernel
theorem dX3_leastAlike_29 : decode cX3_leastAlike 29 = .ok (.iload_n 1, 1) := by decide +kernel
theorem dX3_leastAlike_30 : decode cX3_leastAlike 30 = .ok (.aload_n 0, 1) := by decide +kernel
theorem dX3_leastAlike_31 : decode cX3_leastAlike 31 = .ok (.iload 4, 2) := by decide +kernel
theorem dX3_leastAlike_33 : decode cX3_leastAlike 33 = .ok (.invokevirtual 74, 3) := by decide +kernel
theorem dX3_leastAlike_36 : decode cX3_leastAlike 36 = .ok (.irem, 1) := by decide +kernel
theorem dX3_leastAlike_37 : decode cX3_leastAlike 37 = .ok (.invokestatic 83, 3) := by decide +kernel
theorem dX3_leastAlike_40 : decode cX3_leastAlike 40 = .ok (.istore_n 3, 1) := by decide +kernel
theorem dX3_leastAlike_41 : decode cX3_leastAlike 41 = .ok (.iinc 4 1, 3) := by decide +kernel
theorem dX3_leastAlike_44 : decode cX3_leastAlike 44 = .ok (.goto (-36), 3) := by decide +kernel
theorem dX3_leastAlike_47 : decode cX3_leastAlike 47 = .ok (.iload_n 3, 1) := by decide +kernel
theorem dX3_leastAlike_48 : decode cX3_leastAlike 48 = .ok (.ireturn, 1) := by decide +kernel
set_option maxRecDepth 20000 in
theorem ggX3_fewestUnlike_X3_product : GoodIn wsX3_fewestUnlike wsX3_product := goodIn_r _ [11, 1, 12, 13, 14, 10, 15, 23, 24, 25, 26, 27, 28, 29] (by decide +kernel) (by decide +kernel)
set_option maxRecDepth 20000 in
theorem gX3_fewestUnlike_X3_product : GoodIn wsX3_fewestUnlike (wsV RX3 74 RX3 yX3_product wsX3_product) := goodIn_app (goodIn_of _ (by decide +kernel)) ggX3_fewestUnlike_X3_product
set_option maxRecDepth 20000 in
theorem ggX3_fewestUnlike_J6_bitCount_0f7a4 : GoodIn wsX3_fewestUnlike wsJ6_bitCount_0f7a4 := goodIn_r _ [19, 20, 21, 22] (by decide +kernel) (by decide +kernel)
set_option maxRecDepth 20000 in
theorem gX3_fewestUnlike_J6_bitCount_0f7a4 : GoodIn wsX3_fewestUnlike (va_wsS RX3 78 yJ6_bitCount_0f7a4 wsJ6_bitCount_0f7a4) := goodIn_app (goodIn_of _ (by decide +kernel)) ggX3_fewestUnlike_J6_bitCount_0f7a4
theorem dX3_fewestUnlike_0 : decode cX3_fewestUnlike 0 = .ok (.iconst 0, 1) := by decide +kernel
theorem dX3_fewestUnlike_1 : decode cX3_fewestUnlike 1 = .ok (.istore_n 1, 1) := by decide +kernel
theorem dX3_fewestUnlike_2 : decode cX3_fewestUnlike 2 = .ok (.iconst 0, 1) := by decide +kernel
theorem dX3_fewestUnlike_3 : decode cX3_fewestUnlike 3 = .ok (.istore_n 2, 1) := by decide +kernel
theorem dX3_fewestUnlike_4 : decode cX3_fewestUnlike 4 = .ok (.iload_n 2, 1) := by decide +kernel
theorem dX3_fewestUnlike_5 : decode cX3_fewestUnlike 5 = .ok (.iconst 1, 1) := by decide +kernel
theorem dX3_fewestUnlike_6 : decode cX3_fewestUnlike 6 = .ok (.aload_n 0, 1) := by decide +kernel
theorem dX3_fewestUnlike_7 : decode cX3_fewestUnlike 7 = .ok (.getfield 28, 3) := by decide +kernel
theorem dX3_fewestUnlike_10 : decode cX3_fewestUnlike 10 = .ok (.ishl, 1) := by decide +kernel
theorem dX3_fewestUnlike_11 : decode cX3_fewestUnlike 11 = .ok (.if_icmp .ge 30, 3) := by decide +kernel
theorem dX3_fewestUnlike_14 : decode cX3_fewestUnlike 14 = .ok (.aload_n 0, 1) := by decide +kernel
theorem dX3_fewestUnlike_15 : decode cX3_fewestUnlike 15 = .ok (.iload_n 2, 1) := by decide +kernel
theorem dX3_fewestUnlike_16 : decode cX3_fewestUnlike 16 = .ok (.invokevirtual 74, 3) := by decide +kernel
theorem dX3_fewestUnlike_19 : decode cX3_fewestUnlike 19 = .ok (.aload_n 0, 1) := by decide +kernel
theorem dX3_fewestUnlike_20 : decode cX3_fewestUnlike 20 = .ok (.getfield 9, 3) := by decide +kernel
theorem dX3_fewestUnlike_23 : decode cX3_fewestUnlike 23 = .ok (.if_icmp .ge 12, 3) := by decide +kernel
theorem dX3_fewestUnlike_26 : decode cX3_fewestUnlike 26 = .ok (.iload_n 1, 1) := by decide +kernel
theorem dX3_fewestUnlike_27 : decode cX3_fewestUnlike 27 = .ok (.iload_n 2, 1) := by decide +kernel
theorem dX3_fewestUnlike_28 : decode cX3_fewestUnlike 28 = .ok (.invokestatic 78, 3) := by decide +kernel
theorem dX3_fewestUnlike_31 : decode cX3_fewestUnlike 31 = .ok (.invokestatic 44, 3) := by decide +kernel
theorem dX3_fewestUnlike_34 : decode cX3_fewestUnlike 34 = .ok (.istore_n 1, 1) := by decide +kernel
theorem dX3_fewestUnlike_35 : decode cX3_fewestUnlike 35 = .ok (.iinc 2 1, 3) := by decide +kernel
theorem dX3_fewestUnlike_38 : decode cX3_fewestUnlike 38 = .ok (.goto (-34), 3) := by decide +kernel
theorem dX3_fewestUnlike_41 : decode cX3_fewestUnlike 41 = .ok (.aload_n 0, 1) := by decide +kernel
theorem dX3_fewestUnlike_42 : decode cX3_fewestUnlike 42 = .ok (.getfield 28, 3) := by decide +kernel
theorem dX3_fewestUnlike_45 : decode cX3_fewestUnlike 45 = .ok (.iload_n 1, 1) := by decide +kernel
theorem dX3_fewestUnlike_46 : decode cX3_fewestUnlike 46 = .ok (.isub, 1) := by decide +kernel
theorem dX3_fewestUnlike_47 : decode cX3_fewestUnlike 47 = .ok (.ireturn, 1) := by decide +kernel
set_option maxRecDepth 20000 in
theorem ggX3_unseenCases_X3_turnedOn : GoodIn wsX3_unseenCases wsX3_turnedOn := goodIn_r _ [7, 1, 8, 9, 10, 11, 6, 12, 23, 24, 25, 26, 27, 28, 29] (by decide +kernel) (by decide +kernel)
set_option maxRecDepth 20000 in
theorem gX3_unseenCases_X3_turnedOn : GoodIn wsX3_unseenCases (wsV RX3 86 RX3 yX3_turnedOn wsX3_turnedOn) := goodIn_app (goodIn_of _ (by decide +kernel)) ggX3_unseenCases_X3_turnedOn
set_option maxRecDepth 20000 in
theorem ggX3_unseenCases_J6_bitCount_0f7a4 : GoodIn wsX3_unseenCases wsJ6_bitCount_0f7a4 := goodIn_r _ [16, 17, 18, 19] (by decide +kernel) (by decide +kernel)
set_option maxRecDepth 20000 in
theorem gX3_unseenCases_J6_bitCount_0f7a4 : GoodIn wsX3_unseenCases (va_wsS RX3 78 yJ6_bitCount_0f7a4 wsJ6_bitCount_0f7a4) := goodIn_app (goodIn_of _ (by decide +kernel)) ggX3_unseenCases_J6_bitCount_0f7a4
set_option maxRecDepth 20000 in
theorem ggX3_unseenCases_X4_power : GoodIn wsX3_unseenCases wsX4_power := goodIn_r _ [22] (by decide +kernel) (by decide +kernel)
set_option maxRecDepth 20000 in
theorem gX3_unseenCases_X4_power_n89 : GoodIn wsX3_unseenCases (wsX4_power) := ggX3_unseenCases_X4_power
theorem dX3_unseenCases_0 : decode cX3_unseenCases 0 = .ok (.iconst 0, 1) := by decide +kernel
theorem dX3_unseenCases_1 : decode cX3_unseenCases 1 = .ok (.istore_n 3, 1) := by decide +kernel
theorem dX3_unseenCases_2 : decode cX3_unseenCases 2 = .ok (.iconst 1, 1) := by decide +kernel
theorem dX3_unseenCases_3 : decode cX3_unseenCases 3 = .ok (.istore 4, 2) := by decide +kernel
theorem dX3_unseenCases_5 : decode cX3_unseenCases 5 = .ok (.iload 4, 2) := by decide +kernel
theorem dX3_unseenCases_7 : decode cX3_unseenCases 7 = .ok (.iconst 1, 1) := by decide +kernel
theorem dX3_unseenCases_8 : decode cX3_unseenCases 8 = .ok (.aload_n 0, 1) := by decide +kernel
theorem dX3_unseenCases_9 : decode cX3_unseenCases 9 = .ok (.getfield 28, 3) := by decide +kernel
theorem dX3_unseenCases_12 : decode cX3_unseenCases 12 = .ok (.ishl, 1) := by decide +kernel
theorem dX3_unseenCases_13 : decode cX3_unseenCases 13 = .ok (.if_icmp .ge 54, 3) := by decide +kernel
theorem dX3_unseenCases_16 : decode cX3_unseenCases 16 = .ok (.aload_n 0, 1) := by decide +kernel
theorem dX3_unseenCases_17 : decode cX3_unseenCases 17 = .ok (.iload_n 1, 1) := by decide +kernel
theorem dX3_unseenCases_18 : decode cX3_unseenCases 18 = .ok (.iload 4, 2) := by decide +kernel
theorem dX3_unseenCases_20 : decode cX3_unseenCases 20 = .ok (.invokevirtual 86, 3) := by decide +kernel
theorem dX3_unseenCases_23 : decode cX3_unseenCases 23 = .ok (.aload_n 0, 1) := by decide +kernel
theorem dX3_unseenCases_24 : decode cX3_unseenCases 24 = .ok (.getfield 9, 3) := by decide +kernel
theorem dX3_unseenCases_27 : decode cX3_unseenCases 27 = .ok (.if_icmp .ge 34, 3) := by decide +kernel
theorem dX3_unseenCases_30 : decode cX3_unseenCases 30 = .ok (.iload 4, 2) := by decide +kernel
theorem dX3_unseenCases_32 : decode cX3_unseenCases 32 = .ok (.invokestatic 78, 3) := by decide +kernel
theorem dX3_unseenCases_35 : decode cX3_unseenCases 35 = .ok (.istore 5, 2) := by decide +kernel
theorem dX3_unseenCases_37 : decode cX3_unseenCases 37 = .ok (.iload_n 3, 1) := by decide +kernel
theorem dX3_unseenCases_38 : decode cX3_unseenCases 38 = .ok (.iload_n 2, 1) := by decide +kernel
theorem dX3_unseenCases_39 : decode cX3_unseenCases 39 = .ok (.iload 5, 2) := by decide +kernel
theorem dX3_unseenCases_41 : decode cX3_unseenCases 41 = .ok (.invokestatic 89, 3) := by decide +kernel
theorem dX3_unseenCases_44 : decode cX3_unseenCases 44 = .ok (.bipush 10, 2) := by decide +kernel
theorem dX3_unseenCases_46 : decode cX3_unseenCases 46 = .ok (.iload_n 2, 1) := by decide +kernel
theorem dX3_unseenCases_47 : decode cX3_unseenCases 47 = .ok (.isub, 1) := by decide +kernel
theorem dX3_unseenCases_48 : decode cX3_unseenCases 48 = .ok (.aload_n 0, 1) := by decide +kernel
theorem dX3_unseenCases_49 : decode cX3_unseenCases 49 = .ok (.getfield 28, 3) := by decide +kernel
theorem dX3_unseenCases_52 : decode cX3_unseenCases 52 = .ok (.iload 5, 2) := by decide +kernel
theorem dX3_unseenCases_54 : decode cX3_unseenCases 54 = .ok (.isub, 1) := by decide +kernel
theorem dX3_unseenCases_55 : decode cX3_unseenCases 55 = .ok (.invokestatic 89, 3) := by decide +kernel
theorem dX3_unseenCases_58 : decode cX3_unseenCases 58 = .ok (.imul, 1) := by decide +kernel
theorem dX3_unseenCases_59 : decode cX3_unseenCases 59 = .ok (.iadd, 1) := by decide +kernel
theorem dX3_unseenCases_60 : decode cX3_unseenCases 60 = .ok (.istore_n 3, 1) := by decide +kernel
theorem dX3_unseenCases_61 : decode cX3_unseenCases 61 = .ok (.iinc 4 1, 3) := by decide +kernel
theorem dX3_unseenCases_64 : decode cX3_unseenCases 64 = .ok (.goto (-59), 3) := by decide +kernel
theorem dX3_unseenCases_67 : decode cX3_unseenCases 67 = .ok (.iload_n 3, 1) := by decide +kernel
theorem dX3_unseenCases_68 : decode cX3_unseenCases 68 = .ok (.ireturn, 1) := by decide +kernel
set_option maxRecDepth 20000 in
theorem ggX3_turnedOn_X3_isIn : GoodIn wsX3_turnedOn wsX3_isIn := goodIn_r _ [7] (by decide +kernel) (by decide +kernel)
set_option maxRecDepth 20000 in
theorem gX3_turnedOn_X3_isIn : GoodIn wsX3_turnedOn (va_wsS RX3 70 yX3_isIn wsX3_isIn) := goodIn_app (goodIn_of _ (by decide +kernel)) ggX3_turnedOn_X3_isIn
theorem dX3_turnedOn_0 : decode cX3_turnedOn 0 = .ok (.iload_n 1, 1) := by decide +kernel
theorem dX3_turnedOn_1 : decode cX3_turnedOn 1 = .ok (.istore_n 3, 1) := by decide +kernel
theorem dX3_turnedOn_2 : decode cX3_turnedOn 2 = .ok (.iconst 0, 1) := by decide +kernel
theorem dX3_turnedOn_3 : decode cX3_turnedOn 3 = .ok (.istore 4, 2) := by decide +kernel
theorem dX3_turnedOn_5 : decode cX3_turnedOn 5 = .ok (.iload 4, 2) := by decide +kernel
theorem dX3_turnedOn_7 : decode cX3_turnedOn 7 = .ok (.aload_n 0, 1) := by decide +kernel
theorem dX3_turnedOn_8 : decode cX3_turnedOn 8 = .ok (.getfield 28, 3) := by decide +kernel
theorem dX3_turnedOn_11 : decode cX3_turnedOn 11 = .ok (.if_icmp .ge 33, 3) := by decide +kernel
theorem dX3_turnedOn_14 : decode cX3_turnedOn 14 = .ok (.iload_n 2, 1) := by decide +kernel
theorem dX3_turnedOn_15 : decode cX3_turnedOn 15 = .ok (.iload 4, 2) := by decide +kernel
theorem dX3_turnedOn_17 : decode cX3_turnedOn 17 = .ok (.invokestatic 70, 3) := by decide +kernel
theorem dX3_turnedOn_20 : decode cX3_turnedOn 20 = .ok (.ifCond .eq 18, 3) := by decide +kernel
theorem dX3_turnedOn_23 : decode cX3_turnedOn 23 = .ok (.iload_n 3, 1) := by decide +kernel
theorem dX3_turnedOn_24 : decode cX3_turnedOn 24 = .ok (.aload_n 0, 1) := by decide +kernel
theorem dX3_turnedOn_25 : decode cX3_turnedOn 25 = .ok (.getfield 25, 3) := by decide +kernel
theorem dX3_turnedOn_28 : decode cX3_turnedOn 28 = .ok (.iload 4, 2) := by decide +kernel
theorem dX3_turnedOn_30 : decode cX3_turnedOn 30 = .ok (.iaload, 1) := by decide +kernel
theorem dX3_turnedOn_31 : decode cX3_turnedOn 31 = .ok (.iadd, 1) := by decide +kernel
theorem dX3_turnedOn_32 : decode cX3_turnedOn 32 = .ok (.aload_n 0, 1) := by decide +kernel
theorem dX3_turnedOn_33 : decode cX3_turnedOn 33 = .ok (.getfield 15, 3) := by decide +kernel
theorem dX3_turnedOn_36 : decode cX3_turnedOn 36 = .ok (.irem, 1) := by decide +kernel
theorem dX3_turnedOn_37 : decode cX3_turnedOn 37 = .ok (.istore_n 3, 1) := by decide +kernel
theorem dX3_turnedOn_38 : decode cX3_turnedOn 38 = .ok (.iinc 4 1, 3) := by decide +kernel
theorem dX3_turnedOn_41 : decode cX3_turnedOn 41 = .ok (.goto (-36), 3) := by decide +kernel
theorem dX3_turnedOn_44 : decode cX3_turnedOn 44 = .ok (.iload_n 3, 1) := by decide +kernel
theorem dX3_turnedOn_45 : decode cX3_turnedOn 45 = .ok (.ireturn, 1) := by decide +kernel
theorem dX3_told_0 : decode cX3_told 0 = .ok (.iconst 0, 1) := by decide +kernel
theorem dX3_told_1 : decode cX3_told 1 = .ok (.istore_n 3, 1) := by decide +kernel
theorem dX3_told_2 : decode cX3_told 2 = .ok (.iconst 0, 1) := by decide +kernel
theorem dX3_told_3 : decode cX3_told 3 = .ok (.istore 4, 2) := by decide +kernel
theorem dX3_told_5 : decode cX3_told 5 = .ok (.iload 4, 2) := by decide +kernel
theorem dX3_told_7 : decode cX3_told 7 = .ok (.aload_n 0, 1) := by decide +kernel
theorem dX3_told_8 : decode cX3_told 8 = .ok (.getfield 28, 3) := by decide +kernel
theorem dX3_told_11 : decode cX3_told 11 = .ok (.if_icmp .ge 33, 3) := by decide +kernel
theorem dX3_told_14 : decode cX3_told 14 = .ok (.iload_n 3, 1) := by decide +kernel
theorem dX3_told_15 : decode cX3_told 15 = .ok (.aload_n 1, 1) := by decide +kernel
theorem dX3_told_16 : decode cX3_told 16 = .ok (.iload_n 2, 1) := by decide +kernel
theorem dX3_told_17 : decode cX3_told 17 = .ok (.iload 4, 2) := by decide +kernel
theorem dX3_told_19 : decode cX3_told 19 = .ok (.iadd, 1) := by decide +kernel
theorem dX3_told_20 : decode cX3_told 20 = .ok (.laload, 1) := by decide +kernel
theorem dX3_told_21 : decode cX3_told 21 = .ok (.ldc2_w 92, 3) := by decide +kernel
theorem dX3_told_24 : decode cX3_told 24 = .ok (.lcmp, 1) := by decide +kernel
theorem dX3_told_25 : decode cX3_told 25 = .ok (.ifCond .ne 7, 3) := by decide +kernel
theorem dX3_told_28 : decode cX3_told 28 = .ok (.iconst 0, 1) := by decide +kernel
theorem dX3_told_29 : decode cX3_told 29 = .ok (.goto 7, 3) := by decide +kernel
theorem dX3_told_32 : decode cX3_told 32 = .ok (.iconst 1, 1) := by decide +kernel
theorem dX3_told_33 : decode cX3_told 33 = .ok (.iload 4, 2) := by decide +kernel
theorem dX3_told_35 : decode cX3_told 35 = .ok (.ishl, 1) := by decide +kernel
theorem dX3_told_36 : decode cX3_told 36 = .ok (.ior, 1) := by decide +kernel
theorem dX3_told_37 : decode cX3_told 37 = .ok (.istore_n 3, 1) := by decide +kernel
theorem dX3_told_38 : decode cX3_told 38 = .ok (.iinc 4 1, 3) := by decide +kernel
theorem dX3_told_41 : decode cX3_told 41 = .ok (.goto (-36), 3) := by decide +kernel
theorem dX3_told_44 : decode cX3_told 44 = .ok (.iload_n 3, 1) := by decide +kernel
theorem dX3_told_45 : decode cX3_told 45 = .ok (.ireturn, 1) := by decide +kernel
set_option maxRecDepth 20000 in
theorem ggX3_leastFitting_X3_told : GoodIn wsX3_leastFitting wsX3_told := goodIn_r _ [11, 1, 2, 19, 20, 21, 22, 23, 24, 25] (by decide +kernel) (by decide +kernel)
set_option maxRecDepth 20000 in
theorem gX3_leastFitting_X3_told : GoodIn wsX3_leastFitting (wsV RX3 94 RX3 yX3_told wsX3_told) := goodIn_app (goodIn_of _ (by decide +kernel)) ggX3_leastFitting_X3_told
set_option maxRecDepth 20000 in
theorem ggX3_leastFitting_X3_product : GoodIn wsX3_leastFitting wsX3_product := goodIn_r _ [15, 1, 3, 16, 17, 10, 18, 19, 20, 21, 22, 23, 24, 25] (by decide +kernel) (by decide +kernel)
set_option maxRecDepth 20000 in
theorem gX3_leastFitting_X3_product : GoodIn wsX3_leastFitting (wsV RX3 74 RX3 yX3_product wsX3_product) := goodIn_app (goodIn_of _ (by decide +kernel)) ggX3_leastFitting_X3_product
theorem dX3_leastFitting_0 : decode cX3_leastFitting 0 = .ok (.iconst 0, 1) := by decide +kernel
theorem dX3_leastFitting_1 : decode cX3_leastFitting 1 = .ok (.istore_n 3, 1) := by decide +kernel
theorem dX3_leastFitting_2 : decode cX3_leastFitting 2 = .ok (.iconst 0, 1) := by decide +kernel
theorem dX3_leastFitting_3 : decode cX3_leastFitting 3 = .ok (.istore 4, 2) := by decide +kernel
theorem dX3_leastFitting_5 : decode cX3_leastFitting 5 = .ok (.iload 4, 2) := by decide +kernel
theorem dX3_leastFitting_7 : decode cX3_leastFitting 7 = .ok (.aload_n 0, 1) := by decide +kernel
theorem dX3_leastFitting_8 : decode cX3_leastFitting 8 = .ok (.getfield 28, 3) := by decide +kernel
theorem dX3_leastFitting_11 : decode cX3_leastFitting 11 = .ok (.if_icmp .ge 71, 3) := by decide +kernel
theorem dX3_leastFitting_14 : decode cX3_leastFitting 14 = .ok (.aload_n 1, 1) := by decide +kernel
theorem dX3_leastFitting_15 : decode cX3_leastFitting 15 = .ok (.iload_n 2, 1) := by decide +kernel
theorem dX3_leastFitting_16 : decode cX3_leastFitting 16 = .ok (.iload 4, 2) := by decide +kernel
theorem dX3_leastFitting_18 : decode cX3_leastFitting 18 = .ok (.iadd, 1) := by decide +kernel
theorem dX3_leastFitting_19 : decode cX3_leastFitting 19 = .ok (.laload, 1) := by decide +kernel
theorem dX3_leastFitting_20 : decode cX3_leastFitting 20 = .ok (.lstore 5, 2) := by decide +kernel
theorem dX3_leastFitting_22 : decode cX3_leastFitting 22 = .ok (.lload 5, 2) := by decide +kernel
theorem dX3_leastFitting_24 : decode cX3_leastFitting 24 = .ok (.ldc2_w 92, 3) := by decide +kernel
theorem dX3_leastFitting_27 : decode cX3_leastFitting 27 = .ok (.lcmp, 1) := by decide +kernel
theorem dX3_leastFitting_28 : decode cX3_leastFitting 28 = .ok (.ifCond .lt 17, 3) := by decide +kernel
theorem dX3_leastFitting_31 : decode cX3_leastFitting 31 = .ok (.lload 5, 2) := by decide +kernel
theorem dX3_leastFitting_33 : decode cX3_leastFitting 33 = .ok (.aload_n 0, 1) := by decide +kernel
theorem dX3_leastFitting_34 : decode cX3_leastFitting 34 = .ok (.getfield 22, 3) := by decide +kernel
theorem dX3_leastFitting_37 : decode cX3_leastFitting 37 = .ok (.iload 4, 2) := by decide +kernel
theorem dX3_leastFitting_39 : decode cX3_leastFitting 39 = .ok (.iaload, 1) := by decide +kernel
theorem dX3_leastFitting_40 : decode cX3_leastFitting 40 = .ok (.i2l, 1) := by decide +kernel
theorem dX3_leastFitting_41 : decode cX3_leastFitting 41 = .ok (.lcmp, 1) := by decide +kernel
theorem dX3_leastFitting_42 : decode cX3_leastFitting 42 = .ok (.ifCond .lt 6, 3) := by decide +kernel
theorem dX3_leastFitting_45 : decode cX3_leastFitting 45 = .ok (.bipush (-4), 2) := by decide +kernel
theorem dX3_leastFitting_47 : decode cX3_leastFitting 47 = .ok (.ireturn, 1) := by decide +kernel
theorem dX3_leastFitting_48 : decode cX3_leastFitting 48 = .ok (.lload 5, 2) := by decide +kernel
theorem dX3_leastFitting_50 : decode cX3_leastFitting 50 = .ok (.ldc2_w 92, 3) := by decide +kernel
theorem dX3_leastFitting_53 : decode cX3_leastFitting 53 = .ok (.lcmp, 1) := by decide +kernel
theorem dX3_leastFitting_54 : decode cX3_leastFitting 54 = .ok (.ifCond .eq 22, 3) := by decide +kernel
theorem dX3_leastFitting_57 : decode cX3_leastFitting 57 = .ok (.iload_n 3, 1) := by decide +kernel
theorem dX3_leastFitting_58 : decode cX3_leastFitting 58 = .ok (.lload 5, 2) := by decide +kernel
theorem dX3_leastFitting_60 : decode cX3_leastFitting 60 = .ok (.l2i, 1) := by decide +kernel
theorem dX3_leastFitting_61 : decode cX3_leastFitting 61 = .ok (.aload_n 0, 1) := by decide +kernel
theorem dX3_leastFitting_62 : decode cX3_leastFitting 62 = .ok (.getfield 25, 3) := by decide +kernel
theorem dX3_leastFitting_65 : decode cX3_leastFitting 65 = .ok (.iload 4, 2) := by decide +kernel
theorem dX3_leastFitting_67 : decode cX3_leastFitting 67 = .ok (.iaload, 1) := by decide +kernel
theorem dX3_leastFitting_68 : decode cX3_leastFitting 68 = .ok (.imul, 1) := by decide +kernel
theorem dX3_leastFitting_69 : decode cX3_leastFitting 69 = .ok (.iadd, 1) := by decide +kernel
theorem dX3_leastFitting_70 : decode cX3_leastFitting 70 = .ok (.aload_n 0, 1) := by decide +kernel
theorem dX3_leastFitting_71 : decode cX3_leastFitting 71 = .ok (.getfield 15, 3) := by decide +kernel
theorem dX3_leastFitting_74 : decode cX3_leastFitting 74 = .ok (.irem, 1) := by decide +kernel
theorem dX3_leastFitting_75 : decode cX3_leastFitting 75 = .ok (.istore_n 3, 1) := by decide +kernel
theorem dX3_leastFitting_76 : decode cX3_leastFitting 76 = .ok (.iinc 4 1, 3) := by decide +kernel
theorem dX3_leastFitting_79 : decode cX3_leastFitting 79 = .ok (.goto (-74), 3) := by decide +kernel
theorem dX3_leastFitting_82 : decode cX3_leastFitting 82 = .ok (.iload_n 3, 1) := by decide +kernel
theorem dX3_leastFitting_83 : decode cX3_leastFitting 83 = .ok (.aload_n 0, 1) := by decide +kernel
theorem dX3_leastFitting_84 : decode cX3_leastFitting 84 = .ok (.aload_n 0, 1) := by decide +kernel
theorem dX3_leastFitting_85 : decode cX3_leastFitting 85 = .ok (.aload_n 1, 1) := by decide +kernel
theorem dX3_leastFitting_86 : decode cX3_leastFitting 86 = .ok (.iload_n 2, 1) := by decide +kernel
theorem dX3_leastFitting_87 : decode cX3_leastFitting 87 = .ok (.invokevirtual 94, 3) := by decide +kernel
theorem dX3_leastFitting_90 : decode cX3_leastFitting 90 = .ok (.invokevirtual 74, 3) := by decide +kernel
theorem dX3_leastFitting_93 : decode cX3_leastFitting 93 = .ok (.irem, 1) := by decide +kernel
theorem dX3_leastFitting_94 : decode cX3_leastFitting 94 = .ok (.istore 4, 2) := by decide +kernel
theorem dX3_leastFitting_96 : decode cX3_leastFitting 96 = .ok (.iload 4, 2) := by decide +kernel
theorem dX3_leastFitting_98 : decode cX3_leastFitting 98 = .ok (.aload_n 0, 1) := by decide +kernel
theorem dX3_leastFitting_99 : decode cX3_leastFitting 99 = .ok (.getfield 9, 3) := by decide +kernel
theorem dX3_leastFitting_102 : decode cX3_leastFitting 102 = .ok (.if_icmp .ge 8, 3) := by decide +kernel
theorem dX3_leastFitting_105 : decode cX3_leastFitting 105 = .ok (.iload 4, 2) := by decide +kernel
theorem dX3_leastFitting_107 : decode cX3_leastFitting 107 = .ok (.goto 5, 3) := by decide +kernel
theorem dX3_leastFitting_110 : decode cX3_leastFitting 110 = .ok (.bipush (-4), 2) := by decide +kernel
theorem dX3_leastFitting_112 : decode cX3_leastFitting 112 = .ok (.ireturn, 1) := by decide +kernel
set_option maxRecDepth 20000 in
theorem ggX3_howManyFrom_X3_product : GoodIn wsX3_howManyFrom wsX3_product := goodIn_r _ [6, 7, 8, 9, 10, 5, 11, 12, 13, 14, 15, 16, 17, 18] (by decide +kernel) (by decide +kernel)
set_option maxRecDepth 20000 in
theorem gX3_howManyFrom_X3_product : GoodIn wsX3_howManyFrom (wsV RX3 74 RX3 yX3_product wsX3_product) := goodIn_app (goodIn_of _ (by decide +kernel)) ggX3_howManyFrom_X3_product
theorem dX3_howManyFrom_0 : decode cX3_howManyFrom 0 = .ok (.aload_n 0, 1) := by decide +kernel
theorem dX3_howManyFrom_1 : decode cX3_howManyFrom 1 = .ok (.getfield 9, 3) := by decide +kernel
theorem dX3_howManyFrom_4 : decode cX3_howManyFrom 4 = .ok (.iconst 1, 1) := by decide +kernel
theorem dX3_howManyFrom_5 : decode cX3_howManyFrom 5 = .ok (.isub, 1) := by decide +kernel
theorem dX3_howManyFrom_6 : decode cX3_howManyFrom 6 = .ok (.iload_n 1, 1) := by decide +kernel
theorem dX3_howManyFrom_7 : decode cX3_howManyFrom 7 = .ok (.isub, 1) := by decide +kernel
theorem dX3_howManyFrom_8 : decode cX3_howManyFrom 8 = .ok (.aload_n 0, 1) := by decide +kernel
theorem dX3_howManyFrom_9 : decode cX3_howManyFrom 9 = .ok (.iload_n 2, 1) := by decide +kernel
theorem dX3_howManyFrom_10 : decode cX3_howManyFrom 10 = .ok (.invokevirtual 74, 3) := by decide +kernel
theorem dX3_howManyFrom_13 : decode cX3_howManyFrom 13 = .ok (.idiv, 1) := by decide +kernel
theorem dX3_howManyFrom_14 : decode cX3_howManyFrom 14 = .ok (.iconst 1, 1) := by decide +kernel
theorem dX3_howManyFrom_15 : decode cX3_howManyFrom 15 = .ok (.iadd, 1) := by decide +kernel
theorem dX3_howManyFrom_16 : decode cX3_howManyFrom 16 = .ok (.ireturn, 1) := by decide +kernel
set_option maxRecDepth 20000 in
theorem ggX3_kindsSeen_X3_isKindSeen : GoodIn wsX3_kindsSeen wsX3_isKindSeen := goodIn_r _ [4, 5, 6, 3, 7, 8, 9, 10, 11, 12, 13, 14, 15, 16, 17] (by decide +kernel) (by decide +kernel)
set_option maxRecDepth 20000 in
theorem gX3_kindsSeen_X3_isKindSeen : GoodIn wsX3_kindsSeen (va_wsS RX3 98 yX3_isKindSeen wsX3_isKindSeen) := goodIn_app (goodIn_of _ (by decide +kernel)) ggX3_kindsSeen_X3_isKindSeen
theorem dX3_kindsSeen_0 : decode cX3_kindsSeen 0 = .ok (.iconst 0, 1) := by decide +kernel
theorem dX3_kindsSeen_1 : decode cX3_kindsSeen 1 = .ok (.istore 4, 2) := by decide +kernel
theorem dX3_kindsSeen_3 : decode cX3_kindsSeen 3 = .ok (.iconst 0, 1) := by decide +kernel
theorem dX3_kindsSeen_4 : decode cX3_kindsSeen 4 = .ok (.istore 5, 2) := by decide +kernel
theorem dX3_kindsSeen_6 : decode cX3_kindsSeen 6 = .ok (.iload 5, 2) := by decide +kernel
theorem dX3_kindsSeen_8 : decode cX3_kindsSeen 8 = .ok (.iconst 5, 1) := by decide +kernel
theorem dX3_kindsSeen_9 : decode cX3_kindsSeen 9 = .ok (.if_icmp .ge 34, 3) := by decide +kernel
theorem dX3_kindsSeen_12 : decode cX3_kindsSeen 12 = .ok (.iload 4, 2) := by decide +kernel
theorem dX3_kindsSeen_14 : decode cX3_kindsSeen 14 = .ok (.iload 5, 2) := by decide +kernel
theorem dX3_kindsSeen_16 : decode cX3_kindsSeen 16 = .ok (.iload_n 0, 1) := by decide +kernel
theorem dX3_kindsSeen_17 : decode cX3_kindsSeen 17 = .ok (.aload_n 1, 1) := by decide +kernel
theorem dX3_kindsSeen_18 : decode cX3_kindsSeen 18 = .ok (.iload_n 2, 1) := by decide +kernel
theorem dX3_kindsSeen_19 : decode cX3_kindsSeen 19 = .ok (.iload_n 3, 1) := by decide +kernel
theorem dX3_kindsSeen_20 : decode cX3_kindsSeen 20 = .ok (.invokestatic 98, 3) := by decide +kernel
theorem dX3_kindsSeen_23 : decode cX3_kindsSeen 23 = .ok (.ifCond .eq 10, 3) := by decide +kernel
theorem dX3_kindsSeen_26 : decode cX3_kindsSeen 26 = .ok (.iconst 1, 1) := by decide +kernel
theorem dX3_kindsSeen_27 : decode cX3_kindsSeen 27 = .ok (.iload 5, 2) := by decide +kernel
theorem dX3_kindsSeen_29 : decode cX3_kindsSeen 29 = .ok (.ishl, 1) := by decide +kernel
theorem dX3_kindsSeen_30 : decode cX3_kindsSeen 30 = .ok (.goto 4, 3) := by decide +kernel
theorem dX3_kindsSeen_33 : decode cX3_kindsSeen 33 = .ok (.iconst 0, 1) := by decide +kernel
theorem dX3_kindsSeen_34 : decode cX3_kindsSeen 34 = .ok (.ior, 1) := by decide +kernel
theorem dX3_kindsSeen_35 : decode cX3_kindsSeen 35 = .ok (.istore 4, 2) := by decide +kernel
theorem dX3_kindsSeen_37 : decode cX3_kindsSeen 37 = .ok (.iinc 5 1, 3) := by decide +kernel
theorem dX3_kindsSeen_40 : decode cX3_kindsSeen 40 = .ok (.goto (-34), 3) := by decide +kernel
theorem dX3_kindsSeen_43 : decode cX3_kindsSeen 43 = .ok (.iload 4, 2) := by decide +kernel
theorem dX3_kindsSeen_45 : decode cX3_kindsSeen 45 = .ok (.ireturn, 1) := by decide +kernel
set_option maxRecDepth 20000 in
theorem ggX3_isKindSeen_X3_addedByKind : GoodIn wsX3_isKindSeen wsX3_addedByKind := goodIn_r _ [4, 5, 6, 3, 7, 8, 9, 10, 11, 12, 13, 14] (by decide +kernel) (by decide +kernel)
set_option maxRecDepth 20000 in
theorem gX3_isKindSeen_X3_addedByKind : GoodIn wsX3_isKindSeen (va_wsS RX3 56 yX3_addedByKind wsX3_addedByKind) := goodIn_app (goodIn_of _ (by decide +kernel)) ggX3_isKindSeen_X3_addedByKind
theorem dX3_isKindSeen_0 : decode cX3_isKindSeen 0 = .ok (.iload_n 3, 1) := by decide +kernel
theorem dX3_isKindSeen_1 : decode cX3_isKindSeen 1 = .ok (.istore 5, 2) := by decide +kernel
theorem dX3_isKindSeen_3 : decode cX3_isKindSeen 3 = .ok (.iload 5, 2) := by decide +kernel
theorem dX3_isKindSeen_5 : decode cX3_isKindSeen 5 = .ok (.iload_n 3, 1) := by decide +kernel
theorem dX3_isKindSeen_6 : decode cX3_isKindSeen 6 = .ok (.iconst 3, 1) := by decide +kernel
theorem dX3_isKindSeen_7 : decode cX3_isKindSeen 7 = .ok (.iload 4, 2) := by decide +kernel
theorem dX3_isKindSeen_9 : decode cX3_isKindSeen 9 = .ok (.imul, 1) := by decide +kernel
theorem dX3_isKindSeen_10 : decode cX3_isKindSeen 10 = .ok (.iadd, 1) := by decide +kernel
theorem dX3_isKindSeen_11 : decode cX3_isKindSeen 11 = .ok (.if_icmp .ge 79, 3) := by decide +kernel
theorem dX3_isKindSeen_14 : decode cX3_isKindSeen 14 = .ok (.aload_n 2, 1) := by decide +kernel
theorem dX3_isKindSeen_15 : decode cX3_isKindSeen 15 = .ok (.iload 5, 2) := by decide +kernel
theorem dX3_isKindSeen_17 : decode cX3_isKindSeen 17 = .ok (.laload, 1) := by decide +kernel
theorem dX3_isKindSeen_18 : decode cX3_isKindSeen 18 = .ok (.lstore 6, 2) := by decide +kernel
theorem dX3_isKindSeen_20 : decode cX3_isKindSeen 20 = .ok (.aload_n 2, 1) := by decide +kernel
theorem dX3_isKindSeen_21 : decode cX3_isKindSeen 21 = .ok (.iload 5, 2) := by decide +kernel
theorem dX3_isKindSeen_23 : decode cX3_isKindSeen 23 = .ok (.iconst 1, 1) := by decide +kernel
theorem dX3_isKindSeen_24 : decode cX3_isKindSeen 24 = .ok (.iadd, 1) := by decide +kernel
theorem dX3_isKindSeen_25 : decode cX3_isKindSeen 25 = .ok (.laload, 1) := by decide +kernel
theorem dX3_isKindSeen_26 : decode cX3_isKindSeen 26 = .ok (.lstore 8, 2) := by decide +kernel
theorem dX3_isKindSeen_28 : decode cX3_isKindSeen 28 = .ok (.lload 6, 2) := by decide +kernel
theorem dX3_isKindSeen_30 : decode cX3_isKindSeen 30 = .ok (.lconst 0, 1) := by decide +kernel
theorem dX3_isKindSeen_31 : decode cX3_isKindSeen 31 = .ok (.lcmp, 1) := by decide +kernel
theorem dX3_isKindSeen_32 : decode cX3_isKindSeen 32 = .ok (.ifCond .lt 26, 3) := by decide +kernel
theorem dX3_isKindSeen_35 : decode cX3_isKindSeen 35 = .ok (.lload 6, 2) := by decide +kernel
theorem dX3_isKindSeen_37 : decode cX3_isKindSeen 37 = .ok (.iload_n 1, 1) := by decide +kernel
theorem dX3_isKindSeen_38 : decode cX3_isKindSeen 38 = .ok (.i2l, 1) := by decide +kernel
theorem dX3_isKindSeen_39 : decode cX3_isKindSeen 39 = .ok (.lcmp, 1) := by decide +kernel
theorem dX3_isKindSeen_40 : decode cX3_isKindSeen 40 = .ok (.ifCond .ge 18, 3) := by decide +kernel
theorem dX3_isKindSeen_43 : decode cX3_isKindSeen 43 = .ok (.lload 8, 2) := by decide +kernel
theorem dX3_isKindSeen_45 : decode cX3_isKindSeen 45 = .ok (.lconst 0, 1) := by decide +kernel
theorem dX3_isKindSeen_46 : decode cX3_isKindSeen 46 = .ok (.lcmp, 1) := by decide +kernel
theorem dX3_isKindSeen_47 : decode cX3_isKindSeen 47 = .ok (.ifCond .lt 11, 3) := by decide +kernel
theorem dX3_isKindSeen_50 : decode cX3_isKindSeen 50 = .ok (.lload 8, 2) := by decide +kernel
theorem dX3_isKindSeen_52 : decode cX3_isKindSeen 52 = .ok (.iload_n 1, 1) := by decide +kernel
theorem dX3_isKindSeen_53 : decode cX3_isKindSeen 53 = .ok (.i2l, 1) := by decide +kernel
theorem dX3_isKindSeen_54 : decode cX3_isKindSeen 54 = .ok (.lcmp, 1) := by decide +kernel
theorem dX3_isKindSeen_55 : decode cX3_isKindSeen 55 = .ok (.ifCond .lt 5, 3) := by decide +kernel
theorem dX3_isKindSeen_58 : decode cX3_isKindSeen 58 = .ok (.iconst 0, 1) := by decide +kernel
theorem dX3_isKindSeen_59 : decode cX3_isKindSeen 59 = .ok (.ireturn, 1) := by decide +kernel
theorem dX3_isKindSeen_60 : decode cX3_isKindSeen 60 = .ok (.iload_n 0, 1) := by decide +kernel
theorem dX3_isKindSeen_61 : decode cX3_isKindSeen 61 = .ok (.iload_n 1, 1) := by decide +kernel
theorem dX3_isKindSeen_62 : decode cX3_isKindSeen 62 = .ok (.lload 6, 2) := by decide +kernel
theorem dX3_isKindSeen_64 : decode cX3_isKindSeen 64 = .ok (.l2i, 1) := by decide +kernel
theorem dX3_isKindSeen_65 : decode cX3_isKindSeen 65 = .ok (.lload 8, 2) := by decide +kernel
theorem dX3_isKindSeen_67 : decode cX3_isKindSeen 67 = .ok (.l2i, 1) := by decide +kernel
theorem dX3_isKindSeen_68 : decode cX3_isKindSeen 68 = .ok (.invokestatic 56, 3) := by decide +kernel
theorem dX3_isKindSeen_71 : decode cX3_isKindSeen 71 = .ok (.i2l, 1) := by decide +kernel
theorem dX3_isKindSeen_72 : decode cX3_isKindSeen 72 = .ok (.aload_n 2, 1) := by decide +kernel
theorem dX3_isKindSeen_73 : decode cX3_isKindSeen 73 = .ok (.iload 5, 2) := by decide +kernel
theorem dX3_isKindSeen_75 : decode cX3_isKindSeen 75 = .ok (.iconst 2, 1) := by decide +kernel
theorem dX3_isKindSeen_76 : decode cX3_isKindSeen 76 = .ok (.iadd, 1) := by decide +kernel
theorem dX3_isKindSeen_77 : decode cX3_isKindSeen 77 = .ok (.laload, 1) := by decide +kernel
theorem dX3_isKindSeen_78 : decode cX3_isKindSeen 78 = .ok (.lcmp, 1) := by decide +kernel
theorem dX3_isKindSeen_79 : decode cX3_isKindSeen 79 = .ok (.ifCond .eq 5, 3) := by decide +kernel
theorem dX3_isKindSeen_82 : decode cX3_isKindSeen 82 = .ok (.iconst 0, 1) := by decide +kernel
theorem dX3_isKindSeen_83 : decode cX3_isKindSeen 83 = .ok (.ireturn, 1) := by decide +kernel
theorem dX3_isKindSeen_84 : decode cX3_isKindSeen 84 = .ok (.iinc 5 3, 3) := by decide +kernel
theorem dX3_isKindSeen_87 : decode cX3_isKindSeen 87 = .ok (.goto (-84), 3) := by decide +kernel
theorem dX3_isKindSeen_90 : decode cX3_isKindSeen 90 = .ok (.iconst 1, 1) := by decide +kernel
theorem dX3_isKindSeen_91 : decode cX3_isKindSeen 91 = .ok (.ireturn, 1) := by decide +kernel
