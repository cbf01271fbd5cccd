set_option maxRecDepth 20000 in
theorem ggX4_init_X2_init : GoodIn wsX4_init wsX2_init := goodIn_r _ [18, 19, 2, 3, 20, 21, 22, 23, 24, 25, 26, 27, 28, 29, 30, 31, 32, 33, 48, 49, 50, 51, 68, 69, 70, 71, 72, 73, 74] (by decide +kernel) (by decide +kernel)
set_option maxRecDepth 20000 in
theorem gX4_init_X2_init_n9 : GoodIn wsX4_init (wsX2_init) := ggX4_init_X2_init
set_option maxRecDepth 20000 in
theorem ggX4_init_X0_init : GoodIn wsX4_init wsX0_init := goodIn_r _ [35, 36, 2, 3, 37, 23, 24, 38, 20, 39, 40, 41, 42, 26, 27, 28, 29, 30, 31, 32, 33, 68, 69, 70, 71, 72, 73, 74, 57, 58, 59, 60, 61, 62, 63] (by decide +kernel) (by decide +kernel)
set_option maxRecDepth 20000 in
theorem gX4_init_X0_init_n18 : GoodIn wsX4_init (wsX0_init) := ggX4_init_X0_init
set_option maxRecDepth 20000 in
theorem ggX4_init_X1_init : GoodIn wsX4_init wsX1_init := goodIn_r _ [44, 45, 2, 3, 46, 47, 64, 65, 66, 67] (by decide +kernel) (by decide +kernel)
set_option maxRecDepth 20000 in
theorem gX4_init_X1_init_n32 : GoodIn wsX4_init (wsX1_init) := ggX4_init_X1_init
theorem dX4_init_0 : decode cX4_init 0 = .ok (.aload_n 0, 1) := by decide +kernel
theorem dX4_init_1 : decode cX4_init 1 = .ok (.invokespecial 1, 3) := by decide +kernel
theorem dX4_init_4 : decode cX4_init 4 = .ok (.aload_n 0, 1) := by decide +kernel
theorem dX4_init_5 : decode cX4_init 5 = .ok (.new 7, 3) := by decide +kernel
theorem dX4_init_8 : decode cX4_init 8 = .ok (.dup, 1) := by decide +kernel
theorem dX4_init_9 : decode cX4_init 9 = .ok (.invokespecial 9, 3) := by decide +kernel
theorem dX4_init_12 : decode cX4_init 12 = .ok (.putfield 10, 3) := by decide +kernel
theorem dX4_init_15 : decode cX4_init 15 = .ok (.aload_n 0, 1) := by decide +kernel
theorem dX4_init_16 : decode cX4_init 16 = .ok (.new 16, 3) := by decide +kernel
theorem dX4_init_19 : decode cX4_init 19 = .ok (.dup, 1) := by decide +kernel
theorem dX4_init_20 : decode cX4_init 20 = .ok (.invokespecial 18, 3) := by decide +kernel
theorem dX4_init_23 : decode cX4_init 23 = .ok (.putfield 19, 3) := by decide +kernel
theorem dX4_init_26 : decode cX4_init 26 = .ok (.aload_n 0, 1) := by decide +kernel
theorem dX4_init_27 : decode cX4_init 27 = .ok (.new 16, 3) := by decide +kernel
theorem dX4_init_30 : decode cX4_init 30 = .ok (.dup, 1) := by decide +kernel
theorem dX4_init_31 : decode cX4_init 31 = .ok (.invokespecial 18, 3) := by decide +kernel
theorem dX4_init_34 : decode cX4_init 34 = .ok (.putfield 23, 3) := by decide +kernel
theorem dX4_init_37 : decode cX4_init 37 = .ok (.aload_n 0, 1) := by decide +kernel
theorem dX4_init_38 : decode cX4_init 38 = .ok (.iconst 4, 1) := by decide +kernel
theorem dX4_init_39 : decode cX4_init 39 = .ok (.anewarray 26, 3) := by decide +kernel
theorem dX4_init_42 : decode cX4_init 42 = .ok (.putfield 28, 3) := by decide +kernel
theorem dX4_init_45 : decode cX4_init 45 = .ok (.iconst 0, 1) := by decide +kernel
theorem dX4_init_46 : decode cX4_init 46 = .ok (.istore_n 1, 1) := by decide +kernel
theorem dX4_init_47 : decode cX4_init 47 = .ok (.iload_n 1, 1) := by decide +kernel
theorem dX4_init_48 : decode cX4_init 48 = .ok (.iconst 4, 1) := by decide +kernel
theorem dX4_init_49 : decode cX4_init 49 = .ok (.if_icmp .ge 22, 3) := by decide +kernel
theorem dX4_init_52 : decode cX4_init 52 = .ok (.aload_n 0, 1) := by decide +kernel
theorem dX4_init_53 : decode cX4_init 53 = .ok (.getfield 28, 3) := by decide +kernel
theorem dX4_init_56 : decode cX4_init 56 = .ok (.iload_n 1, 1) := by decide +kernel
theorem dX4_init_57 : decode cX4_init 57 = .ok (.new 26, 3) := by decide +kernel
theorem dX4_init_60 : decode cX4_init 60 = .ok (.dup, 1) := by decide +kernel
theorem dX4_init_61 : decode cX4_init 61 = .ok (.invokespecial 32, 3) := by decide +kernel
theorem dX4_init_64 : decode cX4_init 64 = .ok (.aastore, 1) := by decide +kernel
theorem dX4_init_65 : decode cX4_init 65 = .ok (.iinc 1 1, 3) := by decide +kernel
theorem dX4_init_68 : decode cX4_init 68 = .ok (.goto (-21), 3) := by decide +kernel
theorem dX4_init_71 : decode cX4_init 71 = .ok (.return_, 1) := by decide +kernel
set_option maxRecDepth 20000 in
theorem ggX4_type_X2_isFull : GoodIn wsX4_type wsX2_isFull := goodIn_r _ [7, 8, 19, 20, 21, 22] (by decide +kernel) (by decide +kernel)
set_option maxRecDepth 20000 in
theorem gX4_type_X2_isFull : GoodIn wsX4_type (wsV RX4 33 RX2 yX2_isFull wsX2_isFull) := goodIn_app (goodIn_of _ (by decide +kernel)) ggX4_type_X2_isFull
set_option maxRecDepth 20000 in
theorem ggX4_type_X2_append : GoodIn wsX4_type wsX2_append := goodIn_r _ [12, 13, 8, 19, 20, 21, 22] (by decide +kernel) (by decide +kernel)
set_option maxRecDepth 20000 in
theorem gX4_type_X2_append : GoodIn wsX4_type (wsV RX4 37 RX2 yX2_append wsX2_append) := goodIn_app (goodIn_of _ (by decide +kernel)) ggX4_type_X2_append
theorem dX4_type_0 : decode cX4_type 0 = .ok (.iload_n 1, 1) := by decide +kernel
theorem dX4_type_1 : decode cX4_type 1 = .ok (.bipush 32, 2) := by decide +kernel
theorem dX4_type_3 : decode cX4_type 3 = .ok (.if_icmp .lt 9, 3) := by decide +kernel
theorem dX4_type_6 : decode cX4_type 6 = .ok (.iload_n 1, 1) := by decide +kernel
theorem dX4_type_7 : decode cX4_type 7 = .ok (.bipush 126, 2) := by decide +kernel
theorem dX4_type_9 : decode cX4_type 9 = .ok (.if_icmp .le 5, 3) := by decide +kernel
theorem dX4_type_12 : decode cX4_type 12 = .ok (.iconst (-1), 1) := by decide +kernel
theorem dX4_type_13 : decode cX4_type 13 = .ok (.ireturn, 1) := by decide +kernel
theorem dX4_type_14 : decode cX4_type 14 = .ok (.aload_n 0, 1) := by decide +kernel
theorem dX4_type_15 : decode cX4_type 15 = .ok (.getfield 10, 3) := by decide +kernel
theorem dX4_type_18 : decode cX4_type 18 = .ok (.invokevirtual 33, 3) := by decide +kernel
theorem dX4_type_21 : decode cX4_type 21 = .ok (.ifCond .eq 6, 3) := by decide +kernel
theorem dX4_type_24 : decode cX4_type 24 = .ok (.bipush (-3), 2) := by decide +kernel
theorem dX4_type_26 : decode cX4_type 26 = .ok (.ireturn, 1) := by decide +kernel
theorem dX4_type_27 : decode cX4_type 27 = .ok (.aload_n 0, 1) := by decide +kernel
theorem dX4_type_28 : decode cX4_type 28 = .ok (.getfield 10, 3) := by decide +kernel
theorem dX4_type_31 : decode cX4_type 31 = .ok (.iload_n 1, 1) := by decide +kernel
theorem dX4_type_32 : decode cX4_type 32 = .ok (.invokevirtual 37, 3) := by decide +kernel
theorem dX4_type_35 : decode cX4_type 35 = .ok (.aload_n 0, 1) := by decide +kernel
theorem dX4_type_36 : decode cX4_type 36 = .ok (.getfield 10, 3) := by decide +kernel
theorem dX4_type_39 : decode cX4_type 39 = .ok (.getfield 41, 3) := by decide +kernel
theorem dX4_type_42 : decode cX4_type 42 = .ok (.ireturn, 1) := by decide +kernel
set_option maxRecDepth 20000 in
theorem ggX4_set_X2_parse : GoodIn wsX4_set wsX2_parse := goodIn_r _ [9, 10, 11, 12, 13, 14, 15, 16, 17, 18, 19, 20, 21, 22, 23, 24, 8, 25, 26, 27, 28, 29, 30, 31, 32, 33, 34, 35, 36, 37, 38, 39, 40, 41, 42, 43, 44, 45, 46, 47, 48, 49, 50, 51, 52, 53, 54, 55, 56, 57, 58, 59, 60, 61, 62, 63, 64, 65, 66, 67, 68, 69, 70, 71, 72, 73, 74, 75, 76, 77, 78, 79, 80, 81, 82, 83, 84, 85, 86, 87, 88, 89, 90, 91, 92, 93, 94, 95, 96, 97, 98, 99, 100, 101, 102, 103, 104, 105, 106, 107, 108, 109, 110, 111, 112, 113, 114, 115, 116, 117, 118, 119, 120, 121, 122, 123, 124, 125, 126, 127, 128, 129, 130, 131, 132, 133, 134, 135, 136, 137, 138, 139, 140, 141, 142, 143, 144, 145, 146, 147, 148, 149, 150, 151, 152, 153, 175, 176, 177, 178, 179, 180, 181, 182, 183, 184, 185] (by decide +kernel) (by decide +kernel)
set_option maxRecDepth 20000 in
theorem gX4_set_X2_parse : GoodIn wsX4_set (wsV RX4 45 RX2 yX2_parse wsX2_parse) := goodIn_app (goodIn_of _ (by decide +kernel)) ggX4_set_X2_parse
set_option maxRecDepth 20000 in
theorem ggX4_set_X0_begin : GoodIn wsX4_set wsX0_begin := goodIn_r _ [158, 159, 160, 161, 162, 163, 164, 16, 165, 18, 19, 20, 21, 148, 166, 167, 168, 169, 140, 153, 186, 187, 188, 189, 190, 191, 192, 179, 180, 181, 182, 183, 184, 185] (by decide +kernel) (by decide +kernel)
set_option maxRecDepth 20000 in
theorem gX4_set_X0_begin : GoodIn wsX4_set (wsV RX4 53 RX0 yX0_begin wsX0_begin) := goodIn_app (goodIn_of _ (by decide +kernel)) ggX4_set_X0_begin
theorem dX4_set_0 : decode cX4_set 0 = .ok (.aload_n 0, 1) := by decide +kernel
theorem dX4_set_1 : decode cX4_set 1 = .ok (.getfield 10, 3) := by decide +kernel
theorem dX4_set_4 : decode cX4_set 4 = .ok (.invokevirtual 45, 3) := by decide +kernel
theorem dX4_set_7 : decode cX4_set 7 = .ok (.istore_n 1, 1) := by decide +kernel
theorem dX4_set_8 : decode cX4_set 8 = .ok (.aload_n 0, 1) := by decide +kernel
theorem dX4_set_9 : decode cX4_set 9 = .ok (.getfield 10, 3) := by decide +kernel
theorem dX4_set_12 : decode cX4_set 12 = .ok (.iconst 0, 1) := by decide +kernel
theorem dX4_set_13 : decode cX4_set 13 = .ok (.putfield 41, 3) := by decide +kernel
theorem dX4_set_16 : decode cX4_set 16 = .ok (.iload_n 1, 1) := by decide +kernel
theorem dX4_set_17 : decode cX4_set 17 = .ok (.ifCond .lt 17, 3) := by decide +kernel
theorem dX4_set_20 : decode cX4_set 20 = .ok (.aload_n 0, 1) := by decide +kernel
theorem dX4_set_21 : decode cX4_set 21 = .ok (.getfield 19, 3) := by decide +kernel
theorem dX4_set_24 : decode cX4_set 24 = .ok (.aload_n 0, 1) := by decide +kernel
theorem dX4_set_25 : decode cX4_set 25 = .ok (.getfield 10, 3) := by decide +kernel
theorem dX4_set_28 : decode cX4_set 28 = .ok (.getfield 49, 3) := by decide +kernel
theorem dX4_set_31 : decode cX4_set 31 = .ok (.invokevirtual 53, 3) := by decide +kernel
theorem dX4_set_34 : decode cX4_set 34 = .ok (.iload_n 1, 1) := by decide +kernel
theorem dX4_set_35 : decode cX4_set 35 = .ok (.ireturn, 1) := by decide +kernel
set_option maxRecDepth 20000 in
theorem ggX4_of_X4_isWheel : GoodIn wsX4_of wsX4_isWheel := goodIn_r _ [10, 1, 2, 11, 12, 13, 9, 14, 43, 44, 45, 46, 47, 48, 49, 50, 51, 52, 53, 54, 55, 56, 57, 58, 59, 60, 61] (by decide +kernel) (by decide +kernel)
set_option maxRecDepth 20000 in
theorem gX4_of_X4_isWheel : GoodIn wsX4_of (wsV RX4 57 RX4 yX4_isWheel wsX4_isWheel) := goodIn_app (goodIn_of _ (by decide +kernel)) ggX4_of_X4_isWheel
set_option maxRecDepth 20000 in
theorem ggX4_of_X3_wrongSums : GoodIn wsX4_of wsX3_wrongSums := goodIn_r _ [19, 20, 21, 22, 23, 18, 24, 25, 26, 27, 28, 29, 30, 31, 32, 33, 34, 35, 36, 37, 38, 39, 40, 41, 42, 55, 56, 57, 58, 59, 60, 61] (by decide +kernel) (by decide +kernel)
set_option maxRecDepth 20000 in
theorem gX4_of_X3_wrongSums : GoodIn wsX4_of (wsV RX4 76 RX3 yX3_wrongSums wsX3_wrongSums) := goodIn_app (goodIn_of _ (by decide +kernel)) ggX4_of_X3_wrongSums
theorem dX4_of_0 : decode cX4_of 0 = .ok (.aload_n 0, 1) := by decide +kernel
theorem dX4_of_1 : decode cX4_of 1 = .ok (.iload_n 1, 1) := by decide +kernel
theorem dX4_of_2 : decode cX4_of 2 = .ok (.invokevirtual 57, 3) := by decide +kernel
theorem dX4_of_5 : decode cX4_of 5 = .ok (.ifCond .ne 5, 3) := by decide +kernel
theorem dX4_of_8 : decode cX4_of 8 = .ok (.iconst (-1), 1) := by decide +kernel
theorem dX4_of_9 : decode cX4_of 9 = .ok (.ireturn, 1) := by decide +kernel
theorem dX4_of_10 : decode cX4_of 10 = .ok (.aload_n 0, 1) := by decide +kernel
theorem dX4_of_11 : decode cX4_of 11 = .ok (.getfield 19, 3) := by decide +kernel
theorem dX4_of_14 : decode cX4_of 14 = .ok (.getfield 61, 3) := by decide +kernel
theorem dX4_of_17 : decode cX4_of 17 = .ok (.astore_n 3, 1) := by decide +kernel
theorem dX4_of_18 : decode cX4_of 18 = .ok (.iload_n 2, 1) := by decide +kernel
theorem dX4_of_19 : decode cX4_of 19 = .ok (.tableswitch 63 0 3 #[29, 36, 43, 57], 29) := by decide +kernel
theorem dX4_of_48 : decode cX4_of 48 = .ok (.aload_n 3, 1) := by decide +kernel
theorem dX4_of_49 : decode cX4_of 49 = .ok (.getfield 64, 3) := by decide +kernel
theorem dX4_of_52 : decode cX4_of 52 = .ok (.iload_n 1, 1) := by decide +kernel
theorem dX4_of_53 : decode cX4_of 53 = .ok (.iaload, 1) := by decide +kernel
theorem dX4_of_54 : decode cX4_of 54 = .ok (.ireturn, 1) := by decide +kernel
theorem dX4_of_55 : decode cX4_of 55 = .ok (.aload_n 3, 1) := by decide +kernel
theorem dX4_of_56 : decode cX4_of 56 = .ok (.getfield 70, 3) := by decide +kernel
theorem dX4_of_59 : decode cX4_of 59 = .ok (.iload_n 1, 1) := by decide +kernel
theorem dX4_of_60 : decode cX4_of 60 = .ok (.iaload, 1) := by decide +kernel
theorem dX4_of_61 : decode cX4_of 61 = .ok (.ireturn, 1) := by decide +kernel
theorem dX4_of_62 : decode cX4_of 62 = .ok (.iload_n 1, 1) := by decide +kernel
theorem dX4_of_63 : decode cX4_of 63 = .ok (.aload_n 3, 1) := by decide +kernel
theorem dX4_of_64 : decode cX4_of 64 = .ok (.getfield 73, 3) := by decide +kernel
theorem dX4_of_67 : decode cX4_of 67 = .ok (.if_icmp .lt 7, 3) := by decide +kernel
theorem dX4_of_70 : decode cX4_of 70 = .ok (.iconst 1, 1) := by decide +kernel
theorem dX4_of_71 : decode cX4_of 71 = .ok (.goto 4, 3) := by decide +kernel
theorem dX4_of_74 : decode cX4_of 74 = .ok (.iconst 0, 1) := by decide +kernel
theorem dX4_of_75 : decode cX4_of 75 = .ok (.ireturn, 1) := by decide +kernel
theorem dX4_of_76 : decode cX4_of 76 = .ok (.aload_n 3, 1) := by decide +kernel
theorem dX4_of_77 : decode cX4_of 77 = .ok (.iload_n 1, 1) := by decide +kernel
theorem dX4_of_78 : decode cX4_of 78 = .ok (.invokevirtual 76, 3) := by decide +kernel
theorem dX4_of_81 : decode cX4_of 81 = .ok (.ireturn, 1) := by decide +kernel
theorem dX4_of_82 : decode cX4_of 82 = .ok (.iconst (-1), 1) := by decide +kernel
theorem dX4_of_83 : decode cX4_of 83 = .ok (.ireturn, 1) := by decide +kernel
set_option maxRecDepth 20000 in
theorem ggX4_rest_X4_isRegister : GoodIn wsX4_rest wsX4_isRegister := goodIn_r _ [5, 6, 7, 4, 8] (by decide +kernel) (by decide +kernel)
set_option maxRecDepth 20000 in
theorem gX4_rest_X4_isRegister : GoodIn wsX4_rest (va_wsS RX4 80 yX4_isRegister wsX4_isRegister) := goodIn_app (goodIn_of _ (by decide +kernel)) ggX4_rest_X4_isRegister
set_option maxRecDepth 20000 in
theorem ggX4_rest_X4_isWheel : GoodIn wsX4_rest wsX4_isWheel := goodIn_r _ [12, 1, 13, 14, 6, 7, 4, 8, 21, 22, 23, 24, 25, 26, 27, 28, 29, 30, 31, 32, 33, 34, 35, 36, 37, 38, 39] (by decide +kernel) (by decide +kernel)
set_option maxRecDepth 20000 in
theorem gX4_rest_X4_isWheel : GoodIn wsX4_rest (wsV RX4 57 RX4 yX4_isWheel wsX4_isWheel) := goodIn_app (goodIn_of _ (by decide +kernel)) ggX4_rest_X4_isWheel
set_option maxRecDepth 20000 in
theorem ggX4_rest_X0_shown : GoodIn wsX4_rest wsX0_shown := goodIn_r _ [19, 20, 26, 27, 28, 29, 30, 31, 32] (by decide +kernel) (by decide +kernel)
set_option maxRecDepth 20000 in
theorem gX4_rest_X0_shown : GoodIn wsX4_rest (wsV RX4 83 RX0 yX0_shown wsX0_shown) := goodIn_app (goodIn_of _ (by decide +kernel)) ggX4_rest_X0_shown
theorem dX4_rest_0 : decode cX4_rest 0 = .ok (.iload_n 1, 1) := by decide +kernel
theorem dX4_rest_1 : decode cX4_rest 1 = .ok (.invokestatic 80, 3) := by decide +kernel
theorem dX4_rest_4 : decode cX4_rest 4 = .ok (.ifCond .eq 23, 3) := by decide +kernel
theorem dX4_rest_7 : decode cX4_rest 7 = .ok (.aload_n 0, 1) := by decide +kernel
theorem dX4_rest_8 : decode cX4_rest 8 = .ok (.iload_n 2, 1) := by decide +kernel
theorem dX4_rest_9 : decode cX4_rest 9 = .ok (.invokevirtual 57, 3) := by decide +kernel
theorem dX4_rest_12 : decode cX4_rest 12 = .ok (.ifCond .eq 15, 3) := by decide +kernel
theorem dX4_rest_15 : decode cX4_rest 15 = .ok (.aload_n 0, 1) := by decide +kernel
theorem dX4_rest_16 : decode cX4_rest 16 = .ok (.getfield 19, 3) := by decide +kernel
theorem dX4_rest_19 : decode cX4_rest 19 = .ok (.iload_n 1, 1) := by decide +kernel
theorem dX4_rest_20 : decode cX4_rest 20 = .ok (.iload_n 2, 1) := by decide +kernel
theorem dX4_rest_21 : decode cX4_rest 21 = .ok (.invokevirtual 83, 3) := by decide +kernel
theorem dX4_rest_24 : decode cX4_rest 24 = .ok (.goto 4, 3) := by decide +kernel
theorem dX4_rest_27 : decode cX4_rest 27 = .ok (.iconst (-1), 1) := by decide +kernel
theorem dX4_rest_28 : decode cX4_rest 28 = .ok (.ireturn, 1) := by decide +kernel
set_option maxRecDepth 20000 in
theorem ggX4_at_X4_isRegister : GoodIn wsX4_at wsX4_isRegister := goodIn_r _ [5, 6, 7, 4, 8] (by decide +kernel) (by decide +kernel)
set_option maxRecDepth 20000 in
theorem gX4_at_X4_isRegister : GoodIn wsX4_at (va_wsS RX4 80 yX4_isRegister wsX4_isRegister) := goodIn_app (goodIn_of _ (by decide +kernel)) ggX4_at_X4_isRegister
set_option maxRecDepth 20000 in
theorem ggX4_at_X4_isBelow : GoodIn wsX4_at wsX4_isBelow := goodIn_r _ [8] (by decide +kernel) (by decide +kernel)
set_option maxRecDepth 20000 in
theorem gX4_at_X4_isBelow : GoodIn wsX4_at (va_wsS RX4 87 yX4_isBelow wsX4_isBelow) := goodIn_app (goodIn_of _ (by decide +kernel)) ggX4_at_X4_isBelow
set_option maxRecDepth 20000 in
theorem ggX4_at_X0_value : GoodIn wsX4_at wsX0_value := goodIn_r _ [13, 14, 15, 16, 17, 18, 19, 20, 12, 21, 22, 34, 35, 36, 37, 38, 39, 40, 41, 42, 43, 44, 45, 46, 47] (by decide +kernel) (by decide +kernel)
set_option maxRecDepth 20000 in
theorem gX4_at_X0_value : GoodIn wsX4_at (wsV RX4 91 RX0 yX0_value wsX0_value) := goodIn_app (goodIn_of _ (by decide +kernel)) ggX4_at_X0_value
set_option maxRecDepth 20000 in
theorem ggX4_at_X0_isLegal : GoodIn wsX4_at wsX0_isLegal := goodIn_r _ [26, 14, 27, 28, 10, 11, 12, 13, 15, 16, 17, 18, 19, 20, 21, 22, 34, 35, 36, 37, 38, 39, 40, 41, 42, 43, 44, 45, 46, 47] (by decide +kernel) (by decide +kernel)
set_option maxRecDepth 20000 in
theorem gX4_at_X0_isLegal : GoodIn wsX4_at (wsV RX4 94 RX0 yX0_isLegal wsX0_isLegal) := goodIn_app (goodIn_of _ (by decide +kernel)) ggX4_at_X0_isLegal
theorem dX4_at_0 : decode cX4_at 0 = .ok (.iload_n 1, 1) := by decide +kernel
theorem dX4_at_1 : decode cX4_at 1 = .ok (.invokestatic 80, 3) := by decide +kernel
theorem dX4_at_4 : decode cX4_at 4 = .ok (.ifCond .eq 11, 3) := by decide +kernel
theorem dX4_at_7 : decode cX4_at 7 = .ok (.iload_n 2, 1) := by decide +kernel
theorem dX4_at_8 : decode cX4_at 8 = .ok (.iconst 2, 1) := by decide +kernel
theorem dX4_at_9 : decode cX4_at 9 = .ok (.invokestatic 87, 3) := by decide +kernel
theorem dX4_at_12 : decode cX4_at 12 = .ok (.ifCond .ne 5, 3) := by decide +kernel
theorem dX4_at_15 : decode cX4_at 15 = .ok (.iconst (-1), 1) := by decide +kernel
theorem dX4_at_16 : decode cX4_at 16 = .ok (.ireturn, 1) := by decide +kernel
theorem dX4_at_17 : decode cX4_at 17 = .ok (.iload_n 2, 1) := by decide +kernel
theorem dX4_at_18 : decode cX4_at 18 = .ok (.ifCond .ne 12, 3) := by decide +kernel
theorem dX4_at_21 : decode cX4_at 21 = .ok (.aload_n 0, 1) := by decide +kernel
theorem dX4_at_22 : decode cX4_at 22 = .ok (.getfield 19, 3) := by decide +kernel
theorem dX4_at_25 : decode cX4_at 25 = .ok (.iload_n 1, 1) := by decide +kernel
theorem dX4_at_26 : decode cX4_at 26 = .ok (.invokevirtual 91, 3) := by decide +kernel
theorem dX4_at_29 : decode cX4_at 29 = .ok (.ireturn, 1) := by decide +kernel
theorem dX4_at_30 : decode cX4_at 30 = .ok (.aload_n 0, 1) := by decide +kernel
theorem dX4_at_31 : decode cX4_at 31 = .ok (.getfield 19, 3) := by decide +kernel
theorem dX4_at_34 : decode cX4_at 34 = .ok (.iload_n 1, 1) := by decide +kernel
theorem dX4_at_35 : decode cX4_at 35 = .ok (.invokevirtual 94, 3) := by decide +kernel
theorem dX4_at_38 : decode cX4_at 38 = .ok (.ifCond .eq 7, 3) := by decide +kernel
theorem dX4_at_41 : decode cX4_at 41 = .ok (.iconst 1, 1) := by decide +kernel
theorem dX4_at_42 : decode cX4_at 42 = .ok (.goto 4, 3) := by decide +kernel
theorem dX4_at_45 : decode cX4_at 45 = .ok (.iconst 0, 1) := by decide +kernel
theorem dX4_at_46 : decode cX4_at 46 = .ok (.ireturn, 1) := by decide +kernel
set_option maxRecDepth 20000 in
theorem ggX4_shows_X4_isWheel : GoodIn wsX4_shows wsX4_isWheel := goodIn_r _ [8, 1, 2, 9, 10, 11, 7, 12, 42, 43, 44, 45, 46, 47, 48, 49, 50, 51, 52, 53, 54, 55, 56, 57, 58, 59, 60] (by decide +kernel) (by decide +kernel)
set_option maxRecDepth 20000 in
theorem gX4_shows_X4_isWheel : GoodIn wsX4_shows (wsV RX4 57 RX4 yX4_isWheel wsX4_isWheel) := goodIn_app (goodIn_of _ (by decide +kernel)) ggX4_shows_X4_isWheel
set_option maxRecDepth 20000 in
theorem ggX4_shows_X4_isBelow : GoodIn wsX4_shows wsX4_isBelow := goodIn_r _ [12] (by decide +kernel) (by decide +kernel)
set_option maxRecDepth 20000 in
theorem gX4_shows_X4_isBelow : GoodIn wsX4_shows (va_wsS RX4 87 yX4_isBelow wsX4_isBelow) := goodIn_app (goodIn_of _ (by decide +kernel)) ggX4_shows_X4_isBelow
set_option maxRecDepth 20000 in
theorem ggX4_shows_X3_added : GoodIn wsX4_shows wsX3_added := goodIn_r _ [17, 18, 19, 20, 21, 16, 22, 23, 24, 25, 26, 27, 28, 29, 30, 31, 32, 54, 55, 56, 57, 58, 59, 60] (by decide +kernel) (by decide +kernel)
set_option maxRecDepth 20000 in
theorem gX4_shows_X3_added : GoodIn wsX4_shows (wsV RX4 97 RX3 yX3_added wsX3_added) := goodIn_app (goodIn_of _ (by decide +kernel)) ggX4_shows_X3_added
set_option maxRecDepth 20000 in
theorem ggX4_shows_X3_multiplied : GoodIn wsX4_shows wsX3_multiplied := goodIn_r _ [36, 37, 38, 39, 16, 40, 41, 14, 15, 17, 18, 19, 20, 21, 22, 23, 24, 25, 26, 27, 28, 29, 30, 31, 32, 54, 55, 56, 57, 58, 59, 60] (by decide +kernel) (by decide +kernel)
set_option maxRecDepth 20000 in
theorem gX4_shows_X3_multiplied : GoodIn wsX4_shows (wsV RX4 101 RX3 yX3_multiplied wsX3_multiplied) := goodIn_app (goodIn_of _ (by decide +kernel)) ggX4_shows_X3_multiplied
theorem dX4_shows_0 : decode cX4_shows 0 = .ok (.aload_n 0, 1) := by decide +kernel
theorem dX4_shows_1 : decode cX4_shows 1 = .ok (.iload_n 1, 1) := by decide +kernel
theorem dX4_shows_2 : decode cX4_shows 2 = .ok (.invokevirtual 57, 3) := by decide +kernel
theorem dX4_shows_5 : decode cX4_shows 5 = .ok (.ifCond .eq 12, 3) := by decide +kernel
theorem dX4_shows_8 : decode cX4_shows 8 = .ok (.iload 4, 2) := by decide +kernel
theorem dX4_shows_10 : decode cX4_shows 10 = .ok (.iconst 2, 1) := by decide +kernel
theorem dX4_shows_11 : decode cX4_shows 11 = .ok (.invokestatic 87, 3) := by decide +kernel
theorem dX4_shows_14 : decode cX4_shows 14 = .ok (.ifCond .ne 5, 3) := by decide +kernel
theorem dX4_shows_17 : decode cX4_shows 17 = .ok (.iconst (-1), 1) := by decide +kernel
theorem dX4_shows_18 : decode cX4_shows 18 = .ok (.ireturn, 1) := by decide +kernel
theorem dX4_shows_19 : decode cX4_shows 19 = .ok (.aload_n 0, 1) := by decide +kernel
theorem dX4_shows_20 : decode cX4_shows 20 = .ok (.getfield 19, 3) := by decide +kernel
theorem dX4_shows_23 : decode cX4_shows 23 = .ok (.getfield 61, 3) := by decide +kernel
theorem dX4_shows_26 : decode cX4_shows 26 = .ok (.astore 5, 2) := by decide +kernel
theorem dX4_shows_28 : decode cX4_shows 28 = .ok (.iload_n 2, 1) := by decide +kernel
theorem dX4_shows_29 : decode cX4_shows 29 = .ok (.aload 5, 2) := by decide +kernel
theorem dX4_shows_31 : decode cX4_shows 31 = .ok (.getfield 70, 3) := by decide +kernel
theorem dX4_shows_34 : decode cX4_shows 34 = .ok (.iload_n 1, 1) := by decide +kernel
theorem dX4_shows_35 : decode cX4_shows 35 = .ok (.iaload, 1) := by decide +kernel
theorem dX4_shows_36 : decode cX4_shows 36 = .ok (.invokestatic 87, 3) := by decide +kernel
theorem dX4_shows_39 : decode cX4_shows 39 = .ok (.ifCond .eq 17, 3) := by decide +kernel
theorem dX4_shows_42 : decode cX4_shows 42 = .ok (.iload_n 3, 1) := by decide +kernel
theorem dX4_shows_43 : decode cX4_shows 43 = .ok (.aload 5, 2) := by decide +kernel
theorem dX4_shows_45 : decode cX4_shows 45 = .ok (.getfield 70, 3) := by decide +kernel
theorem dX4_shows_48 : decode cX4_shows 48 = .ok (.iload_n 1, 1) := by decide +kernel
theorem dX4_shows_49 : decode cX4_shows 49 = .ok (.iaload, 1) := by decide +kernel
theorem dX4_shows_50 : decode cX4_shows 50 = .ok (.invokestatic 87, 3) := by decide +kernel
theorem dX4_shows_53 : decode cX4_shows 53 = .ok (.ifCond .ne 5, 3) := by decide +kernel
theorem dX4_shows_56 : decode cX4_shows 56 = .ok (.iconst (-1), 1) := by decide +kernel
theorem dX4_shows_57 : decode cX4_shows 57 = .ok (.ireturn, 1) := by decide +kernel
theorem dX4_shows_58 : decode cX4_shows 58 = .ok (.iload 4, 2) := by decide +kernel
theorem dX4_shows_60 : decode cX4_shows 60 = .ok (.ifCond .ne 14, 3) := by decide +kernel
theorem dX4_shows_63 : decode cX4_shows 63 = .ok (.aload 5, 2) := by decide +kernel
theorem dX4_shows_65 : decode cX4_shows 65 = .ok (.iload_n 1, 1) := by decide +kernel
theorem dX4_shows_66 : decode cX4_shows 66 = .ok (.iload_n 2, 1) := by decide +kernel
theorem dX4_shows_67 : decode cX4_shows 67 = .ok (.iload_n 3, 1) := by decide +kernel
theorem dX4_shows_68 : decode cX4_shows 68 = .ok (.invokevirtual 97, 3) := by decide +kernel
theorem dX4_shows_71 : decode cX4_shows 71 = .ok (.goto 11, 3) := by decide +kernel
theorem dX4_shows_74 : decode cX4_shows 74 = .ok (.aload 5, 2) := by decide +kernel
theorem dX4_shows_76 : decode cX4_shows 76 = .ok (.iload_n 1, 1) := by decide +kernel
theorem dX4_shows_77 : decode cX4_shows 77 = .ok (.iload_n 2, 1) := by decide +kernel
theorem dX4_shows_78 : decode cX4_shows 78 = .ok (.iload_n 3, 1) := by decide +kernel
theorem dX4_shows_79 : decode cX4_shows 79 = .ok (.invokevirtual 101, 3) := by decide +kernel
theorem dX4_shows_82 : decode cX4_shows 82 = .ok (.ireturn, 1) := by decide +kernel
set_option maxRecDepth 20000 in
theorem ggX4_count_X0_legalOnes : GoodIn wsX4_count wsX0_legalOnes := goodIn_r _ [12, 13, 14, 15, 11, 16, 17, 18, 19, 20, 21, 22, 23, 24, 25, 26, 27, 28, 29, 30, 43, 44, 45, 46, 47, 48, 49, 50, 51, 52, 53, 54, 55, 56] (by decide +kernel) (by decide +kernel)
set_option maxRecDepth 20000 in
theorem gX4_count_X0_legalOnes : GoodIn wsX4_count (wsV RX4 113 RX0 yX0_legalOnes wsX0_legalOnes) := goodIn_app (goodIn_of _ (by decide +kernel)) ggX4_count_X0_legalOnes
set_option maxRecDepth 20000 in
theorem ggX4_count_X3_plainOnes : GoodIn wsX4_count wsX3_plainOnes := goodIn_r _ [35, 36, 37, 50, 51, 52, 53, 54, 55, 56] (by decide +kernel) (by decide +kernel)
set_option maxRecDepth 20000 in
theorem gX4_count_X3_plainOnes : GoodIn wsX4_count (wsV RX4 116 RX3 yX3_plainOnes wsX3_plainOnes) := goodIn_app (goodIn_of _ (by decide +kernel)) ggX4_count_X3_plainOnes
theorem dX4_count_0 : decode cX4_count 0 = .ok (.aload_n 0, 1) := by decide +kernel
theorem dX4_count_1 : decode cX4_count 1 = .ok (.getfield 19, 3) := by decide +kernel
theorem dX4_count_4 : decode cX4_count 4 = .ok (.getfield 61, 3) := by decide +kernel
theorem dX4_count_7 : decode cX4_count 7 = .ok (.astore_n 2, 1) := by decide +kernel
theorem dX4_count_8 : decode cX4_count 8 = .ok (.iload_n 1, 1) := by decide +kernel
theorem dX4_count_9 : decode cX4_count 9 = .ok (.tableswitch 84 0 6 #[43, 48, 53, 58, 63, 71, 76], 43) := by decide +kernel
theorem dX4_count_52 : decode cX4_count 52 = .ok (.aload_n 2, 1) := by decide +kernel
theorem dX4_count_53 : decode cX4_count 53 = .ok (.getfield 104, 3) := by decide +kernel
theorem dX4_count_56 : decode cX4_count 56 = .ok (.ireturn, 1) := by decide +kernel
theorem dX4_count_57 : decode cX4_count 57 = .ok (.aload_n 2, 1) := by decide +kernel
theorem dX4_count_58 : decode cX4_count 58 = .ok (.getfield 73, 3) := by decide +kernel
theorem dX4_count_61 : decode cX4_count 61 = .ok (.ireturn, 1) := by decide +kernel
theorem dX4_count_62 : decode cX4_count 62 = .ok (.aload_n 2, 1) := by decide +kernel
theorem dX4_count_63 : decode cX4_count 63 = .ok (.getfield 107, 3) := by decide +kernel
theorem dX4_count_66 : decode cX4_count 66 = .ok (.ireturn, 1) := by decide +kernel
theorem dX4_count_67 : decode cX4_count 67 = .ok (.aload_n 2, 1) := by decide +kernel
theorem dX4_count_68 : decode cX4_count 68 = .ok (.getfield 110, 3) := by decide +kernel
theorem dX4_count_71 : decode cX4_count 71 = .ok (.ireturn, 1) := by decide +kernel
theorem dX4_count_72 : decode cX4_count 72 = .ok (.aload_n 0, 1) := by decide +kernel
theorem dX4_count_73 : decode cX4_count 73 = .ok (.getfield 19, 3) := by decide +kernel
theorem dX4_count_76 : decode cX4_count 76 = .ok (.invokevirtual 113, 3) := by decide +kernel
theorem dX4_count_79 : decode cX4_count 79 = .ok (.ireturn, 1) := by decide +kernel
theorem dX4_count_80 : decode cX4_count 80 = .ok (.aload_n 2, 1) := by decide +kernel
theorem dX4_count_81 : decode cX4_count 81 = .ok (.invokevirtual 116, 3) := by decide +kernel
theorem dX4_count_84 : decode cX4_count 84 = .ok (.ireturn, 1) := by decide +kernel
theorem dX4_count_85 : decode cX4_count 85 = .ok (.aload_n 0, 1) := by decide +kernel
theorem dX4_count_86 : decode cX4_count 86 = .ok (.getfield 19, 3) := by decide +kernel
theorem dX4_count_89 : decode cX4_count 89 = .ok (.getfield 119, 3) := by decide +kernel
theorem dX4_count_92 : decode cX4_count 92 = .ok (.ireturn, 1) := by decide +kernel
theorem dX4_count_93 : decode cX4_count 93 = .ok (.iconst (-1), 1) := by decide +kernel
theorem dX4_count_94 : decode cX4_count 94 = .ok (.ireturn, 1) := by decide +kernel
set_option maxRecDepth 20000 in
theorem ggX4_lay_X4_isRegister : GoodIn wsX4_lay wsX4_isRegister := goodIn_r _ [7, 8, 9, 6, 10] (by decide +kernel) (by decide +kernel)
set_option maxRecDepth 20000 in
theorem gX4_lay_X4_isRegister : GoodIn wsX4_lay (va_wsS RX4 80 yX4_isRegister wsX4_isRegister) := goodIn_app (goodIn_of _ (by decide +kernel)) ggX4_lay_X4_isRegister
set_option maxRecDepth 20000 in
theorem ggX4_lay_X4_isBelow : GoodIn wsX4_lay wsX4_isBelow := goodIn_r _ [10] (by decide +kernel) (by decide +kernel)
set_option maxRecDepth 20000 in
theorem gX4_lay_X4_isBelow : GoodIn wsX4_lay (va_wsS RX4 87 yX4_isBelow wsX4_isBelow) := goodIn_app (goodIn_of _ (by decide +kernel)) ggX4_lay_X4_isBelow
set_option maxRecDepth 20000 in
theorem ggX4_lay_X0_value : GoodIn wsX4_lay wsX0_value := goodIn_r _ [15, 16, 17, 18, 19, 20, 21, 22, 14, 23, 24, 56, 57, 58, 59, 60, 61, 62, 63, 64, 65, 66, 67, 68, 69] (by decide +kernel) (by decide +kernel)
set_option maxRecDepth 20000 in
theorem gX4_lay_X0_value : GoodIn wsX4_lay (wsV RX4 91 RX0 yX0_value wsX0_value) := goodIn_app (goodIn_of _ (by decide +kernel)) ggX4_lay_X0_value
set_option maxRecDepth 20000 in
theorem ggX4_lay_X0_remember : GoodIn wsX4_lay wsX0_remember := goodIn_r _ [28, 24, 29, 30, 31, 32, 33, 34, 35, 36, 37, 38, 39, 40, 41, 56, 57, 58, 59, 60, 61, 62] (by decide +kernel) (by decide +kernel)
set_option maxRecDepth 20000 in
theorem gX4_lay_X0_remember : GoodIn wsX4_lay (wsV RX4 122 RX0 yX0_remember wsX0_remember) := goodIn_app (goodIn_of _ (by decide +kernel)) ggX4_lay_X0_remember
set_option maxRecDepth 20000 in
theorem ggX4_lay_X0_put : GoodIn wsX4_lay wsX0_put := goodIn_r _ [45, 16, 17, 46, 47, 48, 49, 14, 50, 24, 56, 57, 58, 59, 60, 61, 62, 63, 64, 65, 66, 67, 68, 69] (by decide +kernel) (by decide +kernel)
set_option maxRecDepth 20000 in
theorem gX4_lay_X0_put : GoodIn wsX4_lay (wsV RX4 125 RX0 yX0_put wsX0_put) := goodIn_app (goodIn_of _ (by decide +kernel)) ggX4_lay_X0_put
theorem dX4_lay_0 : decode cX4_lay 0 = .ok (.iload_n 1, 1) := by decide +kernel
theorem dX4_lay_1 : decode cX4_lay 1 = .ok (.invokestatic 80, 3) := by decide +kernel
theorem dX4_lay_4 : decode cX4_lay 4 = .ok (.ifCond .eq 20, 3) := by decide +kernel
theorem dX4_lay_7 : decode cX4_lay 7 = .ok (.iload_n 2, 1) := by decide +kernel
theorem dX4_lay_8 : decode cX4_lay 8 = .ok (.aload_n 0, 1) := by decide +kernel
theorem dX4_lay_9 : decode cX4_lay 9 = .ok (.getfield 19, 3) := by decide +kernel
theorem dX4_lay_12 : decode cX4_lay 12 = .ok (.getfield 61, 3) := by decide +kernel
theorem dX4_lay_15 : decode cX4_lay 15 = .ok (.getfield 110, 3) := by decide +kernel
theorem dX4_lay_18 : decode cX4_lay 18 = .ok (.invokestatic 87, 3) := by decide +kernel
theorem dX4_lay_21 : decode cX4_lay 21 = .ok (.ifCond .ne 5, 3) := by decide +kernel
theorem dX4_lay_24 : decode cX4_lay 24 = .ok (.iconst (-1), 1) := by decide +kernel
theorem dX4_lay_25 : decode cX4_lay 25 = .ok (.ireturn, 1) := by decide +kernel
theorem dX4_lay_26 : decode cX4_lay 26 = .ok (.aload_n 0, 1) := by decide +kernel
theorem dX4_lay_27 : decode cX4_lay 27 = .ok (.getfield 19, 3) := by decide +kernel
theorem dX4_lay_30 : decode cX4_lay 30 = .ok (.iload_n 1, 1) := by decide +kernel
theorem dX4_lay_31 : decode cX4_lay 31 = .ok (.invokevirtual 91, 3) := by decide +kernel
theorem dX4_lay_34 : decode cX4_lay 34 = .ok (.istore_n 3, 1) := by decide +kernel
theorem dX4_lay_35 : decode cX4_lay 35 = .ok (.aload_n 0, 1) := by decide +kernel
theorem dX4_lay_36 : decode cX4_lay 36 = .ok (.getfield 19, 3) := by decide +kernel
theorem dX4_lay_39 : decode cX4_lay 39 = .ok (.invokevirtual 122, 3) := by decide +kernel
theorem dX4_lay_42 : decode cX4_lay 42 = .ok (.aload_n 0, 1) := by decide +kernel
theorem dX4_lay_43 : decode cX4_lay 43 = .ok (.getfield 19, 3) := by decide +kernel
theorem dX4_lay_46 : decode cX4_lay 46 = .ok (.iload_n 1, 1) := by decide +kernel
theorem dX4_lay_47 : decode cX4_lay 47 = .ok (.iload_n 2, 1) := by decide +kernel
theorem dX4_lay_48 : decode cX4_lay 48 = .ok (.invokevirtual 125, 3) := by decide +kernel
theorem dX4_lay_51 : decode cX4_lay 51 = .ok (.iload_n 3, 1) := by decide +kernel
theorem dX4_lay_52 : decode cX4_lay 52 = .ok (.ireturn, 1) := by decide +kernel
set_option maxRecDepth 20000 in
theorem ggX4_add_X4_isRegister : GoodIn wsX4_add wsX4_isRegister := goodIn_r _ [5, 6, 7, 4, 8] (by decide +kernel) (by decide +kernel)
set_option maxRecDepth 20000 in
theorem gX4_add_X4_isRegister : GoodIn wsX4_add (va_wsS RX4 80 yX4_isRegister wsX4_isRegister) := goodIn_app (goodIn_of _ (by decide +kernel)) ggX4_add_X4_isRegister
set_option maxRecDepth 20000 in
theorem ggX4_add_X0_remember : GoodIn wsX4_add wsX0_remember := goodIn_r _ [13, 14, 15, 16, 17, 18, 19, 20, 21, 22, 23, 24, 25, 26, 27, 72, 73, 74, 75, 76, 77, 78] (by decide +kernel) (by decide +kernel)
set_option maxRecDepth 20000 in
theorem gX4_add_X0_remember : GoodIn wsX4_add (wsV RX4 122 RX0 yX0_remember wsX0_remember) := goodIn_app (goodIn_of _ (by decide +kernel)) ggX4_add_X0_remember
set_option maxRecDepth 20000 in
theorem ggX4_add_X0_addTo : GoodIn wsX4_add wsX0_addTo := goodIn_r _ [31, 32, 33, 34, 35, 36, 12, 37, 14, 38, 39, 40, 41, 42, 43, 44, 45, 46, 47, 48, 49, 50, 51, 52, 26, 53, 54, 55, 56, 57, 58, 59, 60, 72, 73, 74, 75, 76, 77, 78, 79, 80, 81, 82, 83, 84, 85] (by decide +kernel) (by decide +kernel)
set_option maxRecDepth 20000 in
theorem gX4_add_X0_addTo : GoodIn wsX4_add (wsV RX4 129 RX0 yX0_addTo wsX0_addTo) := goodIn_app (goodIn_of _ (by decide +kernel)) ggX4_add_X0_addTo
set_option maxRecDepth 20000 in
theorem ggX4_add_X0_value : GoodIn wsX4_add wsX0_value := goodIn_r _ [64, 32, 33, 65, 66, 34, 35, 36, 12, 37, 14, 72, 73, 74, 75, 76, 77, 78, 79, 80, 81, 82, 83, 84, 85] (by decide +kernel) (by decide +kernel)
set_option maxRecDepth 20000 in
theorem gX4_add_X0_value : GoodIn wsX4_add (wsV RX4 91 RX0 yX0_value wsX0_value) := goodIn_app (goodIn_of _ (by decide +kernel)) ggX4_add_X0_value
theorem dX4_add_0 : decode cX4_add 0 = .ok (.iload_n 1, 1) := by decide +kernel
theorem dX4_add_1 : decode cX4_add 1 = .ok (.invokestatic 80, 3) := by decide +kernel
theorem dX4_add_4 : decode cX4_add 4 = .ok (.ifCond .eq 10, 3) := by decide +kernel
theorem dX4_add_7 : decode cX4_add 7 = .ok (.iload_n 2, 1) := by decide +kernel
theorem dX4_add_8 : decode cX4_add 8 = .ok (.invokestatic 80, 3) := by decide +kernel
theorem dX4_add_11 : decode cX4_add 11 = .ok (.ifCond .ne 5, 3) := by decide +kernel
theorem dX4_add_14 : decode cX4_add 14 = .ok (.iconst (-1), 1) := by decide +kernel
theorem dX4_add_15 : decode cX4_add 15 = .ok (.ireturn, 1) := by decide +kernel
theorem dX4_add_16 : decode cX4_add 16 = .ok (.aload_n 0, 1) := by decide +kernel
theorem dX4_add_17 : decode cX4_add 17 = .ok (.getfield 19, 3) := by decide +kernel
theorem dX4_add_20 : decode cX4_add 20 = .ok (.invokevirtual 122, 3) := by decide +kernel
theorem dX4_add_23 : decode cX4_add 23 = .ok (.aload_n 0, 1) := by decide +kernel
theorem dX4_add_24 : decode cX4_add 24 = .ok (.getfield 19, 3) := by decide +kernel
theorem dX4_add_27 : decode cX4_add 27 = .ok (.iload_n 1, 1) := by decide +kernel
theorem dX4_add_28 : decode cX4_add 28 = .ok (.iload_n 2, 1) := by decide +kernel
theorem dX4_add_29 : decode cX4_add 29 = .ok (.invokevirtual 129, 3) := by decide +kernel
theorem dX4_add_32 : decode cX4_add 32 = .ok (.aload_n 0, 1) := by decide +kernel
theorem dX4_add_33 : decode cX4_add 33 = .ok (.getfield 19, 3) := by decide +kernel
theorem dX4_add_36 : decode cX4_add 36 = .ok (.iload_n 1, 1) := by decide +kernel
theorem dX4_add_37 : decode cX4_add 37 = .ok (.invokevirtual 91, 3) := by decide +kernel
theorem dX4_add_40 : decode cX4_add 40 = .ok (.ireturn, 1) := by decide +kernel
set_option maxRecDepth 20000 in
theorem ggX4_times_X4_isRegister : GoodIn wsX4_times wsX4_isRegister := goodIn_r _ [5, 6, 7, 4, 8] (by decide +kernel) (by decide +kernel)
set_option maxRecDepth 20000 in
theorem gX4_times_X4_isRegister : GoodIn wsX4_times (va_wsS RX4 80 yX4_isRegister wsX4_isRegister) := goodIn_app (goodIn_of _ (by decide +kernel)) ggX4_times_X4_isRegister
set_option maxRecDepth 20000 in
theorem ggX4_times_X0_remember : GoodIn wsX4_times wsX0_remember := goodIn_r _ [13, 14, 15, 16, 17, 18, 19, 20, 21, 22, 23, 24, 25, 26, 27, 80, 81, 82, 83, 84, 85, 86] (by decide +kernel) (by decide +kernel)
set_option maxRecDepth 20000 in
theorem gX4_times_X0_remember : GoodIn wsX4_times (wsV RX4 122 RX0 yX0_remember wsX0_remember) := goodIn_app (goodIn_of _ (by decide +kernel)) ggX4_times_X0_remember
set_option maxRecDepth 20000 in
theorem ggX4_times_X0_multiplyBy : GoodIn wsX4_times wsX0_multiplyBy := goodIn_r _ [31, 32, 33, 34, 35, 36, 12, 37, 14, 38, 39, 40, 41, 42, 43, 44, 45, 46, 47, 48, 49, 50, 51, 52, 53, 54, 55, 56, 57, 58, 59, 60, 26, 61, 62, 63, 64, 65, 66, 67, 68, 80, 81, 82, 83, 84, 85, 86, 87, 88, 89, 90, 91, 92, 93] (by decide +kernel) (by decide +kernel)
set_option maxRecDepth 20000 in
theorem gX4_times_X0_multiplyBy : GoodIn wsX4_times (wsV RX4 132 RX0 yX0_multiplyBy wsX0_multiplyBy) := goodIn_app (goodIn_of _ (by decide +kernel)) ggX4_times_X0_multiplyBy
set_option maxRecDepth 20000 in
theorem ggX4_times_X0_value : GoodIn wsX4_times wsX0_value := goodIn_r _ [72, 32, 33, 73, 74, 34, 35, 36, 12, 37, 14, 80, 81, 82, 83, 84, 85, 86, 87, 88, 89, 90, 91, 92, 93] (by decide +kernel) (by decide +kernel)
set_option maxRecDepth 20000 in
theorem gX4_times_X0_value : GoodIn wsX4_times (wsV RX4 91 RX0 yX0_value wsX0_value) := goodIn_app (goodIn_of _ (by decide +kernel)) ggX4_times_X0_value
theorem dX4_times_0 : decode cX4_times 0 = .ok (.iload_n 1, 1) := by decide +kernel
theorem dX4_times_1 : decode cX4_times 1 = .ok (.invokestatic 80, 3) := by decide +kernel
theorem dX4_times_4 : decode cX4_times 4 = .ok (.ifCond .eq 10, 3) := by decide +kernel
theorem dX4_times_7 : decode cX4_times 7 = .ok (.iload_n 2, 1) := by decide +kernel
theorem dX4_times_8 : decode cX4_times 8 = .ok (.invokestatic 80, 3) := by decide +kernel
theorem dX4_times_11 : decode cX4_times 11 = .ok (.ifCond .ne 5, 3) := by decide +kernel
theorem dX4_times_14 : decode cX4_times 14 = .ok (.iconst (-1), 1) := by decide +kernel
theorem dX4_times_15 : decode cX4_times 15 = .ok (.ireturn, 1) := by decide +kernel
theorem dX4_times_16 : decode cX4_times 16 = .ok (.aload_n 0, 1) := by decide +kernel
theorem dX4_times_17 : decode cX4_times 17 = .ok (.getfield 19, 3) := by decide +kernel
theorem dX4_times_20 : decode cX4_times 20 = .ok (.invokevirtual 122, 3) := by decide +kernel
theorem dX4_times_23 : decode cX4_times 23 = .ok (.aload_n 0, 1) := by decide +kernel
theorem dX4_times_24 : decode cX4_times 24 = .ok (.getfield 19, 3) := by decide +kernel
theorem dX4_times_27 : decode cX4_times 27 = .ok (.iload_n 1, 1) := by decide +kernel
theorem dX4_times_28 : decode cX4_times 28 = .ok (.iload_n 2, 1) := by decide +kernel
theorem dX4_times_29 : decode cX4_times 29 = .ok (.invokevirtual 132, 3) := by decide +kernel
theorem dX4_times_32 : decode cX4_times 32 = .ok (.aload_n 0, 1) := by decide +kernel
theorem dX4_times_33 : decode cX4_times 33 = .ok (.getfield 19, 3) := by decide +kernel
theorem dX4_times_36 : decode cX4_times 36 = .ok (.iload_n 1, 1) := by decide +kernel
theorem dX4_times_37 : decode cX4_times 37 = .ok (.invokevirtual 91, 3) := by decide +kernel
theorem dX4_times_40 : decode cX4_times 40 = .ok (.ireturn, 1) := by decide +kernel
set_option maxRecDepth 20000 in
theorem ggX4_negate_X4_isRegister : GoodIn wsX4_negate wsX4_isRegister := goodIn_r _ [5, 6, 7, 4, 8] (by decide +kernel) (by decide +kernel)
set_option maxRecDepth 20000 in
theorem gX4_negate_X4_isRegister : GoodIn wsX4_negate (va_wsS RX4 80 yX4_isRegister wsX4_isRegister) := goodIn_app (goodIn_of _ (by decide +kernel)) ggX4_negate_X4_isRegister
set_option maxRecDepth 20000 in
theorem ggX4_negate_X0_remember : GoodIn wsX4_negate wsX0_remember := goodIn_r _ [13, 14, 15, 16, 17, 18, 19, 20, 21, 22, 23, 24, 25, 26, 27, 54, 55, 56, 57, 58, 59, 60] (by decide +kernel) (by decide +kernel)
set_option maxRecDepth 20000 in
theorem gX4_negate_X0_remember : GoodIn wsX4_negate (wsV RX4 122 RX0 yX0_remember wsX0_remember) := goodIn_app (goodIn_of _ (by decide +kernel)) ggX4_negate_X0_remember
set_option maxRecDepth 20000 in
theorem ggX4_negate_X0_turnAbout : GoodIn wsX4_negate wsX0_turnAbout := goodIn_r _ [31, 32, 33, 34, 35, 36, 37, 12, 38, 14, 39, 40, 41, 42, 54, 55, 56, 57, 58, 59, 60, 61, 62, 63, 64, 65, 66, 67] (by decide +kernel) (by decide +kernel)
set_option maxRecDepth 20000 in
theorem gX4_negate_X0_turnAbout : GoodIn wsX4_negate (wsV RX4 135 RX0 yX0_turnAbout wsX0_turnAbout) := goodIn_app (goodIn_of _ (by decide +kernel)) ggX4_negate_X0_turnAbout
set_option maxRecDepth 20000 in
theorem ggX4_negate_X0_value : GoodIn wsX4_negate wsX0_value := goodIn_r _ [46, 32, 33, 47, 48, 35, 36, 37, 12, 38, 14, 54, 55, 56, 57, 58, 59, 60, 61, 62, 63, 64, 65, 66, 67] (by decide +kernel) (by decide +kernel)
set_option maxRecDepth 20000 in
theorem gX4_negate_X0_value : GoodIn wsX4_negate (wsV RX4 91 RX0 yX0_value wsX0_value) := goodIn_app (goodIn_of _ (by decide +kernel)) ggX4_negate_X0_value
theorem dX4_negate_0 : decode cX4_negate 0 = .ok (.iload_n 1, 1) := by decide +kernel
theorem dX4_negate_1 : decode cX4_negate 1 = .ok (.invokestatic 80, 3) := by decide +kernel
theorem dX4_negate_4 : decode cX4_negate 4 = .ok (.ifCond .ne 5, 3) := by decide +kernel
theorem dX4_negate_7 : decode cX4_negate 7 = .ok (.iconst (-1), 1) := by decide +kernel
theorem dX4_negate_8 : decode cX4_negate 8 = .ok (.ireturn, 1) := by decide +kernel
theorem dX4_negate_9 : decode cX4_negate 9 = .ok (.aload_n 0, 1) := by decide +kernel
theorem dX4_negate_10 : decode cX4_negate 10 = .ok (.getfield 19, 3) := by decide +kernel
theorem dX4_negate_13 : decode cX4_negate 13 = .ok (.invokevirtual 122, 3) := by decide +kernel
theorem dX4_negate_16 : decode cX4_negate 16 = .ok (.aload_n 0, 1) := by decide +kernel
theorem dX4_negate_17 : decode cX4_negate 17 = .ok (.getfield 19, 3) := by decide +kernel
theorem dX4_negate_20 : decode cX4_negate 20 = .ok (.iload_n 1, 1) := by decide +kernel
theorem dX4_negate_21 : decode cX4_negate 21 = .ok (.invokevirtual 135, 3) := by decide +kernel
theorem dX4_negate_24 : decode cX4_negate 24 = .ok (.aload_n 0, 1) := by decide +kernel
theorem dX4_negate_25 : decode cX4_negate 25 = .ok (.getfield 19, 3) := by decide +kernel
theorem dX4_negate_28 : decode cX4_negate 28 = .ok (.iload_n 1, 1) := by decide +kernel
theorem dX4_negate_29 : decode cX4_negate 29 = .ok (.invokevirtual 91, 3) := by decide +kernel
theorem dX4_negate_32 : decode cX4_negate 32 = .ok (.ireturn, 1) := by decide +kernel
set_option maxRecDepth 20000 in
theorem ggX4_slip_X4_isRegister : GoodIn wsX4_slip wsX4_isRegister := goodIn_r _ [7, 8, 9, 6, 10] (by decide +kernel) (by decide +kernel)
set_option maxRecDepth 20000 in
theorem gX4_slip_X4_isRegister : GoodIn wsX4_slip (va_wsS RX4 80 yX4_isRegister wsX4_isRegister) := goodIn_app (goodIn_of _ (by decide +kernel)) ggX4_slip_X4_isRegister
set_option maxRecDepth 20000 in
theorem ggX4_slip_X4_isWheel : GoodIn wsX4_slip wsX4_isWheel := goodIn_r _ [14, 1, 2, 15, 8, 9, 6, 10, 43, 44, 45, 46, 47, 48, 49, 50, 51, 52, 53, 54, 55, 56, 57, 58, 59, 60, 61] (by decide +kernel) (by decide +kernel)
set_option maxRecDepth 20000 in
theorem gX4_slip_X4_isWheel : GoodIn wsX4_slip (wsV RX4 57 RX4 yX4_isWheel wsX4_isWheel) := goodIn_app (goodIn_of _ (by decide +kernel)) ggX4_slip_X4_isWheel
set_option maxRecDepth 20000 in
theorem ggX4_slip_X4_isBelow : GoodIn wsX4_slip wsX4_isBelow := goodIn_r _ [10] (by decide +kernel) (by decide +kernel)
set_option maxRecDepth 20000 in
theorem gX4_slip_X4_isBelow : GoodIn wsX4_slip (va_wsS RX4 87 yX4_isBelow wsX4_isBelow) := goodIn_app (goodIn_of _ (by decide +kernel)) ggX4_slip_X4_isBelow
set_option maxRecDepth 20000 in
theorem ggX4_slip_X0_shown : GoodIn wsX4_slip wsX0_shown := goodIn_r _ [20, 21, 48, 49, 50, 51, 52, 53, 54] (by decide +kernel) (by decide +kernel)
set_option maxRecDepth 20000 in
theorem gX4_slip_X0_shown : GoodIn wsX4_slip (wsV RX4 83 RX0 yX0_shown wsX0_shown) := goodIn_app (goodIn_of _ (by decide +kernel)) ggX4_slip_X0_shown
set_option maxRecDepth 20000 in
theorem ggX4_slip_X0_remember : GoodIn wsX4_slip wsX0_remember := goodIn_r _ [25, 21, 26, 27, 28, 29, 30, 31, 32, 33, 34, 35, 36, 37, 38, 48, 49, 50, 51, 52, 53, 54] (by decide +kernel) (by decide +kernel)
set_option maxRecDepth 20000 in
theorem gX4_slip_X0_remember : GoodIn wsX4_slip (wsV RX4 122 RX0 yX0_remember wsX0_remember) := goodIn_app (goodIn_of _ (by decide +kernel)) ggX4_slip_X0_remember
set_option maxRecDepth 20000 in
theorem ggX4_slip_X0_show : GoodIn wsX4_slip wsX0_show := goodIn_r _ [42, 21, 48, 49, 50, 51, 52, 53, 54] (by decide +kernel) (by decide +kernel)
set_option maxRecDepth 20000 in
theorem gX4_slip_X0_show : GoodIn wsX4_slip (wsV RX4 138 RX0 yX0_show wsX0_show) := goodIn_app (goodIn_of _ (by decide +kernel)) ggX4_slip_X0_show
theorem dX4_slip_0 : decode cX4_slip 0 = .ok (.iload_n 1, 1) := by decide +kernel
theorem dX4_slip_1 : decode cX4_slip 1 = .ok (.invokestatic 80, 3) := by decide +kernel
theorem dX4_slip_4 : decode cX4_slip 4 = .ok (.ifCond .eq 30, 3) := by decide +kernel
theorem dX4_slip_7 : decode cX4_slip 7 = .ok (.aload_n 0, 1) := by decide +kernel
theorem dX4_slip_8 : decode cX4_slip 8 = .ok (.iload_n 2, 1) := by decide +kernel
theorem dX4_slip_9 : decode cX4_slip 9 = .ok (.invokevirtual 57, 3) := by decide +kernel
theorem dX4_slip_12 : decode cX4_slip 12 = .ok (.ifCond .eq 22, 3) := by decide +kernel
theorem dX4_slip_15 : decode cX4_slip 15 = .ok (.iload_n 3, 1) := by decide +kernel
theorem dX4_slip_16 : decode cX4_slip 16 = .ok (.aload_n 0, 1) := by decide +kernel
theorem dX4_slip_17 : decode cX4_slip 17 = .ok (.getfield 19, 3) := by decide +kernel
theorem dX4_slip_20 : decode cX4_slip 20 = .ok (.getfield 61, 3) := by decide +kernel
theorem dX4_slip_23 : decode cX4_slip 23 = .ok (.getfield 70, 3) := by decide +kernel
theorem dX4_slip_26 : decode cX4_slip 26 = .ok (.iload_n 2, 1) := by decide +kernel
theorem dX4_slip_27 : decode cX4_slip 27 = .ok (.iaload, 1) := by decide +kernel
theorem dX4_slip_28 : decode cX4_slip 28 = .ok (.invokestatic 87, 3) := by decide +kernel
theorem dX4_slip_31 : decode cX4_slip 31 = .ok (.ifCond .ne 5, 3) := by decide +kernel
theorem dX4_slip_34 : decode cX4_slip 34 = .ok (.iconst (-1), 1) := by decide +kernel
theorem dX4_slip_35 : decode cX4_slip 35 = .ok (.ireturn, 1) := by decide +kernel
theorem dX4_slip_36 : decode cX4_slip 36 = .ok (.aload_n 0, 1) := by decide +kernel
theorem dX4_slip_37 : decode cX4_slip 37 = .ok (.getfield 19, 3) := by decide +kernel
theorem dX4_slip_40 : decode cX4_slip 40 = .ok (.iload_n 1, 1) := by decide +kernel
theorem dX4_slip_41 : decode cX4_slip 41 = .ok (.iload_n 2, 1) := by decide +kernel
theorem dX4_slip_42 : decode cX4_slip 42 = .ok (.invokevirtual 83, 3) := by decide +kernel
theorem dX4_slip_45 : decode cX4_slip 45 = .ok (.istore 4, 2) := by decide +kernel
theorem dX4_slip_47 : decode cX4_slip 47 = .ok (.iload 4, 2) := by decide +kernel
theorem dX4_slip_49 : decode cX4_slip 49 = .ok (.iload_n 3, 1) := by decide +kernel
theorem dX4_slip_50 : decode cX4_slip 50 = .ok (.if_icmp .ne 6, 3) := by decide +kernel
theorem dX4_slip_53 : decode cX4_slip 53 = .ok (.bipush (-2), 2) := by decide +kernel
theorem dX4_slip_55 : decode cX4_slip 55 = .ok (.ireturn, 1) := by decide +kernel
theorem dX4_slip_56 : decode cX4_slip 56 = .ok (.aload_n 0, 1) := by decide +kernel
theorem dX4_slip_57 : decode cX4_slip 57 = .ok (.getfield 19, 3) := by decide +kernel
theorem dX4_slip_60 : decode cX4_slip 60 = .ok (.invokevirtual 122, 3) := by decide +kernel
theorem dX4_slip_63 : decode cX4_slip 63 = .ok (.aload_n 0, 1) := by decide +kernel
theorem dX4_slip_64 : decode cX4_slip 64 = .ok (.getfield 19, 3) := by decide +kernel
theorem dX4_slip_67 : decode cX4_slip 67 = .ok (.iload_n 1, 1) := by decide +kernel
theorem dX4_slip_68 : decode cX4_slip 68 = .ok (.iload_n 2, 1) := by decide +kernel
theorem dX4_slip_69 : decode cX4_slip 69 = .ok (.iload_n 3, 1) := by decide +kernel
theorem dX4_slip_70 : decode cX4_slip 70 = .ok (.invokevirtual 138, 3) := by decide +kernel
theorem dX4_slip_73 : decode cX4_slip 73 = .ok (.iload 4, 2) := by decide +kernel
theorem dX4_slip_75 : decode cX4_slip 75 = .ok (.ireturn, 1) := by decide +kernel
set_option maxRecDepth 20000 in
theorem ggX4_take_X4_isRegister : GoodIn wsX4_take wsX4_isRegister := goodIn_r _ [5, 6, 7, 4, 8] (by decide +kernel) (by decide +kernel)
set_option maxRecDepth 20000 in
theorem gX4_take_X4_isRegister : GoodIn wsX4_take (va_wsS RX4 80 yX4_isRegister wsX4_isRegister) := goodIn_app (goodIn_of _ (by decide +kernel)) ggX4_take_X4_isRegister
set_option maxRecDepth 20000 in
theorem ggX4_take_X0_remember : GoodIn wsX4_take wsX0_remember := goodIn_r _ [13, 14, 15, 16, 17, 18, 19, 20, 21, 22, 23, 24, 25, 26, 27, 53, 54, 55, 56, 57, 58, 59] (by decide +kernel) (by decide +kernel)
set_option maxRecDepth 20000 in
theorem gX4_take_X0_remember : GoodIn wsX4_take (wsV RX4 122 RX0 yX0_remember wsX0_remember) := goodIn_app (goodIn_of _ (by decide +kernel)) ggX4_take_X0_remember
set_option maxRecDepth 20000 in
theorem ggX4_take_X0_takeOver : GoodIn wsX4_take wsX0_takeOver := goodIn_r _ [31, 32, 33, 34, 35, 36, 12, 37, 14, 38, 39, 40, 41, 53, 54, 55, 56, 57, 58, 59, 60, 61, 62, 63, 64, 65, 66] (by decide +kernel) (by decide +kernel)
set_option maxRecDepth 20000 in
theorem gX4_take_X0_takeOver : GoodIn wsX4_take (wsV RX4 142 RX0 yX0_takeOver wsX0_takeOver) := goodIn_app (goodIn_of _ (by decide +kernel)) ggX4_take_X0_takeOver
set_option maxRecDepth 20000 in
theorem ggX4_take_X0_value : GoodIn wsX4_take wsX0_value := goodIn_r _ [45, 32, 33, 46, 47, 34, 35, 36, 12, 37, 14, 53, 54, 55, 56, 57, 58, 59, 60, 61, 62, 63, 64, 65, 66] (by decide +kernel) (by decide +kernel)
set_option maxRecDepth 20000 in
theorem gX4_take_X0_value : GoodIn wsX4_take (wsV RX4 91 RX0 yX0_value wsX0_value) := goodIn_app (goodIn_of _ (by decide +kernel)) ggX4_take_X0_value
theorem dX4_take_0 : decode cX4_take 0 = .ok (.iload_n 1, 1) := by decide +kernel
theorem dX4_take_1 : decode cX4_take 1 = .ok (.invokestatic 80, 3) := by decide +kernel
theorem dX4_take_4 : decode cX4_take 4 = .ok (.ifCond .eq 15, 3) := by decide +kernel
theorem dX4_take_7 : decode cX4_take 7 = .ok (.iload_n 2, 1) := by decide +kernel
theorem dX4_take_8 : decode cX4_take 8 = .ok (.invokestatic 80, 3) := by decide +kernel
theorem dX4_take_11 : decode cX4_take 11 = .ok (.ifCond .eq 8, 3) := by decide +kernel
theorem dX4_take_14 : decode cX4_take 14 = .ok (.iload_n 1, 1) := by decide +kernel
theorem dX4_take_15 : decode cX4_take 15 = .ok (.iload_n 2, 1) := by decide +kernel
theorem dX4_take_16 : decode cX4_take 16 = .ok (.if_icmp .ne 5, 3) := by decide +kernel
theorem dX4_take_19 : decode cX4_take 19 = .ok (.iconst (-1), 1) := by decide +kernel
theorem dX4_take_20 : decode cX4_take 20 = .ok (.ireturn, 1) := by decide +kernel
theorem dX4_take_21 : decode cX4_take 21 = .ok (.aload_n 0, 1) := by decide +kernel
theorem dX4_take_22 : decode cX4_take 22 = .ok (.getfield 19, 3) := by decide +kernel
theorem dX4_take_25 : decode cX4_take 25 = .ok (.invokevirtual 122, 3) := by decide +kernel
theorem dX4_take_28 : decode cX4_take 28 = .ok (.aload_n 0, 1) := by decide +kernel
theorem dX4_take_29 : decode cX4_take 29 = .ok (.getfield 19, 3) := by decide +kernel
theorem dX4_take_32 : decode cX4_take 32 = .ok (.iload_n 1, 1) := by decide +kernel
theorem dX4_take_33 : decode cX4_take 33 = .ok (.iload_n 2, 1) := by decide +kernel
theorem dX4_take_34 : decode cX4_take 34 = .ok (.invokevirtual 142, 3) := by decide +kernel
theorem dX4_take_37 : decode cX4_take 37 = .ok (.aload_n 0, 1) := by decide +kernel
theorem dX4_take_38 : decode cX4_take 38 = .ok (.getfield 19, 3) := by decide +kernel
theorem dX4_take_41 : decode cX4_take 41 = .ok (.iload_n 1, 1) := by decide +kernel
theorem dX4_take_42 : decode cX4_take 42 = .ok (.invokevirtual 91, 3) := by decide +kernel
theorem dX4_take_45 : decode cX4_take 45 = .ok (.ireturn, 1) := by decide +kernel
set_option maxRecDepth 20000 in
theorem ggX4_drift_X0_remember : GoodIn wsX4_drift wsX0_remember := goodIn_r _ [6, 7, 8, 9, 10, 11, 12, 13, 14, 15, 16, 17, 18, 19, 20, 82, 83, 84, 85, 86, 87, 88] (by decide +kernel) (by decide +kernel)
set_option maxRecDepth 20000 in
theorem gX4_drift_X0_remember : GoodIn wsX4_drift (wsV RX4 122 RX0 yX0_remember wsX0_remember) := goodIn_app (goodIn_of _ (by decide +kernel)) ggX4_drift_X0_remember
set_option maxRecDepth 20000 in
theorem ggX4_drift_X0_driftOnce : GoodIn wsX4_drift wsX0_driftOnce := goodIn_r _ [24, 15, 25, 26, 27, 28, 29, 30, 31, 32, 33, 5, 34, 35, 36, 37, 38, 7, 39, 40, 41, 42, 43, 44, 45, 46, 47, 48, 49, 50, 51, 52, 53, 19, 54, 55, 56, 57, 58, 59, 60, 61, 82, 83, 84, 85, 86, 87, 88, 89, 90, 91, 92, 93, 94, 95] (by decide +kernel) (by decide +kernel)
set_option maxRecDepth 20000 in
theorem gX4_drift_X0_driftOnce : GoodIn wsX4_drift (wsV RX4 145 RX0 yX0_driftOnce wsX0_driftOnce) := goodIn_app (goodIn_of _ (by decide +kernel)) ggX4_drift_X0_driftOnce
set_option maxRecDepth 20000 in
theorem ggX4_drift_X0_legalOnes : GoodIn wsX4_drift wsX0_legalOnes := goodIn_r _ [65, 66, 67, 68, 5, 69, 28, 70, 71, 72, 73, 74, 29, 75, 76, 35, 36, 37, 38, 7, 82, 83, 84, 85, 86, 87, 88, 89, 90, 91, 92, 93, 94, 95] (by decide +kernel) (by decide +kernel)
set_option maxRecDepth 20000 in
theorem gX4_drift_X0_legalOnes : GoodIn wsX4_drift (wsV RX4 113 RX0 yX0_legalOnes wsX0_legalOnes) := goodIn_app (goodIn_of _ (by decide +kernel)) ggX4_drift_X0_legalOnes
theorem dX4_drift_0 : decode cX4_drift 0 = .ok (.iload_n 1, 1) := by decide +kernel
theorem dX4_drift_1 : decode cX4_drift 1 = .ok (.iconst 1, 1) := by decide +kernel
theorem dX4_drift_2 : decode cX4_drift 2 = .ok (.if_icmp .lt 9, 3) := by decide +kernel
theorem dX4_drift_5 : decode cX4_drift 5 = .ok (.iload_n 1, 1) := by decide +kernel
theorem dX4_drift_6 : decode cX4_drift 6 = .ok (.bipush 40, 2) := by decide +kernel
theorem dX4_drift_8 : decode cX4_drift 8 = .ok (.if_icmp .le 5, 3) := by decide +kernel
theorem dX4_drift_11 : decode cX4_drift 11 = .ok (.iconst (-1), 1) := by decide +kernel
theorem dX4_drift_12 : decode cX4_drift 12 = .ok (.ireturn, 1) := by decide +kernel
theorem dX4_drift_13 : decode cX4_drift 13 = .ok (.iconst 0, 1) := by decide +kernel
theorem dX4_drift_14 : decode cX4_drift 14 = .ok (.istore_n 2, 1) := by decide +kernel
theorem dX4_drift_15 : decode cX4_drift 15 = .ok (.iload_n 2, 1) := by decide +kernel
theorem dX4_drift_16 : decode cX4_drift 16 = .ok (.iload_n 1, 1) := by decide +kernel
theorem dX4_drift_17 : decode cX4_drift 17 = .ok (.if_icmp .ge 23, 3) := by decide +kernel
theorem dX4_drift_20 : decode cX4_drift 20 = .ok (.aload_n 0, 1) := by decide +kernel
theorem dX4_drift_21 : decode cX4_drift 21 = .ok (.getfield 19, 3) := by decide +kernel
theorem dX4_drift_24 : decode cX4_drift 24 = .ok (.invokevirtual 122, 3) := by decide +kernel
theorem dX4_drift_27 : decode cX4_drift 27 = .ok (.aload_n 0, 1) := by decide +kernel
theorem dX4_drift_28 : decode cX4_drift 28 = .ok (.getfield 19, 3) := by decide +kernel
theorem dX4_drift_31 : decode cX4_drift 31 = .ok (.invokevirtual 145, 3) := by decide +kernel
theorem dX4_drift_34 : decode cX4_drift 34 = .ok (.iinc 2 1, 3) := by decide +kernel
theorem dX4_drift_37 : decode cX4_drift 37 = .ok (.goto (-22), 3) := by decide +kernel
theorem dX4_drift_40 : decode cX4_drift 40 = .ok (.aload_n 0, 1) := by decide +kernel
theorem dX4_drift_41 : decode cX4_drift 41 = .ok (.getfield 19, 3) := by decide +kernel
theorem dX4_drift_44 : decode cX4_drift 44 = .ok (.invokevirtual 113, 3) := by decide +kernel
theorem dX4_drift_47 : decode cX4_drift 47 = .ok (.ireturn, 1) := by decide +kernel
set_option maxRecDepth 20000 in
theorem ggX4_undo_X0_goBack : GoodIn wsX4_undo wsX0_goBack := goodIn_r _ [7, 8, 9, 10, 11, 12, 13, 14, 15, 16, 17, 23, 24, 25, 26, 27, 28, 29] (by decide +kernel) (by decide +kernel)
set_option maxRecDepth 20000 in
theorem gX4_undo_X0_goBack : GoodIn wsX4_undo (wsV RX4 148 RX0 yX0_goBack wsX0_goBack) := goodIn_app (goodIn_of _ (by decide +kernel)) ggX4_undo_X0_goBack
theorem dX4_undo_0 : decode cX4_undo 0 = .ok (.aload_n 0, 1) := by decide +kernel
theorem dX4_undo_1 : decode cX4_undo 1 = .ok (.getfield 19, 3) := by decide +kernel
theorem dX4_undo_4 : decode cX4_undo 4 = .ok (.invokevirtual 148, 3) := by decide +kernel
theorem dX4_undo_7 : decode cX4_undo 7 = .ok (.ifCond .eq 13, 3) := by decide +kernel
theorem dX4_undo_10 : decode cX4_undo 10 = .ok (.aload_n 0, 1) := by decide +kernel
theorem dX4_undo_11 : decode cX4_undo 11 = .ok (.getfield 19, 3) := by decide +kernel
theorem dX4_undo_14 : decode cX4_undo 14 = .ok (.getfield 119, 3) := by decide +kernel
theorem dX4_undo_17 : decode cX4_undo 17 = .ok (.goto 5, 3) := by decide +kernel
theorem dX4_undo_20 : decode cX4_undo 20 = .ok (.bipush (-4), 2) := by decide +kernel
theorem dX4_undo_22 : decode cX4_undo 22 = .ok (.ireturn, 1) := by decide +kernel
theorem dX4_seed_0 : decode cX4_seed 0 = .ok (.iload_n 1, 1) := by decide +kernel
theorem dX4_seed_1 : decode cX4_seed 1 = .ok (.ifCond .ge 5, 3) := by decide +kernel
theorem dX4_seed_4 : decode cX4_seed 4 = .ok (.iconst (-1), 1) := by decide +kernel
theorem dX4_seed_5 : decode cX4_seed 5 = .ok (.ireturn, 1) := by decide +kernel
theorem dX4_seed_6 : decode cX4_seed 6 = .ok (.aload_n 0, 1) := by decide +kernel
theorem dX4_seed_7 : decode cX4_seed 7 = .ok (.getfield 19, 3) := by decide +kernel
theorem dX4_seed_10 : decode cX4_seed 10 = .ok (.getfield 151, 3) := by decide +kernel
theorem dX4_seed_13 : decode cX4_seed 13 = .ok (.istore_n 2, 1) := by decide +kernel
theorem dX4_seed_14 : decode cX4_seed 14 = .ok (.aload_n 0, 1) := by decide +kernel
theorem dX4_seed_15 : decode cX4_seed 15 = .ok (.getfield 19, 3) := by decide +kernel
theorem dX4_seed_18 : decode cX4_seed 18 = .ok (.iload_n 1, 1) := by decide +kernel
theorem dX4_seed_19 : decode cX4_seed 19 = .ok (.putfield 151, 3) := by decide +kernel
theorem dX4_seed_22 : decode cX4_seed 22 = .ok (.iload_n 2, 1) := by decide +kernel
theorem dX4_seed_23 : decode cX4_seed 23 = .ok (.ireturn, 1) := by decide +kernel
set_option maxRecDepth 20000 in
theorem ggX4_figure_X4_isRegister : GoodIn wsX4_figure wsX4_isRegister := goodIn_r _ [6, 7, 8, 5, 9] (by decide +kernel) (by decide +kernel)
set_option maxRecDepth 20000 in
theorem gX4_figure_X4_isRegister : GoodIn wsX4_figure (va_wsS RX4 80 yX4_isRegister wsX4_isRegister) := goodIn_app (goodIn_of _ (by decide +kernel)) ggX4_figure_X4_isRegister
set_option maxRecDepth 20000 in
theorem ggX4_figure_X4_isWheel : GoodIn wsX4_figure wsX4_isWheel := goodIn_r _ [13, 1, 2, 14, 7, 8, 5, 9, 35, 36, 37, 38, 39, 40, 41, 42, 43, 44, 45, 46, 47, 48, 49, 50, 51, 52, 53] (by decide +kernel) (by decide +kernel)
set_option maxRecDepth 20000 in
theorem gX4_figure_X4_isWheel : GoodIn wsX4_figure (wsV RX4 57 RX4 yX4_isWheel wsX4_isWheel) := goodIn_app (goodIn_of _ (by decide +kernel)) ggX4_figure_X4_isWheel
set_option maxRecDepth 20000 in
theorem ggX4_figure_X0_value : GoodIn wsX4_figure wsX0_value := goodIn_r _ [19, 20, 21, 22, 23, 24, 25, 26, 18, 27, 28, 40, 41, 42, 43, 44, 45, 46, 47, 48, 49, 50, 51, 52, 53] (by decide +kernel) (by decide +kernel)
set_option maxRecDepth 20000 in
theorem gX4_figure_X0_value : GoodIn wsX4_figure (wsV RX4 91 RX0 yX0_value wsX0_value) := goodIn_app (goodIn_of _ (by decide +kernel)) ggX4_figure_X0_value
set_option maxRecDepth 20000 in
theorem ggX4_figure_X3_mixedFigure : GoodIn wsX4_figure wsX3_mixedFigure := goodIn_r _ [33, 34, 47, 48, 49, 50, 51, 52, 53] (by decide +kernel) (by decide +kernel)
set_option maxRecDepth 20000 in
theorem gX4_figure_X3_mixedFigure : GoodIn wsX4_figure (wsV RX4 154 RX3 yX3_mixedFigure wsX3_mixedFigure) := goodIn_app (goodIn_of _ (by decide +kernel)) ggX4_figure_X3_mixedFigure
theorem dX4_figure_0 : decode cX4_figure 0 = .ok (.iload_n 1, 1) := by decide +kernel
theorem dX4_figure_1 : decode cX4_figure 1 = .ok (.invokestatic 80, 3) := by decide +kernel
theorem dX4_figure_4 : decode cX4_figure 4 = .ok (.ifCond .eq 33, 3) := by decide +kernel
theorem dX4_figure_7 : decode cX4_figure 7 = .ok (.aload_n 0, 1) := by decide +kernel
theorem dX4_figure_8 : decode cX4_figure 8 = .ok (.iload_n 2, 1) := by decide +kernel
theorem dX4_figure_9 : decode cX4_figure 9 = .ok (.invokevirtual 57, 3) := by decide +kernel
theorem dX4_figure_12 : decode cX4_figure 12 = .ok (.ifCond .eq 25, 3) := by decide +kernel
theorem dX4_figure_15 : decode cX4_figure 15 = .ok (.aload_n 0, 1) := by decide +kernel
theorem dX4_figure_16 : decode cX4_figure 16 = .ok (.getfield 19, 3) := by decide +kernel
theorem dX4_figure_19 : decode cX4_figure 19 = .ok (.getfield 61, 3) := by decide +kernel
theorem dX4_figure_22 : decode cX4_figure 22 = .ok (.aload_n 0, 1) := by decide +kernel
theorem dX4_figure_23 : decode cX4_figure 23 = .ok (.getfield 19, 3) := by decide +kernel
theorem dX4_figure_26 : decode cX4_figure 26 = .ok (.iload_n 1, 1) := by decide +kernel
theorem dX4_figure_27 : decode cX4_figure 27 = .ok (.invokevirtual 91, 3) := by decide +kernel
theorem dX4_figure_30 : decode cX4_figure 30 = .ok (.iload_n 2, 1) := by decide +kernel
theorem dX4_figure_31 : decode cX4_figure 31 = .ok (.invokevirtual 154, 3) := by decide +kernel
theorem dX4_figure_34 : decode cX4_figure 34 = .ok (.goto 4, 3) := by decide +kernel
theorem dX4_figure_37 : decode cX4_figure 37 = .ok (.iconst (-1), 1) := by decide +kernel
theorem dX4_figure_38 : decode cX4_figure 38 = .ok (.ireturn, 1) := by decide +kernel
set_option maxRecDepth 20000 in
theorem ggX4_order_X4_isRegister : GoodIn wsX4_order wsX4_isRegister := goodIn_r _ [5, 6, 7, 4, 8] (by decide +kernel) (by decide +kernel)
set_option maxRecDepth 20000 in
theorem gX4_order_X4_isRegister : GoodIn wsX4_order (va_wsS RX4 80 yX4_isRegister wsX4_isRegister) := goodIn_app (goodIn_of _ (by decide +kernel)) ggX4_order_X4_isRegister
set_option maxRecDepth 20000 in
theorem ggX4_order_X0_value : GoodIn wsX4_order wsX0_value := goodIn_r _ [13, 14, 15, 16, 17, 18, 19, 20, 12, 21, 22, 32, 33, 34, 35, 36, 37, 38, 39, 40, 41, 42, 43, 44, 45] (by decide +kernel) (by decide +kernel)
set_option maxRecDepth 20000 in
theorem gX4_order_X0_value : GoodIn wsX4_order (wsV RX4 91 RX0 yX0_value wsX0_value) := goodIn_app (goodIn_of _ (by decide +kernel)) ggX4_order_X0_value
set_option maxRecDepth 20000 in
theorem ggX4_order_J6_compare_7cf53 : GoodIn wsX4_order wsJ6_compare_7cf53 := goodIn_r _ [26] (by decide +kernel) (by decide +kernel)
set_option maxRecDepth 20000 in
theorem gX4_order_J6_compare_7cf53 : GoodIn wsX4_order (va_wsS RX4 157 yJ6_compare_7cf53 wsJ6_compare_7cf53) := goodIn_app (goodIn_of _ (by decide +kernel)) ggX4_order_J6_compare_7cf53
theorem dX4_order_0 : decode cX4_order 0 = .ok (.iload_n 1, 1) := by decide +kernel
theorem dX4_order_1 : decode cX4_order 1 = .ok (.invokestatic 80, 3) := by decide +kernel
theorem dX4_order_4 : decode cX4_order 4 = .ok (.ifCond .eq 10, 3) := by decide +kernel
theorem dX4_order_7 : decode cX4_order 7 = .ok (.iload_n 2, 1) := by decide +kernel
theorem dX4_order_8 : decode cX4_order 8 = .ok (.invokestatic 80, 3) := by decide +kernel
theorem dX4_order_11 : decode cX4_order 11 = .ok (.ifCond .ne 5, 3) := by decide +kernel
theorem dX4_order_14 : decode cX4_order 14 = .ok (.iconst (-1), 1) := by decide +kernel
theorem dX4_order_15 : decode cX4_order 15 = .ok (.ireturn, 1) := by decide +kernel
theorem dX4_order_16 : decode cX4_order 16 = .ok (.iconst 1, 1) := by decide +kernel
theorem dX4_order_17 : decode cX4_order 17 = .ok (.aload_n 0, 1) := by decide +kernel
theorem dX4_order_18 : decode cX4_order 18 = .ok (.getfield 19, 3) := by decide +kernel
theorem dX4_order_21 : decode cX4_order 21 = .ok (.iload_n 1, 1) := by decide +kernel
theorem dX4_order_22 : decode cX4_order 22 = .ok (.invokevirtual 91, 3) := by decide +kernel
theorem dX4_order_25 : decode cX4_order 25 = .ok (.aload_n 0, 1) := by decide +kernel
theorem dX4_order_26 : decode cX4_order 26 = .ok (.getfield 19, 3) := by decide +kernel
theorem dX4_order_29 : decode cX4_order 29 = .ok (.iload_n 2, 1) := by decide +kernel
theorem dX4_order_30 : decode cX4_order 30 = .ok (.invokevirtual 91, 3) := by decide +kernel
theorem dX4_order_33 : decode cX4_order 33 = .ok (.invokestatic 157, 3) := by decide +kernel
theorem dX4_order_36 : decode cX4_order 36 = .ok (.iadd, 1) := by decide +kernel
theorem dX4_order_37 : decode cX4_order 37 = .ok (.ireturn, 1) := by decide +kernel
set_option maxRecDepth 20000 in
theorem ggX4_blame_X4_isRegister : GoodIn wsX4_blame wsX4_isRegister := goodIn_r _ [6, 7, 8, 5, 9] (by decide +kernel) (by decide +kernel)
set_option maxRecDepth 20000 in
theorem gX4_blame_X4_isRegister : GoodIn wsX4_blame (va_wsS RX4 80 yX4_isRegister wsX4_isRegister) := goodIn_app (goodIn_of _ (by decide +kernel)) ggX4_blame_X4_isRegister
set_option maxRecDepth 20000 in
theorem ggX4_blame_X0_value : GoodIn wsX4_blame wsX0_value := goodIn_r _ [14, 15, 16, 17, 18, 19, 20, 21, 13, 22, 23, 38, 39, 40, 41, 42, 43, 44, 45, 46, 47, 48, 49, 50, 51] (by decide +kernel) (by decide +kernel)
set_option maxRecDepth 20000 in
theorem gX4_blame_X0_value : GoodIn wsX4_blame (wsV RX4 91 RX0 yX0_value wsX0_value) := goodIn_app (goodIn_of _ (by decide +kernel)) ggX4_blame_X0_value
set_option maxRecDepth 20000 in
theorem ggX4_blame_X3_blamed : GoodIn wsX4_blame wsX3_blamed := goodIn_r _ [28, 29, 30, 31, 32, 45, 46, 47, 48, 49, 50, 51] (by decide +kernel) (by decide +kernel)
set_option maxRecDepth 20000 in
theorem gX4_blame_X3_blamed : GoodIn wsX4_blame (wsV RX4 162 RX3 yX3_blamed wsX3_blamed) := goodIn_app (goodIn_of _ (by decide +kernel)) ggX4_blame_X3_blamed
theorem dX4_blame_0 : decode cX4_blame 0 = .ok (.iload_n 1, 1) := by decide +kernel
theorem dX4_blame_1 : decode cX4_blame 1 = .ok (.invokestatic 80, 3) := by decide +kernel
theorem dX4_blame_4 : decode cX4_blame 4 = .ok (.ifCond .eq 24, 3) := by decide +kernel
theorem dX4_blame_7 : decode cX4_blame 7 = .ok (.aload_n 0, 1) := by decide +kernel
theorem dX4_blame_8 : decode cX4_blame 8 = .ok (.getfield 19, 3) := by decide +kernel
theorem dX4_blame_11 : decode cX4_blame 11 = .ok (.getfield 61, 3) := by decide +kernel
theorem dX4_blame_14 : decode cX4_blame 14 = .ok (.aload_n 0, 1) := by decide +kernel
theorem dX4_blame_15 : decode cX4_blame 15 = .ok (.getfield 19, 3) := by decide +kernel
theorem dX4_blame_18 : decode cX4_blame 18 = .ok (.iload_n 1, 1) := by decide +kernel
theorem dX4_blame_19 : decode cX4_blame 19 = .ok (.invokevirtual 91, 3) := by decide +kernel
theorem dX4_blame_22 : decode cX4_blame 22 = .ok (.invokevirtual 162, 3) := by decide +kernel
theorem dX4_blame_25 : decode cX4_blame 25 = .ok (.goto 4, 3) := by decide +kernel
theorem dX4_blame_28 : decode cX4_blame 28 = .ok (.iconst (-1), 1) := by decide +kernel
theorem dX4_blame_29 : decode cX4_blame 29 = .ok (.ireturn, 1) := by decide +kernel
set_option maxRecDepth 20000 in
theorem ggX4_nearest_X4_isRegister : GoodIn wsX4_nearest wsX4_isRegister := goodIn_r _ [7, 8, 9, 6, 10] (by decide +kernel) (by decide +kernel)
set_option maxRecDepth 20000 in
theorem gX4_nearest_X4_isRegister : GoodIn wsX4_nearest (va_wsS RX4 80 yX4_isRegister wsX4_isRegister) := goodIn_app (goodIn_of _ (by decide +kernel)) ggX4_nearest_X4_isRegister
set_option maxRecDepth 20000 in
theorem ggX4_nearest_X4_isBelow : GoodIn wsX4_nearest wsX4_isBelow := goodIn_r _ [10] (by decide +kernel) (by decide +kernel)
set_option maxRecDepth 20000 in
theorem gX4_nearest_X4_isBelow : GoodIn wsX4_nearest (va_wsS RX4 87 yX4_isBelow wsX4_isBelow) := goodIn_app (goodIn_of _ (by decide +kernel)) ggX4_nearest_X4_isBelow
set_option maxRecDepth 20000 in
theorem ggX4_nearest_X0_value : GoodIn wsX4_nearest wsX0_value := goodIn_r _ [15, 16, 17, 18, 19, 20, 21, 22, 14, 23, 24, 63, 64, 65, 66, 67, 68, 69, 70, 71, 72, 73, 74, 75, 76] (by decide +kernel) (by decide +kernel)
set_option maxRecDepth 20000 in
theorem gX4_nearest_X0_value : GoodIn wsX4_nearest (wsV RX4 91 RX0 yX0_value wsX0_value) := goodIn_app (goodIn_of _ (by decide +kernel)) ggX4_nearest_X0_value
set_option maxRecDepth 20000 in
theorem ggX4_nearest_X3_mostAlike : GoodIn wsX4_nearest wsX3_mostAlike := goodIn_r _ [29, 30, 31, 32, 33, 34, 35, 36, 37, 38, 28, 39, 40, 41, 42, 43, 44, 45, 46, 47, 48, 49, 50, 70, 71, 72, 73, 74, 75, 76] (by decide +kernel) (by decide +kernel)
set_option maxRecDepth 20000 in
theorem gX4_nearest_X3_mostAlike : GoodIn wsX4_nearest (wsV RX4 165 RX3 yX3_mostAlike wsX3_mostAlike) := goodIn_app (goodIn_of _ (by decide +kernel)) ggX4_nearest_X3_mostAlike
set_option maxRecDepth 20000 in
theorem ggX4_nearest_X3_leastAlike : GoodIn wsX4_nearest wsX3_leastAlike := goodIn_r _ [54, 31, 30, 55, 56, 34, 57, 44, 45, 46, 47, 48, 49, 50, 36, 37, 38, 28, 39, 40, 41, 42, 43, 70, 71, 72, 73, 74, 75, 76] (by decide +kernel) (by decide +kernel)
set_option maxRecDepth 20000 in
theorem gX4_nearest_X3_leastAlike : GoodIn wsX4_nearest (wsV RX4 168 RX3 yX3_leastAlike wsX3_leastAlike) := goodIn_app (goodIn_of _ (by decide +kernel)) ggX4_nearest_X3_leastAlike
theorem dX4_nearest_0 : decode cX4_nearest 0 = .ok (.iload_n 1, 1) := by decide +kernel
theorem dX4_nearest_1 : decode cX4_nearest 1 = .ok (.invokestatic 80, 3) := by decide +kernel
theorem dX4_nearest_4 : decode cX4_nearest 4 = .ok (.ifCond .eq 11, 3) := by decide +kernel
theorem dX4_nearest_7 : decode cX4_nearest 7 = .ok (.iload_n 2, 1) := by decide +kernel
theorem dX4_nearest_8 : decode cX4_nearest 8 = .ok (.iconst 2, 1) := by decide +kernel
theorem dX4_nearest_9 : decode cX4_nearest 9 = .ok (.invokestatic 87, 3) := by decide +kernel
theorem dX4_nearest_12 : decode cX4_nearest 12 = .ok (.ifCond .ne 5, 3) := by decide +kernel
theorem dX4_nearest_15 : decode cX4_nearest 15 = .ok (.iconst (-1), 1) := by decide +kernel
theorem dX4_nearest_16 : decode cX4_nearest 16 = .ok (.ireturn, 1) := by decide +kernel
theorem dX4_nearest_17 : decode cX4_nearest 17 = .ok (.aload_n 0, 1) := by decide +kernel
theorem dX4_nearest_18 : decode cX4_nearest 18 = .ok (.getfield 19, 3) := by decide +kernel
theorem dX4_nearest_21 : decode cX4_nearest 21 = .ok (.getfield 61, 3) := by decide +kernel
theorem dX4_nearest_24 : decode cX4_nearest 24 = .ok (.astore_n 3, 1) := by decide +kernel
theorem dX4_nearest_25 : decode cX4_nearest 25 = .ok (.aload_n 0, 1) := by decide +kernel
theorem dX4_nearest_26 : decode cX4_nearest 26 = .ok (.getfield 19, 3) := by decide +kernel
theorem dX4_nearest_29 : decode cX4_nearest 29 = .ok (.iload_n 1, 1) := by decide +kernel
theorem dX4_nearest_30 : decode cX4_nearest 30 = .ok (.invokevirtual 91, 3) := by decide +kernel
theorem dX4_nearest_33 : decode cX4_nearest 33 = .ok (.istore 4, 2) := by decide +kernel
theorem dX4_nearest_35 : decode cX4_nearest 35 = .ok (.aload_n 3, 1) := by decide +kernel
theorem dX4_nearest_36 : decode cX4_nearest 36 = .ok (.iload 4, 2) := by decide +kernel
theorem dX4_nearest_38 : decode cX4_nearest 38 = .ok (.invokevirtual 165, 3) := by decide +kernel
theorem dX4_nearest_41 : decode cX4_nearest 41 = .ok (.istore 5, 2) := by decide +kernel
theorem dX4_nearest_43 : decode cX4_nearest 43 = .ok (.iload_n 2, 1) := by decide +kernel
theorem dX4_nearest_44 : decode cX4_nearest 44 = .ok (.ifCond .ne 14, 3) := by decide +kernel
theorem dX4_nearest_47 : decode cX4_nearest 47 = .ok (.aload_n 3, 1) := by decide +kernel
theorem dX4_nearest_48 : decode cX4_nearest 48 = .ok (.iload 4, 2) := by decide +kernel
theorem dX4_nearest_50 : decode cX4_nearest 50 = .ok (.iload 5, 2) := by decide +kernel
theorem dX4_nearest_52 : decode cX4_nearest 52 = .ok (.invokevirtual 168, 3) := by decide +kernel
theorem dX4_nearest_55 : decode cX4_nearest 55 = .ok (.goto 10, 3) := by decide +kernel
theorem dX4_nearest_58 : decode cX4_nearest 58 = .ok (.aload_n 3, 1) := by decide +kernel
theorem dX4_nearest_59 : decode cX4_nearest 59 = .ok (.getfield 104, 3) := by decide +kernel
theorem dX4_nearest_62 : decode cX4_nearest 62 = .ok (.iload 5, 2) := by decide +kernel
theorem dX4_nearest_64 : decode cX4_nearest 64 = .ok (.isub, 1) := by decide +kernel
theorem dX4_nearest_65 : decode cX4_nearest 65 = .ok (.ireturn, 1) := by decide +kernel
set_option maxRecDepth 20000 in
theorem ggX4_apart_X3_fewestUnlike : GoodIn wsX4_apart wsX3_fewestUnlike := goodIn_r _ [8, 9, 10, 11, 12, 13, 14, 15, 16, 17, 7, 18, 19, 20, 21, 22, 23, 24, 25, 26, 27, 28, 29, 42, 43, 44, 45, 46, 47, 48] (by decide +kernel) (by decide +kernel)
set_option maxRecDepth 20000 in
theorem gX4_apart_X3_fewestUnlike : GoodIn wsX4_apart (wsV RX4 171 RX3 yX3_fewestUnlike wsX3_fewestUnlike) := goodIn_app (goodIn_of _ (by decide +kernel)) ggX4_apart_X3_fewestUnlike
theorem dX4_apart_0 : decode cX4_apart 0 = .ok (.aload_n 0, 1) := by decide +kernel
theorem dX4_apart_1 : decode cX4_apart 1 = .ok (.getfield 19, 3) := by decide +kernel
theorem dX4_apart_4 : decode cX4_apart 4 = .ok (.getfield 61, 3) := by decide +kernel
theorem dX4_apart_7 : decode cX4_apart 7 = .ok (.getfield 107, 3) := by decide +kernel
theorem dX4_apart_10 : decode cX4_apart 10 = .ok (.iconst 1, 1) := by decide +kernel
theorem dX4_apart_11 : decode cX4_apart 11 = .ok (.if_icmp .ne 8, 3) := by decide +kernel
theorem dX4_apart_14 : decode cX4_apart 14 = .ok (.bipush (-4), 2) := by decide +kernel
theorem dX4_apart_16 : decode cX4_apart 16 = .ok (.goto 13, 3) := by decide +kernel
theorem dX4_apart_19 : decode cX4_apart 19 = .ok (.aload_n 0, 1) := by decide +kernel
theorem dX4_apart_20 : decode cX4_apart 20 = .ok (.getfield 19, 3) := by decide +kernel
theorem dX4_apart_23 : decode cX4_apart 23 = .ok (.getfield 61, 3) := by decide +kernel
theorem dX4_apart_26 : decode cX4_apart 26 = .ok (.invokevirtual 171, 3) := by decide +kernel
theorem dX4_apart_29 : decode cX4_apart 29 = .ok (.ireturn, 1) := by decide +kernel
set_option maxRecDepth 20000 in
theorem ggX4_sum_X4_isRegister : GoodIn wsX4_sum wsX4_isRegister := goodIn_r _ [6, 7, 8, 5, 9] (by decide +kernel) (by decide +kernel)
set_option maxRecDepth 20000 in
theorem gX4_sum_X4_isRegister : GoodIn wsX4_sum (va_wsS RX4 80 yX4_isRegister wsX4_isRegister) := goodIn_app (goodIn_of _ (by decide +kernel)) ggX4_sum_X4_isRegister
set_option maxRecDepth 20000 in
theorem ggX4_sum_X4_isWheel : GoodIn wsX4_sum wsX4_isWheel := goodIn_r _ [13, 1, 2, 14, 7, 8, 5, 9, 45, 46, 47, 48, 49, 50, 51, 52, 53, 54, 55, 56, 57, 58, 59, 60, 61, 62, 63] (by decide +kernel) (by decide +kernel)
set_option maxRecDepth 20000 in
theorem gX4_sum_X4_isWheel : GoodIn wsX4_sum (wsV RX4 57 RX4 yX4_isWheel wsX4_isWheel) := goodIn_app (goodIn_of _ (by decide +kernel)) ggX4_sum_X4_isWheel
set_option maxRecDepth 20000 in
theorem ggX4_sum_X0_shown : GoodIn wsX4_sum wsX0_shown := goodIn_r _ [19, 20, 50, 51, 52, 53, 54, 55, 56] (by decide +kernel) (by decide +kernel)
set_option maxRecDepth 20000 in
theorem gX4_sum_X0_shown : GoodIn wsX4_sum (wsV RX4 83 RX0 yX0_shown wsX0_shown) := goodIn_app (goodIn_of _ (by decide +kernel)) ggX4_sum_X0_shown
set_option maxRecDepth 20000 in
theorem ggX4_sum_X3_addedOften : GoodIn wsX4_sum wsX3_addedOften := goodIn_r _ [25, 26, 27, 28, 24, 29, 30, 31, 32, 33, 34, 35, 36, 37, 38, 39, 40, 41, 42, 43, 44, 57, 58, 59, 60, 61, 62, 63] (by decide +kernel) (by decide +kernel)
set_option maxRecDepth 20000 in
theorem gX4_sum_X3_addedOften : GoodIn wsX4_sum (wsV RX4 174 RX3 yX3_addedOften wsX3_addedOften) := goodIn_app (goodIn_of _ (by decide +kernel)) ggX4_sum_X3_addedOften
theorem dX4_sum_0 : decode cX4_sum 0 = .ok (.iload_n 1, 1) := by decide +kernel
theorem dX4_sum_1 : decode cX4_sum 1 = .ok (.invokestatic 80, 3) := by decide +kernel
theorem dX4_sum_4 : decode cX4_sum 4 = .ok (.ifCond .eq 30, 3) := by decide +kernel
theorem dX4_sum_7 : decode cX4_sum 7 = .ok (.iload_n 2, 1) := by decide +kernel
theorem dX4_sum_8 : decode cX4_sum 8 = .ok (.invokestatic 80, 3) := by decide +kernel
theorem dX4_sum_11 : decode cX4_sum 11 = .ok (.ifCond .eq 23, 3) := by decide +kernel
theorem dX4_sum_14 : decode cX4_sum 14 = .ok (.iload_n 3, 1) := by decide +kernel
theorem dX4_sum_15 : decode cX4_sum 15 = .ok (.ifCond .lt 19, 3) := by decide +kernel
theorem dX4_sum_18 : decode cX4_sum 18 = .ok (.iload_n 3, 1) := by decide +kernel
theorem dX4_sum_19 : decode cX4_sum 19 = .ok (.sipush 1000, 3) := by decide +kernel
theorem dX4_sum_22 : decode cX4_sum 22 = .ok (.if_icmp .gt 12, 3) := by decide +kernel
theorem dX4_sum_25 : decode cX4_sum 25 = .ok (.aload_n 0, 1) := by decide +kernel
theorem dX4_sum_26 : decode cX4_sum 26 = .ok (.iload 4, 2) := by decide +kernel
theorem dX4_sum_28 : decode cX4_sum 28 = .ok (.invokevirtual 57, 3) := by decide +kernel
theorem dX4_sum_31 : decode cX4_sum 31 = .ok (.ifCond .ne 5, 3) := by decide +kernel
theorem dX4_sum_34 : decode cX4_sum 34 = .ok (.iconst (-1), 1) := by decide +kernel
theorem dX4_sum_35 : decode cX4_sum 35 = .ok (.ireturn, 1) := by decide +kernel
theorem dX4_sum_36 : decode cX4_sum 36 = .ok (.aload_n 0, 1) := by decide +kernel
theorem dX4_sum_37 : decode cX4_sum 37 = .ok (.getfield 19, 3) := by decide +kernel
theorem dX4_sum_40 : decode cX4_sum 40 = .ok (.getfield 61, 3) := by decide +kernel
theorem dX4_sum_43 : decode cX4_sum 43 = .ok (.iload 4, 2) := by decide +kernel
theorem dX4_sum_45 : decode cX4_sum 45 = .ok (.aload_n 0, 1) := by decide +kernel
theorem dX4_sum_46 : decode cX4_sum 46 = .ok (.getfield 19, 3) := by decide +kernel
theorem dX4_sum_49 : decode cX4_sum 49 = .ok (.iload_n 1, 1) := by decide +kernel
theorem dX4_sum_50 : decode cX4_sum 50 = .ok (.iload 4, 2) := by decide +kernel
theorem dX4_sum_52 : decode cX4_sum 52 = .ok (.invokevirtual 83, 3) := by decide +kernel
theorem dX4_sum_55 : decode cX4_sum 55 = .ok (.aload_n 0, 1) := by decide +kernel
theorem dX4_sum_56 : decode cX4_sum 56 = .ok (.getfield 19, 3) := by decide +kernel
theorem dX4_sum_59 : decode cX4_sum 59 = .ok (.iload_n 2, 1) := by decide +kernel
theorem dX4_sum_60 : decode cX4_sum 60 = .ok (.iload 4, 2) := by decide +kernel
theorem dX4_sum_62 : decode cX4_sum 62 = .ok (.invokevirtual 83, 3) := by decide +kernel
theorem dX4_sum_65 : decode cX4_sum 65 = .ok (.iload_n 3, 1) := by decide +kernel
theorem dX4_sum_66 : decode cX4_sum 66 = .ok (.invokevirtual 174, 3) := by decide +kernel
theorem dX4_sum_69 : decode cX4_sum 69 = .ok (.ireturn, 1) := by decide +kernel
set_option maxRecDepth 20000 in
theorem ggX4_again_X4_isRegister : GoodIn wsX4_again wsX4_isRegister := goodIn_r _ [7, 8, 9, 6, 10] (by decide +kernel) (by decide +kernel)
set_option maxRecDepth 20000 in
theorem gX4_again_X4_isRegister : GoodIn wsX4_again (va_wsS RX4 80 yX4_isRegister wsX4_isRegister) := goodIn_app (goodIn_of _ (by decide +kernel)) ggX4_again_X4_isRegister
set_option maxRecDepth 20000 in
theorem ggX4_again_X0_shown : GoodIn wsX4_again wsX0_shown := goodIn_r _ [15, 16, 49, 50, 51, 52, 53, 54, 55] (by decide +kernel) (by decide +kernel)
set_option maxRecDepth 20000 in
theorem gX4_again_X0_shown : GoodIn wsX4_again (wsV RX4 83 RX0 yX0_shown wsX0_shown) := goodIn_app (goodIn_of _ (by decide +kernel)) ggX4_again_X0_shown
set_option maxRecDepth 20000 in
theorem ggX4_again_X3_round : GoodIn wsX4_again wsX3_round := goodIn_r _ [21, 22, 23, 24, 25, 20, 26, 27, 28, 29, 30, 31, 32, 33, 34, 35, 36, 37, 38, 39, 40, 56, 57, 58, 59, 60, 61, 62] (by decide +kernel) (by decide +kernel)
set_option maxRecDepth 20000 in
theorem gX4_again_X3_round : GoodIn wsX4_again (wsV RX4 178 RX3 yX3_round wsX3_round) := goodIn_app (goodIn_of _ (by decide +kernel)) ggX4_again_X3_round
set_option maxRecDepth 20000 in
theorem ggX4_again_X4_commonPart : GoodIn wsX4_again wsX4_commonPart := goodIn_r _ [43] (by decide +kernel) (by decide +kernel)
set_option maxRecDepth 20000 in
theorem gX4_again_X4_commonPart : GoodIn wsX4_again (va_wsS RX4 181 yX4_commonPart wsX4_commonPart) := goodIn_app (goodIn_of _ (by decide +kernel)) ggX4_again_X4_commonPart
theorem dX4_again_0 : decode cX4_again 0 = .ok (.iload_n 1, 1) := by decide +kernel
theorem dX4_again_1 : decode cX4_again 1 = .ok (.invokestatic 80, 3) := by decide +kernel
theorem dX4_again_4 : decode cX4_again 4 = .ok (.ifCond .eq 10, 3) := by decide +kernel
theorem dX4_again_7 : decode cX4_again 7 = .ok (.iload_n 2, 1) := by decide +kernel
theorem dX4_again_8 : decode cX4_again 8 = .ok (.invokestatic 80, 3) := by decide +kernel
theorem dX4_again_11 : decode cX4_again 11 = .ok (.ifCond .ne 5, 3) := by decide +kernel
theorem dX4_again_14 : decode cX4_again 14 = .ok (.iconst (-1), 1) := by decide +kernel
theorem dX4_again_15 : decode cX4_again 15 = .ok (.ireturn, 1) := by decide +kernel
theorem dX4_again_16 : decode cX4_again 16 = .ok (.iconst 1, 1) := by decide +kernel
theorem dX4_again_17 : decode cX4_again 17 = .ok (.istore_n 3, 1) := by decide +kernel
theorem dX4_again_18 : decode cX4_again 18 = .ok (.iconst 0, 1) := by decide +kernel
theorem dX4_again_19 : decode cX4_again 19 = .ok (.istore 4, 2) := by decide +kernel
theorem dX4_again_21 : decode cX4_again 21 = .ok (.iload 4, 2) := by decide +kernel
theorem dX4_again_23 : decode cX4_again 23 = .ok (.aload_n 0, 1) := by decide +kernel
theorem dX4_again_24 : decode cX4_again 24 = .ok (.getfield 19, 3) := by decide +kernel
theorem dX4_again_27 : decode cX4_again 27 = .ok (.getfield 61, 3) := by decide +kernel
theorem dX4_again_30 : decode cX4_again 30 = .ok (.getfield 104, 3) := by decide +kernel
theorem dX4_again_33 : decode cX4_again 33 = .ok (.if_icmp .ge 73, 3) := by decide +kernel
theorem dX4_again_36 : decode cX4_again 36 = .ok (.aload_n 0, 1) := by decide +kernel
theorem dX4_again_37 : decode cX4_again 37 = .ok (.getfield 19, 3) := by decide +kernel
theorem dX4_again_40 : decode cX4_again 40 = .ok (.getfield 61, 3) := by decide +kernel
theorem dX4_again_43 : decode cX4_again 43 = .ok (.iload 4, 2) := by decide +kernel
theorem dX4_again_45 : decode cX4_again 45 = .ok (.aload_n 0, 1) := by decide +kernel
theorem dX4_again_46 : decode cX4_again 46 = .ok (.getfield 19, 3) := by decide +kernel
theorem dX4_again_49 : decode cX4_again 49 = .ok (.iload_n 1, 1) := by decide +kernel
theorem dX4_again_50 : decode cX4_again 50 = .ok (.iload 4, 2) := by decide +kernel
theorem dX4_again_52 : decode cX4_again 52 = .ok (.invokevirtual 83, 3) := by decide +kernel
theorem dX4_again_55 : decode cX4_again 55 = .ok (.aload_n 0, 1) := by decide +kernel
theorem dX4_again_56 : decode cX4_again 56 = .ok (.getfield 19, 3) := by decide +kernel
theorem dX4_again_59 : decode cX4_again 59 = .ok (.iload_n 2, 1) := by decide +kernel
theorem dX4_again_60 : decode cX4_again 60 = .ok (.iload 4, 2) := by decide +kernel
theorem dX4_again_62 : decode cX4_again 62 = .ok (.invokevirtual 83, 3) := by decide +kernel
theorem dX4_again_65 : decode cX4_again 65 = .ok (.invokevirtual 178, 3) := by decide +kernel
theorem dX4_again_68 : decode cX4_again 68 = .ok (.istore 5, 2) := by decide +kernel
theorem dX4_again_70 : decode cX4_again 70 = .ok (.iload 5, 2) := by decide +kernel
theorem dX4_again_72 : decode cX4_again 72 = .ok (.ifCond .ne 6, 3) := by decide +kernel
theorem dX4_again_75 : decode cX4_again 75 = .ok (.bipush (-4), 2) := by decide +kernel
theorem dX4_again_77 : decode cX4_again 77 = .ok (.ireturn, 1) := by decide +kernel
theorem dX4_again_78 : decode cX4_again 78 = .ok (.iload_n 3, 1) := by decide +kernel
theorem dX4_again_79 : decode cX4_again 79 = .ok (.iload_n 3, 1) := by decide +kernel
theorem dX4_again_80 : decode cX4_again 80 = .ok (.iload 5, 2) := by decide +kernel
theorem dX4_again_82 : decode cX4_again 82 = .ok (.invokestatic 181, 3) := by decide +kernel
theorem dX4_again_85 : decode cX4_again 85 = .ok (.idiv, 1) := by decide +kernel
theorem dX4_again_86 : decode cX4_again 86 = .ok (.iload 5, 2) := by decide +kernel
theorem dX4_again_88 : decode cX4_again 88 = .ok (.imul, 1) := by decide +kernel
theorem dX4_again_89 : decode cX4_again 89 = .ok (.istore_n 3, 1) := by decide +kernel
theorem dX4_again_90 : decode cX4_again 90 = .ok (.iload_n 3, 1) := by decide +kernel
theorem dX4_again_91 : decode cX4_again 91 = .ok (.sipush 2000, 3) := by decide +kernel
theorem dX4_again_94 : decode cX4_again 94 = .ok (.if_icmp .le 6, 3) := by decide +kernel
theorem dX4_again_97 : decode cX4_again 97 = .ok (.bipush (-4), 2) := by decide +kernel
theorem dX4_again_99 : decode cX4_again 99 = .ok (.ireturn, 1) := by decide +kernel
theorem dX4_again_100 : decode cX4_again 100 = .ok (.iinc 4 1, 3) := by decide +kernel
theorem dX4_again_103 : decode cX4_again 103 = .ok (.goto (-82), 3) := by decide +kernel
theorem dX4_again_106 : decode cX4_again 106 = .ok (.iload_n 3, 1) := by decide +kernel
theorem dX4_again_107 : decode cX4_again 107 = .ok (.ireturn, 1) := by decide +kernel
set_option maxRecDepth 20000 in
theorem ggX4_should_X4_isRegister : GoodIn wsX4_should wsX4_isRegister := goodIn_r _ [5, 6, 7, 4, 8] (by decide +kernel) (by decide +kernel)
set_option maxRecDepth 20000 in
theorem gX4_should_X4_isRegister : GoodIn wsX4_should (va_wsS RX4 80 yX4_isRegister wsX4_isRegister) := goodIn_app (goodIn_of _ (by decide +kernel)) ggX4_should_X4_isRegister
set_option maxRecDepth 20000 in
theorem ggX4_should_X0_wrongOnes : GoodIn wsX4_should wsX0_wrongOnes := goodIn_r _ [13, 14, 15, 16, 17, 18, 12, 19, 20, 21, 22, 23, 24, 25, 26, 27, 28, 29, 30, 31, 32, 33, 34, 35, 36, 37, 38, 39, 40, 41, 42, 43, 44, 50, 51, 52, 53, 54, 55, 56, 57, 58, 59, 60, 61, 62, 63] (by decide +kernel) (by decide +kernel)
set_option maxRecDepth 20000 in
theorem gX4_should_X0_wrongOnes : GoodIn wsX4_should (wsV RX4 184 RX0 yX0_wrongOnes wsX0_wrongOnes) := goodIn_app (goodIn_of _ (by decide +kernel)) ggX4_should_X0_wrongOnes
theorem dX4_should_0 : decode cX4_should 0 = .ok (.iload_n 1, 1) := by decide +kernel
theorem dX4_should_1 : decode cX4_should 1 = .ok (.invokestatic 80, 3) := by decide +kernel
theorem dX4_should_4 : decode cX4_should 4 = .ok (.ifCond .eq 22, 3) := by decide +kernel
theorem dX4_should_7 : decode cX4_should 7 = .ok (.iload_n 2, 1) := by decide +kernel
theorem dX4_should_8 : decode cX4_should 8 = .ok (.invokestatic 80, 3) := by decide +kernel
theorem dX4_should_11 : decode cX4_should 11 = .ok (.ifCond .eq 15, 3) := by decide +kernel
theorem dX4_should_14 : decode cX4_should 14 = .ok (.aload_n 0, 1) := by decide +kernel
theorem dX4_should_15 : decode cX4_should 15 = .ok (.getfield 19, 3) := by decide +kernel
theorem dX4_should_18 : decode cX4_should 18 = .ok (.iload_n 1, 1) := by decide +kernel
theorem dX4_should_19 : decode cX4_should 19 = .ok (.iload_n 2, 1) := by decide +kernel
theorem dX4_should_20 : decode cX4_should 20 = .ok (.invokevirtual 184, 3) := by decide +kernel
theorem dX4_should_23 : decode cX4_should 23 = .ok (.goto 4, 3) := by decide +kernel
theorem dX4_should_26 : decode cX4_should 26 = .ok (.iconst (-1), 1) := by decide +kernel
theorem dX4_should_27 : decode cX4_should 27 = .ok (.ireturn, 1) := by decide +kernel
set_option maxRecDepth 20000 in
theorem ggX4_unseen_X4_isRegister : GoodIn wsX4_unseen wsX4_isRegister := goodIn_r _ [7, 8, 9, 6, 10] (by decide +kernel) (by decide +kernel)
set_option maxRecDepth 20000 in
theorem gX4_unseen_X4_isRegister : GoodIn wsX4_unseen (va_wsS RX4 80 yX4_isRegister wsX4_isRegister) := goodIn_app (goodIn_of _ (by decide +kernel)) ggX4_unseen_X4_isRegister
set_option maxRecDepth 20000 in
theorem ggX4_unseen_X4_isBelow : GoodIn wsX4_unseen wsX4_isBelow := goodIn_r _ [10] (by decide +kernel) (by decide +kernel)
set_option maxRecDepth 20000 in
theorem gX4_unseen_X4_isBelow : GoodIn wsX4_unseen (va_wsS RX4 87 yX4_isBelow wsX4_isBelow) := goodIn_app (goodIn_of _ (by decide +kernel)) ggX4_unseen_X4_isBelow
set_option maxRecDepth 20000 in
theorem ggX4_unseen_X0_value : GoodIn wsX4_unseen wsX0_value := goodIn_r _ [15, 16, 17, 18, 19, 20, 21, 22, 14, 23, 24, 59, 60, 61, 62, 63, 64, 65, 66, 67, 68, 69, 70, 71, 72] (by decide +kernel) (by decide +kernel)
set_option maxRecDepth 20000 in
theorem gX4_unseen_X0_value : GoodIn wsX4_unseen (wsV RX4 91 RX0 yX0_value wsX0_value) := goodIn_app (goodIn_of _ (by decide +kernel)) ggX4_unseen_X0_value
set_option maxRecDepth 20000 in
theorem ggX4_unseen_X3_unseenCases : GoodIn wsX4_unseen wsX3_unseenCases := goodIn_r _ [29, 30, 31, 32, 33, 34, 28, 35, 36, 37, 38, 39, 40, 41, 42, 43, 44, 45, 46, 47, 48, 6, 49, 66, 67, 68, 69, 70, 71, 72] (by decide +kernel) (by decide +kernel)
set_option maxRecDepth 20000 in
theorem gX4_unseen_X3_unseenCases : GoodIn wsX4_unseen (wsV RX4 187 RX3 yX3_unseenCases wsX3_unseenCases) := goodIn_app (goodIn_of _ (by decide +kernel)) ggX4_unseen_X3_unseenCases
set_option maxRecDepth 20000 in
theorem ggX4_unseen_X4_power : GoodIn wsX4_unseen wsX4_power := goodIn_r _ [49] (by decide +kernel) (by decide +kernel)
set_option maxRecDepth 20000 in
theorem gX4_unseen_X4_power : GoodIn wsX4_unseen (va_wsS RX4 190 yX4_power wsX4_power) := goodIn_app (goodIn_of _ (by decide +kernel)) ggX4_unseen_X4_power
set_option maxRecDepth 20000 in
theorem ggX4_unseen_X4_commonPart : GoodIn wsX4_unseen wsX4_commonPart := goodIn_r _ [53] (by decide +kernel) (by decide +kernel)
set_option maxRecDepth 20000 in
theorem gX4_unseen_X4_commonPart : GoodIn wsX4_unseen (va_wsS RX4 181 yX4_commonPart wsX4_commonPart) := goodIn_app (goodIn_of _ (by decide +kernel)) ggX4_unseen_X4_commonPart
theorem dX4_unseen_0 : decode cX4_unseen 0 = .ok (.iload_n 1, 1) := by decide +kernel
theorem dX4_unseen_1 : decode cX4_unseen 1 = .ok (.invokestatic 80, 3) := by decide +kernel
theorem dX4_unseen_4 : decode cX4_unseen 4 = .ok (.ifCond .eq 21, 3) := by decide +kernel
theorem dX4_unseen_7 : decode cX4_unseen 7 = .ok (.iload_n 2, 1) := by decide +kernel
theorem dX4_unseen_8 : decode cX4_unseen 8 = .ok (.ifCond .lt 17, 3) := by decide +kernel
theorem dX4_unseen_11 : decode cX4_unseen 11 = .ok (.iload_n 2, 1) := by decide +kernel
theorem dX4_unseen_12 : decode cX4_unseen 12 = .ok (.bipush 10, 2) := by decide +kernel
theorem dX4_unseen_14 : decode cX4_unseen 14 = .ok (.if_icmp .gt 11, 3) := by decide +kernel
theorem dX4_unseen_17 : decode cX4_unseen 17 = .ok (.iload_n 3, 1) := by decide +kernel
theorem dX4_unseen_18 : decode cX4_unseen 18 = .ok (.iconst 2, 1) := by decide +kernel
theorem dX4_unseen_19 : decode cX4_unseen 19 = .ok (.invokestatic 87, 3) := by decide +kernel
theorem dX4_unseen_22 : decode cX4_unseen 22 = .ok (.ifCond .ne 5, 3) := by decide +kernel
theorem dX4_unseen_25 : decode cX4_unseen 25 = .ok (.iconst (-1), 1) := by decide +kernel
theorem dX4_unseen_26 : decode cX4_unseen 26 = .ok (.ireturn, 1) := by decide +kernel
theorem dX4_unseen_27 : decode cX4_unseen 27 = .ok (.aload_n 0, 1) := by decide +kernel
theorem dX4_unseen_28 : decode cX4_unseen 28 = .ok (.getfield 19, 3) := by decide +kernel
theorem dX4_unseen_31 : decode cX4_unseen 31 = .ok (.getfield 61, 3) := by decide +kernel
theorem dX4_unseen_34 : decode cX4_unseen 34 = .ok (.aload_n 0, 1) := by decide +kernel
theorem dX4_unseen_35 : decode cX4_unseen 35 = .ok (.getfield 19, 3) := by decide +kernel
theorem dX4_unseen_38 : decode cX4_unseen 38 = .ok (.iload_n 1, 1) := by decide +kernel
theorem dX4_unseen_39 : decode cX4_unseen 39 = .ok (.invokevirtual 91, 3) := by decide +kernel
theorem dX4_unseen_42 : decode cX4_unseen 42 = .ok (.iload_n 2, 1) := by decide +kernel
theorem dX4_unseen_43 : decode cX4_unseen 43 = .ok (.invokevirtual 187, 3) := by decide +kernel
theorem dX4_unseen_46 : decode cX4_unseen 46 = .ok (.istore 4, 2) := by decide +kernel
theorem dX4_unseen_48 : decode cX4_unseen 48 = .ok (.bipush 10, 2) := by decide +kernel
theorem dX4_unseen_50 : decode cX4_unseen 50 = .ok (.aload_n 0, 1) := by decide +kernel
theorem dX4_unseen_51 : decode cX4_unseen 51 = .ok (.getfield 19, 3) := by decide +kernel
theorem dX4_unseen_54 : decode cX4_unseen 54 = .ok (.getfield 61, 3) := by decide +kernel
theorem dX4_unseen_57 : decode cX4_unseen 57 = .ok (.getfield 104, 3) := by decide +kernel
theorem dX4_unseen_60 : decode cX4_unseen 60 = .ok (.invokestatic 190, 3) := by decide +kernel
theorem dX4_unseen_63 : decode cX4_unseen 63 = .ok (.istore 5, 2) := by decide +kernel
theorem dX4_unseen_65 : decode cX4_unseen 65 = .ok (.iload 4, 2) := by decide +kernel
theorem dX4_unseen_67 : decode cX4_unseen 67 = .ok (.iload 5, 2) := by decide +kernel
theorem dX4_unseen_69 : decode cX4_unseen 69 = .ok (.invokestatic 181, 3) := by decide +kernel
theorem dX4_unseen_72 : decode cX4_unseen 72 = .ok (.istore 6, 2) := by decide +kernel
theorem dX4_unseen_74 : decode cX4_unseen 74 = .ok (.iload_n 3, 1) := by decide +kernel
theorem dX4_unseen_75 : decode cX4_unseen 75 = .ok (.ifCond .ne 11, 3) := by decide +kernel
theorem dX4_unseen_78 : decode cX4_unseen 78 = .ok (.iload 4, 2) := by decide +kernel
theorem dX4_unseen_80 : decode cX4_unseen 80 = .ok (.iload 6, 2) := by decide +kernel
theorem dX4_unseen_82 : decode cX4_unseen 82 = .ok (.idiv, 1) := by decide +kernel
theorem dX4_unseen_83 : decode cX4_unseen 83 = .ok (.goto 8, 3) := by decide +kernel
theorem dX4_unseen_86 : decode cX4_unseen 86 = .ok (.iload 5, 2) := by decide +kernel
theorem dX4_unseen_88 : decode cX4_unseen 88 = .ok (.iload 6, 2) := by decide +kernel
theorem dX4_unseen_90 : decode cX4_unseen 90 = .ok (.idiv, 1) := by decide +kernel
theorem dX4_unseen_91 : decode cX4_unseen 91 = .ok (.ireturn, 1) := by decide +kernel
set_option maxRecDepth 20000 in
theorem ggX4_image_X0_becomeLike : GoodIn wsX4_image wsX0_becomeLike := goodIn_r _ [8, 9, 10, 11, 12, 13, 14, 15, 16, 17, 18, 19, 20, 21, 22, 23, 24, 25, 26, 27, 28, 29, 30, 31, 32, 38, 39, 40, 41, 42, 43, 44, 45, 46, 47, 48, 49, 50, 51] (by decide +kernel) (by decide +kernel)
set_option maxRecDepth 20000 in
theorem gX4_image_X0_becomeLike : GoodIn wsX4_image (wsV RX4 193 RX0 yX0_becomeLike wsX0_becomeLike) := goodIn_app (goodIn_of _ (by decide +kernel)) ggX4_image_X0_becomeLike
theorem dX4_image_0 : decode cX4_image 0 = .ok (.aload_n 0, 1) := by decide +kernel
theorem dX4_image_1 : decode cX4_image 1 = .ok (.getfield 23, 3) := by decide +kernel
theorem dX4_image_4 : decode cX4_image 4 = .ok (.aload_n 0, 1) := by decide +kernel
theorem dX4_image_5 : decode cX4_image 5 = .ok (.getfield 19, 3) := by decide +kernel
theorem dX4_image_8 : decode cX4_image 8 = .ok (.invokevirtual 193, 3) := by decide +kernel
theorem dX4_image_11 : decode cX4_image 11 = .ok (.aload_n 0, 1) := by decide +kernel
theorem dX4_image_12 : decode cX4_image 12 = .ok (.iconst 1, 1) := by decide +kernel
theorem dX4_image_13 : decode cX4_image 13 = .ok (.putfield 197, 3) := by decide +kernel
theorem dX4_image_16 : decode cX4_image 16 = .ok (.iconst 1, 1) := by decide +kernel
theorem dX4_image_17 : decode cX4_image 17 = .ok (.ireturn, 1) := by decide +kernel
set_option maxRecDepth 20000 in
theorem ggX4_restore_X0_becomeLike : GoodIn wsX4_restore wsX0_becomeLike := goodIn_r _ [8, 9, 10, 11, 12, 13, 14, 15, 16, 17, 18, 19, 20, 21, 22, 23, 24, 25, 26, 27, 28, 29, 30, 31, 32, 38, 39, 40, 41, 42, 43, 44, 45, 46, 47, 48, 49, 50, 51] (by decide +kernel) (by decide +kernel)
set_option maxRecDepth 20000 in
theorem gX4_restore_X0_becomeLike : GoodIn wsX4_restore (wsV RX4 193 RX0 yX0_becomeLike wsX0_becomeLike) := goodIn_app (goodIn_of _ (by decide +kernel)) ggX4_restore_X0_becomeLike
theorem dX4_restore_0 : decode cX4_restore 0 = .ok (.aload_n 0, 1) := by decide +kernel
theorem dX4_restore_1 : decode cX4_restore 1 = .ok (.getfield 197, 3) := by decide +kernel
theorem dX4_restore_4 : decode cX4_restore 4 = .ok (.ifCond .ne 6, 3) := by decide +kernel
theorem dX4_restore_7 : decode cX4_restore 7 = .ok (.bipush (-4), 2) := by decide +kernel
theorem dX4_restore_9 : decode cX4_restore 9 = .ok (.ireturn, 1) := by decide +kernel
theorem dX4_restore_10 : decode cX4_restore 10 = .ok (.aload_n 0, 1) := by decide +kernel
theorem dX4_restore_11 : decode cX4_restore 11 = .ok (.getfield 19, 3) := by decide +kernel
theorem dX4_restore_14 : decode cX4_restore 14 = .ok (.aload_n 0, 1) := by decide +kernel
theorem dX4_restore_15 : decode cX4_restore 15 = .ok (.getfield 23, 3) := by decide +kernel
theorem dX4_restore_18 : decode cX4_restore 18 = .ok (.invokevirtual 193, 3) := by decide +kernel
theorem dX4_restore_21 : decode cX4_restore 21 = .ok (.iconst 1, 1) := by decide +kernel
theorem dX4_restore_22 : decode cX4_restore 22 = .ok (.ireturn, 1) := by decide +kernel
set_option maxRecDepth 20000 in
theorem ggX4_rubbed_X4_isSheet : GoodIn wsX4_rubbed wsX4_isSheet := goodIn_r _ [9, 10, 11, 8, 12] (by decide +kernel) (by decide +kernel)
set_option maxRecDepth 20000 in
theorem gX4_rubbed_X4_isSheet : GoodIn wsX4_rubbed (va_wsS RX4 201 yX4_isSheet wsX4_isSheet) := goodIn_app (goodIn_of _ (by decide +kernel)) ggX4_rubbed_X4_isSheet
set_option maxRecDepth 20000 in
theorem ggX4_rubbed_X4_isLane : GoodIn wsX4_rubbed wsX4_isLane := goodIn_r _ [15, 10, 11, 8, 12] (by decide +kernel) (by decide +kernel)
set_option maxRecDepth 20000 in
theorem gX4_rubbed_X4_isLane : GoodIn wsX4_rubbed (va_wsS RX4 204 yX4_isLane wsX4_isLane) := goodIn_app (goodIn_of _ (by decide +kernel)) ggX4_rubbed_X4_isLane
set_option maxRecDepth 20000 in
theorem ggX4_rubbed_X4_isBelow : GoodIn wsX4_rubbed wsX4_isBelow := goodIn_r _ [12] (by decide +kernel) (by decide +kernel)
set_option maxRecDepth 20000 in
theorem gX4_rubbed_X4_isBelow : GoodIn wsX4_rubbed (va_wsS RX4 87 yX4_isBelow wsX4_isBelow) := goodIn_app (goodIn_of _ (by decide +kernel)) ggX4_rubbed_X4_isBelow
set_option maxRecDepth 20000 in
theorem ggX4_rubbed_X1_refusal : GoodIn wsX4_rubbed wsX1_refusal := goodIn_r _ [20, 21, 22, 23, 24, 25, 19, 26, 27, 74, 75, 76, 77] (by decide +kernel) (by decide +kernel)
set_option maxRecDepth 20000 in
theorem gX4_rubbed_X1_refusal : GoodIn wsX4_rubbed (wsV RX4 207 RX1 yX1_refusal wsX1_refusal) := goodIn_app (goodIn_of _ (by decide +kernel)) ggX4_rubbed_X1_refusal
set_option maxRecDepth 20000 in
theorem ggX4_rubbed_X3_leastFitting : GoodIn wsX4_rubbed wsX3_leastFitting := goodIn_r _ [32, 33, 34, 35, 36, 37, 38, 39, 40, 41, 31, 42, 43, 44, 45, 46, 47, 48, 49, 67, 68, 69, 70, 71, 72, 73] (by decide +kernel) (by decide +kernel)
set_option maxRecDepth 20000 in
theorem gX4_rubbed_X3_leastFitting : GoodIn wsX4_rubbed (wsV RX4 214 RX3 yX3_leastFitting wsX3_leastFitting) := goodIn_app (goodIn_of _ (by decide +kernel)) ggX4_rubbed_X3_leastFitting
set_option maxRecDepth 20000 in
theorem ggX4_rubbed_X3_told : GoodIn wsX4_rubbed wsX3_told := goodIn_r _ [42, 33, 34, 67, 68, 69, 70, 71, 72, 73] (by decide +kernel) (by decide +kernel)
set_option maxRecDepth 20000 in
theorem gX4_rubbed_X3_told : GoodIn wsX4_rubbed (wsV RX4 218 RX3 yX3_told wsX3_told) := goodIn_app (goodIn_of _ (by decide +kernel)) ggX4_rubbed_X3_told
set_option maxRecDepth 20000 in
theorem ggX4_rubbed_X3_howManyFrom : GoodIn wsX4_rubbed wsX3_howManyFrom := goodIn_r _ [54, 38, 43, 44, 45, 31, 46, 33, 35, 47, 48, 49, 67, 68, 69, 70, 71, 72, 73] (by decide +kernel) (by decide +kernel)
set_option maxRecDepth 20000 in
theorem gX4_rubbed_X3_howManyFrom : GoodIn wsX4_rubbed (wsV RX4 221 RX3 yX3_howManyFrom wsX3_howManyFrom) := goodIn_app (goodIn_of _ (by decide +kernel)) ggX4_rubbed_X3_howManyFrom
theorem dX4_rubbed_0 : decode cX4_rubbed 0 = .ok (.iload_n 1, 1) := by decide +kernel
theorem dX4_rubbed_1 : decode cX4_rubbed 1 = .ok (.invokestatic 201, 3) := by decide +kernel
theorem dX4_rubbed_4 : decode cX4_rubbed 4 = .ok (.ifCond .eq 19, 3) := by decide +kernel
theorem dX4_rubbed_7 : decode cX4_rubbed 7 = .ok (.iload_n 2, 1) := by decide +kernel
theorem dX4_rubbed_8 : decode cX4_rubbed 8 = .ok (.invokestatic 204, 3) := by decide +kernel
theorem dX4_rubbed_11 : decode cX4_rubbed 11 = .ok (.ifCond .eq 12, 3) := by decide +kernel
theorem dX4_rubbed_14 : decode cX4_rubbed 14 = .ok (.iload 4, 2) := by decide +kernel
theorem dX4_rubbed_16 : decode cX4_rubbed 16 = .ok (.iconst 2, 1) := by decide +kernel
theorem dX4_rubbed_17 : decode cX4_rubbed 17 = .ok (.invokestatic 87, 3) := by decide +kernel
theorem dX4_rubbed_20 : decode cX4_rubbed 20 = .ok (.ifCond .ne 5, 3) := by decide +kernel
theorem dX4_rubbed_23 : decode cX4_rubbed 23 = .ok (.iconst (-1), 1) := by decide +kernel
theorem dX4_rubbed_24 : decode cX4_rubbed 24 = .ok (.ireturn, 1) := by decide +kernel
theorem dX4_rubbed_25 : decode cX4_rubbed 25 = .ok (.aload_n 0, 1) := by decide +kernel
theorem dX4_rubbed_26 : decode cX4_rubbed 26 = .ok (.getfield 19, 3) := by decide +kernel
theorem dX4_rubbed_29 : decode cX4_rubbed 29 = .ok (.getfield 61, 3) := by decide +kernel
theorem dX4_rubbed_32 : decode cX4_rubbed 32 = .ok (.astore 5, 2) := by decide +kernel
theorem dX4_rubbed_34 : decode cX4_rubbed 34 = .ok (.aload_n 0, 1) := by decide +kernel
theorem dX4_rubbed_35 : decode cX4_rubbed 35 = .ok (.getfield 28, 3) := by decide +kernel
theorem dX4_rubbed_38 : decode cX4_rubbed 38 = .ok (.iload_n 1, 1) := by decide +kernel
theorem dX4_rubbed_39 : decode cX4_rubbed 39 = .ok (.aaload, 1) := by decide +kernel
theorem dX4_rubbed_40 : decode cX4_rubbed 40 = .ok (.astore 6, 2) := by decide +kernel
theorem dX4_rubbed_42 : decode cX4_rubbed 42 = .ok (.aload 6, 2) := by decide +kernel
theorem dX4_rubbed_44 : decode cX4_rubbed 44 = .ok (.iload_n 2, 1) := by decide +kernel
theorem dX4_rubbed_45 : decode cX4_rubbed 45 = .ok (.iload_n 3, 1) := by decide +kernel
theorem dX4_rubbed_46 : decode cX4_rubbed 46 = .ok (.aload 5, 2) := by decide +kernel
theorem dX4_rubbed_48 : decode cX4_rubbed 48 = .ok (.getfield 104, 3) := by decide +kernel
theorem dX4_rubbed_51 : decode cX4_rubbed 51 = .ok (.invokevirtual 207, 3) := by decide +kernel
theorem dX4_rubbed_54 : decode cX4_rubbed 54 = .ok (.istore 7, 2) := by decide +kernel
theorem dX4_rubbed_56 : decode cX4_rubbed 56 = .ok (.iload 7, 2) := by decide +kernel
theorem dX4_rubbed_58 : decode cX4_rubbed 58 = .ok (.ifCond .eq 6, 3) := by decide +kernel
theorem dX4_rubbed_61 : decode cX4_rubbed 61 = .ok (.iload 7, 2) := by decide +kernel
theorem dX4_rubbed_63 : decode cX4_rubbed 63 = .ok (.ireturn, 1) := by decide +kernel
theorem dX4_rubbed_64 : decode cX4_rubbed 64 = .ok (.aload 5, 2) := by decide +kernel
theorem dX4_rubbed_66 : decode cX4_rubbed 66 = .ok (.aload 6, 2) := by decide +kernel
theorem dX4_rubbed_68 : decode cX4_rubbed 68 = .ok (.getfield 210, 3) := by decide +kernel
theorem dX4_rubbed_71 : decode cX4_rubbed 71 = .ok (.iload_n 3, 1) := by decide +kernel
theorem dX4_rubbed_72 : decode cX4_rubbed 72 = .ok (.invokevirtual 214, 3) := by decide +kernel
theorem dX4_rubbed_75 : decode cX4_rubbed 75 = .ok (.istore 8, 2) := by decide +kernel
theorem dX4_rubbed_77 : decode cX4_rubbed 77 = .ok (.iload 4, 2) := by decide +kernel
theorem dX4_rubbed_79 : decode cX4_rubbed 79 = .ok (.iconst 1, 1) := by decide +kernel
theorem dX4_rubbed_80 : decode cX4_rubbed 80 = .ok (.if_icmp .ne 6, 3) := by decide +kernel
theorem dX4_rubbed_83 : decode cX4_rubbed 83 = .ok (.iload 8, 2) := by decide +kernel
theorem dX4_rubbed_85 : decode cX4_rubbed 85 = .ok (.ireturn, 1) := by decide +kernel
theorem dX4_rubbed_86 : decode cX4_rubbed 86 = .ok (.iload 8, 2) := by decide +kernel
theorem dX4_rubbed_88 : decode cX4_rubbed 88 = .ok (.bipush (-4), 2) := by decide +kernel
theorem dX4_rubbed_90 : decode cX4_rubbed 90 = .ok (.if_icmp .ne 7, 3) := by decide +kernel
theorem dX4_rubbed_93 : decode cX4_rubbed 93 = .ok (.iconst 0, 1) := by decide +kernel
theorem dX4_rubbed_94 : decode cX4_rubbed 94 = .ok (.goto 21, 3) := by decide +kernel
theorem dX4_rubbed_97 : decode cX4_rubbed 97 = .ok (.aload 5, 2) := by decide +kernel
theorem dX4_rubbed_99 : decode cX4_rubbed 99 = .ok (.iload 8, 2) := by decide +kernel
theorem dX4_rubbed_101 : decode cX4_rubbed 101 = .ok (.aload 5, 2) := by decide +kernel
theorem dX4_rubbed_103 : decode cX4_rubbed 103 = .ok (.aload 6, 2) := by decide +kernel
theorem dX4_rubbed_105 : decode cX4_rubbed 105 = .ok (.getfield 210, 3) := by decide +kernel
theorem dX4_rubbed_108 : decode cX4_rubbed 108 = .ok (.iload_n 3, 1) := by decide +kernel
theorem dX4_rubbed_109 : decode cX4_rubbed 109 = .ok (.invokevirtual 218, 3) := by decide +kernel
theorem dX4_rubbed_112 : decode cX4_rubbed 112 = .ok (.invokevirtual 221, 3) := by decide +kernel
theorem dX4_rubbed_115 : decode cX4_rubbed 115 = .ok (.ireturn, 1) := by decide +kernel
set_option maxRecDepth 20000 in
theorem ggX4_seen_X4_isWheel : GoodIn wsX4_seen wsX4_isWheel := goodIn_r _ [10, 2, 3, 11, 12, 13, 9, 14, 53, 54, 55, 56, 57, 58, 59, 60, 61, 62, 63, 64, 65, 66, 67, 68, 69, 70, 71] (by decide +kernel) (by decide +kernel)
set_option maxRecDepth 20000 in
theorem gX4_seen_X4_isWheel : GoodIn wsX4_seen (wsV RX4 57 RX4 yX4_isWheel wsX4_isWheel) := goodIn_app (goodIn_of _ (by decide +kernel)) ggX4_seen_X4_isWheel
set_option maxRecDepth 20000 in
theorem ggX4_seen_X4_isSheet : GoodIn wsX4_seen wsX4_isSheet := goodIn_r _ [17, 12, 13, 9, 14] (by decide +kernel) (by decide +kernel)
set_option maxRecDepth 20000 in
theorem gX4_seen_X4_isSheet : GoodIn wsX4_seen (va_wsS RX4 201 yX4_isSheet wsX4_isSheet) := goodIn_app (goodIn_of _ (by decide +kernel)) ggX4_seen_X4_isSheet
set_option maxRecDepth 20000 in
theorem ggX4_seen_X4_isLane : GoodIn wsX4_seen wsX4_isLane := goodIn_r _ [20, 12, 13, 9, 14] (by decide +kernel) (by decide +kernel)
set_option maxRecDepth 20000 in
theorem gX4_seen_X4_isLane : GoodIn wsX4_seen (va_wsS RX4 204 yX4_isLane wsX4_isLane) := goodIn_app (goodIn_of _ (by decide +kernel)) ggX4_seen_X4_isLane
set_option maxRecDepth 20000 in
theorem ggX4_seen_X1_refusal : GoodIn wsX4_seen wsX1_refusal := goodIn_r _ [25, 26, 27, 28, 29, 30, 24, 31, 32, 72, 73, 74, 75] (by decide +kernel) (by decide +kernel)
set_option maxRecDepth 20000 in
theorem gX4_seen_X1_refusal : GoodIn wsX4_seen (wsV RX4 207 RX1 yX1_refusal wsX1_refusal) := goodIn_app (goodIn_of _ (by decide +kernel)) ggX4_seen_X1_refusal
set_option maxRecDepth 20000 in
theorem ggX4_seen_X3_kindsSeen : GoodIn wsX4_seen wsX3_kindsSeen := goodIn_r _ [36, 37, 38, 35, 39, 40, 41, 42, 43, 44, 45, 46, 47, 48, 49, 50, 51, 52] (by decide +kernel) (by decide +kernel)
set_option maxRecDepth 20000 in
theorem gX4_seen_X3_kindsSeen : GoodIn wsX4_seen (va_wsS RX4 224 yX3_kindsSeen wsX3_kindsSeen) := goodIn_app (goodIn_of _ (by decide +kernel)) ggX4_seen_X3_kindsSeen
theorem dX4_seen_0 : decode cX4_seen 0 = .ok (.aload_n 0, 1) := by decide +kernel
theorem dX4_seen_1 : decode cX4_seen 1 = .ok (.iload_n 1, 1) := by decide +kernel
theorem dX4_seen_2 : decode cX4_seen 2 = .ok (.invokevirtual 57, 3) := by decide +kernel
theorem dX4_seen_5 : decode cX4_seen 5 = .ok (.ifCond .eq 30, 3) := by decide +kernel
theorem dX4_seen_8 : decode cX4_seen 8 = .ok (.iload_n 2, 1) := by decide +kernel
theorem dX4_seen_9 : decode cX4_seen 9 = .ok (.invokestatic 201, 3) := by decide +kernel
theorem dX4_seen_12 : decode cX4_seen 12 = .ok (.ifCond .eq 23, 3) := by decide +kernel
theorem dX4_seen_15 : decode cX4_seen 15 = .ok (.iload_n 3, 1) := by decide +kernel
theorem dX4_seen_16 : decode cX4_seen 16 = .ok (.invokestatic 204, 3) := by decide +kernel
theorem dX4_seen_19 : decode cX4_seen 19 = .ok (.ifCond .eq 16, 3) := by decide +kernel
theorem dX4_seen_22 : decode cX4_seen 22 = .ok (.iload 5, 2) := by decide +kernel
theorem dX4_seen_24 : decode cX4_seen 24 = .ok (.iconst 1, 1) := by decide +kernel
theorem dX4_seen_25 : decode cX4_seen 25 = .ok (.if_icmp .lt 10, 3) := by decide +kernel
theorem dX4_seen_28 : decode cX4_seen 28 = .ok (.iload 5, 2) := by decide +kernel
theorem dX4_seen_30 : decode cX4_seen 30 = .ok (.bipush 8, 2) := by decide +kernel
theorem dX4_seen_32 : decode cX4_seen 32 = .ok (.if_icmp .le 5, 3) := by decide +kernel
theorem dX4_seen_35 : decode cX4_seen 35 = .ok (.iconst (-1), 1) := by decide +kernel
theorem dX4_seen_36 : decode cX4_seen 36 = .ok (.ireturn, 1) := by decide +kernel
theorem dX4_seen_37 : decode cX4_seen 37 = .ok (.aload_n 0, 1) := by decide +kernel
theorem dX4_seen_38 : decode cX4_seen 38 = .ok (.getfield 28, 3) := by decide +kernel
theorem dX4_seen_41 : decode cX4_seen 41 = .ok (.iload_n 2, 1) := by decide +kernel
theorem dX4_seen_42 : decode cX4_seen 42 = .ok (.aaload, 1) := by decide +kernel
theorem dX4_seen_43 : decode cX4_seen 43 = .ok (.astore 6, 2) := by decide +kernel
theorem dX4_seen_45 : decode cX4_seen 45 = .ok (.aload 6, 2) := by decide +kernel
theorem dX4_seen_47 : decode cX4_seen 47 = .ok (.iload_n 3, 1) := by decide +kernel
theorem dX4_seen_48 : decode cX4_seen 48 = .ok (.iload 4, 2) := by decide +kernel
theorem dX4_seen_50 : decode cX4_seen 50 = .ok (.iconst 3, 1) := by decide +kernel
theorem dX4_seen_51 : decode cX4_seen 51 = .ok (.iload 5, 2) := by decide +kernel
theorem dX4_seen_53 : decode cX4_seen 53 = .ok (.imul, 1) := by decide +kernel
theorem dX4_seen_54 : decode cX4_seen 54 = .ok (.invokevirtual 207, 3) := by decide +kernel
theorem dX4_seen_57 : decode cX4_seen 57 = .ok (.istore 7, 2) := by decide +kernel
theorem dX4_seen_59 : decode cX4_seen 59 = .ok (.iload 7, 2) := by decide +kernel
theorem dX4_seen_61 : decode cX4_seen 61 = .ok (.ifCond .eq 8, 3) := by decide +kernel
theorem dX4_seen_64 : decode cX4_seen 64 = .ok (.iload 7, 2) := by decide +kernel
theorem dX4_seen_66 : decode cX4_seen 66 = .ok (.goto 27, 3) := by decide +kernel
theorem dX4_seen_69 : decode cX4_seen 69 = .ok (.aload_n 0, 1) := by decide +kernel
theorem dX4_seen_70 : decode cX4_seen 70 = .ok (.getfield 19, 3) := by decide +kernel
theorem dX4_seen_73 : decode cX4_seen 73 = .ok (.getfield 61, 3) := by decide +kernel
theorem dX4_seen_76 : decode cX4_seen 76 = .ok (.getfield 70, 3) := by decide +kernel
theorem dX4_seen_79 : decode cX4_seen 79 = .ok (.iload_n 1, 1) := by decide +kernel
theorem dX4_seen_80 : decode cX4_seen 80 = .ok (.iaload, 1) := by decide +kernel
theorem dX4_seen_81 : decode cX4_seen 81 = .ok (.aload 6, 2) := by decide +kernel
theorem dX4_seen_83 : decode cX4_seen 83 = .ok (.getfield 210, 3) := by decide +kernel
theorem dX4_seen_86 : decode cX4_seen 86 = .ok (.iload 4, 2) := by decide +kernel
theorem dX4_seen_88 : decode cX4_seen 88 = .ok (.iload 5, 2) := by decide +kernel
theorem dX4_seen_90 : decode cX4_seen 90 = .ok (.invokestatic 224, 3) := by decide +kernel
theorem dX4_seen_93 : decode cX4_seen 93 = .ok (.ireturn, 1) := by decide +kernel
set_option maxRecDepth 20000 in
theorem ggX4_film_X4_isRegister : GoodIn wsX4_film wsX4_isRegister := goodIn_r _ [9, 10, 11, 8, 12] (by decide +kernel) (by decide +kernel)
set_option maxRecDepth 20000 in
theorem gX4_film_X4_isRegister : GoodIn wsX4_film (va_wsS RX4 80 yX4_isRegister wsX4_isRegister) := goodIn_app (goodIn_of _ (by decide +kernel)) ggX4_film_X4_isRegister
set_option maxRecDepth 20000 in
theorem ggX4_film_X4_isSheet : GoodIn wsX4_film wsX4_isSheet := goodIn_r _ [15, 10, 11, 8, 12] (by decide +kernel) (by decide +kernel)
set_option maxRecDepth 20000 in
theorem gX4_film_X4_isSheet : GoodIn wsX4_film (va_wsS RX4 201 yX4_isSheet wsX4_isSheet) := goodIn_app (goodIn_of _ (by decide +kernel)) ggX4_film_X4_isSheet
set_option maxRecDepth 20000 in
theorem ggX4_film_X4_isLane : GoodIn wsX4_film wsX4_isLane := goodIn_r _ [18, 10, 11, 8, 12] (by decide +kernel) (by decide +kernel)
set_option maxRecDepth 20000 in
theorem gX4_film_X4_isLane : GoodIn wsX4_film (va_wsS RX4 204 yX4_isLane wsX4_isLane) := goodIn_app (goodIn_of _ (by decide +kernel)) ggX4_film_X4_isLane
set_option maxRecDepth 20000 in
theorem ggX4_film_X1_refusal : GoodIn wsX4_film wsX1_refusal := goodIn_r _ [23, 24, 25, 26, 27, 28, 22, 29, 30, 56, 57, 58, 59] (by decide +kernel) (by decide +kernel)
set_option maxRecDepth 20000 in
theorem gX4_film_X1_refusal : GoodIn wsX4_film (wsV RX4 207 RX1 yX1_refusal wsX1_refusal) := goodIn_app (goodIn_of _ (by decide +kernel)) ggX4_film_X1_refusal
set_option maxRecDepth 20000 in
theorem ggX4_film_X0_shown : GoodIn wsX4_film wsX0_shown := goodIn_r _ [35, 36, 42, 43, 44, 45, 46, 47, 48] (by decide +kernel) (by decide +kernel)
set_option maxRecDepth 20000 in
theorem gX4_film_X0_shown : GoodIn wsX4_film (wsV RX4 83 RX0 yX0_shown wsX0_shown) := goodIn_app (goodIn_of _ (by decide +kernel)) ggX4_film_X0_shown
theorem dX4_film_0 : decode cX4_film 0 = .ok (.iload_n 1, 1) := by decide +kernel
theorem dX4_film_1 : decode cX4_film 1 = .ok (.invokestatic 80, 3) := by decide +kernel
theorem dX4_film_4 : decode cX4_film 4 = .ok (.ifCond .eq 17, 3) := by decide +kernel
theorem dX4_film_7 : decode cX4_film 7 = .ok (.iload_n 2, 1) := by decide +kernel
theorem dX4_film_8 : decode cX4_film 8 = .ok (.invokestatic 201, 3) := by decide +kernel
theorem dX4_film_11 : decode cX4_film 11 = .ok (.ifCond .eq 10, 3) := by decide +kernel
theorem dX4_film_14 : decode cX4_film 14 = .ok (.iload_n 3, 1) := by decide +kernel
theorem dX4_film_15 : decode cX4_film 15 = .ok (.invokestatic 204, 3) := by decide +kernel
theorem dX4_film_18 : decode cX4_film 18 = .ok (.ifCond .ne 5, 3) := by decide +kernel
theorem dX4_film_21 : decode cX4_film 21 = .ok (.iconst (-1), 1) := by decide +kernel
theorem dX4_film_22 : decode cX4_film 22 = .ok (.ireturn, 1) := by decide +kernel
theorem dX4_film_23 : decode cX4_film 23 = .ok (.aload_n 0, 1) := by decide +kernel
theorem dX4_film_24 : decode cX4_film 24 = .ok (.getfield 28, 3) := by decide +kernel
theorem dX4_film_27 : decode cX4_film 27 = .ok (.iload_n 2, 1) := by decide +kernel
theorem dX4_film_28 : decode cX4_film 28 = .ok (.aaload, 1) := by decide +kernel
theorem dX4_film_29 : decode cX4_film 29 = .ok (.astore 5, 2) := by decide +kernel
theorem dX4_film_31 : decode cX4_film 31 = .ok (.aload_n 0, 1) := by decide +kernel
theorem dX4_film_32 : decode cX4_film 32 = .ok (.getfield 19, 3) := by decide +kernel
theorem dX4_film_35 : decode cX4_film 35 = .ok (.getfield 61, 3) := by decide +kernel
theorem dX4_film_38 : decode cX4_film 38 = .ok (.getfield 104, 3) := by decide +kernel
theorem dX4_film_41 : decode cX4_film 41 = .ok (.istore 6, 2) := by decide +kernel
theorem dX4_film_43 : decode cX4_film 43 = .ok (.aload 5, 2) := by decide +kernel
theorem dX4_film_45 : decode cX4_film 45 = .ok (.iload_n 3, 1) := by decide +kernel
theorem dX4_film_46 : decode cX4_film 46 = .ok (.iload 4, 2) := by decide +kernel
theorem dX4_film_48 : decode cX4_film 48 = .ok (.iload 6, 2) := by decide +kernel
theorem dX4_film_50 : decode cX4_film 50 = .ok (.invokevirtual 207, 3) := by decide +kernel
theorem dX4_film_53 : decode cX4_film 53 = .ok (.istore 7, 2) := by decide +kernel
theorem dX4_film_55 : decode cX4_film 55 = .ok (.iload 7, 2) := by decide +kernel
theorem dX4_film_57 : decode cX4_film 57 = .ok (.ifCond .eq 6, 3) := by decide +kernel
theorem dX4_film_60 : decode cX4_film 60 = .ok (.iload 7, 2) := by decide +kernel
theorem dX4_film_62 : decode cX4_film 62 = .ok (.ireturn, 1) := by decide +kernel
theorem dX4_film_63 : decode cX4_film 63 = .ok (.iconst 0, 1) := by decide +kernel
theorem dX4_film_64 : decode cX4_film 64 = .ok (.istore 8, 2) := by decide +kernel
theorem dX4_film_66 : decode cX4_film 66 = .ok (.iload 8, 2) := by decide +kernel
theorem dX4_film_68 : decode cX4_film 68 = .ok (.iload 6, 2) := by decide +kernel
theorem dX4_film_70 : decode cX4_film 70 = .ok (.if_icmp .ge 31, 3) := by decide +kernel
theorem dX4_film_73 : decode cX4_film 73 = .ok (.aload 5, 2) := by decide +kernel
theorem dX4_film_75 : decode cX4_film 75 = .ok (.getfield 210, 3) := by decide +kernel
theorem dX4_film_78 : decode cX4_film 78 = .ok (.iload 4, 2) := by decide +kernel
theorem dX4_film_80 : decode cX4_film 80 = .ok (.iload 8, 2) := by decide +kernel
theorem dX4_film_82 : decode cX4_film 82 = .ok (.iadd, 1) := by decide +kernel
theorem dX4_film_83 : decode cX4_film 83 = .ok (.aload_n 0, 1) := by decide +kernel
theorem dX4_film_84 : decode cX4_film 84 = .ok (.getfield 19, 3) := by decide +kernel
theorem dX4_film_87 : decode cX4_film 87 = .ok (.iload_n 1, 1) := by decide +kernel
theorem dX4_film_88 : decode cX4_film 88 = .ok (.iload 8, 2) := by decide +kernel
theorem dX4_film_90 : decode cX4_film 90 = .ok (.invokevirtual 83, 3) := by decide +kernel
theorem dX4_film_93 : decode cX4_film 93 = .ok (.i2l, 1) := by decide +kernel
theorem dX4_film_94 : decode cX4_film 94 = .ok (.lastore, 1) := by decide +kernel
theorem dX4_film_95 : decode cX4_film 95 = .ok (.iinc 8 1, 3) := by decide +kernel
theorem dX4_film_98 : decode cX4_film 98 = .ok (.goto (-32), 3) := by decide +kernel
theorem dX4_film_101 : decode cX4_film 101 = .ok (.iload 6, 2) := by decide +kernel
theorem dX4_film_103 : decode cX4_film 103 = .ok (.ireturn, 1) := by decide +kernel
set_option maxRecDepth 20000 in
theorem ggX4_sheet_X4_isSheet : GoodIn wsX4_sheet wsX4_isSheet := goodIn_r _ [5, 6, 7, 4, 8] (by decide +kernel) (by decide +kernel)
set_option maxRecDepth 20000 in
theorem gX4_sheet_X4_isSheet : GoodIn wsX4_sheet (va_wsS RX4 201 yX4_isSheet wsX4_isSheet) := goodIn_app (goodIn_of _ (by decide +kernel)) ggX4_sheet_X4_isSheet
set_option maxRecDepth 20000 in
theorem ggX4_sheet_X4_isLane : GoodIn wsX4_sheet wsX4_isLane := goodIn_r _ [11, 6, 7, 4, 8] (by decide +kernel) (by decide +kernel)
set_option maxRecDepth 20000 in
theorem gX4_sheet_X4_isLane : GoodIn wsX4_sheet (va_wsS RX4 204 yX4_isLane wsX4_isLane) := goodIn_app (goodIn_of _ (by decide +kernel)) ggX4_sheet_X4_isLane
set_option maxRecDepth 20000 in
theorem ggX4_sheet_X1_hold : GoodIn wsX4_sheet wsX1_hold := goodIn_r _ [16, 17, 18, 19, 20, 26, 27, 28, 29] (by decide +kernel) (by decide +kernel)
set_option maxRecDepth 20000 in
theorem gX4_sheet_X1_hold : GoodIn wsX4_sheet (wsV RX4 228 RX1 yX1_hold wsX1_hold) := goodIn_app (goodIn_of _ (by decide +kernel)) ggX4_sheet_X1_hold
theorem dX4_sheet_0 : decode cX4_sheet 0 = .ok (.iload_n 1, 1) := by decide +kernel
theorem dX4_sheet_1 : decode cX4_sheet 1 = .ok (.invokestatic 201, 3) := by decide +kernel
theorem dX4_sheet_4 : decode cX4_sheet 4 = .ok (.ifCond .eq 16, 3) := by decide +kernel
theorem dX4_sheet_7 : decode cX4_sheet 7 = .ok (.iload_n 2, 1) := by decide +kernel
theorem dX4_sheet_8 : decode cX4_sheet 8 = .ok (.invokestatic 204, 3) := by decide +kernel
theorem dX4_sheet_11 : decode cX4_sheet 11 = .ok (.ifCond .eq 9, 3) := by decide +kernel
theorem dX4_sheet_14 : decode cX4_sheet 14 = .ok (.iload_n 3, 1) := by decide +kernel
theorem dX4_sheet_15 : decode cX4_sheet 15 = .ok (.bipush 24, 2) := by decide +kernel
theorem dX4_sheet_17 : decode cX4_sheet 17 = .ok (.if_icmp .le 5, 3) := by decide +kernel
theorem dX4_sheet_20 : decode cX4_sheet 20 = .ok (.iconst (-1), 1) := by decide +kernel
theorem dX4_sheet_21 : decode cX4_sheet 21 = .ok (.ireturn, 1) := by decide +kernel
theorem dX4_sheet_22 : decode cX4_sheet 22 = .ok (.iload_n 3, 1) := by decide +kernel
theorem dX4_sheet_23 : decode cX4_sheet 23 = .ok (.ifCond .ge 6, 3) := by decide +kernel
theorem dX4_sheet_26 : decode cX4_sheet 26 = .ok (.bipush (-14), 2) := by decide +kernel
theorem dX4_sheet_28 : decode cX4_sheet 28 = .ok (.ireturn, 1) := by decide +kernel
theorem dX4_sheet_29 : decode cX4_sheet 29 = .ok (.aload_n 0, 1) := by decide +kernel
theorem dX4_sheet_30 : decode cX4_sheet 30 = .ok (.getfield 28, 3) := by decide +kernel
theorem dX4_sheet_33 : decode cX4_sheet 33 = .ok (.iload_n 1, 1) := by decide +kernel
theorem dX4_sheet_34 : decode cX4_sheet 34 = .ok (.aaload, 1) := by decide +kernel
theorem dX4_sheet_35 : decode cX4_sheet 35 = .ok (.iload_n 2, 1) := by decide +kernel
theorem dX4_sheet_36 : decode cX4_sheet 36 = .ok (.iload_n 3, 1) := by decide +kernel
theorem dX4_sheet_37 : decode cX4_sheet 37 = .ok (.invokevirtual 228, 3) := by decide +kernel
theorem dX4_sheet_40 : decode cX4_sheet 40 = .ok (.iload_n 3, 1) := by decide +kernel
theorem dX4_sheet_41 : decode cX4_sheet 41 = .ok (.ireturn, 1) := by decide +kernel
set_option maxRecDepth 20000 in
theorem ggX4_drop_X4_isSheet : GoodIn wsX4_drop wsX4_isSheet := goodIn_r _ [7, 8, 9, 6, 10] (by decide +kernel) (by decide +kernel)
set_option maxRecDepth 20000 in
theorem gX4_drop_X4_isSheet : GoodIn wsX4_drop (va_wsS RX4 201 yX4_isSheet wsX4_isSheet) := goodIn_app (goodIn_of _ (by decide +kernel)) ggX4_drop_X4_isSheet
theorem dX4_drop_0 : decode cX4_drop 0 = .ok (.iload_n 1, 1) := by decide +kernel
theorem dX4_drop_1 : decode cX4_drop 1 = .ok (.invokestatic 201, 3) := by decide +kernel
theorem dX4_drop_4 : decode cX4_drop 4 = .ok (.ifCond .ne 5, 3) := by decide +kernel
theorem dX4_drop_7 : decode cX4_drop 7 = .ok (.iconst (-1), 1) := by decide +kernel
theorem dX4_drop_8 : decode cX4_drop 8 = .ok (.ireturn, 1) := by decide +kernel
theorem dX4_drop_9 : decode cX4_drop 9 = .ok (.aload_n 0, 1) := by decide +kernel
theorem dX4_drop_10 : decode cX4_drop 10 = .ok (.getfield 28, 3) := by decide +kernel
theorem dX4_drop_13 : decode cX4_drop 13 = .ok (.iload_n 1, 1) := by decide +kernel
theorem dX4_drop_14 : decode cX4_drop 14 = .ok (.aaload, 1) := by decide +kernel
theorem dX4_drop_15 : decode cX4_drop 15 = .ok (.astore_n 2, 1) := by decide +kernel
theorem dX4_drop_16 : decode cX4_drop 16 = .ok (.aload_n 2, 1) := by decide +kernel
theorem dX4_drop_17 : decode cX4_drop 17 = .ok (.getfield 231, 3) := by decide +kernel
theorem dX4_drop_20 : decode cX4_drop 20 = .ok (.ifCond .ne 6, 3) := by decide +kernel
theorem dX4_drop_23 : decode cX4_drop 23 = .ok (.bipush (-11), 2) := by decide +kernel
theorem dX4_drop_25 : decode cX4_drop 25 = .ok (.ireturn, 1) := by decide +kernel
theorem dX4_drop_26 : decode cX4_drop 26 = .ok (.aload_n 2, 1) := by decide +kernel
theorem dX4_drop_27 : decode cX4_drop 27 = .ok (.iconst 0, 1) := by decide +kernel
theorem dX4_drop_28 : decode cX4_drop 28 = .ok (.putfield 231, 3) := by decide +kernel
theorem dX4_drop_31 : decode cX4_drop 31 = .ok (.aload_n 2, 1) := by decide +kernel
theorem dX4_drop_32 : decode cX4_drop 32 = .ok (.getfield 234, 3) := by decide +kernel
theorem dX4_drop_35 : decode cX4_drop 35 = .ok (.ireturn, 1) := by decide +kernel
set_option maxRecDepth 20000 in
theorem ggX4_item_X4_isSheet : GoodIn wsX4_item wsX4_isSheet := goodIn_r _ [6, 7, 8, 5, 9] (by decide +kernel) (by decide +kernel)
set_option maxRecDepth 20000 in
theorem gX4_item_X4_isSheet : GoodIn wsX4_item (va_wsS RX4 201 yX4_isSheet wsX4_isSheet) := goodIn_app (goodIn_of _ (by decide +kernel)) ggX4_item_X4_isSheet
set_option maxRecDepth 20000 in
theorem ggX4_item_X4_isLane : GoodIn wsX4_item wsX4_isLane := goodIn_r _ [12, 7, 8, 5, 9] (by decide +kernel) (by decide +kernel)
set_option maxRecDepth 20000 in
theorem gX4_item_X4_isLane : GoodIn wsX4_item (va_wsS RX4 204 yX4_isLane wsX4_isLane) := goodIn_app (goodIn_of _ (by decide +kernel)) ggX4_item_X4_isLane
set_option maxRecDepth 20000 in
theorem ggX4_item_X1_refusal : GoodIn wsX4_item wsX1_refusal := goodIn_r _ [17, 18, 19, 20, 21, 22, 16, 23, 24, 33, 34, 35, 36] (by decide +kernel) (by decide +kernel)
set_option maxRecDepth 20000 in
theorem gX4_item_X1_refusal : GoodIn wsX4_item (wsV RX4 207 RX1 yX1_refusal wsX1_refusal) := goodIn_app (goodIn_of _ (by decide +kernel)) ggX4_item_X1_refusal
set_option maxRecDepth 20000 in
theorem ggX4_item_X1_lowestBits : GoodIn wsX4_item wsX1_lowestBits := goodIn_r _ [27] (by decide +kernel) (by decide +kernel)
set_option maxRecDepth 20000 in
theorem gX4_item_X1_lowestBits : GoodIn wsX4_item (va_wsS RX4 235 yX1_lowestBits wsX1_lowestBits) := goodIn_app (goodIn_of _ (by decide +kernel)) ggX4_item_X1_lowestBits
theorem dX4_item_0 : decode cX4_item 0 = .ok (.iload_n 1, 1) := by decide +kernel
theorem dX4_item_1 : decode cX4_item 1 = .ok (.invokestatic 201, 3) := by decide +kernel
theorem dX4_item_4 : decode cX4_item 4 = .ok (.ifCond .eq 10, 3) := by decide +kernel
theorem dX4_item_7 : decode cX4_item 7 = .ok (.iload_n 2, 1) := by decide +kernel
theorem dX4_item_8 : decode cX4_item 8 = .ok (.invokestatic 204, 3) := by decide +kernel
theorem dX4_item_11 : decode cX4_item 11 = .ok (.ifCond .ne 5, 3) := by decide +kernel
theorem dX4_item_14 : decode cX4_item 14 = .ok (.iconst (-1), 1) := by decide +kernel
theorem dX4_item_15 : decode cX4_item 15 = .ok (.ireturn, 1) := by decide +kernel
theorem dX4_item_16 : decode cX4_item 16 = .ok (.aload_n 0, 1) := by decide +kernel
theorem dX4_item_17 : decode cX4_item 17 = .ok (.getfield 28, 3) := by decide +kernel
theorem dX4_item_20 : decode cX4_item 20 = .ok (.iload_n 1, 1) := by decide +kernel
theorem dX4_item_21 : decode cX4_item 21 = .ok (.aaload, 1) := by decide +kernel
theorem dX4_item_22 : decode cX4_item 22 = .ok (.astore 6, 2) := by decide +kernel
theorem dX4_item_24 : decode cX4_item 24 = .ok (.aload 6, 2) := by decide +kernel
theorem dX4_item_26 : decode cX4_item 26 = .ok (.iload_n 2, 1) := by decide +kernel
theorem dX4_item_27 : decode cX4_item 27 = .ok (.iload_n 3, 1) := by decide +kernel
theorem dX4_item_28 : decode cX4_item 28 = .ok (.iconst 1, 1) := by decide +kernel
theorem dX4_item_29 : decode cX4_item 29 = .ok (.invokevirtual 207, 3) := by decide +kernel
theorem dX4_item_32 : decode cX4_item 32 = .ok (.istore 7, 2) := by decide +kernel
theorem dX4_item_34 : decode cX4_item 34 = .ok (.iload 7, 2) := by decide +kernel
theorem dX4_item_36 : decode cX4_item 36 = .ok (.ifCond .eq 6, 3) := by decide +kernel
theorem dX4_item_39 : decode cX4_item 39 = .ok (.iload 7, 2) := by decide +kernel
theorem dX4_item_41 : decode cX4_item 41 = .ok (.ireturn, 1) := by decide +kernel
theorem dX4_item_42 : decode cX4_item 42 = .ok (.aload 6, 2) := by decide +kernel
theorem dX4_item_44 : decode cX4_item 44 = .ok (.getfield 210, 3) := by decide +kernel
theorem dX4_item_47 : decode cX4_item 47 = .ok (.iload_n 3, 1) := by decide +kernel
theorem dX4_item_48 : decode cX4_item 48 = .ok (.iload_n 2, 1) := by decide +kernel
theorem dX4_item_49 : decode cX4_item 49 = .ok (.lload 4, 2) := by decide +kernel
theorem dX4_item_51 : decode cX4_item 51 = .ok (.invokestatic 235, 3) := by decide +kernel
theorem dX4_item_54 : decode cX4_item 54 = .ok (.lastore, 1) := by decide +kernel
theorem dX4_item_55 : decode cX4_item 55 = .ok (.iconst 1, 1) := by decide +kernel
theorem dX4_item_56 : decode cX4_item 56 = .ok (.ireturn, 1) := by decide +kernel
set_option maxRecDepth 20000 in
theorem ggX4_copy_X4_isSheet : GoodIn wsX4_copy wsX4_isSheet := goodIn_r _ [12, 13, 14, 11, 15] (by decide +kernel) (by decide +kernel)
set_option maxRecDepth 20000 in
theorem gX4_copy_X4_isSheet : GoodIn wsX4_copy (va_wsS RX4 201 yX4_isSheet wsX4_isSheet) := goodIn_app (goodIn_of _ (by decide +kernel)) ggX4_copy_X4_isSheet
set_option maxRecDepth 20000 in
theorem ggX4_copy_X1_has : GoodIn wsX4_copy wsX1_has := goodIn_r _ [20, 21, 27, 28, 29, 30] (by decide +kernel) (by decide +kernel)
set_option maxRecDepth 20000 in
theorem gX4_copy_X1_has : GoodIn wsX4_copy (wsV RX4 242 RX1 yX1_has wsX1_has) := goodIn_app (goodIn_of _ (by decide +kernel)) ggX4_copy_X1_has
theorem dX4_copy_0 : decode cX4_copy 0 = .ok (.iload_n 1, 1) := by decide +kernel
theorem dX4_copy_1 : decode cX4_copy 1 = .ok (.invokestatic 201, 3) := by decide +kernel
theorem dX4_copy_4 : decode cX4_copy 4 = .ok (.ifCond .eq 10, 3) := by decide +kernel
theorem dX4_copy_7 : decode cX4_copy 7 = .ok (.iload_n 3, 1) := by decide +kernel
theorem dX4_copy_8 : decode cX4_copy 8 = .ok (.invokestatic 201, 3) := by decide +kernel
theorem dX4_copy_11 : decode cX4_copy 11 = .ok (.ifCond .ne 5, 3) := by decide +kernel
theorem dX4_copy_14 : decode cX4_copy 14 = .ok (.iconst (-1), 1) := by decide +kernel
theorem dX4_copy_15 : decode cX4_copy 15 = .ok (.ireturn, 1) := by decide +kernel
theorem dX4_copy_16 : decode cX4_copy 16 = .ok (.aload_n 0, 1) := by decide +kernel
theorem dX4_copy_17 : decode cX4_copy 17 = .ok (.getfield 28, 3) := by decide +kernel
theorem dX4_copy_20 : decode cX4_copy 20 = .ok (.iload_n 1, 1) := by decide +kernel
theorem dX4_copy_21 : decode cX4_copy 21 = .ok (.aaload, 1) := by decide +kernel
theorem dX4_copy_22 : decode cX4_copy 22 = .ok (.astore 6, 2) := by decide +kernel
theorem dX4_copy_24 : decode cX4_copy 24 = .ok (.aload_n 0, 1) := by decide +kernel
theorem dX4_copy_25 : decode cX4_copy 25 = .ok (.getfield 28, 3) := by decide +kernel
theorem dX4_copy_28 : decode cX4_copy 28 = .ok (.iload_n 3, 1) := by decide +kernel
theorem dX4_copy_29 : decode cX4_copy 29 = .ok (.aaload, 1) := by decide +kernel
theorem dX4_copy_30 : decode cX4_copy 30 = .ok (.astore 7, 2) := by decide +kernel
theorem dX4_copy_32 : decode cX4_copy 32 = .ok (.aload 6, 2) := by decide +kernel
theorem dX4_copy_34 : decode cX4_copy 34 = .ok (.getfield 231, 3) := by decide +kernel
theorem dX4_copy_37 : decode cX4_copy 37 = .ok (.ifCond .eq 11, 3) := by decide +kernel
theorem dX4_copy_40 : decode cX4_copy 40 = .ok (.aload 7, 2) := by decide +kernel
theorem dX4_copy_42 : decode cX4_copy 42 = .ok (.getfield 231, 3) := by decide +kernel
theorem dX4_copy_45 : decode cX4_copy 45 = .ok (.ifCond .ne 6, 3) := by decide +kernel
theorem dX4_copy_48 : decode cX4_copy 48 = .ok (.bipush (-11), 2) := by decide +kernel
theorem dX4_copy_50 : decode cX4_copy 50 = .ok (.ireturn, 1) := by decide +kernel
theorem dX4_copy_51 : decode cX4_copy 51 = .ok (.aload 6, 2) := by decide +kernel
theorem dX4_copy_53 : decode cX4_copy 53 = .ok (.getfield 239, 3) := by decide +kernel
theorem dX4_copy_56 : decode cX4_copy 56 = .ok (.aload 7, 2) := by decide +kernel
theorem dX4_copy_58 : decode cX4_copy 58 = .ok (.getfield 239, 3) := by decide +kernel
theorem dX4_copy_61 : decode cX4_copy 61 = .ok (.if_icmp .eq 6, 3) := by decide +kernel
theorem dX4_copy_64 : decode cX4_copy 64 = .ok (.bipush (-12), 2) := by decide +kernel
theorem dX4_copy_66 : decode cX4_copy 66 = .ok (.ireturn, 1) := by decide +kernel
theorem dX4_copy_67 : decode cX4_copy 67 = .ok (.aload 6, 2) := by decide +kernel
theorem dX4_copy_69 : decode cX4_copy 69 = .ok (.iload_n 2, 1) := by decide +kernel
theorem dX4_copy_70 : decode cX4_copy 70 = .ok (.iload 5, 2) := by decide +kernel
theorem dX4_copy_72 : decode cX4_copy 72 = .ok (.invokevirtual 242, 3) := by decide +kernel
theorem dX4_copy_75 : decode cX4_copy 75 = .ok (.ifCond .eq 15, 3) := by decide +kernel
theorem dX4_copy_78 : decode cX4_copy 78 = .ok (.aload 7, 2) := by decide +kernel
theorem dX4_copy_80 : decode cX4_copy 80 = .ok (.iload 4, 2) := by decide +kernel
theorem dX4_copy_82 : decode cX4_copy 82 = .ok (.iload 5, 2) := by decide +kernel
theorem dX4_copy_84 : decode cX4_copy 84 = .ok (.invokevirtual 242, 3) := by decide +kernel
theorem dX4_copy_87 : decode cX4_copy 87 = .ok (.ifCond .ne 6, 3) := by decide +kernel
theorem dX4_copy_90 : decode cX4_copy 90 = .ok (.bipush (-13), 2) := by decide +kernel
theorem dX4_copy_92 : decode cX4_copy 92 = .ok (.ireturn, 1) := by decide +kernel
theorem dX4_copy_93 : decode cX4_copy 93 = .ok (.aload 6, 2) := by decide +kernel
theorem dX4_copy_95 : decode cX4_copy 95 = .ok (.getfield 210, 3) := by decide +kernel
theorem dX4_copy_98 : decode cX4_copy 98 = .ok (.iload_n 2, 1) := by decide +kernel
theorem dX4_copy_99 : decode cX4_copy 99 = .ok (.aload 7, 2) := by decide +kernel
theorem dX4_copy_101 : decode cX4_copy 101 = .ok (.getfield 210, 3) := by decide +kernel
theorem dX4_copy_104 : decode cX4_copy 104 = .ok (.iload 4, 2) := by decide +kernel
theorem dX4_copy_106 : decode cX4_copy 106 = .ok (.iload 5, 2) := by decide +kernel
theorem dX4_copy_108 : decode cX4_copy 108 = .ok (.invokestatic 245, 3) := by decide +kernel
theorem dX4_copy_111 : decode cX4_copy 111 = .ok (.iload 5, 2) := by decide +kernel
theorem dX4_copy_113 : decode cX4_copy 113 = .ok (.ireturn, 1) := by decide +kernel
theorem dX4_isBelow_0 : decode cX4_isBelow 0 = .ok (.iload_n 0, 1) := by decide +kernel
theorem dX4_isBelow_1 : decode cX4_isBelow 1 = .ok (.ifCond .lt 12, 3) := by decide +kernel
theorem dX4_isBelow_4 : decode cX4_isBelow 4 = .ok (.iload_n 0, 1) := by decide +kernel
theorem dX4_isBelow_5 : decode cX4_isBelow 5 = .ok (.iload_n 1, 1) := by decide +kernel
theorem dX4_isBelow_6 : decode cX4_isBelow 6 = .ok (.if_icmp .ge 7, 3) := by decide +kernel
theorem dX4_isBelow_9 : decode cX4_isBelow 9 = .ok (.iconst 1, 1) := by decide +kernel
theorem dX4_isBelow_10 : decode cX4_isBelow 10 = .ok (.goto 4, 3) := by decide +kernel
theorem dX4_isBelow_13 : decode cX4_isBelow 13 = .ok (.iconst 0, 1) := by decide +kernel
theorem dX4_isBelow_14 : decode cX4_isBelow 14 = .ok (.ireturn, 1) := by decide +kernel
set_option maxRecDepth 20000 in
theorem ggX4_isRegister_X4_isBelow : GoodIn wsX4_isRegister wsX4_isBelow := goodIn_r _ [4] (by decide +kernel) (by decide +kernel)
set_option maxRecDepth 20000 in
theorem gX4_isRegister_X4_isBelow : GoodIn wsX4_isRegister (va_wsS RX4 87 yX4_isBelow wsX4_isBelow) := goodIn_app (goodIn_of _ (by decide +kernel)) ggX4_isRegister_X4_isBelow
theorem dX4_isRegister_0 : decode cX4_isRegister 0 = .ok (.iload_n 0, 1) := by decide +kernel
theorem dX4_isRegister_1 : decode cX4_isRegister 1 = .ok (.iconst 4, 1) := by decide +kernel
theorem dX4_isRegister_2 : decode cX4_isRegister 2 = .ok (.invokestatic 87, 3) := by decide +kernel
theorem dX4_isRegister_5 : decode cX4_isRegister 5 = .ok (.ireturn, 1) := by decide +kernel
set_option maxRecDepth 20000 in
theorem ggX4_isSheet_X4_isBelow : GoodIn wsX4_isSheet wsX4_isBelow := goodIn_r _ [4] (by decide +kernel) (by decide +kernel)
set_option maxRecDepth 20000 in
theorem gX4_isSheet_X4_isBelow : GoodIn wsX4_isSheet (va_wsS RX4 87 yX4_isBelow wsX4_isBelow) := goodIn_app (goodIn_of _ (by decide +kernel)) ggX4_isSheet_X4_isBelow
theorem dX4_isSheet_0 : decode cX4_isSheet 0 = .ok (.iload_n 0, 1) := by decide +kernel
theorem dX4_isSheet_1 : decode cX4_isSheet 1 = .ok (.iconst 4, 1) := by decide +kernel
theorem dX4_isSheet_2 : decode cX4_isSheet 2 = .ok (.invokestatic 87, 3) := by decide +kernel
theorem dX4_isSheet_5 : decode cX4_isSheet 5 = .ok (.ireturn, 1) := by decide +kernel
set_option maxRecDepth 20000 in
theorem ggX4_isLane_X4_isBelow : GoodIn wsX4_isLane wsX4_isBelow := goodIn_r _ [4] (by decide +kernel) (by decide +kernel)
set_option maxRecDepth 20000 in
theorem gX4_isLane_X4_isBelow : GoodIn wsX4_isLane (va_wsS RX4 87 yX4_isBelow wsX4_isBelow) := goodIn_app (goodIn_of _ (by decide +kernel)) ggX4_isLane_X4_isBelow
theorem dX4_isLane_0 : decode cX4_isLane 0 = .ok (.iload_n 0, 1) := by decide +kernel
theorem dX4_isLane_1 : decode cX4_isLane 1 = .ok (.iconst 4, 1) := by decide +kernel
theorem dX4_isLane_2 : decode cX4_isLane 2 = .ok (.invokestatic 87, 3) := by decide +kernel
theorem dX4_isLane_5 : decode cX4_isLane 5 = .ok (.ireturn, 1) := by decide +kernel
set_option maxRecDepth 20000 in
theorem ggX4_isWheel_X4_isBelow : GoodIn wsX4_isWheel wsX4_isBelow := goodIn_r _ [7] (by decide +kernel) (by decide +kernel)
set_option maxRecDepth 20000 in
theorem gX4_isWheel_X4_isBelow : GoodIn wsX4_isWheel (va_wsS RX4 87 yX4_isBelow wsX4_isBelow) := goodIn_app (goodIn_of _ (by decide +kernel)) ggX4_isWheel_X4_isBelow
theorem dX4_isWheel_0 : decode cX4_isWheel 0 = .ok (.iload_n 1, 1) := by decide +kernel
theorem dX4_isWheel_1 : decode cX4_isWheel 1 = .ok (.aload_n 0, 1) := by decide +kernel
theorem dX4_isWheel_2 : decode cX4_isWheel 2 = .ok (.getfield 19, 3) := by decide +kernel
theorem dX4_isWheel_5 : decode cX4_isWheel 5 = .ok (.getfield 61, 3) := by decide +kernel
theorem dX4_isWheel_8 : decode cX4_isWheel 8 = .ok (.getfield 104, 3) := by decide +kernel
theorem dX4_isWheel_11 : decode cX4_isWheel 11 = .ok (.invokestatic 87, 3) := by decide +kernel
theorem dX4_isWheel_14 : decode cX4_isWheel 14 = .ok (.ireturn, 1) := by decide +kernel
theorem dX4_commonPart_0 : decode cX4_commonPart 0 = .ok (.iload_n 0, 1) := by decide +kernel
theorem dX4_commonPart_1 : decode cX4_commonPart 1 = .ok (.istore_n 2, 1) := by decide +kernel
theorem dX4_commonPart_2 : decode cX4_commonPart 2 = .ok (.iload_n 1, 1) := by decide +kernel
theorem dX4_commonPart_3 : decode cX4_commonPart 3 = .ok (.istore_n 3, 1) := by decide +kernel
theorem dX4_commonPart_4 : decode cX4_commonPart 4 = .ok (.iconst 0, 1) := by decide +kernel
theorem dX4_commonPart_5 : decode cX4_commonPart 5 = .ok (.istore 4, 2) := by decide +kernel
theorem dX4_commonPart_7 : decode cX4_commonPart 7 = .ok (.iload 4, 2) := by decide +kernel
theorem dX4_commonPart_9 : decode cX4_commonPart 9 = .ok (.bipush 64, 2) := by decide +kernel
theorem dX4_commonPart_11 : decode cX4_commonPart 11 = .ok (.if_icmp .ge 23, 3) := by decide +kernel
theorem dX4_commonPart_14 : decode cX4_commonPart 14 = .ok (.iload_n 3, 1) := by decide +kernel
theorem dX4_commonPart_15 : decode cX4_commonPart 15 = .ok (.ifCond .eq 19, 3) := by decide +kernel
theorem dX4_commonPart_18 : decode cX4_commonPart 18 = .ok (.iload_n 2, 1) := by decide +kernel
theorem dX4_commonPart_19 : decode cX4_commonPart 19 = .ok (.iload_n 3, 1) := by decide +kernel
theorem dX4_commonPart_20 : decode cX4_commonPart 20 = .ok (.irem, 1) := by decide +kernel
theorem dX4_commonPart_21 : decode cX4_commonPart 21 = .ok (.istore 5, 2) := by decide +kernel
theorem dX4_commonPart_23 : decode cX4_commonPart 23 = .ok (.iload_n 3, 1) := by decide +kernel
theorem dX4_commonPart_24 : decode cX4_commonPart 24 = .ok (.istore_n 2, 1) := by decide +kernel
theorem dX4_commonPart_25 : decode cX4_commonPart 25 = .ok (.iload 5, 2) := by decide +kernel
theorem dX4_commonPart_27 : decode cX4_commonPart 27 = .ok (.istore_n 3, 1) := by decide +kernel
theorem dX4_commonPart_28 : decode cX4_commonPart 28 = .ok (.iinc 4 1, 3) := by decide +kernel
theorem dX4_commonPart_31 : decode cX4_commonPart 31 = .ok (.goto (-24), 3) := by decide +kernel
theorem dX4_commonPart_34 : decode cX4_commonPart 34 = .ok (.iload_n 2, 1) := by decide +kernel
theorem dX4_commonPart_35 : decode cX4_commonPart 35 = .ok (.ireturn, 1) := by decide +kernel
theorem dX4_power_0 : decode cX4_power 0 = .ok (.iconst 1, 1) := by decide +kernel
theorem dX4_power_1 : decode cX4_power 1 = .ok (.istore_n 2, 1) := by decide +kernel
theorem dX4_power_2 : decode cX4_power 2 = .ok (.iconst 0, 1) := by decide +kernel
theorem dX4_power_3 : decode cX4_power 3 = .ok (.istore_n 3, 1) := by decide +kernel
theorem dX4_power_4 : decode cX4_power 4 = .ok (.iload_n 3, 1) := by decide +kernel
theorem dX4_power_5 : decode cX4_power 5 = .ok (.iload_n 1, 1) := by decide +kernel
theorem dX4_power_6 : decode cX4_power 6 = .ok (.if_icmp .ge 13, 3) := by decide +kernel
theorem dX4_power_9 : decode cX4_power 9 = .ok (.iload_n 2, 1) := by decide +kernel
theorem dX4_power_10 : decode cX4_power 10 = .ok (.iload_n 0, 1) := by decide +kernel
theorem dX4_power_11 : decode cX4_power 11 = .ok (.imul, 1) := by decide +kernel
theorem dX4_power_12 : decode cX4_power 12 = .ok (.istore_n 2, 1) := by decide +kernel
theorem dX4_power_13 : decode cX4_power 13 = .ok (.iinc 3 1, 3) := by decide +kernel
theorem dX4_power_16 : decode cX4_power 16 = .ok (.goto (-12), 3) := by decide +kernel
theorem dX4_power_19 : decode cX4_power 19 = .ok (.iload_n 2, 1) := by decide +kernel
theorem dX4_power_20 : decode cX4_power 20 = .ok (.ireturn, 1) := by decide +kernel
